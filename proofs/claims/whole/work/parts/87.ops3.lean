theorem up_o {α : Type} {a : Nat → α} {i j : Nat} {f : α} (h : ¬ j = i) : va_up a i f j = a j := by unfold va_up; exact if_neg h
theorem m_manQ {E : ag} {q : Nat → Nat} {g : Nat → Int32} {tw : Int64} {a : Nat → Nat → Int32} {k b w r : Int32} {ws : va_W} (h : m_manP E q g tw a k b w r ws) : ∃ (g3 : Nat → Int32) (a3 : Nat → Nat → Int32), ws = MW E q g3 tw a3 ∧ MM g a g3 a3 ∧ (rfs g3 a3, r) = p_man k b w (rfs g a) := by
  rw [p_man]
  rcases h with ⟨hb, rfl, rfl⟩ | ⟨hb, h5, rfl, rfl⟩ | ⟨hb, h5, rfl, rfl⟩
  · exact ⟨g, a, rfl, MM.rf, (if_pos hb).symm⟩
  · refine ⟨g, a, rfl, MM.rf, ?_⟩
    rw [if_neg (show ¬ (inI k 0 5 = 0 ∨ inI b 0 239 = 0 ∨ inI w 0 99 = 0) from hb), if_pos (show (rfs g a).1 0 = 5 from h5)]
  · refine ⟨_, _, rfl, ⟨fun j hj => ?_, fun j hj => ?_⟩, ?_⟩
    · exact pk_un hj
    · unfold manA
      rw [up_o (by omega), up_o (by omega), up_o (by omega), up_o (by omega)]
    · rw [if_neg (show ¬ (inI k 0 5 = 0 ∨ inI b 0 239 = 0 ∨ inI w 0 99 = 0) from hb), if_neg (show ¬ (rfs g a).1 0 = 5 from h5), rf_add]
      rfl
theorem man_k {k b w : Int32} {t : FS} {m : Nat} (hm : m ≤ 5) (ht : t.1 0 = nI m) : (∃ m2, m ≤ m2 ∧ m2 ≤ 5 ∧ (p_man k b w t).1.1 0 = nI m2) ∧ ∀ i, i < m → (p_man k b w t).1.2 2 i = t.2 2 i := by
  rw [p_man]
  by_cases hb : inI k 0 5 = 0 ∨ inI b 0 239 = 0 ∨ inI w 0 99 = 0
  · rw [if_pos hb]; exact ⟨⟨m, Nat.le_refl _, hm, ht⟩, fun _ _ => rfl⟩
  · rw [if_neg hb]
    by_cases h5 : t.1 0 = 5
    · rw [if_pos h5]; exact ⟨⟨m, Nat.le_refl _, hm, ht⟩, fun _ _ => rfl⟩
    · rw [if_neg h5]
      have hm2 : m < 5 := by
        rcases Nat.lt_or_ge m 5 with z | z
        · exact z
        · have : m = 5 := by omega
          subst this
          exact absurd ht h5
      refine ⟨⟨m + 1, by omega, by omega, ?_⟩, fun i hi => ?_⟩
      · show t.1 0 + 1 = _
        rw [ht, nI_1]
      · show upd (t.2 2) (t.1 0).toNatClampNeg k i = _
        rw [ht, nI_clamp (by omega)]
        exact pk_un (by omega)
theorem mens_k {f : Nat → Int32} {at0 : Int32} {N : Nat} : ∀ n k (t : FS) (m : Nat) (c : Int32), m ≤ 5 → t.1 0 = nI m → ∀ i, i < m → (p_mens f at0 N n k t c).1.2 2 i = t.2 2 i := by
  intro n
  induction n with
  | zero => intro k t m c _ _ i _; rw [p_mens]
  | succ n ih =>
    intro k t m c hm ht i hi
    rw [p_mens]
    by_cases hb : at0 < 0 ∨ N < at0.toNatClampNeg + 3 * k + 3
    · rw [if_pos hb]
    · rw [if_neg hb]
      obtain ⟨⟨m2, l1, l2, l3⟩, l4⟩ := man_k (k := f (at0.toNatClampNeg + 3 * k)) (b := f (at0.toNatClampNeg + 3 * k + 1)) (w := f (at0.toNatClampNeg + 3 * k + 2)) hm ht
      rw [ih (k + 1) _ m2 _ l2 l3 i (by omega), l4 i hi]
theorem inI_12 {v : Int32} (h : ¬ inI v 12 240 = 0) : ∃ B, 12 ≤ B ∧ B ≤ 240 ∧ v = nI B := by
  obtain ⟨x, y⟩ := inI_yes h
  have h0 : (0 : Int32).toInt = 0 := by decide
  have h1 : (12 : Int32).toInt = 12 := by decide
  have h2 : (240 : Int32).toInt = 240 := by decide
  obtain ⟨B, hB, rfl⟩ := nI_of (x := v) (fun z => by have := Int32.lt_iff_toInt_lt.mp z; omega)
  rw [nI_toInt hB] at x y
  exact ⟨B, by omega, by omega, rfl⟩
theorem inI_t {v : Int32} {t : Nat} (ht : t ≤ 6) (h : ¬ inI v 0 (nI t - 1) = 0) : ∃ j, j < t ∧ v = nI j := by
  obtain ⟨x, y⟩ := inI_yes h
  have e : ∀ m, m ≤ 6 → (nI m - 1).toInt = (m : Int) - 1 := by decide +kernel
  rw [e t ht] at y
  have h0 : (0 : Int32).toInt = 0 := by decide
  obtain ⟨B, hB, rfl⟩ := nI_of (x := v) (fun z => by have := Int32.lt_iff_toInt_lt.mp z; omega)
  rw [nI_toInt hB] at y
  exact ⟨B, by omega, rfl⟩
theorem sm_ag {f h : Nat → Int32} : ∀ n, (∀ k, k < n → f k = h k) → sm f n = sm h n := by
  intro n
  induction n with
  | zero => intro _; rfl
  | succ n ih => intro e; rw [sm_s, sm_s, ih (fun k hk => e k (by omega)), e n (by omega)]
theorem op_man (E : ag) (q : Nat → Nat) (kq : Nat) (cg : Nat → Int32) (qf : Nat → Nat) (gf : Nat → Int32) (af : Nat → Nat → Int32) (qd : Nat → Nat) (gd : Nat → Int32) (ad : Nat → Nat → Int32) (qk : Nat → Nat) (gk : Nat → Int32) (ak : Nat → Nat → Int32) (ql : Nat → Nat) (gl : Nat → Int32) (al : Nat → Nat → Int32) (qr : Nat → Nat) (gr : Nat → Int32) (ar : Nat → Nat → Int32) (rx : Nat) (qm : Nat) (qx : Nat → Nat → Nat) (gx : Nat → Nat → Int32) (ax : Nat → Nat → Nat → Int32) (qs : Nat) (sx : Nat → Option Nat) (qo : Nat → Nat) (go : Nat → Int32) (ao : Nat → Nat → Int32) (qp : Nat → Nat) (gp_ : Nat → Int32) (ap : Nat → Nat → Int32) (T : List SE) (ix : Nat → Nat) (g : Nat → Int32) (tw : Int64) (a : Nat → Nat → Int32) (m tr tc n : Nat) (h : RLA cg gf af gk ak gl gr ar ax sx T ix g a m tr tc n) (x1 x2 x3 : Int32) : ∃ Pc Pr : Int32 → va_W → Prop, CT E yX5_man cX5_man 4 mX5_man.2.2.2.1 3 0 0 [.ref kq, .int x1, .int x2, .int x3] (wK E kq cg qf gf af qd gd ad qk gk ak ql gl al qr gr ar rx qm qx gx ax qs sx qo go ao qp gp_ ap (shl E T)) (ri Pc) ∧ CT E yX6_man cX6_man 4 mX6_man.2.2.2.1 2 0 0 [.ref (q 0), .int x1, .int x2, .int x3] (MW E q g tw a) (ri Pr) ∧ ∀ r1 w1 r2 w2, Pc r1 w1 → Pr r2 w2 → r1 = r2 ∧ REL E q kq w1 w2 := by
  obtain ⟨C, hC, hO, ht, hr4, hg4, hG, hF, hE, h0⟩ := h.data
  have hm5 := hG.1.1
  have hgm : gf 0 = nI m := hG.1.2.1
  have h13 : g 13 = nI m := h0.symm.trans hgm
  have h1b : gf 1 = g 14 := h.2.1.g.2.1
  have h2b : gf 2 = g 15 := h.2.1.g.2.2.1
  have hb : ¬ gf 1 ≤ 0 := hG.2.1
  have hb14 : ¬ g 14 = 0 := fun z => hb (by rw [h1b, z]; decide)
  have hM : ∀ i, i < m → MOK (af 2 i) (af 4 i) (af 5 i) := hG.2.2
  refine ⟨_, _, K_man E kq cg qf gf af qd gd ad qk gk ak ql gl al qr gr ar rx qm qx gx ax qs sx qo go ao qp gp_ ap (shl E T) m hm5 hgm x1 x2 x3, m_man E q g tw a x1 x2 x3 m hm5 h13 hb14, fun r1 w1 r2 w2 h1 h2 => ?_⟩
  obtain ⟨V, v1, v2, v3⟩ := h.2.2.1.2.2.2.2
  have v3 : gf 1 = nI V := v3
  obtain ⟨gf3, af3, m3, rfl, -, -, -, h43, hp3⟩ := K_manP E kq cg qf gf af qd gd ad qk gk ak ql gl al qr gr ar rx qm qx gx ax qs sx qo go ao qp gp_ ap (shl E T) m V hm5 hgm v3 v1 v2 h1
  obtain ⟨g3, a3, rfl, hMM, hp4⟩ := m_manQ h2
  obtain ⟨m2, l1, l2, l3, l4⟩ := man_E h.2.1 h.2.2.1 x1 x2 x3
  have l5 := (man_k (k := x1) (b := x2) (w := x3) (t := rfs g a) hm5 h13).2
  rw [← hp3, ← hp4] at l2 l3
  rw [← hp3] at l4
  rw [← hp4] at l5
  exact ⟨l3, ⟨cg, qf, gf3, af3, qd, gd, ad, qk, gk, ak, ql, gl, al, qr, gr, ar, rx, qm, qx, gx, ax, qs, sx, qo, go, ao, qp, gp_, ap, T, ix, g3, tw, a3, m2, tr, tc, n, rfl, rfl, h.floor l2 l4 l1 (h43.trans hr4) ((hMM.1 4 (by decide)).trans hg4) h.1.2.2.2.2.2 (fun k hk => hMM.1 k (by omega)) (fun j hj => hMM.2 j (by omega)) l5⟩⟩
theorem op_set0 (E : ag) (q : Nat → Nat) (kq : Nat) (cg : Nat → Int32) (qf : Nat → Nat) (gf : Nat → Int32) (af : Nat → Nat → Int32) (qd : Nat → Nat) (gd : Nat → Int32) (ad : Nat → Nat → Int32) (qk : Nat → Nat) (gk : Nat → Int32) (ak : Nat → Nat → Int32) (ql : Nat → Nat) (gl : Nat → Int32) (al : Nat → Nat → Int32) (qr : Nat → Nat) (gr : Nat → Int32) (ar : Nat → Nat → Int32) (rx : Nat) (qm : Nat) (qx : Nat → Nat → Nat) (gx : Nat → Nat → Int32) (ax : Nat → Nat → Nat → Int32) (qs : Nat) (sx : Nat → Option Nat) (qo : Nat → Nat) (go : Nat → Int32) (ao : Nat → Nat → Int32) (qp : Nat → Nat) (gp_ : Nat → Int32) (ap : Nat → Nat → Int32) (T : List SE) (ix : Nat → Nat) (g : Nat → Int32) (tw : Int64) (a : Nat → Nat → Int32) (m tr tc n : Nat) (h : RLA cg gf af gk ak gl gr ar ax sx T ix g a m tr tc n) (x2 x3 : Int32) : ∃ Pc Pr : Int32 → va_W → Prop, CT E yX5_set cX5_set 4 mX5_set.2.2.2.1 3 0 0 [.ref kq, .int 0, .int x2, .int x3] (wK E kq cg qf gf af qd gd ad qk gk ak ql gl al qr gr ar rx qm qx gx ax qs sx qo go ao qp gp_ ap (shl E T)) (ri Pc) ∧ CT E yX6_set cX6_set 5 mX6_set.2.2.2.1 4 0 0 [.ref (q 0), .int 0, .int x2, .int x3] (MW E q g tw a) (ri Pr) ∧ ∀ r1 w1 r2 w2, Pc r1 w1 → Pr r2 w2 → r1 = r2 ∧ REL E q kq w1 w2 := by
  obtain ⟨C, hC, hO, ht, hr4, hg4, hG, hF, hE, h0⟩ := h.data
  have hm5 := hG.1.1
  have hgm : gf 0 = nI m := hG.1.2.1
  have h13 : g 13 = nI m := h0.symm.trans hgm
  have h1b : gf 1 = g 14 := h.2.1.g.2.1
  have h2b : gf 2 = g 15 := h.2.1.g.2.2.1
  have hb : ¬ gf 1 ≤ 0 := hG.2.1
  have hb14 : ¬ g 14 = 0 := fun z => hb (by rw [h1b, z]; decide)
  have hM : ∀ i, i < m → MOK (af 2 i) (af 4 i) (af 5 i) := hG.2.2
  refine ⟨_, _, K_set0 E kq cg qf gf af qd gd ad qk gk ak ql gl al qr gr ar rx qm qx gx ax qs sx qo go ao qp gp_ ap (shl E T) m hm5 hgm x2 x3, m_set0 E q g tw a x2 x3 m hm5 h13 hb14, fun r1 w1 r2 w2 h1 h2 => ?_⟩
  rcases h1 with ⟨b1, e1, rfl⟩ | ⟨b1, e1, rfl⟩
  · rcases h2 with ⟨b2, e2, rfl⟩ | ⟨b2, -⟩
    · exact ⟨e1.trans e2.symm, REL.s h⟩
    · exact absurd b1 b2
  · rcases h2 with ⟨b2, -⟩ | ⟨b2, e2, rfl⟩
    · exact absurd b2 b1
    · obtain ⟨c, hc, hx⟩ := cell_nI (fun z => b1 (Or.inl z))
      obtain ⟨B, hB, hv⟩ := inI_n (N := 9999) (by decide) (fun z => b1 (Or.inr z))
      have k1 := cf_put (gf := gf) (gl := gl) (af := af) (j := 0) (c := x2.toNatClampNeg) (v := x3) (by decide)
      have k2 : rfs g (va_up a 4 (upd (a 4) x2.toNatClampNeg (x3))) = p_put 0 x2.toNatClampNeg (x3) (rfs g a) := rf_put (j := 0) (by decide)
      refine ⟨?_, ⟨cg, qf, gf, (va_up af 0 (upd (af 0) x2.toNatClampNeg (x3))), qd, gd, ad, qk, gk, ak, ql, gl, al, qr, gr, ar, rx, qm, qx, gx, ax, qs, sx, qo, go, ao, qp, gp_, ap, T, ix, g, tw, (va_up a 4 (upd (a 4) x2.toNatClampNeg (x3))), m, tr, tc, n, rfl, rfl, h.floor (by rw [k1, k2]; exact h.2.1.put _ _ _) (by rw [k1]; exact h.2.2.1.put0 ⟨B, hB, hv⟩) (Nat.le_refl _) hr4 hg4 h.1.2.2.2.2.2 (fun _ _ => rfl) (fun j hj => up_o (by omega)) (fun _ _ => rfl)⟩⟩
      rw [e1, e2, hx, nI_clamp (n := c) (by omega)]
      exact h.2.1.a.1 c hc
theorem op_set1 (E : ag) (q : Nat → Nat) (kq : Nat) (cg : Nat → Int32) (qf : Nat → Nat) (gf : Nat → Int32) (af : Nat → Nat → Int32) (qd : Nat → Nat) (gd : Nat → Int32) (ad : Nat → Nat → Int32) (qk : Nat → Nat) (gk : Nat → Int32) (ak : Nat → Nat → Int32) (ql : Nat → Nat) (gl : Nat → Int32) (al : Nat → Nat → Int32) (qr : Nat → Nat) (gr : Nat → Int32) (ar : Nat → Nat → Int32) (rx : Nat) (qm : Nat) (qx : Nat → Nat → Nat) (gx : Nat → Nat → Int32) (ax : Nat → Nat → Nat → Int32) (qs : Nat) (sx : Nat → Option Nat) (qo : Nat → Nat) (go : Nat → Int32) (ao : Nat → Nat → Int32) (qp : Nat → Nat) (gp_ : Nat → Int32) (ap : Nat → Nat → Int32) (T : List SE) (ix : Nat → Nat) (g : Nat → Int32) (tw : Int64) (a : Nat → Nat → Int32) (m tr tc n : Nat) (h : RLA cg gf af gk ak gl gr ar ax sx T ix g a m tr tc n) (x2 x3 : Int32) : ∃ Pc Pr : Int32 → va_W → Prop, CT E yX5_set cX5_set 4 mX5_set.2.2.2.1 3 0 0 [.ref kq, .int 1, .int x2, .int x3] (wK E kq cg qf gf af qd gd ad qk gk ak ql gl al qr gr ar rx qm qx gx ax qs sx qo go ao qp gp_ ap (shl E T)) (ri Pc) ∧ CT E yX6_set cX6_set 5 mX6_set.2.2.2.1 4 0 0 [.ref (q 0), .int 1, .int x2, .int x3] (MW E q g tw a) (ri Pr) ∧ ∀ r1 w1 r2 w2, Pc r1 w1 → Pr r2 w2 → r1 = r2 ∧ REL E q kq w1 w2 := by
  obtain ⟨C, hC, hO, ht, hr4, hg4, hG, hF, hE, h0⟩ := h.data
  have hm5 := hG.1.1
  have hgm : gf 0 = nI m := hG.1.2.1
  have h13 : g 13 = nI m := h0.symm.trans hgm
  have h1b : gf 1 = g 14 := h.2.1.g.2.1
  have h2b : gf 2 = g 15 := h.2.1.g.2.2.1
  have hb : ¬ gf 1 ≤ 0 := hG.2.1
  have hb14 : ¬ g 14 = 0 := fun z => hb (by rw [h1b, z]; decide)
  have hM : ∀ i, i < m → MOK (af 2 i) (af 4 i) (af 5 i) := hG.2.2
  refine ⟨_, _, K_set1 E kq cg qf gf af qd gd ad qk gk ak ql gl al qr gr ar rx qm qx gx ax qs sx qo go ao qp gp_ ap (shl E T) m hm5 hgm x2 x3, m_set1 E q g tw a x2 x3 m hm5 h13 hb14, fun r1 w1 r2 w2 h1 h2 => ?_⟩
  rcases h1 with ⟨b1, e1, rfl⟩ | ⟨b1, e1, rfl⟩
  · rcases h2 with ⟨b2, e2, rfl⟩ | ⟨b2, -⟩
    · exact ⟨e1.trans e2.symm, REL.s h⟩
    · exact absurd b1 b2
  · rcases h2 with ⟨b2, -⟩ | ⟨b2, e2, rfl⟩
    · exact absurd b2 b1
    · obtain ⟨c, hc, hx⟩ := cell_nI (fun z => b1 (Or.inl z))
      obtain ⟨B, hB, hv⟩ := inI_n (N := 9) (by decide) (fun z => b1 (Or.inr z))
      have k1 := cf_put (gf := gf) (gl := gl) (af := af) (j := 1) (c := x2.toNatClampNeg) (v := x3) (by decide)
      have k2 : rfs g (va_up a 5 (upd (a 5) x2.toNatClampNeg (x3))) = p_put 1 x2.toNatClampNeg (x3) (rfs g a) := rf_put (j := 1) (by decide)
      refine ⟨?_, ⟨cg, qf, gf, (va_up af 1 (upd (af 1) x2.toNatClampNeg (x3))), qd, gd, ad, qk, gk, ak, ql, gl, al, qr, gr, ar, rx, qm, qx, gx, ax, qs, sx, qo, go, ao, qp, gp_, ap, T, ix, g, tw, (va_up a 5 (upd (a 5) x2.toNatClampNeg (x3))), m, tr, tc, n, rfl, rfl, h.floor (by rw [k1, k2]; exact h.2.1.put _ _ _) (by rw [k1]; exact h.2.2.1.put1 ⟨B, hB, hv⟩) (Nat.le_refl _) hr4 hg4 h.1.2.2.2.2.2 (fun _ _ => rfl) (fun j hj => up_o (by omega)) (fun _ _ => rfl)⟩⟩
      rw [e1, e2, hx, nI_clamp (n := c) (by omega)]
      exact h.2.1.a.2.1 c hc
theorem op_set3 (E : ag) (q : Nat → Nat) (kq : Nat) (cg : Nat → Int32) (qf : Nat → Nat) (gf : Nat → Int32) (af : Nat → Nat → Int32) (qd : Nat → Nat) (gd : Nat → Int32) (ad : Nat → Nat → Int32) (qk : Nat → Nat) (gk : Nat → Int32) (ak : Nat → Nat → Int32) (ql : Nat → Nat) (gl : Nat → Int32) (al : Nat → Nat → Int32) (qr : Nat → Nat) (gr : Nat → Int32) (ar : Nat → Nat → Int32) (rx : Nat) (qm : Nat) (qx : Nat → Nat → Nat) (gx : Nat → Nat → Int32) (ax : Nat → Nat → Nat → Int32) (qs : Nat) (sx : Nat → Option Nat) (qo : Nat → Nat) (go : Nat → Int32) (ao : Nat → Nat → Int32) (qp : Nat → Nat) (gp_ : Nat → Int32) (ap : Nat → Nat → Int32) (T : List SE) (ix : Nat → Nat) (g : Nat → Int32) (tw : Int64) (a : Nat → Nat → Int32) (m tr tc n : Nat) (h : RLA cg gf af gk ak gl gr ar ax sx T ix g a m tr tc n) (x2 x3 : Int32) : ∃ Pc Pr : Int32 → va_W → Prop, CT E yX5_set cX5_set 4 mX5_set.2.2.2.1 3 0 0 [.ref kq, .int 3, .int x2, .int x3] (wK E kq cg qf gf af qd gd ad qk gk ak ql gl al qr gr ar rx qm qx gx ax qs sx qo go ao qp gp_ ap (shl E T)) (ri Pc) ∧ CT E yX6_set cX6_set 5 mX6_set.2.2.2.1 4 0 0 [.ref (q 0), .int 3, .int x2, .int x3] (MW E q g tw a) (ri Pr) ∧ ∀ r1 w1 r2 w2, Pc r1 w1 → Pr r2 w2 → r1 = r2 ∧ REL E q kq w1 w2 := by
  obtain ⟨C, hC, hO, ht, hr4, hg4, hG, hF, hE, h0⟩ := h.data
  have hm5 := hG.1.1
  have hgm : gf 0 = nI m := hG.1.2.1
  have h13 : g 13 = nI m := h0.symm.trans hgm
  have h1b : gf 1 = g 14 := h.2.1.g.2.1
  have h2b : gf 2 = g 15 := h.2.1.g.2.2.1
  have hb : ¬ gf 1 ≤ 0 := hG.2.1
  have hb14 : ¬ g 14 = 0 := fun z => hb (by rw [h1b, z]; decide)
  have hM : ∀ i, i < m → MOK (af 2 i) (af 4 i) (af 5 i) := hG.2.2
  refine ⟨_, _, K_set3 E kq cg qf gf af qd gd ad qk gk ak ql gl al qr gr ar rx qm qx gx ax qs sx qo go ao qp gp_ ap (shl E T) m hm5 hgm x2 x3, m_set3 E q g tw a x2 x3 m hm5 h13 hb14, fun r1 w1 r2 w2 h1 h2 => ?_⟩
  rw [h0] at h1
  rcases h1 with ⟨b1, e1, rfl⟩ | ⟨b1, e1, rfl⟩
  · rcases h2 with ⟨b2, e2, rfl⟩ | ⟨b2, -⟩
    · exact ⟨e1.trans e2.symm, REL.s h⟩
    · exact absurd b1 b2
  · rcases h2 with ⟨b2, -⟩ | ⟨b2, e2, rfl⟩
    · exact absurd b2 b1
    · obtain ⟨c, hc, hx⟩ := man_nI hm5 (show ¬ inI x2 0 (nI m - 1) = 0 from fun z => b1 (Or.inl (by rw [h13]; exact z)))
      obtain ⟨B, hB, hv⟩ := inI_n (N := 9) (by decide) (fun z => b1 (Or.inr z))
      have k1 := cf_put (gf := gf) (gl := gl) (af := af) (j := 4) (c := x2.toNatClampNeg) (v := x3) (by decide)
      have k2 : rfs g (va_up a 8 (upd (a 8) x2.toNatClampNeg (x3))) = p_put 4 x2.toNatClampNeg (x3) (rfs g a) := rf_put (j := 4) (by decide)
      refine ⟨?_, ⟨cg, qf, gf, (va_up af 4 (upd (af 4) x2.toNatClampNeg (x3))), qd, gd, ad, qk, gk, ak, ql, gl, al, qr, gr, ar, rx, qm, qx, gx, ax, qs, sx, qo, go, ao, qp, gp_, ap, T, ix, g, tw, (va_up a 8 (upd (a 8) x2.toNatClampNeg (x3))), m, tr, tc, n, rfl, rfl, h.floor (by rw [k1, k2]; exact h.2.1.put _ _ _) (by rw [k1]; exact h.2.2.1.put4 ⟨B, hB, hv⟩) (Nat.le_refl _) hr4 hg4 h.1.2.2.2.2.2 (fun _ _ => rfl) (fun j hj => up_o (by omega)) (fun _ _ => rfl)⟩⟩
      rw [e1, e2, hx, nI_clamp (n := c) (by omega)]
      exact h.2.1.a.2.2.2.2.1 c hc
theorem op_set4 (E : ag) (q : Nat → Nat) (kq : Nat) (cg : Nat → Int32) (qf : Nat → Nat) (gf : Nat → Int32) (af : Nat → Nat → Int32) (qd : Nat → Nat) (gd : Nat → Int32) (ad : Nat → Nat → Int32) (qk : Nat → Nat) (gk : Nat → Int32) (ak : Nat → Nat → Int32) (ql : Nat → Nat) (gl : Nat → Int32) (al : Nat → Nat → Int32) (qr : Nat → Nat) (gr : Nat → Int32) (ar : Nat → Nat → Int32) (rx : Nat) (qm : Nat) (qx : Nat → Nat → Nat) (gx : Nat → Nat → Int32) (ax : Nat → Nat → Nat → Int32) (qs : Nat) (sx : Nat → Option Nat) (qo : Nat → Nat) (go : Nat → Int32) (ao : Nat → Nat → Int32) (qp : Nat → Nat) (gp_ : Nat → Int32) (ap : Nat → Nat → Int32) (T : List SE) (ix : Nat → Nat) (g : Nat → Int32) (tw : Int64) (a : Nat → Nat → Int32) (m tr tc n : Nat) (h : RLA cg gf af gk ak gl gr ar ax sx T ix g a m tr tc n) (x2 x3 : Int32) : ∃ Pc Pr : Int32 → va_W → Prop, CT E yX5_set cX5_set 4 mX5_set.2.2.2.1 3 0 0 [.ref kq, .int 4, .int x2, .int x3] (wK E kq cg qf gf af qd gd ad qk gk ak ql gl al qr gr ar rx qm qx gx ax qs sx qo go ao qp gp_ ap (shl E T)) (ri Pc) ∧ CT E yX6_set cX6_set 5 mX6_set.2.2.2.1 4 0 0 [.ref (q 0), .int 4, .int x2, .int x3] (MW E q g tw a) (ri Pr) ∧ ∀ r1 w1 r2 w2, Pc r1 w1 → Pr r2 w2 → r1 = r2 ∧ REL E q kq w1 w2 := by
  obtain ⟨C, hC, hO, ht, hr4, hg4, hG, hF, hE, h0⟩ := h.data
  have hm5 := hG.1.1
  have hgm : gf 0 = nI m := hG.1.2.1
  have h13 : g 13 = nI m := h0.symm.trans hgm
  have h1b : gf 1 = g 14 := h.2.1.g.2.1
  have h2b : gf 2 = g 15 := h.2.1.g.2.2.1
  have hb : ¬ gf 1 ≤ 0 := hG.2.1
  have hb14 : ¬ g 14 = 0 := fun z => hb (by rw [h1b, z]; decide)
  have hM : ∀ i, i < m → MOK (af 2 i) (af 4 i) (af 5 i) := hG.2.2
  refine ⟨_, _, K_set4 E kq cg qf gf af qd gd ad qk gk ak ql gl al qr gr ar rx qm qx gx ax qs sx qo go ao qp gp_ ap (shl E T) m hm5 hgm x2 x3, m_set4 E q g tw a x2 x3 m hm5 h13 hb14, fun r1 w1 r2 w2 h1 h2 => ?_⟩
  rw [h0] at h1
  rcases h1 with ⟨b1, e1, rfl⟩ | ⟨b1, e1, rfl⟩
  · rcases h2 with ⟨b2, e2, rfl⟩ | ⟨b2, -⟩
    · exact ⟨e1.trans e2.symm, REL.s h⟩
    · exact absurd b1 b2
  · rcases h2 with ⟨b2, -⟩ | ⟨b2, e2, rfl⟩
    · exact absurd b2 b1
    · obtain ⟨c, hc, hx⟩ := man_nI hm5 (show ¬ inI x2 0 (nI m - 1) = 0 from fun z => b1 (Or.inl (by rw [h13]; exact z)))
      obtain ⟨B, hB, hv⟩ := inI_n (N := 9) (by decide) (fun z => b1 (Or.inr z))
      have k1 := cf_put (gf := gf) (gl := gl) (af := af) (j := 5) (c := x2.toNatClampNeg) (v := x3) (by decide)
      have k2 : rfs g (va_up a 9 (upd (a 9) x2.toNatClampNeg (x3))) = p_put 5 x2.toNatClampNeg (x3) (rfs g a) := rf_put (j := 5) (by decide)
      refine ⟨?_, ⟨cg, qf, gf, (va_up af 5 (upd (af 5) x2.toNatClampNeg (x3))), qd, gd, ad, qk, gk, ak, ql, gl, al, qr, gr, ar, rx, qm, qx, gx, ax, qs, sx, qo, go, ao, qp, gp_, ap, T, ix, g, tw, (va_up a 9 (upd (a 9) x2.toNatClampNeg (x3))), m, tr, tc, n, rfl, rfl, h.floor (by rw [k1, k2]; exact h.2.1.put _ _ _) (by rw [k1]; exact h.2.2.1.put5 ⟨B, hB, hv⟩) (Nat.le_refl _) hr4 hg4 h.1.2.2.2.2.2 (fun _ _ => rfl) (fun j hj => up_o (by omega)) (fun _ _ => rfl)⟩⟩
      rw [e1, e2, hx, nI_clamp (n := c) (by omega)]
      exact h.2.1.a.2.2.2.2.2 c hc
theorem op_set2 (E : ag) (q : Nat → Nat) (kq : Nat) (cg : Nat → Int32) (qf : Nat → Nat) (gf : Nat → Int32) (af : Nat → Nat → Int32) (qd : Nat → Nat) (gd : Nat → Int32) (ad : Nat → Nat → Int32) (qk : Nat → Nat) (gk : Nat → Int32) (ak : Nat → Nat → Int32) (ql : Nat → Nat) (gl : Nat → Int32) (al : Nat → Nat → Int32) (qr : Nat → Nat) (gr : Nat → Int32) (ar : Nat → Nat → Int32) (rx : Nat) (qm : Nat) (qx : Nat → Nat → Nat) (gx : Nat → Nat → Int32) (ax : Nat → Nat → Nat → Int32) (qs : Nat) (sx : Nat → Option Nat) (qo : Nat → Nat) (go : Nat → Int32) (ao : Nat → Nat → Int32) (qp : Nat → Nat) (gp_ : Nat → Int32) (ap : Nat → Nat → Int32) (T : List SE) (ix : Nat → Nat) (g : Nat → Int32) (tw : Int64) (a : Nat → Nat → Int32) (m tr tc n : Nat) (h : RLA cg gf af gk ak gl gr ar ax sx T ix g a m tr tc n) (x2 x3 : Int32) : ∃ Pc Pr : Int32 → va_W → Prop, CT E yX5_set cX5_set 4 mX5_set.2.2.2.1 3 0 0 [.ref kq, .int 2, .int x2, .int x3] (wK E kq cg qf gf af qd gd ad qk gk ak ql gl al qr gr ar rx qm qx gx ax qs sx qo go ao qp gp_ ap (shl E T)) (ri Pc) ∧ CT E yX6_set cX6_set 5 mX6_set.2.2.2.1 4 0 0 [.ref (q 0), .int 2, .int x2, .int x3] (MW E q g tw a) (ri Pr) ∧ ∀ r1 w1 r2 w2, Pc r1 w1 → Pr r2 w2 → r1 = r2 ∧ REL E q kq w1 w2 := by
  obtain ⟨C, hC, hO, ht, hr4, hg4, hG, hF, hE, h0⟩ := h.data
  have hm5 := hG.1.1
  have hgm : gf 0 = nI m := hG.1.2.1
  have h13 : g 13 = nI m := h0.symm.trans hgm
  have h1b : gf 1 = g 14 := h.2.1.g.2.1
  have h2b : gf 2 = g 15 := h.2.1.g.2.2.1
  have hb : ¬ gf 1 ≤ 0 := hG.2.1
  have hb14 : ¬ g 14 = 0 := fun z => hb (by rw [h1b, z]; decide)
  have hM : ∀ i, i < m → MOK (af 2 i) (af 4 i) (af 5 i) := hG.2.2
  refine ⟨_, _, K_set2 E kq cg qf gf af qd gd ad qk gk ak ql gl al qr gr ar rx qm qx gx ax qs sx qo go ao qp gp_ ap (shl E T) m hm5 hgm x2 x3, m_set2 E q g tw a x2 x3 m hm5 h13 hb14, fun r1 w1 r2 w2 h1 h2 => ?_⟩
  obtain ⟨V, v1, v2, v3⟩ := h.2.2.1.2.2.2.2
  have v3 : gf 1 = nI V := v3
  rw [h0] at h1
  rcases h1 with ⟨b1, e1, rfl⟩ | ⟨b1, e1, rfl⟩
  · rcases h2 with ⟨b2, e2, rfl⟩ | ⟨b2, -⟩
    · exact ⟨e1.trans e2.symm, REL.s h⟩
    · exact absurd b1 b2
  · rcases h2 with ⟨b2, -⟩ | ⟨b2, e2, rfl⟩
    · exact absurd b2 b1
    · obtain ⟨c, hc, hx⟩ := man_nI hm5 (show ¬ inI x2 0 (nI m - 1) = 0 from fun z => b1 (Or.inl (by rw [h13]; exact z)))
      obtain ⟨B, hB, hv⟩ := inI_n (N := 239) (by decide) (fun z => b1 (Or.inr z))
      have hvl : hld x3 (gf 1) = x3 - x3 / g 14 * g 14 := by rw [← h1b, v3]; exact hld_b (fun z => b1 (Or.inr z)) v1 v2
      have hvn : ∃ E, E ≤ 239 ∧ hld x3 (gf 1) = nI E := ⟨B % V, by have := Nat.mod_lt B (show 0 < V by omega); omega, by rw [hvl, ← h1b, v3, hv, pk_rem (by omega) (by omega) (by omega)]⟩
      have k1 := cf_put (gf := gf) (gl := gl) (af := af) (j := 3) (c := x2.toNatClampNeg) (v := hld x3 (gf 1)) (by decide)
      have k2 : rfs g (va_up a 7 (upd (a 7) x2.toNatClampNeg (x3 - x3 / g 14 * g 14))) = p_put 3 x2.toNatClampNeg (x3 - x3 / g 14 * g 14) (rfs g a) := rf_put (j := 3) (by decide)
      refine ⟨?_, ⟨cg, qf, gf, (va_up af 3 (upd (af 3) x2.toNatClampNeg (hld x3 (gf 1)))), qd, gd, ad, qk, gk, ak, ql, gl, al, qr, gr, ar, rx, qm, qx, gx, ax, qs, sx, qo, go, ao, qp, gp_, ap, T, ix, g, tw, (va_up a 7 (upd (a 7) x2.toNatClampNeg (x3 - x3 / g 14 * g 14))), m, tr, tc, n, rfl, rfl, h.floor (by rw [k1, k2]; rw [← hvl]; exact h.2.1.put _ _ _) (by rw [k1]; exact h.2.2.1.put3 hvn) (Nat.le_refl _) hr4 hg4 h.1.2.2.2.2.2 (fun _ _ => rfl) (fun j hj => up_o (by omega)) (fun _ _ => rfl)⟩⟩
      rw [e1, e2, hx, nI_clamp (n := c) (by omega)]
      exact h.2.1.a.2.2.2.1 c hc
theorem op_set5 (E : ag) (q : Nat → Nat) (kq : Nat) (cg : Nat → Int32) (qf : Nat → Nat) (gf : Nat → Int32) (af : Nat → Nat → Int32) (qd : Nat → Nat) (gd : Nat → Int32) (ad : Nat → Nat → Int32) (qk : Nat → Nat) (gk : Nat → Int32) (ak : Nat → Nat → Int32) (ql : Nat → Nat) (gl : Nat → Int32) (al : Nat → Nat → Int32) (qr : Nat → Nat) (gr : Nat → Int32) (ar : Nat → Nat → Int32) (rx : Nat) (qm : Nat) (qx : Nat → Nat → Nat) (gx : Nat → Nat → Int32) (ax : Nat → Nat → Nat → Int32) (qs : Nat) (sx : Nat → Option Nat) (qo : Nat → Nat) (go : Nat → Int32) (ao : Nat → Nat → Int32) (qp : Nat → Nat) (gp_ : Nat → Int32) (ap : Nat → Nat → Int32) (T : List SE) (ix : Nat → Nat) (g : Nat → Int32) (tw : Int64) (a : Nat → Nat → Int32) (m tr tc n : Nat) (h : RLA cg gf af gk ak gl gr ar ax sx T ix g a m tr tc n) (x2 x3 : Int32) : ∃ Pc Pr : Int32 → va_W → Prop, CT E yX5_set cX5_set 4 mX5_set.2.2.2.1 3 0 0 [.ref kq, .int 5, .int x2, .int x3] (wK E kq cg qf gf af qd gd ad qk gk ak ql gl al qr gr ar rx qm qx gx ax qs sx qo go ao qp gp_ ap (shl E T)) (ri Pc) ∧ CT E yX6_set cX6_set 5 mX6_set.2.2.2.1 4 0 0 [.ref (q 0), .int 5, .int x2, .int x3] (MW E q g tw a) (ri Pr) ∧ ∀ r1 w1 r2 w2, Pc r1 w1 → Pr r2 w2 → r1 = r2 ∧ REL E q kq w1 w2 := by
  obtain ⟨C, hC, hO, ht, hr4, hg4, hG, hF, hE, h0⟩ := h.data
  have hm5 := hG.1.1
  have hgm : gf 0 = nI m := hG.1.2.1
  have h13 : g 13 = nI m := h0.symm.trans hgm
  have h1b : gf 1 = g 14 := h.2.1.g.2.1
  have h2b : gf 2 = g 15 := h.2.1.g.2.2.1
  have hb : ¬ gf 1 ≤ 0 := hG.2.1
  have hb14 : ¬ g 14 = 0 := fun z => hb (by rw [h1b, z]; decide)
  have hM : ∀ i, i < m → MOK (af 2 i) (af 4 i) (af 5 i) := hG.2.2
  refine ⟨_, _, K_set5 E kq cg qf gf af qd gd ad qk gk ak ql gl al qr gr ar rx qm qx gx ax qs sx qo go ao qp gp_ ap (shl E T) m hm5 hgm x2 x3, m_set5 E q g tw a x2 x3 m hm5 h13 hb14, fun r1 w1 r2 w2 h1 h2 => ?_⟩
  rcases h1 with ⟨b1, e1, rfl⟩ | ⟨b1, e1, rfl⟩
  · rcases h2 with ⟨b2, e2, rfl⟩ | ⟨b2, -⟩
    · exact ⟨e1.trans e2.symm, REL.s h⟩
    · exact absurd b1 b2
  · rcases h2 with ⟨b2, -⟩ | ⟨b2, e2, rfl⟩
    · exact absurd b2 b1
    · obtain ⟨B, B1, B2, rfl⟩ := inI_12 b1
      have k1 := cf_bars (EQ.refl m (cfs gf af gl)) h.2.2.1.2.1 B1 B2
      refine ⟨e1.trans (h1b.trans e2.symm), ⟨cg, qf, (upd gf 1 (nI B)), (va_up af 3 (cp m (fun k => hld (af 3 k) (nI B)) (af 3))), qd, gd, ad, qk, gk, ak, ql, gl, al, qr, gr, ar, rx, qm, qx, gx, ax, qs, sx, qo, go, ao, qp, gp_, ap, T, ix, (upd g 14 (nI B)), tw, (va_up a 7 (cp m (rmf (nI B) (a 7)) (a 7))), m, tr, tc, n, rfl, rfl, h.floor (by rw [rf_bars]; exact k1.tryE.tr (h.2.1.bars _)) ((h.2.2.1.bars B1 B2).eq k1) (Nat.le_refl _) hr4 hg4 h.1.2.2.2.2.2 (fun k hk => pk_un (by omega)) (fun j hj => up_o (by omega)) (fun _ _ => rfl)⟩⟩
theorem op_setN (E : ag) (q : Nat → Nat) (kq : Nat) (cg : Nat → Int32) (qf : Nat → Nat) (gf : Nat → Int32) (af : Nat → Nat → Int32) (qd : Nat → Nat) (gd : Nat → Int32) (ad : Nat → Nat → Int32) (qk : Nat → Nat) (gk : Nat → Int32) (ak : Nat → Nat → Int32) (ql : Nat → Nat) (gl : Nat → Int32) (al : Nat → Nat → Int32) (qr : Nat → Nat) (gr : Nat → Int32) (ar : Nat → Nat → Int32) (rx : Nat) (qm : Nat) (qx : Nat → Nat → Nat) (gx : Nat → Nat → Int32) (ax : Nat → Nat → Nat → Int32) (qs : Nat) (sx : Nat → Option Nat) (qo : Nat → Nat) (go : Nat → Int32) (ao : Nat → Nat → Int32) (qp : Nat → Nat) (gp_ : Nat → Int32) (ap : Nat → Nat → Int32) (T : List SE) (ix : Nat → Nat) (g : Nat → Int32) (tw : Int64) (a : Nat → Nat → Int32) (m tr tc n : Nat) (h : RLA cg gf af gk ak gl gr ar ax sx T ix g a m tr tc n) (x1 x2 x3 : Int32) (hk : inI x1 0 5 = 0) : ∃ Pc Pr : Int32 → va_W → Prop, CT E yX5_set cX5_set 4 mX5_set.2.2.2.1 3 0 0 [.ref kq, .int x1, .int x2, .int x3] (wK E kq cg qf gf af qd gd ad qk gk ak ql gl al qr gr ar rx qm qx gx ax qs sx qo go ao qp gp_ ap (shl E T)) (ri Pc) ∧ CT E yX6_set cX6_set 5 mX6_set.2.2.2.1 4 0 0 [.ref (q 0), .int x1, .int x2, .int x3] (MW E q g tw a) (ri Pr) ∧ ∀ r1 w1 r2 w2, Pc r1 w1 → Pr r2 w2 → r1 = r2 ∧ REL E q kq w1 w2 := by
  obtain ⟨C, hC, hO, ht, hr4, hg4, hG, hF, hE, h0⟩ := h.data
  have hm5 := hG.1.1
  have hgm : gf 0 = nI m := hG.1.2.1
  have h13 : g 13 = nI m := h0.symm.trans hgm
  have h1b : gf 1 = g 14 := h.2.1.g.2.1
  have h2b : gf 2 = g 15 := h.2.1.g.2.2.1
  have hb : ¬ gf 1 ≤ 0 := hG.2.1
  have hb14 : ¬ g 14 = 0 := fun z => hb (by rw [h1b, z]; decide)
  have hM : ∀ i, i < m → MOK (af 2 i) (af 4 i) (af 5 i) := hG.2.2
  refine ⟨_, _, K_setN E kq cg qf gf af qd gd ad qk gk ak ql gl al qr gr ar rx qm qx gx ax qs sx qo go ao qp gp_ ap (shl E T) x1 x2 x3 hk, m_setN E q g tw a x1 x2 x3 hk, fun r1 w1 r2 w2 h1 h2 => ?_⟩
  obtain ⟨e1, rfl⟩ := h1
  obtain ⟨e2, rfl⟩ := h2
  refine ⟨?_, REL.s h⟩
  exact e1.trans e2.symm
theorem op_set (E : ag) (q : Nat → Nat) (kq : Nat) (cg : Nat → Int32) (qf : Nat → Nat) (gf : Nat → Int32) (af : Nat → Nat → Int32) (qd : Nat → Nat) (gd : Nat → Int32) (ad : Nat → Nat → Int32) (qk : Nat → Nat) (gk : Nat → Int32) (ak : Nat → Nat → Int32) (ql : Nat → Nat) (gl : Nat → Int32) (al : Nat → Nat → Int32) (qr : Nat → Nat) (gr : Nat → Int32) (ar : Nat → Nat → Int32) (rx : Nat) (qm : Nat) (qx : Nat → Nat → Nat) (gx : Nat → Nat → Int32) (ax : Nat → Nat → Nat → Int32) (qs : Nat) (sx : Nat → Option Nat) (qo : Nat → Nat) (go : Nat → Int32) (ao : Nat → Nat → Int32) (qp : Nat → Nat) (gp_ : Nat → Int32) (ap : Nat → Nat → Int32) (T : List SE) (ix : Nat → Nat) (g : Nat → Int32) (tw : Int64) (a : Nat → Nat → Int32) (m tr tc n : Nat) (h : RLA cg gf af gk ak gl gr ar ax sx T ix g a m tr tc n) (x1 x2 x3 : Int32) : ∃ Pc Pr : Int32 → va_W → Prop, CT E yX5_set cX5_set 4 mX5_set.2.2.2.1 3 0 0 [.ref kq, .int x1, .int x2, .int x3] (wK E kq cg qf gf af qd gd ad qk gk ak ql gl al qr gr ar rx qm qx gx ax qs sx qo go ao qp gp_ ap (shl E T)) (ri Pc) ∧ CT E yX6_set cX6_set 5 mX6_set.2.2.2.1 4 0 0 [.ref (q 0), .int x1, .int x2, .int x3] (MW E q g tw a) (ri Pr) ∧ ∀ r1 w1 r2 w2, Pc r1 w1 → Pr r2 w2 → r1 = r2 ∧ REL E q kq w1 w2 := by
  by_cases hk : inI x1 0 5 = 0
  · exact op_setN E q kq cg qf gf af qd gd ad qk gk ak ql gl al qr gr ar rx qm qx gx ax qs sx qo go ao qp gp_ ap T ix g tw a m tr tc n h x1 x2 x3 hk
  · obtain ⟨j, hj, rfl⟩ := in05n hk
    match j, hj with
    | 0, _ => exact op_set0 E q kq cg qf gf af qd gd ad qk gk ak ql gl al qr gr ar rx qm qx gx ax qs sx qo go ao qp gp_ ap T ix g tw a m tr tc n h x2 x3
    | 1, _ => exact op_set1 E q kq cg qf gf af qd gd ad qk gk ak ql gl al qr gr ar rx qm qx gx ax qs sx qo go ao qp gp_ ap T ix g tw a m tr tc n h x2 x3
    | 2, _ => exact op_set2 E q kq cg qf gf af qd gd ad qk gk ak ql gl al qr gr ar rx qm qx gx ax qs sx qo go ao qp gp_ ap T ix g tw a m tr tc n h x2 x3
    | 3, _ => exact op_set3 E q kq cg qf gf af qd gd ad qk gk ak ql gl al qr gr ar rx qm qx gx ax qs sx qo go ao qp gp_ ap T ix g tw a m tr tc n h x2 x3
    | 4, _ => exact op_set4 E q kq cg qf gf af qd gd ad qk gk ak ql gl al qr gr ar rx qm qx gx ax qs sx qo go ao qp gp_ ap T ix g tw a m tr tc n h x2 x3
    | 5, _ => exact op_set5 E q kq cg qf gf af qd gd ad qk gk ak ql gl al qr gr ar rx qm qx gx ax qs sx qo go ao qp gp_ ap T ix g tw a m tr tc n h x2 x3
    | j + 6, hj => omega
