/-- a call that changes tape and texts alone -/
theorem RLA.tape {cg gf : Nat → Int32} {af : Nat → Nat → Int32} {gk : Nat → Int32} {ak : Nat → Nat → Int32} {gl gr : Nat → Int32} {ar : Nat → Nat → Int32} {ax : Nat → Nat → Nat → Int32} {sx : Nat → Option Nat} {T : List SE} {ix : Nat → Nat} {g : Nat → Int32} {a : Nat → Nat → Int32} {m tr tc n : Nat} (h : RLA cg gf af gk ak gl gr ar ax sx T ix g a m tr tc n) {cg2 gr2 g2 : Nat → Int32} {ar2 a2 : Nat → Nat → Int32} {ax2 : Nat → Nat → Nat → Int32} {tc2 n2 : Nat} (t1 : cg2 0 = cg 0) (t2 : cg2 1 = nI tc2) (t3 : g2 3 = nI tc2) (t4 : tc2 ≤ 6) (t5 : tc ≤ tc2) (hg : ∀ k, k = 4 ∨ (13 ≤ k ∧ k ≤ 16) ∨ (55 ≤ k ∧ k ≤ 59) → g2 k = g k) (ha : ∀ j, 4 ≤ j → a2 j = a j) (hx : RTx tc2 ax2 a2) (hp : RTp n2 gr2 ar2 g2 a2) : RLA cg2 gf af gk ak gl gr2 ar2 ax2 sx T ix g2 a2 m tr tc2 n2 := by
  obtain ⟨⟨c1, c2, c3, c4, c5, c6⟩, f1, f2, k1, x1, p1, s1⟩ := h
  exact ⟨⟨t2, t3, t4, c4, (hg 4 (Or.inl rfl)).trans c5, by omega⟩, f1.rf (fun k hk => hg _ (Or.inr (Or.inl ⟨by omega, by omega⟩))) (fun j hj => ha _ (by omega)), f2, k1.keep (Nat.le_refl _) t5 t1 (fun k h1 h2 => hg k (Or.inr (Or.inr ⟨h1, h2⟩))) (fun j h1 h2 => ha j (by omega)) (fun i _ => by rw [ha 6 (by decide)]), hx, hp, s1.keep (ha 21 (by decide)) (ha 22 (by decide)) (ha 23 (by decide)) (ha 24 (by decide))⟩
theorem TOK.keep {a1 a2 b1 b2 : Nat → Int32} {t : Nat} {C : Nat → List Int32} (h : TOK a1 a2 t C) (e1 : ∀ k, k < 160 → b1 (160 * t + k) = a1 (160 * t + k)) (e2 : b2 t = a2 t) : TOK b1 b2 t C := by
  obtain ⟨ht, n, f, j, h1, h2, h3, h4⟩ := h
  refine ⟨ht, n, f, j, h1, e2.trans h2, fun k hk => by rw [e1 k (by omega)]; exact h3 k hk, ?_⟩
  have e : Bof b1 (160 * t) n = Bof a1 (160 * t) n := by
    funext k
    unfold Bof
    by_cases hk : k < n
    · rw [if_pos hk, if_pos hk, e1 k (by omega)]
    · rw [if_neg hk, if_neg hk]
  rw [e]
  exact h4
theorem op_feed (E : ag) (q : Nat → Nat) (kq : Nat) (cg : Nat → Int32) (qf : Nat → Nat) (gf : Nat → Int32) (af : Nat → Nat → Int32) (qd : Nat → Nat) (gd : Nat → Int32) (ad : Nat → Nat → Int32) (qk : Nat → Nat) (gk : Nat → Int32) (ak : Nat → Nat → Int32) (ql : Nat → Nat) (gl : Nat → Int32) (al : Nat → Nat → Int32) (qr : Nat → Nat) (gr : Nat → Int32) (ar : Nat → Nat → Int32) (rx : Nat) (qm : Nat) (qx : Nat → Nat → Nat) (gx : Nat → Nat → Int32) (ax : Nat → Nat → Nat → Int32) (qs : Nat) (sx : Nat → Option Nat) (qo : Nat → Nat) (go : Nat → Int32) (ao : Nat → Nat → Int32) (qp : Nat → Nat) (gp_ : Nat → Int32) (ap : Nat → Nat → Int32) (T : List SE) (ix : Nat → Nat) (g : Nat → Int32) (tw : Int64) (a : Nat → Nat → Int32) (m tr tc n : Nat) (h : RLA cg gf af gk ak gl gr ar ax sx T ix g a m tr tc n) (x1 : Int32) : ∃ Pc Pr : Int32 → va_W → Prop, CT E yX5_feed cX5_feed 2 mX5_feed.2.2.2.1 2 0 0 [.ref kq, .int x1] (wK E kq cg qf gf af qd gd ad qk gk ak ql gl al qr gr ar rx qm qx gx ax qs sx qo go ao qp gp_ ap (shl E T)) (ri Pc) ∧ CT E yX6_feed cX6_feed 2 mX6_feed.2.2.2.1 2 0 0 [.ref (q 0), .int x1] (MW E q g tw a) (ri Pr) ∧ ∀ r1 w1 r2 w2, Pc r1 w1 → Pr r2 w2 → r1 = r2 ∧ REL E q kq w1 w2 := by
  obtain ⟨C, hC, hO, ht, hr4, hg4, hG, hF, hE, h0⟩ := h.data
  have hm5 := hG.1.1
  have hgm : gf 0 = nI m := hG.1.2.1
  have h13 : g 13 = nI m := h0.symm.trans hgm
  have h1b : gf 1 = g 14 := h.2.1.g.2.1
  have h2b : gf 2 = g 15 := h.2.1.g.2.2.1
  have hb : ¬ gf 1 ≤ 0 := hG.2.1
  have hb14 : ¬ g 14 = 0 := fun z => hb (by rw [h1b, z]; decide)
  have hM : ∀ i, i < m → MOK (af 2 i) (af 4 i) (af 5 i) := hG.2.2
  refine ⟨_, _, K_feed E kq cg qf gf af qd gd ad qk gk ak ql gl al qr gr ar rx qm qx gx ax qs sx qo go ao qp gp_ ap (shl E T) n h.2.2.2.2.2.1.1 h.2.2.2.2.2.1.2.1 x1, m_feed E q g tw a x1 (fun z => by
    rw [h.2.2.2.2.2.1.2.2.1] at z ⊢
    refine vp_in_nI ?_ (by decide)
    have := h.2.2.2.2.2.1.1
    rcases Nat.lt_or_ge n 160 with y | y
    · exact y
    · exact absurd (show nI n = 160 by rw [show n = 160 by omega]; rfl) z), fun r1 w1 r2 w2 h1 h2 => ?_⟩
  obtain ⟨p0, p1, p2, p3⟩ := h.2.2.2.2.2.1
  have hz : g 6 = 160 ↔ n = 160 := by rw [p2]; exact nI_eq (a := n) (b := 160) (by omega) (by decide)
  rcases h1 with ⟨b1, e1, rfl⟩ | ⟨b1, n1, e1, rfl⟩ | ⟨b1, n1, e1, rfl⟩
  · rcases h2 with ⟨b2, e2, rfl⟩ | ⟨b2, -⟩ | ⟨b2, -⟩
    · exact ⟨e1.trans e2.symm, REL.s h⟩
    · exact absurd b1 b2
    · exact absurd b1 b2
  · rcases h2 with ⟨b2, -⟩ | ⟨b2, n2, e2, rfl⟩ | ⟨b2, n2, -⟩
    · exact absurd b2 b1
    · exact ⟨e1.trans e2.symm, REL.s h⟩
    · exact absurd (hz.mpr n1) n2
  · rcases h2 with ⟨b2, -⟩ | ⟨b2, n2, -⟩ | ⟨b2, n2, e2, rfl⟩
    · exact absurd b2 b1
    · exact absurd (hz.mp n2) (by omega)
    · obtain ⟨B, hB, rfl⟩ := inI_n (N := 255) (by decide) b1
      refine ⟨by rw [e1, e2, p2, nI_1], ⟨cg, qf, gf, af, qd, gd, ad, qk, gk, ak, ql, gl, al, qr, (upd gr 0 (nI (n + 1))), (va_up ar 0 (upd (ar 0) n (nI B))), rx, qm, qx, gx, ax, qs, sx, qo, go, ao, qp, gp_, ap, T, ix, (upd g 6 (g 6 + 1)), tw, (va_up a 3 (upd (a 3) (g 6).toNatClampNeg (nI B))), m, tr, tc, (n + 1), rfl, rfl, h.tape rfl h.1.1 h.1.2.1 h.1.2.2.1 (Nat.le_refl _) (fun k hk => pk_un (by omega)) (fun j hj => up_o (by omega)) (h.2.2.2.2.1.keep rfl rfl) ?_⟩⟩
      refine ⟨n1, rfl, by show g 6 + 1 = _; rw [p2, nI_1], fun k hk => ?_⟩
      show upd (ar 0) n (nI B) k = upd (a 3) (g 6).toNatClampNeg (nI B) k ∧ ¬ upd (a 3) (g 6).toNatClampNeg (nI B) k < 0
      rw [p2, nI_clamp (n := n) (by omega)]
      simp only [upd]
      by_cases e : k = n
      · rw [if_pos e, if_pos e]; exact ⟨rfl, nI_pos (by omega)⟩
      · rw [if_neg e, if_neg e]; exact p3 k (by omega)
theorem op_force (E : ag) (q : Nat → Nat) (kq : Nat) (cg : Nat → Int32) (qf : Nat → Nat) (gf : Nat → Int32) (af : Nat → Nat → Int32) (qd : Nat → Nat) (gd : Nat → Int32) (ad : Nat → Nat → Int32) (qk : Nat → Nat) (gk : Nat → Int32) (ak : Nat → Nat → Int32) (ql : Nat → Nat) (gl : Nat → Int32) (al : Nat → Nat → Int32) (qr : Nat → Nat) (gr : Nat → Int32) (ar : Nat → Nat → Int32) (rx : Nat) (qm : Nat) (qx : Nat → Nat → Nat) (gx : Nat → Nat → Int32) (ax : Nat → Nat → Nat → Int32) (qs : Nat) (sx : Nat → Option Nat) (qo : Nat → Nat) (go : Nat → Int32) (ao : Nat → Nat → Int32) (qp : Nat → Nat) (gp_ : Nat → Int32) (ap : Nat → Nat → Int32) (T : List SE) (ix : Nat → Nat) (g : Nat → Int32) (tw : Int64) (a : Nat → Nat → Int32) (m tr tc n : Nat) (h : RLA cg gf af gk ak gl gr ar ax sx T ix g a m tr tc n) (x1 : Int32) : ∃ Pc Pr : Int32 → va_W → Prop, CT E yX5_force cX5_force 3 mX5_force.2.2.2.1 1 0 0 [.ref kq, .int x1] (wK E kq cg qf gf af qd gd ad qk gk ak ql gl al qr gr ar rx qm qx gx ax qs sx qo go ao qp gp_ ap (shl E T)) (ri Pc) ∧ CT E yX6_force cX6_force 3 mX6_force.2.2.2.1 2 0 0 [.ref (q 0), .int x1] (MW E q g tw a) (ri Pr) ∧ ∀ r1 w1 r2 w2, Pc r1 w1 → Pr r2 w2 → r1 = r2 ∧ REL E q kq w1 w2 := by
  obtain ⟨C, hC, hO, ht, hr4, hg4, hG, hF, hE, h0⟩ := h.data
  have hm5 := hG.1.1
  have hgm : gf 0 = nI m := hG.1.2.1
  have h13 : g 13 = nI m := h0.symm.trans hgm
  have h1b : gf 1 = g 14 := h.2.1.g.2.1
  have h2b : gf 2 = g 15 := h.2.1.g.2.2.1
  have hb : ¬ gf 1 ≤ 0 := hG.2.1
  have hb14 : ¬ g 14 = 0 := fun z => hb (by rw [h1b, z]; decide)
  have hM : ∀ i, i < m → MOK (af 2 i) (af 4 i) (af 5 i) := hG.2.2
  refine ⟨_, _, K_force E kq cg qf gf af qd gd ad qk gk ak ql gl al qr gr ar rx qm qx gx ax qs sx qo go ao qp gp_ ap (shl E T) tc h.1.2.2.1 h.1.1 x1, m_force E q g tw a x1, fun r1 w1 r2 w2 h1 h2 => ?_⟩
  have hc1 := h.1.1
  have hc2 := h.1.2.1
  rw [hc1] at h1
  rw [hc2] at h2
  rcases h1 with ⟨b1, e1, rfl⟩ | ⟨b1, e1, rfl⟩
  · rcases h2 with ⟨b2, e2, rfl⟩ | ⟨b2, -⟩
    · exact ⟨e1.trans e2.symm, REL.s h⟩
    · exact absurd b1 b2
  · rcases h2 with ⟨b2, -⟩ | ⟨b2, e2, rfl⟩
    · exact absurd b2 b1
    · obtain ⟨t, ht2, rfl⟩ := inI_t h.1.2.2.1 b1
      refine ⟨by rw [e1, e2, hr4, hg4], ⟨cg, qf, (upd gf 4 (nI t)), af, qd, gd, ad, qk, gk, ak, ql, gl, al, qr, gr, ar, rx, qm, qx, gx, ax, qs, sx, qo, go, ao, qp, gp_, ap, T, ix, (upd g 4 (nI t)), tw, a, m, t, tc, n, rfl, rfl, h.floor (FEQ.mk h.2.1.g h.2.1.a) h.2.2.1 (Nat.le_refl _) rfl rfl ht2 (fun k hk => pk_un (by omega)) (fun _ _ => rfl) (fun _ _ => rfl)⟩⟩
theorem op_round (E : ag) (q : Nat → Nat) (kq : Nat) (cg : Nat → Int32) (qf : Nat → Nat) (gf : Nat → Int32) (af : Nat → Nat → Int32) (qd : Nat → Nat) (gd : Nat → Int32) (ad : Nat → Nat → Int32) (qk : Nat → Nat) (gk : Nat → Int32) (ak : Nat → Nat → Int32) (ql : Nat → Nat) (gl : Nat → Int32) (al : Nat → Nat → Int32) (qr : Nat → Nat) (gr : Nat → Int32) (ar : Nat → Nat → Int32) (rx : Nat) (qm : Nat) (qx : Nat → Nat → Nat) (gx : Nat → Nat → Int32) (ax : Nat → Nat → Nat → Int32) (qs : Nat) (sx : Nat → Option Nat) (qo : Nat → Nat) (go : Nat → Int32) (ao : Nat → Nat → Int32) (qp : Nat → Nat) (gp_ : Nat → Int32) (ap : Nat → Nat → Int32) (T : List SE) (ix : Nat → Nat) (g : Nat → Int32) (tw : Int64) (a : Nat → Nat → Int32) (m tr tc n : Nat) (h : RLA cg gf af gk ak gl gr ar ax sx T ix g a m tr tc n) : ∃ Pc Pr : Int32 → va_W → Prop, CT E yX5_round cX5_round 2 mX5_round.2.2.2.1 5 0 0 [.ref kq] (wK E kq cg qf gf af qd gd ad qk gk ak ql gl al qr gr ar rx qm qx gx ax qs sx qo go ao qp gp_ ap (shl E T)) (ri Pc) ∧ CT E yX6_round cX6_round 2 mX6_round.2.2.2.1 47 0 0 [.ref (q 0)] (MW E q g tw a) (ri Pr) ∧ ∀ r1 w1 r2 w2, Pc r1 w1 → Pr r2 w2 → r1 = r2 ∧ REL E q kq w1 w2 := by
  obtain ⟨C, hC, hO, ht, hr4, hg4, hG, hF, hE, h0⟩ := h.data
  have hm5 := hG.1.1
  have hgm : gf 0 = nI m := hG.1.2.1
  have h13 : g 13 = nI m := h0.symm.trans hgm
  have h1b : gf 1 = g 14 := h.2.1.g.2.1
  have h2b : gf 2 = g 15 := h.2.1.g.2.2.1
  have hb : ¬ gf 1 ≤ 0 := hG.2.1
  have hb14 : ¬ g 14 = 0 := fun z => hb (by rw [h1b, z]; decide)
  have hM : ∀ i, i < m → MOK (af 2 i) (af 4 i) (af 5 i) := hG.2.2
  refine ⟨_, _, K_round E kq cg qf gf af qd gd ad qk gk ak ql gl al qr gr ar rx qm qx gx ax qs sx qo go ao qp gp_ ap (shl E T) tr m ht C hr4 hC hG, m_round E q g tw a tr m C hg4 hO hF, fun r1 w1 r2 w2 h1 h2 => ?_⟩
  obtain ⟨gf2, gl2, af2, al2, rfl, hc2, h42, e1⟩ := h1
  obtain ⟨e2, g2, tw2, a2, rfl, hrf, hro⟩ := h2
  have k1 : FEQ m (cfs gf2 af2 gl2) (rfs g2 a2) := by rw [hc2, hrf]; exact h.2.1.round hG.1 C
  have k2 : INV m (cfs gf2 af2 gl2) := by rw [hc2]; exact INV.round (show INV m (p_try (cfs gf af gl)) from h.2.2.1) C zro
  refine ⟨?_, ⟨cg, qf, gf2, af2, qd, gd, ad, qk, gk, ak, ql, gl2, al2, qr, gr, ar, rx, qm, qx, gx, ax, qs, sx, qo, go, ao, qp, gp_, ap, T, ix, g2, tw2, a2, m, tr, tc, n, rfl, rfl, h.floor k1 k2 (Nat.le_refl _) (h42.trans hr4) ((hro.1 4 (by omega)).trans hg4) h.1.2.2.2.2.2 (fun k hk => hro.1 k (by omega)) (fun j hj => hro.2 j (by omega) (by omega)) (fun i _ => by rw [hro.2 6 (by decide) (by decide)])⟩⟩
  rw [e1, e2, ← hrf, show gf 3 = g 16 from h.2.1.g.2.2.2]
  exact congrArg (fun x => x - g 16) k1.g.2.2.2
theorem op_turn (E : ag) (q : Nat → Nat) (kq : Nat) (cg : Nat → Int32) (qf : Nat → Nat) (gf : Nat → Int32) (af : Nat → Nat → Int32) (qd : Nat → Nat) (gd : Nat → Int32) (ad : Nat → Nat → Int32) (qk : Nat → Nat) (gk : Nat → Int32) (ak : Nat → Nat → Int32) (ql : Nat → Nat) (gl : Nat → Int32) (al : Nat → Nat → Int32) (qr : Nat → Nat) (gr : Nat → Int32) (ar : Nat → Nat → Int32) (rx : Nat) (qm : Nat) (qx : Nat → Nat → Nat) (gx : Nat → Nat → Int32) (ax : Nat → Nat → Nat → Int32) (qs : Nat) (sx : Nat → Option Nat) (qo : Nat → Nat) (go : Nat → Int32) (ao : Nat → Nat → Int32) (qp : Nat → Nat) (gp_ : Nat → Int32) (ap : Nat → Nat → Int32) (T : List SE) (ix : Nat → Nat) (g : Nat → Int32) (tw : Int64) (a : Nat → Nat → Int32) (m tr tc n : Nat) (h : RLA cg gf af gk ak gl gr ar ax sx T ix g a m tr tc n) : ∃ Pc Pr : Int32 → va_W → Prop, CT E yX5_turn cX5_turn 1 mX5_turn.2.2.2.1 3 0 0 [.ref kq] (wK E kq cg qf gf af qd gd ad qk gk ak ql gl al qr gr ar rx qm qx gx ax qs sx qo go ao qp gp_ ap (shl E T)) (ri Pc) ∧ CT E yX6_turn cX6_turn 3 mX6_turn.2.2.2.1 2 0 0 [.ref (q 0)] (MW E q g tw a) (ri Pr) ∧ ∀ r1 w1 r2 w2, Pc r1 w1 → Pr r2 w2 → r1 = r2 ∧ REL E q kq w1 w2 := by
  obtain ⟨C, hC, hO, ht, hr4, hg4, hG, hF, hE, h0⟩ := h.data
  have hm5 := hG.1.1
  have hgm : gf 0 = nI m := hG.1.2.1
  have h13 : g 13 = nI m := h0.symm.trans hgm
  have h1b : gf 1 = g 14 := h.2.1.g.2.1
  have h2b : gf 2 = g 15 := h.2.1.g.2.2.1
  have hb : ¬ gf 1 ≤ 0 := hG.2.1
  have hb14 : ¬ g 14 = 0 := fun z => hb (by rw [h1b, z]; decide)
  have hM : ∀ i, i < m → MOK (af 2 i) (af 4 i) (af 5 i) := hG.2.2
  refine ⟨_, _, K_turn E kq cg qf gf af qd gd ad qk gk ak ql gl al qr gr ar rx qm qx gx ax qs sx qo go ao qp gp_ ap (shl E T) h.2.2.1.2.2.1, m_turn E q g tw a, fun r1 w1 r2 w2 h1 h2 => ?_⟩
  obtain ⟨e1, rfl⟩ := h1
  obtain ⟨e2, rfl⟩ := h2
  have k1 := cf_turned (EQ.refl m (cfs gf af gl))
  refine ⟨?_, ⟨cg, qf, gf, (va_up (va_up af 0 (rvc 6 (af 0))) 1 (cp 12 (fun k => dw (af 1 k)) (af 1))), qd, gd, ad, qk, gk, ak, ql, gl, al, qr, gr, ar, rx, qm, qx, gx, ax, qs, sx, qo, go, ao, qp, gp_, ap, T, ix, g, tw, (turnA a), m, tr, tc, n, rfl, rfl, h.floor (by rw [rf_turned]; exact k1.tryE.tr h.2.1.turned) (h.2.2.1.turned.eq k1) (Nat.le_refl _) hr4 hg4 h.1.2.2.2.2.2 (fun _ _ => rfl) (fun j hj => by unfold turnA; rw [up_o (by omega), up_o (by omega)]) (fun _ _ => rfl)⟩⟩
  rw [e1, e2]
  refine sm_ag 12 (fun k hk => ?_)
  rw [cp_in hk, show af 1 k = a 5 k from h.2.1.a.2.1 k hk]
theorem op_image (E : ag) (q : Nat → Nat) (kq : Nat) (cg : Nat → Int32) (qf : Nat → Nat) (gf : Nat → Int32) (af : Nat → Nat → Int32) (qd : Nat → Nat) (gd : Nat → Int32) (ad : Nat → Nat → Int32) (qk : Nat → Nat) (gk : Nat → Int32) (ak : Nat → Nat → Int32) (ql : Nat → Nat) (gl : Nat → Int32) (al : Nat → Nat → Int32) (qr : Nat → Nat) (gr : Nat → Int32) (ar : Nat → Nat → Int32) (rx : Nat) (qm : Nat) (qx : Nat → Nat → Nat) (gx : Nat → Nat → Int32) (ax : Nat → Nat → Nat → Int32) (qs : Nat) (sx : Nat → Option Nat) (qo : Nat → Nat) (go : Nat → Int32) (ao : Nat → Nat → Int32) (qp : Nat → Nat) (gp_ : Nat → Int32) (ap : Nat → Nat → Int32) (T : List SE) (ix : Nat → Nat) (g : Nat → Int32) (tw : Int64) (a : Nat → Nat → Int32) (m tr tc n : Nat) (h : RLA cg gf af gk ak gl gr ar ax sx T ix g a m tr tc n) : ∃ Pc Pr : Int32 → va_W → Prop, CT E yX5_image cX5_image 1 mX5_image.2.2.2.1 3 0 0 [.ref kq] (wK E kq cg qf gf af qd gd ad qk gk ak ql gl al qr gr ar rx qm qx gx ax qs sx qo go ao qp gp_ ap (shl E T)) (ri Pc) ∧ CT E yX6_image cX6_image 2 mX6_image.2.2.2.1 1 0 0 [.ref (q 0)] (MW E q g tw a) (ri Pr) ∧ ∀ r1 w1 r2 w2, Pc r1 w1 → Pr r2 w2 → r1 = r2 ∧ REL E q kq w1 w2 := by
  obtain ⟨C, hC, hO, ht, hr4, hg4, hG, hF, hE, h0⟩ := h.data
  have hm5 := hG.1.1
  have hgm : gf 0 = nI m := hG.1.2.1
  have h13 : g 13 = nI m := h0.symm.trans hgm
  have h1b : gf 1 = g 14 := h.2.1.g.2.1
  have h2b : gf 2 = g 15 := h.2.1.g.2.2.1
  have hb : ¬ gf 1 ≤ 0 := hG.2.1
  have hb14 : ¬ g 14 = 0 := fun z => hb (by rw [h1b, z]; decide)
  have hM : ∀ i, i < m → MOK (af 2 i) (af 4 i) (af 5 i) := hG.2.2
  refine ⟨_, _, K_image E kq cg qf gf af qd gd ad qk gk ak ql gl al qr gr ar rx qm qx gx ax qs sx qo go ao qp gp_ ap (shl E T), m_image E q g tw a, fun r1 w1 r2 w2 h1 h2 => ?_⟩
  obtain ⟨e1, rfl⟩ := h1
  obtain ⟨e2, rfl⟩ := h2
  have k1 : EQ m 0 (cfs (upd (upd (upd (upd (upd gk 0 (gf 0)) 1 (gf 1)) 2 (gf 2)) 3 (gf 3)) 4 (gf 4)) (va_up (va_up (va_up (va_up (va_up (va_up ak 0 (va_cpy (af 0) (ak 0) 0 0 12)) 1 (va_cpy (af 1) (ak 1) 0 0 12)) 2 (va_cpy (af 2) (ak 2) 0 0 5)) 3 (va_cpy (af 3) (ak 3) 0 0 5)) 4 (va_cpy (af 4) (ak 4) 0 0 5)) 5 (va_cpy (af 5) (ak 5) 0 0 5)) KZ) (cfs gf af KZ) := img_C hm5
  have hgo : ∀ k, ¬ (55 ≤ k ∧ k ≤ 59) → (upd (upd (upd (upd (upd g 55 (g 13)) 56 (g 14)) 57 (g 15)) 58 (g 16)) 59 (g 4)) k = g k := fun k hk => by
    simp only [upd]
    rw [if_neg (by omega), if_neg (by omega), if_neg (by omega), if_neg (by omega), if_neg (by omega)]
  have hao : ∀ j, ¬ (16 ≤ j ∧ j ≤ 20) → (va_up (va_up (va_up (va_up (va_up a 16 (a 4)) 17 (a 5)) 18 (a 7)) 19 (a 8)) 20 (a 9)) j = a j := fun j hj => by rw [up_o (by omega), up_o (by omega), up_o (by omega), up_o (by omega), up_o (by omega)]
  refine ⟨e1.trans (h2b.trans e2.symm), ⟨(upd cg 0 1), qf, gf, af, qd, gd, ad, qk, (upd (upd (upd (upd (upd gk 0 (gf 0)) 1 (gf 1)) 2 (gf 2)) 3 (gf 3)) 4 (gf 4)), (va_up (va_up (va_up (va_up (va_up (va_up ak 0 (va_cpy (af 0) (ak 0) 0 0 12)) 1 (va_cpy (af 1) (ak 1) 0 0 12)) 2 (va_cpy (af 2) (ak 2) 0 0 5)) 3 (va_cpy (af 3) (ak 3) 0 0 5)) 4 (va_cpy (af 4) (ak 4) 0 0 5)) 5 (va_cpy (af 5) (ak 5) 0 0 5)), ql, gl, al, qr, gr, ar, rx, qm, qx, gx, ax, qs, sx, qo, go, ao, qp, gp_, ap, T, ix, (upd (upd (upd (upd (upd g 55 (g 13)) 56 (g 14)) 57 (g 15)) 58 (g 16)) 59 (g 4)), tw, (va_up (va_up (va_up (va_up (va_up a 16 (a 4)) 17 (a 5)) 18 (a 7)) 19 (a 8)) 20 (a 9)), m, tr, tc, n, rfl, rfl, ?_⟩⟩
  obtain ⟨⟨c1, c2, c3, c4, c5, c6⟩, f1, f2, k2, x1, p1, s1⟩ := h
  exact ⟨⟨c1, c2, c3, c4, c5, c6⟩, f1.rf (fun k hk => hgo _ (by omega)) (fun j hj => hao _ (by omega)), f2, Or.inr ⟨(by decide : ¬ (1 : Int32) = 0), m, tr, Nat.le_refl _, (k1.tryE.tr f1.gl).tr img_R, INV.eq (s := cfs gf af KZ) f2 k1, c4, c5, c6⟩, x1.keep rfl rfl, p1.keep rfl rfl, s1.keep rfl rfl rfl rfl⟩
theorem op_back (E : ag) (q : Nat → Nat) (kq : Nat) (cg : Nat → Int32) (qf : Nat → Nat) (gf : Nat → Int32) (af : Nat → Nat → Int32) (qd : Nat → Nat) (gd : Nat → Int32) (ad : Nat → Nat → Int32) (qk : Nat → Nat) (gk : Nat → Int32) (ak : Nat → Nat → Int32) (ql : Nat → Nat) (gl : Nat → Int32) (al : Nat → Nat → Int32) (qr : Nat → Nat) (gr : Nat → Int32) (ar : Nat → Nat → Int32) (rx : Nat) (qm : Nat) (qx : Nat → Nat → Nat) (gx : Nat → Nat → Int32) (ax : Nat → Nat → Nat → Int32) (qs : Nat) (sx : Nat → Option Nat) (qo : Nat → Nat) (go : Nat → Int32) (ao : Nat → Nat → Int32) (qp : Nat → Nat) (gp_ : Nat → Int32) (ap : Nat → Nat → Int32) (T : List SE) (ix : Nat → Nat) (g : Nat → Int32) (tw : Int64) (a : Nat → Nat → Int32) (m tr tc n : Nat) (h : RLA cg gf af gk ak gl gr ar ax sx T ix g a m tr tc n) : ∃ Pc Pr : Int32 → va_W → Prop, CT E yX5_back cX5_back 1 mX5_back.2.2.2.1 3 0 0 [.ref kq] (wK E kq cg qf gf af qd gd ad qk gk ak ql gl al qr gr ar rx qm qx gx ax qs sx qo go ao qp gp_ ap (shl E T)) (ri Pc) ∧ CT E yX6_back cX6_back 2 mX6_back.2.2.2.1 1 0 0 [.ref (q 0)] (MW E q g tw a) (ri Pr) ∧ ∀ r1 w1 r2 w2, Pc r1 w1 → Pr r2 w2 → r1 = r2 ∧ REL E q kq w1 w2 := by
  rcases h.2.2.2.1 with ⟨z1, z2⟩ | ⟨z1, mk, tk, z2, z3, z4, z5, z6, z7⟩
  · refine ⟨_, _, K_back E kq cg qf gf af qd gd ad qk gk ak ql gl al qr gr ar rx qm qx gx ax qs sx qo go ao qp gp_ ap (shl E T), m_backN E q g tw a z2, fun r1 w1 r2 w2 h1 h2 => ?_⟩
    obtain ⟨e2, rfl⟩ := h2
    rcases h1 with ⟨-, e1, rfl⟩ | ⟨b1, -⟩
    · exact ⟨e1.trans e2.symm, REL.s h⟩
    · exact absurd z1 b1
  · have hm5 := z4.m5
    have g55 : g 55 = nI mk := z3.g.1.symm.trans z4.g0
    refine ⟨_, _, K_back E kq cg qf gf af qd gd ad qk gk ak ql gl al qr gr ar rx qm qx gx ax qs sx qo go ao qp gp_ ap (shl E T), m_back E q g tw a mk hm5 g55, fun r1 w1 r2 w2 h1 h2 => ?_⟩
    obtain ⟨e2, rfl⟩ := h2
    rcases h1 with ⟨b1, -⟩ | ⟨-, e1, rfl⟩
    · exact absurd b1 z1
    · have k1 : EQ mk 0 (cfs (upd (upd (upd (upd (upd gf 0 (gk 0)) 1 (gk 1)) 2 (gk 2)) 3 (gk 3)) 4 (gk 4)) (va_up (va_up (va_up (va_up (va_up (va_up af 0 (va_cpy (ak 0) (af 0) 0 0 12)) 1 (va_cpy (ak 1) (af 1) 0 0 12)) 2 (va_cpy (ak 2) (af 2) 0 0 5)) 3 (va_cpy (ak 3) (af 3) 0 0 5)) 4 (va_cpy (ak 4) (af 4) 0 0 5)) 5 (va_cpy (ak 5) (af 5) 0 0 5)) gl) (cfs gk ak gl) := img_C hm5
      have hgo : ∀ k, ¬ (13 ≤ k ∧ k ≤ 16) → ¬ k = 4 → (upd (upd (upd (upd (upd g 13 (g 55)) 14 (g 56)) 15 (g 57)) 16 (g 58)) 4 (g 59)) k = g k := fun k h1 h2 => by
        simp only [upd]
        rw [if_neg (by omega), if_neg (by omega), if_neg (by omega), if_neg (by omega), if_neg (by omega)]
      have hao : ∀ j, ¬ (4 ≤ j ∧ j ≤ 9) ∨ j = 6 → (va_up (va_up (va_up (va_up (va_up a 4 (a 16)) 5 (a 17)) 7 (cp mk (a 18) (a 7))) 8 (cp mk (a 19) (a 8))) 9 (cp mk (a 20) (a 9))) j = a j := fun j hj => by rw [up_o (by omega), up_o (by omega), up_o (by omega), up_o (by omega), up_o (by omega)]
      refine ⟨?_, ⟨cg, qf, (upd (upd (upd (upd (upd gf 0 (gk 0)) 1 (gk 1)) 2 (gk 2)) 3 (gk 3)) 4 (gk 4)), (va_up (va_up (va_up (va_up (va_up (va_up af 0 (va_cpy (ak 0) (af 0) 0 0 12)) 1 (va_cpy (ak 1) (af 1) 0 0 12)) 2 (va_cpy (ak 2) (af 2) 0 0 5)) 3 (va_cpy (ak 3) (af 3) 0 0 5)) 4 (va_cpy (ak 4) (af 4) 0 0 5)) 5 (va_cpy (ak 5) (af 5) 0 0 5)), qd, gd, ad, qk, gk, ak, ql, gl, al, qr, gr, ar, rx, qm, qx, gx, ax, qs, sx, qo, go, ao, qp, gp_, ap, T, ix, (upd (upd (upd (upd (upd g 13 (g 55)) 14 (g 56)) 15 (g 57)) 16 (g 58)) 4 (g 59)), tw, (va_up (va_up (va_up (va_up (va_up a 4 (a 16)) 5 (a 17)) 7 (cp mk (a 18) (a 7))) 8 (cp mk (a 19) (a 8))) 9 (cp mk (a 20) (a 9))), mk, tk, tc, n, rfl, rfl, ?_⟩⟩
      · rw [e1, e2]; exact z3.g.2.2.1
      obtain ⟨⟨c1, c2, c3, c4, c5, c6⟩, f1, f2, k2, x1, p1, s1⟩ := h
      exact ⟨⟨c1, (hgo 3 (by decide) (by decide)).trans c2, c3, z5, z6, z7⟩, (k1.tryE.tr z3.gl).tr back_R, INV.eq (s := cfs gk ak gl) z4 k1, Or.inr ⟨z1, mk, tk, Nat.le_refl _, rkf_keep z3 (fun k hk => hgo _ (by omega) (by omega)) (fun j h1 h2 => hao j (by omega)) (fun i _ => by rw [hao 6 (by decide)]), z4, z5, (hgo 59 (by decide) (by decide)).trans z6, z7⟩, x1.keep (hao 1 (by decide)) (hao 2 (by decide)), p1.keep (hgo 6 (by decide) (by decide)) (hao 3 (by decide)), s1.keep (hao 21 (by decide)) (hao 22 (by decide)) (hao 23 (by decide)) (hao 24 (by decide))⟩
