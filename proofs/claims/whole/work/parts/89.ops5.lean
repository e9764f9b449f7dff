/-- a call that changes sheets alone -/
theorem RLA.shts {cg gf : Nat → Int32} {af : Nat → Nat → Int32} {gk : Nat → Int32} {ak : Nat → Nat → Int32} {gl gr : Nat → Int32} {ar : Nat → Nat → Int32} {ax : Nat → Nat → Nat → Int32} {sx : Nat → Option Nat} {T : List SE} {ix : Nat → Nat} {g : Nat → Int32} {a : Nat → Nat → Int32} {m tr tc n : Nat} (h : RLA cg gf af gk ak gl gr ar ax sx T ix g a m tr tc n) {sx2 : Nat → Option Nat} {T2 : List SE} {ix2 : Nat → Nat} {a2 : Nat → Nat → Int32} (ha : ∀ j, j < 21 → a2 j = a j) (hs : RSh T2 ix2 sx2 a2) : RLA cg gf af gk ak gl gr ar ax sx2 T2 ix2 g a2 m tr tc n := by
  obtain ⟨c, f1, f2, k1, x1, p1, s1⟩ := h
  exact ⟨c, f1.rf (fun _ _ => rfl) (fun j hj => ha _ (by omega)), f2, k1.keep (Nat.le_refl _) (Nat.le_refl _) rfl (fun _ _ _ => rfl) (fun j h1 h2 => ha j (by omega)) (fun i _ => by rw [ha 6 (by decide)]), x1.keep (ha 1 (by decide)) (ha 2 (by decide)), p1.keep rfl (ha 3 (by decide)), hs⟩
theorem RSh.nil {T : List SE} {ix : Nat → Nat} {sx : Nat → Option Nat} {a : Nat → Nat → Int32} (h : RSh T ix sx a) (j : Nat) (k n : Int32) : RSh T ix (va_up sx j none) (shA a j 0 k n) := by
  have e21 : ∀ j2, ¬ j2 = j → shA a j 0 k n 21 j2 = a 21 j2 := fun j2 hj => pk_un (f := a 21) hj
  have e22 : ∀ j2, ¬ j2 = j → shA a j 0 k n 22 j2 = a 22 j2 := fun j2 hj => pk_un (f := a 22) hj
  have e23 : ∀ j2, ¬ j2 = j → shA a j 0 k n 23 j2 = a 23 j2 := fun j2 hj => pk_un (f := a 23) hj
  refine ⟨fun j2 hj2 => ?_, fun j2 j3 h2 h3 n2 n3 => ?_⟩
  · by_cases e : j2 = j
    · subst e
      exact Or.inl ⟨up_at, pk_us (f := a 21)⟩
    · rw [up_o e, e21 _ e, e22 _ e, e23 _ e]
      exact h.1 j2 hj2
  · have q2 : ¬ j2 = j := fun z => n2 (by rw [z]; exact up_at)
    have q3 : ¬ j3 = j := fun z => n3 (by rw [z]; exact up_at)
    rw [up_o q2] at n2
    rw [up_o q3] at n3
    exact h.2 j2 j3 h2 h3 n2 n3
theorem RSh.lt {T : List SE} {ix : Nat → Nat} {sx : Nat → Option Nat} {a : Nat → Nat → Int32} (h : RSh T ix sx a) {j : Nat} (hj : j < 4) (hn : ¬ sx j = none) : ix j < T.length := by
  rcases h.1 j hj with ⟨h1, -⟩ | ⟨-, x, b, k, N, f, h1, -⟩
  · exact absurd h1 hn
  · exact (List.getElem?_eq_some_iff.mp h1).1
theorem RSh.new {T : List SE} {ix : Nat → Nat} {sx : Nat → Option Nat} {a : Nat → Nat → Int32} (h : RSh T ix sx a) {j N x b : Nat} {k n : Int32} (hj : j < 4) (hN : N ≤ 40) (hn : n = nI N) : RSh (T ++ [(x, b, k, N, fun _ => 0)]) (fun j2 => if j2 = j then T.length else ix j2) (va_up sx j (some x)) (va_up (shA a j 1 k n) 24 (zr (40 * j) N (a 24))) := by
  have e21 : ∀ j2, ¬ j2 = j → va_up (shA a j 1 k n) 24 (zr (40 * j) N (a 24)) 21 j2 = a 21 j2 := fun j2 hj => pk_un (f := a 21) hj
  have e22 : ∀ j2, ¬ j2 = j → va_up (shA a j 1 k n) 24 (zr (40 * j) N (a 24)) 22 j2 = a 22 j2 := fun j2 hj => pk_un (f := a 22) hj
  have e23 : ∀ j2, ¬ j2 = j → va_up (shA a j 1 k n) 24 (zr (40 * j) N (a 24)) 23 j2 = a 23 j2 := fun j2 hj => pk_un (f := a 23) hj
  refine ⟨fun j2 hj2 => ?_, fun j2 j3 h2 h3 n2 n3 => ?_⟩
  · by_cases e : j2 = j
    · subst e
      refine Or.inr ⟨?_, x, b, k, N, fun _ => 0, ?_, up_at, hN, pk_us (f := a 22), (pk_us (f := a 23)).trans hn, fun i hi => ?_⟩
      · rw [show va_up (shA a j2 1 k n) 24 (zr (40 * j2) N (a 24)) 21 j2 = 1 from pk_us (f := a 21)]; decide
      · show (T ++ [_])[if j2 = j2 then T.length else ix j2]? = _
        rw [if_pos rfl]
        exact tl_at T _
      · show (0 : Int32) = zr (40 * j2) N (a 24) (40 * j2 + i)
        unfold zr
        rw [if_pos (by omega)]
    · rw [up_o e, e21 _ e, e22 _ e, e23 _ e]
      rcases h.1 j2 hj2 with h1 | ⟨h1, x2, b2, k2, N2, f2, h2, h3, h4, h5, h6, h7⟩
      · exact Or.inl h1
      · refine Or.inr ⟨h1, x2, b2, k2, N2, f2, ?_, h3, h4, h5, h6, fun i hi => ?_⟩
        · show (T ++ [_])[if j2 = j then T.length else ix j2]? = _
          rw [if_neg e, List.getElem?_append_left (List.getElem?_eq_some_iff.mp h2).1]
          exact h2
        · show f2 i = zr (40 * j) N (a 24) (40 * j2 + i)
          unfold zr
          rw [if_neg (by omega)]
          exact h7 i hi
  · show (if j2 = j then T.length else ix j2) = (if j3 = j then T.length else ix j3) → j2 = j3
    by_cases q2 : j2 = j
    · by_cases q3 : j3 = j
      · intro _; rw [q2, q3]
      · rw [up_o q3] at n3
        have := h.lt h3 n3
        rw [if_pos q2, if_neg q3]
        intro z; omega
    · rw [up_o q2] at n2
      by_cases q3 : j3 = j
      · have := h.lt h2 n2
        rw [if_neg q2, if_pos q3]
        intro z; omega
      · rw [up_o q3] at n3
        rw [if_neg q2, if_neg q3]
        exact h.2 j2 j3 h2 h3 n2 n3
/-- one sheet's items set anew -/
theorem RSh.put {T : List SE} {ix : Nat → Nat} {sx : Nat → Option Nat} {a : Nat → Nat → Int32} (h : RSh T ix sx a) {j x b N : Nat} {k : Int32} {f f2 F : Nat → Int32} (hj : j < 4) (hT : T[ix j]? = some (x, b, k, N, f)) (hs : sx j = some x) (h1 : ∀ i, i < N → f2 i = F (40 * j + i)) (h2 : ∀ j2 i, j2 < 4 → ¬ j2 = j → i < 40 → F (40 * j2 + i) = a 24 (40 * j2 + i)) : RSh (T.set (ix j) (x, b, k, N, f2)) ix sx (va_up a 24 F) := by
  have hlt := (List.getElem?_eq_some_iff.mp hT).1
  refine ⟨fun j2 hj2 => ?_, h.2⟩
  by_cases e : j2 = j
  · subst e
    rcases h.1 j2 hj with ⟨q1, -⟩ | ⟨q1, x3, b3, k3, N3, f3, q2, q3, q4, q5, q6, q7⟩
    · rw [hs] at q1; cases q1
    · rw [hT] at q2
      cases q2
      exact Or.inr ⟨q1, x, b, k, N, f2, by rw [List.getElem?_set_self hlt], hs, q4, q5, q6, h1⟩
  · rcases h.1 j2 hj2 with q1 | ⟨q1, x3, b3, k3, N3, f3, q2, q3, q4, q5, q6, q7⟩
    · exact Or.inl q1
    · refine Or.inr ⟨q1, x3, b3, k3, N3, f3, ?_, q3, q4, q5, q6, fun i hi => ?_⟩
      · rw [List.getElem?_set_ne (fun z => e ((h.2 j j2 hj hj2 (by rw [hs]; exact Option.some_ne_none _) (by rw [q3]; exact Option.some_ne_none _) z).symm))]
        exact q2
      · exact (q7 i hi).trans (h2 j2 i hj2 e (by omega)).symm
theorem nI_ej {j j2 : Nat} (h1 : j < 4) (h2 : j2 < 4) (e : nI j = nI j2) : j = j2 := (nI_eq (by omega) (by omega)).mp e
theorem op_sheet (E : ag) (q : Nat → Nat) (kq : Nat) (cg : Nat → Int32) (qf : Nat → Nat) (gf : Nat → Int32) (af : Nat → Nat → Int32) (qd : Nat → Nat) (gd : Nat → Int32) (ad : Nat → Nat → Int32) (qk : Nat → Nat) (gk : Nat → Int32) (ak : Nat → Nat → Int32) (ql : Nat → Nat) (gl : Nat → Int32) (al : Nat → Nat → Int32) (qr : Nat → Nat) (gr : Nat → Int32) (ar : Nat → Nat → Int32) (rx : Nat) (qm : Nat) (qx : Nat → Nat → Nat) (gx : Nat → Nat → Int32) (ax : Nat → Nat → Nat → Int32) (qs : Nat) (sx : Nat → Option Nat) (qo : Nat → Nat) (go : Nat → Int32) (ao : Nat → Nat → Int32) (qp : Nat → Nat) (gp_ : Nat → Int32) (ap : Nat → Nat → Int32) (T : List SE) (ix : Nat → Nat) (g : Nat → Int32) (tw : Int64) (a : Nat → Nat → Int32) (m tr tc n : Nat) (h : RLA cg gf af gk ak gl gr ar ax sx T ix g a m tr tc n) (x1 x2 x3 : Int32) : ∃ Pc Pr : Int32 → va_W → Prop, CT E yX5_sheet cX5_sheet 4 mX5_sheet.2.2.2.1 3 2 42 [.ref kq, .int x1, .int x2, .int x3] (wK E kq cg qf gf af qd gd ad qk gk ak ql gl al qr gr ar rx qm qx gx ax qs sx qo go ao qp gp_ ap (shl E T)) (ri Pc) ∧ CT E yX6_sheet cX6_sheet 5 mX6_sheet.2.2.2.1 3 0 0 [.ref (q 0), .int x1, .int x2, .int x3] (MW E q g tw a) (ri Pr) ∧ ∀ r1 w1 r2 w2, Pc r1 w1 → Pr r2 w2 → r1 = r2 ∧ REL E q kq w1 w2 := by
  obtain ⟨C, hC, hO, ht, hr4, hg4, hG, hF, hE, h0⟩ := h.data
  have hm5 := hG.1.1
  have hgm : gf 0 = nI m := hG.1.2.1
  have h13 : g 13 = nI m := h0.symm.trans hgm
  have h1b : gf 1 = g 14 := h.2.1.g.2.1
  have h2b : gf 2 = g 15 := h.2.1.g.2.2.1
  have hb : ¬ gf 1 ≤ 0 := hG.2.1
  have hb14 : ¬ g 14 = 0 := fun z => hb (by rw [h1b, z]; decide)
  have hM : ∀ i, i < m → MOK (af 2 i) (af 4 i) (af 5 i) := hG.2.2
  refine ⟨_, _, K_sheet E kq cg qf gf af qd gd ad qk gk ak ql gl al qr gr ar rx qm qx gx ax qs sx qo go ao qp gp_ ap T x1 x2 x3, m_sheet E q g tw a x1 x2 x3, fun r1 w1 r2 w2 h1 h2 => ?_⟩
  rcases h1 with ⟨b1, e1, rfl⟩ | ⟨b1, b2, b3, e1, rfl⟩ | ⟨j, hj, s1, b2, b1, e1, rfl⟩ | ⟨j, N, x, b, hj, hN, s1, s3, b2, b1, e1, rfl⟩
  · rcases h2 with ⟨d1, e2, rfl⟩ | ⟨d1, -⟩ | ⟨_, _, _, _, d1, -⟩ | ⟨_, _, _, _, _, _, _, d1, -⟩
    · exact ⟨e1.trans e2.symm, REL.s h⟩
    · exact absurd b1 d1
    · exact absurd b1 d1
    · exact absurd b1 d1
  · rcases h2 with ⟨d1, -⟩ | ⟨d1, d2, d3, e2, rfl⟩ | ⟨_, _, _, d2, -⟩ | ⟨_, N2, _, hN2, _, s4, -⟩
    · exact absurd d1 b1
    · exact ⟨e1.trans e2.symm, REL.s h⟩
    · exact absurd d2 b2
    · rw [s4] at b3; exact absurd b3 (nI_pos (by omega))
  · rcases h2 with ⟨d1, -⟩ | ⟨d1, d2, -⟩ | ⟨j2, hj2, s2, d2, d1, e2, rfl⟩ | ⟨_, _, _, _, _, _, d2, -⟩
    · exact absurd d1 b1
    · exact absurd b2 d2
    · obtain rfl := nI_ej hj hj2 (s1.symm.trans s2)
      exact ⟨e1.trans e2.symm, ⟨cg, qf, gf, af, qd, gd, ad, qk, gk, ak, ql, gl, al, qr, gr, ar, rx, qm, qx, gx, ax, qs, (va_up sx j none), qo, go, ao, qp, gp_, ap, T, ix, g, tw, (shA a j 0 x2 x3), m, tr, tc, n, rfl, rfl, h.shts (fun j3 h3 => by unfold shA; rw [up_o (by omega), up_o (by omega), up_o (by omega)]) (h.2.2.2.2.2.2.nil j x2 x3)⟩⟩
    · exact absurd b2 d2
  · rcases h2 with ⟨d1, -⟩ | ⟨d1, d2, d3, -⟩ | ⟨_, _, _, d2, -⟩ | ⟨j2, N2, hj2, hN2, s2, s4, d2, d1, e2, rfl⟩
    · exact absurd d1 b1
    · rw [s3] at d3; exact absurd d3 (nI_pos (by omega))
    · exact absurd d2 b2
    · obtain rfl := nI_ej hj hj2 (s1.symm.trans s2)
      obtain rfl : N = N2 := (nI_eq (by omega) (by omega)).mp (s3.symm.trans s4)
      exact ⟨e1.trans e2.symm, ⟨cg, qf, gf, af, qd, gd, ad, qk, gk, ak, ql, gl, al, qr, gr, ar, rx, qm, qx, gx, ax, qs, (va_up sx j (some x)), qo, go, ao, qp, gp_, ap, (T ++ [(x, b, x2, N, fun _ => 0)]), (fun j2 => if j2 = j then T.length else ix j2), g, tw, (va_up (shA a j 1 x2 x3) 24 (zr (40 * j) N (a 24))), m, tr, tc, n, rfl, rfl, h.shts (fun j3 h3 => by unfold shA; rw [up_o (by omega), up_o (by omega), up_o (by omega), up_o (by omega)]) (h.2.2.2.2.2.2.new hj hN s3)⟩⟩
theorem sh_in {j : Nat} (hj : j < 4) : ¬ inI (nI j) 0 3 = 0 := by
  have : ∀ j, j < 4 → ¬ inI (nI j) 0 3 = 0 := by decide +kernel
  exact this j hj
theorem it_in {N c : Nat} (hN : N ≤ 40) (hc : c < N) : ¬ inI (nI c) 0 (nI N - 1) = 0 := by
  have : ∀ N, N ≤ 40 → ∀ c, c < N → ¬ inI (nI c) 0 (nI N - 1) = 0 := by decide +kernel
  exact this N hN c hc
theorem op_cell (E : ag) (q : Nat → Nat) (kq : Nat) (cg : Nat → Int32) (qf : Nat → Nat) (gf : Nat → Int32) (af : Nat → Nat → Int32) (qd : Nat → Nat) (gd : Nat → Int32) (ad : Nat → Nat → Int32) (qk : Nat → Nat) (gk : Nat → Int32) (ak : Nat → Nat → Int32) (ql : Nat → Nat) (gl : Nat → Int32) (al : Nat → Nat → Int32) (qr : Nat → Nat) (gr : Nat → Int32) (ar : Nat → Nat → Int32) (rx : Nat) (qm : Nat) (qx : Nat → Nat → Nat) (gx : Nat → Nat → Int32) (ax : Nat → Nat → Nat → Int32) (qs : Nat) (sx : Nat → Option Nat) (qo : Nat → Nat) (go : Nat → Int32) (ao : Nat → Nat → Int32) (qp : Nat → Nat) (gp_ : Nat → Int32) (ap : Nat → Nat → Int32) (T : List SE) (ix : Nat → Nat) (g : Nat → Int32) (tw : Int64) (a : Nat → Nat → Int32) (m tr tc n : Nat) (h : RLA cg gf af gk ak gl gr ar ax sx T ix g a m tr tc n) (x1 x2 x3 : Int32) : ∃ Pc Pr : Int32 → va_W → Prop, CT E yX5_cell cX5_cell 5 mX5_cell.2.2.2.1 2 0 0 [.ref kq, .int x1, .int x2, .int x3] (wK E kq cg qf gf af qd gd ad qk gk ak ql gl al qr gr ar rx qm qx gx ax qs sx qo go ao qp gp_ ap (shl E T)) (ri Pc) ∧ CT E yX6_cell cX6_cell 4 mX6_cell.2.2.2.1 3 0 0 [.ref (q 0), .int x1, .int x2, .int x3] (MW E q g tw a) (ri Pr) ∧ ∀ r1 w1 r2 w2, Pc r1 w1 → Pr r2 w2 → r1 = r2 ∧ REL E q kq w1 w2 := by
  obtain ⟨C, hC, hO, ht, hr4, hg4, hG, hF, hE, h0⟩ := h.data
  have hm5 := hG.1.1
  have hgm : gf 0 = nI m := hG.1.2.1
  have h13 : g 13 = nI m := h0.symm.trans hgm
  have h1b : gf 1 = g 14 := h.2.1.g.2.1
  have h2b : gf 2 = g 15 := h.2.1.g.2.2.1
  have hb : ¬ gf 1 ≤ 0 := hG.2.1
  have hb14 : ¬ g 14 = 0 := fun z => hb (by rw [h1b, z]; decide)
  have hM : ∀ i, i < m → MOK (af 2 i) (af 4 i) (af 5 i) := hG.2.2
  refine ⟨_, _, K_cell E kq cg qf gf af qd gd ad qk gk ak ql gl al qr gr ar rx qm qx gx ax qs sx qo go ao qp gp_ ap T ix h.hsx x1 x2 x3, m_cell E q g tw a x1 x2 x3 h.shi, fun r1 w1 r2 w2 h1 h2 => ?_⟩
  rcases h1 with ⟨b1, e1, rfl⟩ | ⟨j, hj, s1, h1⟩
  · rcases h2 with ⟨d1, e2, rfl⟩ | ⟨j2, hj2, s2, h2⟩
    · exact ⟨e1.trans e2.symm, REL.s h⟩
    · rw [s2] at b1; exact absurd b1 (sh_in hj2)
  · rcases h2 with ⟨d1, -⟩ | ⟨j2, hj2, s2, h2⟩
    · rw [s1] at d1; exact absurd d1 (sh_in hj)
    · obtain rfl := nI_ej hj hj2 (s1.symm.trans s2)
      rcases h.2.2.2.2.2.2.1 j hj with ⟨q1, q2⟩ | ⟨q1, x, b, k, N, f, q2, q3, q4, q5, q6, q7⟩
      · rcases h1 with ⟨-, e1, rfl⟩ | ⟨_, _, _, _, _, -, z, -⟩
        · rcases h2 with ⟨-, e2, rfl⟩ | ⟨z, -⟩
          · exact ⟨e1.trans e2.symm, REL.s h⟩
          · exact absurd q2 z
        · rw [q1] at z; cases z
      · rcases h1 with ⟨z, -⟩ | ⟨x3, b3, k3, N3, f3, z1, z2, z3, h1⟩
        · rw [q3] at z; cases z
        rw [q2] at z1
        cases z1
        rcases h2 with ⟨z, -⟩ | ⟨-, N2, hN2, z4, h2⟩
        · exact absurd z q1
        obtain rfl : N = N2 := (nI_eq (by omega) (by omega)).mp (q6.symm.trans z4)
        rcases h1 with ⟨c1, e1, rfl⟩ | ⟨c, hc, c1, e1, rfl⟩
        · rcases h2 with ⟨d1, e2, rfl⟩ | ⟨c2, hc2, d1, -⟩
          · exact ⟨e1.trans e2.symm, REL.s h⟩
          · rw [d1] at c1; exact absurd c1 (it_in hN2 hc2)
        · rcases h2 with ⟨d1, -⟩ | ⟨c2, hc2, d1, e2, rfl⟩
          · rw [c1] at d1; exact absurd d1 (it_in hN2 hc)
          · obtain rfl : c = c2 := (nI_eq (by omega) (by omega)).mp (c1.symm.trans d1)
            refine ⟨e1.trans e2.symm, ⟨cg, qf, gf, af, qd, gd, ad, qk, gk, ak, ql, gl, al, qr, gr, ar, rx, qm, qx, gx, ax, qs, sx, qo, go, ao, qp, gp_, ap, (T.set (ix j) (x, b, k, N, upd f c (narS k x3))), ix, g, tw, (va_up a 24 (upd (a 24) (40 * j + c) (narS (a 22 j) x3))), m, tr, tc, n, rfl, rfl, h.shts (fun j3 h3 => up_o (by omega)) ?_⟩⟩
            refine h.2.2.2.2.2.2.put hj q2 q3 (fun i hi => ?_) (fun j2 i hj2 hne hi => ?_)
            · simp only [upd]
              rw [q5]
              by_cases e : i = c
              · rw [if_pos e, if_pos (by omega)]
              · rw [if_neg e, if_neg (by omega)]; exact q7 i hi
            · exact pk_un (by omega)
