theorem hE_gap {m i : Nat} {x y : Int32} {f f2 : Nat → Int32} (hm : m ≤ 5) (hi : i < m) (hx : x = nI m) (h : ∀ c, c < m → f c = f2 c) : p_gap x y f (nI i) = p_gap x y f2 (nI i) := by
  unfold p_gap
  rw [hx, nI_clamp (n := i) (by omega), h i hi, h _ (ah_lt m hm i hi)]
theorem told_E {gf gl g : Nat → Int32} {af a : Nat → Nat → Int32} {m : Nat} (h : FEQ m (cfs gf af gl) (rfs g a)) (hm : m ≤ 5) (hgm : gf 0 = nI m) (x1 x2 : Int32) : K_toldR gf af x1 x2 = m_toldR g a x1 x2 := by
  obtain ⟨a0, a1, a2, a3, a4, a5⟩ := h.a
  obtain ⟨g0, g1, g2, g3⟩ := h.g
  have g0 : gf 0 = g 13 := g0
  have g1 : gf 1 = g 14 := g1
  have g2 : gf 2 = g 15 := g2
  have a0 : ∀ c, c < 12 → af 0 c = a 4 c := a0
  have a1 : ∀ c, c < 12 → af 1 c = a 5 c := a1
  have a2 : ∀ c, c < m → af 2 c = a 6 c := a2
  have a3 : ∀ c, c < m → af 3 c = a 7 c := a3
  have a4 : ∀ c, c < m → af 4 c = a 8 c := a4
  have a5 : ∀ c, c < m → af 5 c = a 9 c := a5
  unfold K_toldR m_toldR
  rw [← g0]
  by_cases e01 : x2 = 0 ∨ x2 = 1
  · rw [if_pos e01]
    have e2 : ¬ 2 ≤ x2 := by rcases e01 with rfl | rfl <;> decide
    have e3 : ¬ inI x2 0 7 = 0 := by rcases e01 with rfl | rfl <;> decide
    have e4 : x2 < 2 := by rcases e01 with rfl | rfl <;> decide
    by_cases hc : inI x1 0 11 = 0
    · rw [if_pos hc, if_pos (Or.inr (Or.inl ⟨e2, hc⟩))]
    · have hbad : ¬ (inI x2 0 7 = 0 ∨ (¬ 2 ≤ x2 ∧ inI x1 0 11 = 0) ∨ (¬ x2 < 2 ∧ inI x1 0 (gf 0 - 1) = 0)) := fun z => z.elim e3 (fun z => z.elim (fun z => hc z.2) (fun z => z.1 e4))
      rw [if_neg hc, if_neg hbad]
      obtain ⟨c, hc2, rfl⟩ := cell_nI hc
      rw [nI_clamp (n := c) (by omega)]
      by_cases e0 : x2 = 0
      · rw [if_pos e0, if_pos e0, a0 c hc2]
      · rw [if_neg e0, if_neg e0, if_pos (e01.resolve_left e0), a1 c hc2]
  · rw [if_neg e01]
    have n0 : ¬ x2 = 0 := fun z => e01 (Or.inl z)
    have n1 : ¬ x2 = 1 := fun z => e01 (Or.inr z)
    by_cases hi : inI x1 0 (gf 0 - 1) = 0
    · rw [if_pos hi]
      by_cases h7 : inI x2 0 7 = 0
      · rw [if_pos (Or.inl h7)]
      · have hz : ¬ x2 < 2 := by
          intro z
          have q1 := inI_yes h7
          rw [Int32.lt_iff_toInt_lt] at z
          have t0 : (0 : Int32).toInt = 0 := by decide
          have t2 : (2 : Int32).toInt = 2 := by decide
          have t1 : (1 : Int32).toInt = 1 := by decide
          rw [← Int32.toInt_inj] at n0 n1
          omega
        rw [if_pos (Or.inr (Or.inr ⟨hz, hi⟩))]
    · rw [if_neg hi]
      obtain ⟨i, hi2, rfl⟩ := man_nI hm (hgm ▸ hi)
      by_cases h7 : inI x2 0 7 = 0
      · rw [if_pos (Or.inl h7)]
        have k : ∀ y : Int32, ¬ inI y 0 7 = 0 → ¬ x2 = y := fun y hy z => hy (z ▸ h7)
        rw [if_neg (k 2 (by decide)), if_neg (k 3 (by decide)), if_neg (k 4 (by decide)), if_neg (k 5 (by decide)), if_neg (k 6 (by decide)), if_neg (k 7 (by decide))]
      · have q1 := inI_yes h7
        have t0 : (0 : Int32).toInt = 0 := by decide
        have t1 : (1 : Int32).toInt = 1 := by decide
        have t2 : (2 : Int32).toInt = 2 := by decide
        have t7 : (7 : Int32).toInt = 7 := by decide
        have n0' := n0
        have n1' := n1
        rw [← Int32.toInt_inj] at n0' n1'
        have hbad : ¬ (inI x2 0 7 = 0 ∨ (¬ 2 ≤ x2 ∧ inI (nI i) 0 11 = 0) ∨ (¬ x2 < 2 ∧ inI (nI i) 0 (gf 0 - 1) = 0)) := fun z => z.elim h7 (fun z => z.elim (fun z => z.1 (Int32.le_iff_toInt_le.mpr (by omega))) (fun z => hi z.2))
        rw [if_neg hbad, if_neg n0, if_neg n1, nI_clamp (n := i) (by omega), a2 i hi2, a3 i hi2, a4 i hi2, a5 i hi2, ← g1, ← g2]
        by_cases e2 : x2 = 2
        · rw [if_pos e2, if_pos e2]
        · rw [if_neg e2, if_neg e2]
          by_cases e3 : x2 = 3
          · rw [if_pos e3, if_pos e3]
          · rw [if_neg e3, if_neg e3]
            by_cases e4 : x2 = 4
            · rw [if_pos e4, if_pos e4]
            · rw [if_neg e4, if_neg e4]
              by_cases e5 : x2 = 5
              · rw [if_pos e5, if_pos e5]
              · rw [if_neg e5, if_neg e5]
                by_cases e6 : x2 = 6
                · rw [if_pos e6, if_pos e6]
                · rw [if_neg e6, if_neg e6, if_pos (show x2 = 7 from Int32.toInt_inj.mp (by
                    have t3 : (3 : Int32).toInt = 3 := by decide
                    have t4 : (4 : Int32).toInt = 4 := by decide
                    have t5 : (5 : Int32).toInt = 5 := by decide
                    have t6 : (6 : Int32).toInt = 6 := by decide
                    rw [← Int32.toInt_inj] at e2 e3 e4 e5 e6
                    omega))]
                  exact (hE_gap hm (Nat.lt_of_lt_of_le hi2 (Nat.le_refl _)) hgm a3)
theorem op_told (E : ag) (q : Nat → Nat) (kq : Nat) (cg : Nat → Int32) (qf : Nat → Nat) (gf : Nat → Int32) (af : Nat → Nat → Int32) (qd : Nat → Nat) (gd : Nat → Int32) (ad : Nat → Nat → Int32) (qk : Nat → Nat) (gk : Nat → Int32) (ak : Nat → Nat → Int32) (ql : Nat → Nat) (gl : Nat → Int32) (al : Nat → Nat → Int32) (qr : Nat → Nat) (gr : Nat → Int32) (ar : Nat → Nat → Int32) (rx : Nat) (qm : Nat) (qx : Nat → Nat → Nat) (gx : Nat → Nat → Int32) (ax : Nat → Nat → Nat → Int32) (qs : Nat) (sx : Nat → Option Nat) (qo : Nat → Nat) (go : Nat → Int32) (ao : Nat → Nat → Int32) (qp : Nat → Nat) (gp_ : Nat → Int32) (ap : Nat → Nat → Int32) (T : List SE) (ix : Nat → Nat) (g : Nat → Int32) (tw : Int64) (a : Nat → Nat → Int32) (m tr tc n : Nat) (h : RLA cg gf af gk ak gl gr ar ax sx T ix g a m tr tc n) (x1 x2 : Int32) : ∃ Pc Pr : Int32 → va_W → Prop, CT E yX5_told cX5_told 3 mX5_told.2.2.2.1 3 0 0 [.ref kq, .int x1, .int x2] (wK E kq cg qf gf af qd gd ad qk gk ak ql gl al qr gr ar rx qm qx gx ax qs sx qo go ao qp gp_ ap (shl E T)) (ri Pc) ∧ CT E yX6_told cX6_told 3 mX6_told.2.2.2.1 3 0 0 [.ref (q 0), .int x1, .int x2] (MW E q g tw a) (ri Pr) ∧ ∀ r1 w1 r2 w2, Pc r1 w1 → Pr r2 w2 → r1 = r2 ∧ REL E q kq w1 w2 := by
  obtain ⟨C, hC, hO, ht, hr4, hg4, hG, hF, hE, h0⟩ := h.data
  have hm5 := hG.1.1
  have hgm : gf 0 = nI m := hG.1.2.1
  have h13 : g 13 = nI m := h0.symm.trans hgm
  have h1b : gf 1 = g 14 := h.2.1.g.2.1
  have h2b : gf 2 = g 15 := h.2.1.g.2.2.1
  have hb : ¬ gf 1 ≤ 0 := hG.2.1
  have hb14 : ¬ g 14 = 0 := fun z => hb (by rw [h1b, z]; decide)
  have hM : ∀ i, i < m → MOK (af 2 i) (af 4 i) (af 5 i) := hG.2.2
  refine ⟨_, _, K_told E kq cg qf gf af qd gd ad qk gk ak ql gl al qr gr ar rx qm qx gx ax qs sx qo go ao qp gp_ ap (shl E T) m hm5 hgm hb hM x1 x2, m_told E q g tw a x1 x2 m hm5 h13 hb14, fun r1 w1 r2 w2 h1 h2 => ?_⟩
  obtain ⟨e1, rfl⟩ := h1
  obtain ⟨e2, rfl⟩ := h2
  refine ⟨?_, REL.s h⟩
  rw [e1, e2, told_E h.2.1 hm5 hgm]
theorem op_mends (E : ag) (q : Nat → Nat) (kq : Nat) (cg : Nat → Int32) (qf : Nat → Nat) (gf : Nat → Int32) (af : Nat → Nat → Int32) (qd : Nat → Nat) (gd : Nat → Int32) (ad : Nat → Nat → Int32) (qk : Nat → Nat) (gk : Nat → Int32) (ak : Nat → Nat → Int32) (ql : Nat → Nat) (gl : Nat → Int32) (al : Nat → Nat → Int32) (qr : Nat → Nat) (gr : Nat → Int32) (ar : Nat → Nat → Int32) (rx : Nat) (qm : Nat) (qx : Nat → Nat → Nat) (gx : Nat → Nat → Int32) (ax : Nat → Nat → Nat → Int32) (qs : Nat) (sx : Nat → Option Nat) (qo : Nat → Nat) (go : Nat → Int32) (ao : Nat → Nat → Int32) (qp : Nat → Nat) (gp_ : Nat → Int32) (ap : Nat → Nat → Int32) (T : List SE) (ix : Nat → Nat) (g : Nat → Int32) (tw : Int64) (a : Nat → Nat → Int32) (m tr tc n : Nat) (h : RLA cg gf af gk ak gl gr ar ax sx T ix g a m tr tc n) (x1 x2 : Int32) : ∃ Pc Pr : Int32 → va_W → Prop, CT E yX5_mends cX5_mends 3 mX5_mends.2.2.2.1 3 0 0 [.ref kq, .int x1, .int x2] (wK E kq cg qf gf af qd gd ad qk gk ak ql gl al qr gr ar rx qm qx gx ax qs sx qo go ao qp gp_ ap (shl E T)) (ri Pc) ∧ CT E yX6_mends cX6_mends 3 mX6_mends.2.2.2.1 3 0 0 [.ref (q 0), .int x1, .int x2] (MW E q g tw a) (ri Pr) ∧ ∀ r1 w1 r2 w2, Pc r1 w1 → Pr r2 w2 → r1 = r2 ∧ REL E q kq w1 w2 := by
  obtain ⟨C, hC, hO, ht, hr4, hg4, hG, hF, hE, h0⟩ := h.data
  have hm5 := hG.1.1
  have hgm : gf 0 = nI m := hG.1.2.1
  have h13 : g 13 = nI m := h0.symm.trans hgm
  have h1b : gf 1 = g 14 := h.2.1.g.2.1
  have h2b : gf 2 = g 15 := h.2.1.g.2.2.1
  have hb : ¬ gf 1 ≤ 0 := hG.2.1
  have hb14 : ¬ g 14 = 0 := fun z => hb (by rw [h1b, z]; decide)
  have hM : ∀ i, i < m → MOK (af 2 i) (af 4 i) (af 5 i) := hG.2.2
  refine ⟨_, _, K_mends E kq cg qf gf af qd gd ad qk gk ak ql gl al qr gr ar rx qm qx gx ax qs sx qo go ao qp gp_ ap (shl E T) m hm5 hgm hb hM x1 x2, m_mends E q g tw a x1 x2 m hm5 h13, fun r1 w1 r2 w2 h1 h2 => ?_⟩
  obtain ⟨e1, rfl⟩ := h1
  obtain ⟨e2, rfl⟩ := h2
  refine ⟨?_, REL.s h⟩
  rw [e1, e2, h0]
  by_cases hb : inI x1 0 (g 13 - 1) = 0 ∨ inI x2 (-240) 240 = 0
  · rw [if_pos hb, if_pos hb]
  · rw [if_neg hb, if_neg hb]
    obtain ⟨i, hi, rfl⟩ := man_nI hm5 (show ¬ inI x1 0 (nI m - 1) = 0 from fun z => hb (Or.inl (by rw [h13]; exact z)))
    rw [nI_clamp (n := i) (by omega), show af 2 i = a 6 i from h.2.1.a.2.2.1 i hi, show af 5 i = a 9 i from h.2.1.a.2.2.2.2.2 i hi]
theorem op_count (E : ag) (q : Nat → Nat) (kq : Nat) (cg : Nat → Int32) (qf : Nat → Nat) (gf : Nat → Int32) (af : Nat → Nat → Int32) (qd : Nat → Nat) (gd : Nat → Int32) (ad : Nat → Nat → Int32) (qk : Nat → Nat) (gk : Nat → Int32) (ak : Nat → Nat → Int32) (ql : Nat → Nat) (gl : Nat → Int32) (al : Nat → Nat → Int32) (qr : Nat → Nat) (gr : Nat → Int32) (ar : Nat → Nat → Int32) (rx : Nat) (qm : Nat) (qx : Nat → Nat → Nat) (gx : Nat → Nat → Int32) (ax : Nat → Nat → Nat → Int32) (qs : Nat) (sx : Nat → Option Nat) (qo : Nat → Nat) (go : Nat → Int32) (ao : Nat → Nat → Int32) (qp : Nat → Nat) (gp_ : Nat → Int32) (ap : Nat → Nat → Int32) (T : List SE) (ix : Nat → Nat) (g : Nat → Int32) (tw : Int64) (a : Nat → Nat → Int32) (m tr tc n : Nat) (h : RLA cg gf af gk ak gl gr ar ax sx T ix g a m tr tc n) (x1 : Int32) : ∃ Pc Pr : Int32 → va_W → Prop, CT E yX5_count cX5_count 2 mX5_count.2.2.2.1 1 0 0 [.ref kq, .int x1] (wK E kq cg qf gf af qd gd ad qk gk ak ql gl al qr gr ar rx qm qx gx ax qs sx qo go ao qp gp_ ap (shl E T)) (ri Pc) ∧ CT E yX6_count cX6_count 2 mX6_count.2.2.2.1 2 0 0 [.ref (q 0), .int x1] (MW E q g tw a) (ri Pr) ∧ ∀ r1 w1 r2 w2, Pc r1 w1 → Pr r2 w2 → r1 = r2 ∧ REL E q kq w1 w2 := by
  obtain ⟨C, hC, hO, ht, hr4, hg4, hG, hF, hE, h0⟩ := h.data
  have hm5 := hG.1.1
  have hgm : gf 0 = nI m := hG.1.2.1
  have h13 : g 13 = nI m := h0.symm.trans hgm
  have h1b : gf 1 = g 14 := h.2.1.g.2.1
  have h2b : gf 2 = g 15 := h.2.1.g.2.2.1
  have hb : ¬ gf 1 ≤ 0 := hG.2.1
  have hb14 : ¬ g 14 = 0 := fun z => hb (by rw [h1b, z]; decide)
  have hM : ∀ i, i < m → MOK (af 2 i) (af 4 i) (af 5 i) := hG.2.2
  refine ⟨_, _, K_count E kq cg qf gf af qd gd ad qk gk ak ql gl al qr gr ar rx qm qx gx ax qs sx qo go ao qp gp_ ap (shl E T) x1, m_count E q g tw a x1, fun r1 w1 r2 w2 h1 h2 => ?_⟩
  obtain ⟨e1, rfl⟩ := h1
  obtain ⟨e2, rfl⟩ := h2
  refine ⟨?_, REL.s h⟩
  obtain ⟨⟨c1, c2, c3, c4, c5, c6⟩, f1, f2, k1, y1, p1, s1⟩ := h
  rw [e1, e2, K_cntR, m_cntR, h0, h1b, h2b, show gf 3 = g 16 from f1.g.2.2.2, c1, c2, c4, c5, p1.2.1, p1.2.2.1]
theorem op_taken (E : ag) (q : Nat → Nat) (kq : Nat) (cg : Nat → Int32) (qf : Nat → Nat) (gf : Nat → Int32) (af : Nat → Nat → Int32) (qd : Nat → Nat) (gd : Nat → Int32) (ad : Nat → Nat → Int32) (qk : Nat → Nat) (gk : Nat → Int32) (ak : Nat → Nat → Int32) (ql : Nat → Nat) (gl : Nat → Int32) (al : Nat → Nat → Int32) (qr : Nat → Nat) (gr : Nat → Int32) (ar : Nat → Nat → Int32) (rx : Nat) (qm : Nat) (qx : Nat → Nat → Nat) (gx : Nat → Nat → Int32) (ax : Nat → Nat → Nat → Int32) (qs : Nat) (sx : Nat → Option Nat) (qo : Nat → Nat) (go : Nat → Int32) (ao : Nat → Nat → Int32) (qp : Nat → Nat) (gp_ : Nat → Int32) (ap : Nat → Nat → Int32) (T : List SE) (ix : Nat → Nat) (g : Nat → Int32) (tw : Int64) (a : Nat → Nat → Int32) (m tr tc n : Nat) (h : RLA cg gf af gk ak gl gr ar ax sx T ix g a m tr tc n) (x1 x2 : Int32) : ∃ Pc Pr : Int32 → va_W → Prop, CT E yX5_taken cX5_taken 3 mX5_taken.2.2.2.1 2 0 0 [.ref kq, .int x1, .int x2] (wK E kq cg qf gf af qd gd ad qk gk ak ql gl al qr gr ar rx qm qx gx ax qs sx qo go ao qp gp_ ap (shl E T)) (ri Pc) ∧ CT E yX6_taken cX6_taken 4 mX6_taken.2.2.2.1 3 0 0 [.ref (q 0), .int x1, .int x2] (MW E q g tw a) (ri Pr) ∧ ∀ r1 w1 r2 w2, Pc r1 w1 → Pr r2 w2 → r1 = r2 ∧ REL E q kq w1 w2 := by
  obtain ⟨C, hC, hO, ht, hr4, hg4, hG, hF, hE, h0⟩ := h.data
  have hm5 := hG.1.1
  have hgm : gf 0 = nI m := hG.1.2.1
  have h13 : g 13 = nI m := h0.symm.trans hgm
  have h1b : gf 1 = g 14 := h.2.1.g.2.1
  have h2b : gf 2 = g 15 := h.2.1.g.2.2.1
  have hb : ¬ gf 1 ≤ 0 := hG.2.1
  have hb14 : ¬ g 14 = 0 := fun z => hb (by rw [h1b, z]; decide)
  have hM : ∀ i, i < m → MOK (af 2 i) (af 4 i) (af 5 i) := hG.2.2
  refine ⟨_, _, K_taken E kq cg qf gf af qd gd ad qk gk ak ql gl al qr gr ar rx qm qx gx ax qs sx qo go ao qp gp_ ap (shl E T) m hm5 hgm hM x1 x2, m_taken E q g tw a x1 x2 m hm5 h13 (fun z => by
    obtain ⟨i, hi, rfl⟩ := man_nI hm5 (h13 ▸ z)
    rw [nI_clamp (n := i) (by omega), show a 6 i = af 2 i from (h.2.1.a.2.2.1 i hi).symm]
    obtain ⟨⟨KK, hK1, hK2⟩, -, -⟩ := hM i hi
    rw [hK2]
    exact k_cases hK1), fun r1 w1 r2 w2 h1 h2 => ?_⟩
  obtain ⟨e1, rfl⟩ := h1
  obtain ⟨e2, rfl⟩ := h2
  refine ⟨?_, REL.s h⟩
  rw [h0] at e1
  rcases e1 with ⟨b1, e1⟩ | ⟨b1, b2, e1⟩ | ⟨b1, b2, e1⟩
  · rcases e2 with ⟨d1, e2⟩ | ⟨d1, d2, e2⟩ | ⟨d1, d2, e2⟩
    · rw [e1, e2]
    · exact absurd b1 d1
    · exact absurd b1 d1
  · rcases e2 with ⟨d1, e2⟩ | ⟨d1, d2, e2⟩ | ⟨d1, d2, e2⟩
    · exact absurd d1 b1
    · rw [e1, e2]
    · exact absurd b2 d2
  · rcases e2 with ⟨d1, e2⟩ | ⟨d1, d2, e2⟩ | ⟨d1, d2, e2⟩
    · exact absurd d1 b1
    · exact absurd d2 b2
    · obtain ⟨i, hi, rfl⟩ := man_nI hm5 (h13 ▸ b2)
      rw [nI_clamp (n := i) (by omega), show af 2 i = a 6 i from h.2.1.a.2.2.1 i hi, show af 4 i = a 8 i from h.2.1.a.2.2.2.2.1 i hi] at e1
      rw [nI_clamp (n := i) (by omega)] at e2
      rcases e1 with ⟨u1, e1⟩ | ⟨u1, e1⟩
      · rcases e2 with ⟨u2, e2⟩ | ⟨u2, e2⟩
        · rw [e1, e2]
        · exact absurd u1 u2
      · rcases e2 with ⟨u2, e2⟩ | ⟨u2, e2⟩
        · exact absurd u2 u1
        · rw [e1, e2]
