theorem RLA.data {cg gf : Nat → Int32} {af : Nat → Nat → Int32} {gk : Nat → Int32} {ak : Nat → Nat → Int32} {gl gr : Nat → Int32} {ar : Nat → Nat → Int32} {ax : Nat → Nat → Nat → Int32} {sx : Nat → Option Nat} {T : List SE} {ix : Nat → Nat} {g : Nat → Int32} {a : Nat → Nat → Int32} {m tr tc n : Nat} (h : RLA cg gf af gk ak gl gr ar ax sx T ix g a m tr tc n) : ∃ C, TKC (ax tr) C ∧ TOK (a 1) (a 2) tr C ∧ tr < 6 ∧ gf 4 = nI tr ∧ g 4 = nI tr ∧ GOOD (cfs gf af gl) m ∧ FI (rfs g a) m ∧ EQ m ((rfs g a).1 3) (p_beg (cfs gf af gl)) (p_try (rfs g a)) ∧ gf 0 = g 13 := by
  obtain ⟨⟨c1, c2, c3, c4, c5, c6⟩, f1, f2, k1, x1, p1, s1⟩ := h
  obtain ⟨C, hC, hO⟩ := x1.2 tr c6
  exact ⟨C, hC, hO, by omega, c4, c5, f2.1, f1.fi f2.1.1, f1.beg, f1.g.1⟩
theorem RLA.hsx {cg gf : Nat → Int32} {af : Nat → Nat → Int32} {gk : Nat → Int32} {ak : Nat → Nat → Int32} {gl gr : Nat → Int32} {ar : Nat → Nat → Int32} {ax : Nat → Nat → Nat → Int32} {sx : Nat → Option Nat} {T : List SE} {ix : Nat → Nat} {g : Nat → Int32} {a : Nat → Nat → Int32} {m tr tc n : Nat} (h : RLA cg gf af gk ak gl gr ar ax sx T ix g a m tr tc n) : ∀ j, j < 4 → sx j = none ∨ ∃ (x b : Nat) (k : Int32) (N : Nat) (f : Nat → Int32), T[ix j]? = some (x, b, k, N, f) ∧ sx j = some x ∧ N ≤ 40 := by
  intro j hj
  rcases h.2.2.2.2.2.2.1 j hj with ⟨h1, -⟩ | ⟨-, x, b, k, N, f, h1, h2, h3, -⟩
  · exact Or.inl h1
  · exact Or.inr ⟨x, b, k, N, f, h1, h2, h3⟩
theorem RLA.shi {cg gf : Nat → Int32} {af : Nat → Nat → Int32} {gk : Nat → Int32} {ak : Nat → Nat → Int32} {gl gr : Nat → Int32} {ar : Nat → Nat → Int32} {ax : Nat → Nat → Nat → Int32} {sx : Nat → Option Nat} {T : List SE} {ix : Nat → Nat} {g : Nat → Int32} {a : Nat → Nat → Int32} {m tr tc n : Nat} (h : RLA cg gf af gk ak gl gr ar ax sx T ix g a m tr tc n) : SHI a := by
  intro j hj hne
  rcases h.2.2.2.2.2.2.1 j hj with ⟨-, h1⟩ | ⟨-, x, b, k, N, f, -, -, h3, -, h5, -⟩
  · exact absurd h1 hne
  · exact ⟨N, h3, h5⟩
theorem op_run (E : ag) (q : Nat → Nat) (kq : Nat) (cg : Nat → Int32) (qf : Nat → Nat) (gf : Nat → Int32) (af : Nat → Nat → Int32) (qd : Nat → Nat) (gd : Nat → Int32) (ad : Nat → Nat → Int32) (qk : Nat → Nat) (gk : Nat → Int32) (ak : Nat → Nat → Int32) (ql : Nat → Nat) (gl : Nat → Int32) (al : Nat → Nat → Int32) (qr : Nat → Nat) (gr : Nat → Int32) (ar : Nat → Nat → Int32) (rx : Nat) (qm : Nat) (qx : Nat → Nat → Nat) (gx : Nat → Nat → Int32) (ax : Nat → Nat → Nat → Int32) (qs : Nat) (sx : Nat → Option Nat) (qo : Nat → Nat) (go : Nat → Int32) (ao : Nat → Nat → Int32) (qp : Nat → Nat) (gp_ : Nat → Int32) (ap : Nat → Nat → Int32) (T : List SE) (ix : Nat → Nat) (g : Nat → Int32) (tw : Int64) (a : Nat → Nat → Int32) (m tr tc n : Nat) (h : RLA cg gf af gk ak gl gr ar ax sx T ix g a m tr tc n) (x1 x2 : Int32) : ∃ Pc Pr : Int32 → va_W → Prop, CT E yX5_run cX5_run 3 mX5_run.2.2.2.1 6 0 0 [.ref kq, .int x1, .int x2] (wK E kq cg qf gf af qd gd ad qk gk ak ql gl al qr gr ar rx qm qx gx ax qs sx qo go ao qp gp_ ap (shl E T)) (ri Pc) ∧ CT E yX6_run cX6_run 4 mX6_run.2.2.2.1 48 0 0 [.ref (q 0), .int x1, .int x2] (MW E q g tw a) (ri Pr) ∧ ∀ r1 w1 r2 w2, Pc r1 w1 → Pr r2 w2 → r1 = r2 ∧ REL E q kq w1 w2 := by
  obtain ⟨C, hC, hO, ht, hr4, hg4, hG, hF, hE, h0⟩ := h.data
  refine ⟨_, _, K_run E kq cg qf gf af qd gd ad qk gk ak ql gl al qr gr ar rx qm qx gx ax qs sx qo go ao qp gp_ ap (shl E T) tr m ht C hr4 hC hG x1 x2, m_run E q g tw a tr m C hg4 hO hF x1 x2, fun r1 w1 r2 w2 h1 h2 => ?_⟩
  refine ⟨?_, REL.q (tw := tw) h h1.2 h2.2⟩
  rw [h1.1, h2.1, run_E hE hG.beg]
theorem op_beat (E : ag) (q : Nat → Nat) (kq : Nat) (cg : Nat → Int32) (qf : Nat → Nat) (gf : Nat → Int32) (af : Nat → Nat → Int32) (qd : Nat → Nat) (gd : Nat → Int32) (ad : Nat → Nat → Int32) (qk : Nat → Nat) (gk : Nat → Int32) (ak : Nat → Nat → Int32) (ql : Nat → Nat) (gl : Nat → Int32) (al : Nat → Nat → Int32) (qr : Nat → Nat) (gr : Nat → Int32) (ar : Nat → Nat → Int32) (rx : Nat) (qm : Nat) (qx : Nat → Nat → Nat) (gx : Nat → Nat → Int32) (ax : Nat → Nat → Nat → Int32) (qs : Nat) (sx : Nat → Option Nat) (qo : Nat → Nat) (go : Nat → Int32) (ao : Nat → Nat → Int32) (qp : Nat → Nat) (gp_ : Nat → Int32) (ap : Nat → Nat → Int32) (T : List SE) (ix : Nat → Nat) (g : Nat → Int32) (tw : Int64) (a : Nat → Nat → Int32) (m tr tc n : Nat) (h : RLA cg gf af gk ak gl gr ar ax sx T ix g a m tr tc n) (x1 x2 : Int32) : ∃ Pc Pr : Int32 → va_W → Prop, CT E yX5_beat cX5_beat 3 mX5_beat.2.2.2.1 6 0 0 [.ref kq, .int x1, .int x2] (wK E kq cg qf gf af qd gd ad qk gk ak ql gl al qr gr ar rx qm qx gx ax qs sx qo go ao qp gp_ ap (shl E T)) (ri Pc) ∧ CT E yX6_beat cX6_beat 4 mX6_beat.2.2.2.1 48 0 0 [.ref (q 0), .int x1, .int x2] (MW E q g tw a) (ri Pr) ∧ ∀ r1 w1 r2 w2, Pc r1 w1 → Pr r2 w2 → r1 = r2 ∧ REL E q kq w1 w2 := by
  obtain ⟨C, hC, hO, ht, hr4, hg4, hG, hF, hE, h0⟩ := h.data
  refine ⟨_, _, K_beat E kq cg qf gf af qd gd ad qk gk ak ql gl al qr gr ar rx qm qx gx ax qs sx qo go ao qp gp_ ap (shl E T) tr m ht C hr4 hC hG x1 x2, m_beat E q g tw a tr m C hg4 hO hF x1 x2, fun r1 w1 r2 w2 h1 h2 => ?_⟩
  refine ⟨?_, REL.q (tw := tw) h h1.2 h2.2⟩
  rw [h1.1, h2.1, h0]
  by_cases hb : inI x1 0 (g 13 - 1) = 0 ∨ inI x2 0 40 = 0
  · rw [if_pos hb, if_pos hb]
  · rw [if_neg hb, if_neg hb]
    obtain ⟨i, hi, rfl⟩ := man_nI hG.1.1 (show ¬ inI x1 0 (nI m - 1) = 0 from fun z => hb (Or.inl (by rw [← h0, show gf 0 = nI m from hG.1.2.1]; exact z)))
    have hm5 := hG.1.1
    rw [nI_clamp (n := i) (by omega), (hE.rounds (C := C) hG.beg.1 _).2.2.2.2.1 i hi]
theorem op_holds (E : ag) (q : Nat → Nat) (kq : Nat) (cg : Nat → Int32) (qf : Nat → Nat) (gf : Nat → Int32) (af : Nat → Nat → Int32) (qd : Nat → Nat) (gd : Nat → Int32) (ad : Nat → Nat → Int32) (qk : Nat → Nat) (gk : Nat → Int32) (ak : Nat → Nat → Int32) (ql : Nat → Nat) (gl : Nat → Int32) (al : Nat → Nat → Int32) (qr : Nat → Nat) (gr : Nat → Int32) (ar : Nat → Nat → Int32) (rx : Nat) (qm : Nat) (qx : Nat → Nat → Nat) (gx : Nat → Nat → Int32) (ax : Nat → Nat → Nat → Int32) (qs : Nat) (sx : Nat → Option Nat) (qo : Nat → Nat) (go : Nat → Int32) (ao : Nat → Nat → Int32) (qp : Nat → Nat) (gp_ : Nat → Int32) (ap : Nat → Nat → Int32) (T : List SE) (ix : Nat → Nat) (g : Nat → Int32) (tw : Int64) (a : Nat → Nat → Int32) (m tr tc n : Nat) (h : RLA cg gf af gk ak gl gr ar ax sx T ix g a m tr tc n) : ∃ Pc Pr : Int32 → va_W → Prop, CT E yX5_holds cX5_holds 2 mX5_holds.2.2.2.1 6 0 0 [.ref kq] (wK E kq cg qf gf af qd gd ad qk gk ak ql gl al qr gr ar rx qm qx gx ax qs sx qo go ao qp gp_ ap (shl E T)) (ri Pc) ∧ CT E yX6_holds cX6_holds 3 mX6_holds.2.2.2.1 47 0 0 [.ref (q 0)] (MW E q g tw a) (ri Pr) ∧ ∀ r1 w1 r2 w2, Pc r1 w1 → Pr r2 w2 → r1 = r2 ∧ REL E q kq w1 w2 := by
  obtain ⟨C, hC, hO, ht, hr4, hg4, hG, hF, hE, h0⟩ := h.data
  refine ⟨_, _, K_holds E kq cg qf gf af qd gd ad qk gk ak ql gl al qr gr ar rx qm qx gx ax qs sx qo go ao qp gp_ ap (shl E T) tr m ht C hr4 hC hG, m_holds E q g tw a tr m C hg4 hO hF, fun r1 w1 r2 w2 h1 h2 => ?_⟩
  refine ⟨?_, REL.q (tw := tw) h h1.2 h2.2⟩
  rw [h1.1, h2.1, hE.hold hG.beg.1]
theorem op_bar (E : ag) (q : Nat → Nat) (kq : Nat) (cg : Nat → Int32) (qf : Nat → Nat) (gf : Nat → Int32) (af : Nat → Nat → Int32) (qd : Nat → Nat) (gd : Nat → Int32) (ad : Nat → Nat → Int32) (qk : Nat → Nat) (gk : Nat → Int32) (ak : Nat → Nat → Int32) (ql : Nat → Nat) (gl : Nat → Int32) (al : Nat → Nat → Int32) (qr : Nat → Nat) (gr : Nat → Int32) (ar : Nat → Nat → Int32) (rx : Nat) (qm : Nat) (qx : Nat → Nat → Nat) (gx : Nat → Nat → Int32) (ax : Nat → Nat → Nat → Int32) (qs : Nat) (sx : Nat → Option Nat) (qo : Nat → Nat) (go : Nat → Int32) (ao : Nat → Nat → Int32) (qp : Nat → Nat) (gp_ : Nat → Int32) (ap : Nat → Nat → Int32) (T : List SE) (ix : Nat → Nat) (g : Nat → Int32) (tw : Int64) (a : Nat → Nat → Int32) (m tr tc n : Nat) (h : RLA cg gf af gk ak gl gr ar ax sx T ix g a m tr tc n) (x1 : Int32) : ∃ Pc Pr : Int32 → va_W → Prop, CT E yX5_bar cX5_bar 6 mX5_bar.2.2.2.1 6 0 0 [.ref kq, .int x1] (wK E kq cg qf gf af qd gd ad qk gk ak ql gl al qr gr ar rx qm qx gx ax qs sx qo go ao qp gp_ ap (shl E T)) (ri Pc) ∧ CT E yX6_bar cX6_bar 6 mX6_bar.2.2.2.1 48 0 0 [.ref (q 0), .int x1] (MW E q g tw a) (ri Pr) ∧ ∀ r1 w1 r2 w2, Pc r1 w1 → Pr r2 w2 → r1 = r2 ∧ REL E q kq w1 w2 := by
  obtain ⟨C, hC, hO, ht, hr4, hg4, hG, hF, hE, h0⟩ := h.data
  refine ⟨_, _, K_bar E kq cg qf gf af qd gd ad qk gk ak ql gl al qr gr ar rx qm qx gx ax qs sx qo go ao qp gp_ ap (shl E T) tr m ht C hr4 hC hG h.2.2.1.2.1 x1, m_bar E q g tw a tr m C hg4 hO hF x1, fun r1 w1 r2 w2 h1 h2 => ?_⟩
  refine ⟨?_, REL.q (tw := tw) h h1.2 h2.2⟩
  have hb := bar_E (C := C) hE hG.beg rfl h.2.2.1.2.2.2.1 228 rfl
  rw [show (228 + 1 : Nat) = 229 from rfl] at hb
  rw [h1.1, h2.1, hb]
theorem op_home (E : ag) (q : Nat → Nat) (kq : Nat) (cg : Nat → Int32) (qf : Nat → Nat) (gf : Nat → Int32) (af : Nat → Nat → Int32) (qd : Nat → Nat) (gd : Nat → Int32) (ad : Nat → Nat → Int32) (qk : Nat → Nat) (gk : Nat → Int32) (ak : Nat → Nat → Int32) (ql : Nat → Nat) (gl : Nat → Int32) (al : Nat → Nat → Int32) (qr : Nat → Nat) (gr : Nat → Int32) (ar : Nat → Nat → Int32) (rx : Nat) (qm : Nat) (qx : Nat → Nat → Nat) (gx : Nat → Nat → Int32) (ax : Nat → Nat → Nat → Int32) (qs : Nat) (sx : Nat → Option Nat) (qo : Nat → Nat) (go : Nat → Int32) (ao : Nat → Nat → Int32) (qp : Nat → Nat) (gp_ : Nat → Int32) (ap : Nat → Nat → Int32) (T : List SE) (ix : Nat → Nat) (g : Nat → Int32) (tw : Int64) (a : Nat → Nat → Int32) (m tr tc n : Nat) (h : RLA cg gf af gk ak gl gr ar ax sx T ix g a m tr tc n) : ∃ Pc Pr : Int32 → va_W → Prop, CT E yX5_home cX5_home 4 mX5_home.2.2.2.1 6 0 0 [.ref kq] (wK E kq cg qf gf af qd gd ad qk gk ak ql gl al qr gr ar rx qm qx gx ax qs sx qo go ao qp gp_ ap (shl E T)) (ri Pc) ∧ CT E yX6_home cX6_home 6 mX6_home.2.2.2.1 48 0 0 [.ref (q 0)] (MW E q g tw a) (ri Pr) ∧ ∀ r1 w1 r2 w2, Pc r1 w1 → Pr r2 w2 → r1 = r2 ∧ REL E q kq w1 w2 := by
  obtain ⟨C, hC, hO, ht, hr4, hg4, hG, hF, hE, h0⟩ := h.data
  refine ⟨_, _, K_home E kq cg qf gf af qd gd ad qk gk ak ql gl al qr gr ar rx qm qx gx ax qs sx qo go ao qp gp_ ap (shl E T) tr m ht C hr4 hC hG, m_home E q g tw a tr m C hg4 hO hF, fun r1 w1 r2 w2 h1 h2 => ?_⟩
  refine ⟨?_, REL.q (tw := tw) h h1.2 h2.2⟩
  rw [h1.1, h2.1, home_E hE hG.beg]
theorem op_when (E : ag) (q : Nat → Nat) (kq : Nat) (cg : Nat → Int32) (qf : Nat → Nat) (gf : Nat → Int32) (af : Nat → Nat → Int32) (qd : Nat → Nat) (gd : Nat → Int32) (ad : Nat → Nat → Int32) (qk : Nat → Nat) (gk : Nat → Int32) (ak : Nat → Nat → Int32) (ql : Nat → Nat) (gl : Nat → Int32) (al : Nat → Nat → Int32) (qr : Nat → Nat) (gr : Nat → Int32) (ar : Nat → Nat → Int32) (rx : Nat) (qm : Nat) (qx : Nat → Nat → Nat) (gx : Nat → Nat → Int32) (ax : Nat → Nat → Nat → Int32) (qs : Nat) (sx : Nat → Option Nat) (qo : Nat → Nat) (go : Nat → Int32) (ao : Nat → Nat → Int32) (qp : Nat → Nat) (gp_ : Nat → Int32) (ap : Nat → Nat → Int32) (T : List SE) (ix : Nat → Nat) (g : Nat → Int32) (tw : Int64) (a : Nat → Nat → Int32) (m tr tc n : Nat) (h : RLA cg gf af gk ak gl gr ar ax sx T ix g a m tr tc n) : ∃ Pc Pr : Int32 → va_W → Prop, CT E yX5_when cX5_when 5 mX5_when.2.2.2.1 7 0 0 [.ref kq] (wK E kq cg qf gf af qd gd ad qk gk ak ql gl al qr gr ar rx qm qx gx ax qs sx qo go ao qp gp_ ap (shl E T)) (ri Pc) ∧ CT E yX6_when cX6_when 5 mX6_when.2.2.2.1 48 0 0 [.ref (q 0)] (MW E q g tw a) (ri Pr) ∧ ∀ r1 w1 r2 w2, Pc r1 w1 → Pr r2 w2 → r1 = r2 ∧ REL E q kq w1 w2 := by
  obtain ⟨C, hC, hO, ht, hr4, hg4, hG, hF, hE, h0⟩ := h.data
  refine ⟨_, _, K_when E kq cg qf gf af qd gd ad qk gk ak ql gl al qr gr ar rx qm qx gx ax qs sx qo go ao qp gp_ ap (shl E T) tr m ht C hr4 hC hG h.2.2.1.2.2.1 12 rfl, m_when E q g tw a tr m C hg4 hO hF, fun r1 w1 r2 w2 h1 h2 => ?_⟩
  refine ⟨?_, REL.q (tw := tw) h h1.2 h2.2⟩
  rw [h1.1, h2.1, when_E hE hG.beg 12 rfl]
theorem op_stop (E : ag) (q : Nat → Nat) (kq : Nat) (cg : Nat → Int32) (qf : Nat → Nat) (gf : Nat → Int32) (af : Nat → Nat → Int32) (qd : Nat → Nat) (gd : Nat → Int32) (ad : Nat → Nat → Int32) (qk : Nat → Nat) (gk : Nat → Int32) (ak : Nat → Nat → Int32) (ql : Nat → Nat) (gl : Nat → Int32) (al : Nat → Nat → Int32) (qr : Nat → Nat) (gr : Nat → Int32) (ar : Nat → Nat → Int32) (rx : Nat) (qm : Nat) (qx : Nat → Nat → Nat) (gx : Nat → Nat → Int32) (ax : Nat → Nat → Nat → Int32) (qs : Nat) (sx : Nat → Option Nat) (qo : Nat → Nat) (go : Nat → Int32) (ao : Nat → Nat → Int32) (qp : Nat → Nat) (gp_ : Nat → Int32) (ap : Nat → Nat → Int32) (T : List SE) (ix : Nat → Nat) (g : Nat → Int32) (tw : Int64) (a : Nat → Nat → Int32) (m tr tc n : Nat) (h : RLA cg gf af gk ak gl gr ar ax sx T ix g a m tr tc n) (x1 : Int32) : ∃ Pc Pr : Int32 → va_W → Prop, CT E yX5_stop cX5_stop 4 mX5_stop.2.2.2.1 6 0 0 [.ref kq, .int x1] (wK E kq cg qf gf af qd gd ad qk gk ak ql gl al qr gr ar rx qm qx gx ax qs sx qo go ao qp gp_ ap (shl E T)) (ri Pc) ∧ CT E yX6_stop cX6_stop 5 mX6_stop.2.2.2.1 47 0 0 [.ref (q 0), .int x1] (MW E q g tw a) (ri Pr) ∧ ∀ r1 w1 r2 w2, Pc r1 w1 → Pr r2 w2 → r1 = r2 ∧ REL E q kq w1 w2 := by
  obtain ⟨C, hC, hO, ht, hr4, hg4, hG, hF, hE, h0⟩ := h.data
  refine ⟨_, _, K_stop E kq cg qf gf af qd gd ad qk gk ak ql gl al qr gr ar rx qm qx gx ax qs sx qo go ao qp gp_ ap (shl E T) tr m ht C hr4 hC hG x1, m_stop E q g tw a tr m C hg4 hO hF x1, fun r1 w1 r2 w2 h1 h2 => ?_⟩
  refine ⟨?_, REL.q (tw := tw) h h1.2 h2.2⟩
  rw [h1.1, h2.1, hE.stopE hG.beg.1]
theorem op_fewest (E : ag) (q : Nat → Nat) (kq : Nat) (cg : Nat → Int32) (qf : Nat → Nat) (gf : Nat → Int32) (af : Nat → Nat → Int32) (qd : Nat → Nat) (gd : Nat → Int32) (ad : Nat → Nat → Int32) (qk : Nat → Nat) (gk : Nat → Int32) (ak : Nat → Nat → Int32) (ql : Nat → Nat) (gl : Nat → Int32) (al : Nat → Nat → Int32) (qr : Nat → Nat) (gr : Nat → Int32) (ar : Nat → Nat → Int32) (rx : Nat) (qm : Nat) (qx : Nat → Nat → Nat) (gx : Nat → Nat → Int32) (ax : Nat → Nat → Nat → Int32) (qs : Nat) (sx : Nat → Option Nat) (qo : Nat → Nat) (go : Nat → Int32) (ao : Nat → Nat → Int32) (qp : Nat → Nat) (gp_ : Nat → Int32) (ap : Nat → Nat → Int32) (T : List SE) (ix : Nat → Nat) (g : Nat → Int32) (tw : Int64) (a : Nat → Nat → Int32) (m tr tc n : Nat) (h : RLA cg gf af gk ak gl gr ar ax sx T ix g a m tr tc n) (x1 : Int32) : ∃ Pc Pr : Int32 → va_W → Prop, CT E yX5_fewest cX5_fewest 3 mX5_fewest.2.2.2.1 6 0 0 [.ref kq, .int x1] (wK E kq cg qf gf af qd gd ad qk gk ak ql gl al qr gr ar rx qm qx gx ax qs sx qo go ao qp gp_ ap (shl E T)) (ri Pc) ∧ CT E yX6_fewest cX6_fewest 4 mX6_fewest.2.2.2.1 48 0 0 [.ref (q 0), .int x1] (MW E q g tw a) (ri Pr) ∧ ∀ r1 w1 r2 w2, Pc r1 w1 → Pr r2 w2 → r1 = r2 ∧ REL E q kq w1 w2 := by
  obtain ⟨C, hC, hO, ht, hr4, hg4, hG, hF, hE, h0⟩ := h.data
  refine ⟨_, _, K_fewest E kq cg qf gf af qd gd ad qk gk ak ql gl al qr gr ar rx qm qx gx ax qs sx qo go ao qp gp_ ap (shl E T) tr m ht C hr4 hC hG x1, m_fewest E q g tw a tr m C hg4 hO hF x1, fun r1 w1 r2 w2 h1 h2 => ?_⟩
  refine ⟨?_, REL.q (tw := tw) h h1.2 h2.2⟩
  rw [h1.1, h2.1, few_E hE hG.beg x1 m 1 (by omega)]
theorem op_slow (E : ag) (q : Nat → Nat) (kq : Nat) (cg : Nat → Int32) (qf : Nat → Nat) (gf : Nat → Int32) (af : Nat → Nat → Int32) (qd : Nat → Nat) (gd : Nat → Int32) (ad : Nat → Nat → Int32) (qk : Nat → Nat) (gk : Nat → Int32) (ak : Nat → Nat → Int32) (ql : Nat → Nat) (gl : Nat → Int32) (al : Nat → Nat → Int32) (qr : Nat → Nat) (gr : Nat → Int32) (ar : Nat → Nat → Int32) (rx : Nat) (qm : Nat) (qx : Nat → Nat → Nat) (gx : Nat → Nat → Int32) (ax : Nat → Nat → Nat → Int32) (qs : Nat) (sx : Nat → Option Nat) (qo : Nat → Nat) (go : Nat → Int32) (ao : Nat → Nat → Int32) (qp : Nat → Nat) (gp_ : Nat → Int32) (ap : Nat → Nat → Int32) (T : List SE) (ix : Nat → Nat) (g : Nat → Int32) (tw : Int64) (a : Nat → Nat → Int32) (m tr tc n : Nat) (h : RLA cg gf af gk ak gl gr ar ax sx T ix g a m tr tc n) (x1 : Int32) : ∃ Pc Pr : Int32 → va_W → Prop, CT E yX5_slow cX5_slow 3 mX5_slow.2.2.2.1 6 0 0 [.ref kq, .int x1] (wK E kq cg qf gf af qd gd ad qk gk ak ql gl al qr gr ar rx qm qx gx ax qs sx qo go ao qp gp_ ap (shl E T)) (ri Pc) ∧ CT E yX6_slow cX6_slow 4 mX6_slow.2.2.2.1 48 0 0 [.ref (q 0), .int x1] (MW E q g tw a) (ri Pr) ∧ ∀ r1 w1 r2 w2, Pc r1 w1 → Pr r2 w2 → r1 = r2 ∧ REL E q kq w1 w2 := by
  obtain ⟨C, hC, hO, ht, hr4, hg4, hG, hF, hE, h0⟩ := h.data
  refine ⟨_, _, K_slow E kq cg qf gf af qd gd ad qk gk ak ql gl al qr gr ar rx qm qx gx ax qs sx qo go ao qp gp_ ap (shl E T) tr m ht C hr4 hC hG x1, m_slow E q g tw a tr m C hg4 hO hF x1, fun r1 w1 r2 w2 h1 h2 => ?_⟩
  refine ⟨?_, REL.q (tw := tw) h h1.2 h2.2⟩
  rw [h1.1, h2.1, h0, slow_E hE hG.beg]
theorem op_drawn (E : ag) (q : Nat → Nat) (kq : Nat) (cg : Nat → Int32) (qf : Nat → Nat) (gf : Nat → Int32) (af : Nat → Nat → Int32) (qd : Nat → Nat) (gd : Nat → Int32) (ad : Nat → Nat → Int32) (qk : Nat → Nat) (gk : Nat → Int32) (ak : Nat → Nat → Int32) (ql : Nat → Nat) (gl : Nat → Int32) (al : Nat → Nat → Int32) (qr : Nat → Nat) (gr : Nat → Int32) (ar : Nat → Nat → Int32) (rx : Nat) (qm : Nat) (qx : Nat → Nat → Nat) (gx : Nat → Nat → Int32) (ax : Nat → Nat → Nat → Int32) (qs : Nat) (sx : Nat → Option Nat) (qo : Nat → Nat) (go : Nat → Int32) (ao : Nat → Nat → Int32) (qp : Nat → Nat) (gp_ : Nat → Int32) (ap : Nat → Nat → Int32) (T : List SE) (ix : Nat → Nat) (g : Nat → Int32) (tw : Int64) (a : Nat → Nat → Int32) (m tr tc n : Nat) (h : RLA cg gf af gk ak gl gr ar ax sx T ix g a m tr tc n) (x1 x2 : Int32) : ∃ Pc Pr : Int32 → va_W → Prop, CT E yX5_drawn cX5_drawn 3 mX5_drawn.2.2.2.1 6 0 0 [.ref kq, .int x1, .int x2] (wK E kq cg qf gf af qd gd ad qk gk ak ql gl al qr gr ar rx qm qx gx ax qs sx qo go ao qp gp_ ap (shl E T)) (ri Pc) ∧ CT E yX6_drawn cX6_drawn 6 mX6_drawn.2.2.2.1 48 0 0 [.ref (q 0), .int x1, .int x2] (MW E q g tw a) (ri Pr) ∧ ∀ r1 w1 r2 w2, Pc r1 w1 → Pr r2 w2 → r1 = r2 ∧ REL E q kq w1 w2 := by
  obtain ⟨C, hC, hO, ht, hr4, hg4, hG, hF, hE, h0⟩ := h.data
  refine ⟨_, _, K_drawn E kq cg qf gf af qd gd ad qk gk ak ql gl al qr gr ar rx qm qx gx ax qs sx qo go ao qp gp_ ap (shl E T) tr m ht C hr4 hC hG x1 x2, m_drawn E q g tw a tr m C hg4 hO hF x1 x2, fun r1 w1 r2 w2 h1 h2 => ?_⟩
  refine ⟨?_, REL.q (tw := tw) h h1.2 h2.2⟩
  rw [h1.1, h2.1, drawn_E hE hG.beg]
theorem op_once (E : ag) (q : Nat → Nat) (kq : Nat) (cg : Nat → Int32) (qf : Nat → Nat) (gf : Nat → Int32) (af : Nat → Nat → Int32) (qd : Nat → Nat) (gd : Nat → Int32) (ad : Nat → Nat → Int32) (qk : Nat → Nat) (gk : Nat → Int32) (ak : Nat → Nat → Int32) (ql : Nat → Nat) (gl : Nat → Int32) (al : Nat → Nat → Int32) (qr : Nat → Nat) (gr : Nat → Int32) (ar : Nat → Nat → Int32) (rx : Nat) (qm : Nat) (qx : Nat → Nat → Nat) (gx : Nat → Nat → Int32) (ax : Nat → Nat → Nat → Int32) (qs : Nat) (sx : Nat → Option Nat) (qo : Nat → Nat) (go : Nat → Int32) (ao : Nat → Nat → Int32) (qp : Nat → Nat) (gp_ : Nat → Int32) (ap : Nat → Nat → Int32) (T : List SE) (ix : Nat → Nat) (g : Nat → Int32) (tw : Int64) (a : Nat → Nat → Int32) (m tr tc n : Nat) (h : RLA cg gf af gk ak gl gr ar ax sx T ix g a m tr tc n) (x1 x2 : Int32) : ∃ Pc Pr : Int64 → va_W → Prop, CT E yX5_once cX5_once 3 mX5_once.2.2.2.1 6 0 0 [.ref kq, .int x1, .int x2] (wK E kq cg qf gf af qd gd ad qk gk ak ql gl al qr gr ar rx qm qx gx ax qs sx qo go ao qp gp_ ap (shl E T)) (rl Pc) ∧ CT E yX6_once cX6_once 5 mX6_once.2.2.2.1 45 0 0 [.ref (q 0), .int x1, .int x2] (MW E q g tw a) (rl Pr) ∧ ∀ r1 w1 r2 w2, Pc r1 w1 → Pr r2 w2 → r1 = r2 ∧ REL E q kq w1 w2 := by
  obtain ⟨C, hC, hO, ht, hr4, hg4, hG, hF, hE, h0⟩ := h.data
  refine ⟨_, _, K_once E kq cg qf gf af qd gd ad qk gk ak ql gl al qr gr ar rx qm qx gx ax qs sx qo go ao qp gp_ ap (shl E T) tr m ht C hr4 hC hG x1 x2, m_once E q g tw a tr m C hg4 hO hF x1 x2, fun r1 w1 r2 w2 h1 h2 => ?_⟩
  refine ⟨?_, REL.q (tw := tw) h h1.2 h2.2⟩
  rw [h1.1, h2.1]
  by_cases hb : inI x1 0 11 = 0 ∨ inI x2 0 1 = 0
  · rw [if_pos hb, if_pos hb]
  · rw [if_neg hb, if_neg hb]
    obtain ⟨c, hc, rfl⟩ := cell_nI (fun z => hb (Or.inl z))
    rw [nI_clamp (n := c) (by omega), (once_E (C := C) hE hG.beg rfl hc).1, (once_E (C := C) hE hG.beg rfl hc).2]
    rfl
theorem op_order (E : ag) (q : Nat → Nat) (kq : Nat) (cg : Nat → Int32) (qf : Nat → Nat) (gf : Nat → Int32) (af : Nat → Nat → Int32) (qd : Nat → Nat) (gd : Nat → Int32) (ad : Nat → Nat → Int32) (qk : Nat → Nat) (gk : Nat → Int32) (ak : Nat → Nat → Int32) (ql : Nat → Nat) (gl : Nat → Int32) (al : Nat → Nat → Int32) (qr : Nat → Nat) (gr : Nat → Int32) (ar : Nat → Nat → Int32) (rx : Nat) (qm : Nat) (qx : Nat → Nat → Nat) (gx : Nat → Nat → Int32) (ax : Nat → Nat → Nat → Int32) (qs : Nat) (sx : Nat → Option Nat) (qo : Nat → Nat) (go : Nat → Int32) (ao : Nat → Nat → Int32) (qp : Nat → Nat) (gp_ : Nat → Int32) (ap : Nat → Nat → Int32) (T : List SE) (ix : Nat → Nat) (g : Nat → Int32) (tw : Int64) (a : Nat → Nat → Int32) (m tr tc n : Nat) (h : RLA cg gf af gk ak gl gr ar ax sx T ix g a m tr tc n) (x1 : Int32) : ∃ Pc Pr : Int32 → va_W → Prop, CT E yX5_order cX5_order 3 mX5_order.2.2.2.1 7 0 0 [.ref kq, .int x1] (wK E kq cg qf gf af qd gd ad qk gk ak ql gl al qr gr ar rx qm qx gx ax qs sx qo go ao qp gp_ ap (shl E T)) (ri Pc) ∧ CT E yX6_order cX6_order 4 mX6_order.2.2.2.1 54 0 0 [.ref (q 0), .int x1] (MW E q g tw a) (ri Pr) ∧ ∀ r1 w1 r2 w2, Pc r1 w1 → Pr r2 w2 → r1 = r2 ∧ REL E q kq w1 w2 := by
  obtain ⟨C, hC, hO, ht, hr4, hg4, hG, hF, hE, h0⟩ := h.data
  refine ⟨_, _, K_order E kq cg qf gf af qd gd ad qk gk ak ql gl al qr gr ar rx qm qx gx ax qs sx qo go ao qp gp_ ap (shl E T) tr m ht C hr4 hC hG x1, m_order E q g tw a tr m C hg4 hO hF x1, fun r1 w1 r2 w2 h1 h2 => ?_⟩
  refine ⟨?_, REL.q (tw := tw) h h1.2 h2.2⟩
  have hm5 := hG.1.1
  rw [h0] at h1
  rcases h1.1 with ⟨b1, e1⟩ | ⟨b1, e, he, hd, hq, e1⟩
  · rcases h2.1 with ⟨b2, e2⟩ | ⟨b2, -⟩ | ⟨b2, -⟩
    · rw [e1, e2]
    · exact absurd b1 b2
    · exact absurd b1 b2
  · have hg13 : g 13 = nI m := h0.symm.trans hG.1.2.1
    rw [hg13] at b1
    rcases h2.1 with ⟨b2, -⟩ | ⟨-, hm, e2⟩ | ⟨-, hm, x, y, e2⟩
    · rw [hg13] at b2; exact absurd b2 b1
    · subst hm
      have hx : x1 = -1 := by
        by_cases z : x1 = -1
        · exact z
        · obtain ⟨j, hj, -⟩ := inI_m1 hm5 b1 z
          omega
      rw [e1, e2, if_pos hx, order_0 hG.beg.1]
    · rw [e1, e2]
      rw [order_E hE hG.beg x y m rfl] at hq ⊢
      unfold p_order
      by_cases z : x1 = -1
      · rw [if_pos z, if_pos z]
      · rw [if_neg z, if_neg z, hq, order_d he]
theorem op_judge (E : ag) (q : Nat → Nat) (kq : Nat) (cg : Nat → Int32) (qf : Nat → Nat) (gf : Nat → Int32) (af : Nat → Nat → Int32) (qd : Nat → Nat) (gd : Nat → Int32) (ad : Nat → Nat → Int32) (qk : Nat → Nat) (gk : Nat → Int32) (ak : Nat → Nat → Int32) (ql : Nat → Nat) (gl : Nat → Int32) (al : Nat → Nat → Int32) (qr : Nat → Nat) (gr : Nat → Int32) (ar : Nat → Nat → Int32) (rx : Nat) (qm : Nat) (qx : Nat → Nat → Nat) (gx : Nat → Nat → Int32) (ax : Nat → Nat → Nat → Int32) (qs : Nat) (sx : Nat → Option Nat) (qo : Nat → Nat) (go : Nat → Int32) (ao : Nat → Nat → Int32) (qp : Nat → Nat) (gp_ : Nat → Int32) (ap : Nat → Nat → Int32) (T : List SE) (ix : Nat → Nat) (g : Nat → Int32) (tw : Int64) (a : Nat → Nat → Int32) (m tr tc n : Nat) (h : RLA cg gf af gk ak gl gr ar ax sx T ix g a m tr tc n) (x1 x2 : Int32) : ∃ Pc Pr : Int32 → va_W → Prop, CT E yX5_judge cX5_judge 5 mX5_judge.2.2.2.1 6 0 0 [.ref kq, .int x1, .int x2] (wK E kq cg qf gf af qd gd ad qk gk ak ql gl al qr gr ar rx qm qx gx ax qs sx qo go ao qp gp_ ap (shl E T)) (ri Pc) ∧ CT E yX6_judge cX6_judge 5 mX6_judge.2.2.2.1 47 0 0 [.ref (q 0), .int x1, .int x2] (MW E q g tw a) (ri Pr) ∧ ∀ r1 w1 r2 w2, Pc r1 w1 → Pr r2 w2 → r1 = r2 ∧ REL E q kq w1 w2 := by
  obtain ⟨C, hC, hO, ht, hr4, hg4, hG, hF, hE, h0⟩ := h.data
  refine ⟨_, _, K_judge E kq cg qf gf af qd gd ad qk gk ak ql gl al qr gr ar rx qm qx gx ax qs sx qo go ao qp gp_ ap T ix h.hsx tr m ht C hr4 hC hG x1 x2, m_judge E q g tw a tr m C hg4 hO hF x1 x2 h.shi, fun r1 w1 r2 w2 h1 h2 => ?_⟩
  refine ⟨?_, REL.q (tw := tw) h h1.2 h2.2⟩
  rw [h0] at h1
  rcases h1.1 with ⟨b1, e1⟩ | ⟨b1, j, hj, rfl, e1⟩
  · rw [e1, h2.1, if_pos b1]
  · rw [h2.1, if_neg b1, nI_clamp (n := j) (by omega)]
    rcases h.2.2.2.2.2.2.1 j hj with ⟨s1, s2⟩ | ⟨s1, x, b, k, N, f, s2, s3, s4, s5, s6, s7⟩
    · rw [if_pos s2]
      rcases e1 with ⟨-, e1⟩ | ⟨x, b, k, N, f, -, e1, -⟩
      · exact e1
      · rw [s1] at e1; cases e1
    · rw [if_neg s1, s6, nI_clamp (n := N) (by omega)]
      rcases e1 with ⟨e1, -⟩ | ⟨x2, b2, k2, N2, f2, e1, -, -, e4⟩
      · rw [s3] at e1; cases e1
      · rw [s2] at e1
        cases e1
        rw [e4]
        obtain ⟨i, hi, rfl⟩ := man_nI hG.1.1 (show ¬ inI x1 0 (nI m - 1) = 0 from fun z => b1 (Or.inl (by rw [← h0, show gf 0 = nI m from hG.1.2.1]; exact z)))
        have hm5 := hG.1.1
        rw [nI_clamp (n := i) (by omega)]
        exact hE.judgeE hG.beg.1 hi s7 N 0 (by omega)
