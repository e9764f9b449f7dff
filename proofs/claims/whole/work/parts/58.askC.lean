/-- the class's world behind a question: its floor, image, texts, tape, sheets as they were -/
def QK (E : ag) (kq : Nat) (cg : Nat → Int32) (qf : Nat → Nat) (gf : Nat → Int32) (af : Nat → Nat → Int32) (qd : Nat → Nat) (gd : Nat → Int32) (ad : Nat → Nat → Int32) (qk : Nat → Nat) (gk : Nat → Int32) (ak : Nat → Nat → Int32) (ql : Nat → Nat) (gl : Nat → Int32) (al : Nat → Nat → Int32) (qr : Nat → Nat) (gr : Nat → Int32) (ar : Nat → Nat → Int32) (rx : Nat) (qm : Nat) (qx : Nat → Nat → Nat) (gx : Nat → Nat → Int32) (ax : Nat → Nat → Nat → Int32) (qs : Nat) (sx : Nat → Option Nat) (qo : Nat → Nat) (go : Nat → Int32) (ao : Nat → Nat → Int32) (qp : Nat → Nat) (gp_ : Nat → Int32) (ap : Nat → Nat → Int32) (L : va_W) (w : va_W) : Prop := ∃ (gd2 : Nat → Int32) (ad2 : Nat → Nat → Int32) (gl2 : Nat → Int32) (al2 : Nat → Nat → Int32) (go2 : Nat → Int32) (ao2 : Nat → Nat → Int32) (gp2 : Nat → Int32) (ap2 : Nat → Nat → Int32), w = wK E kq cg qf gf af qd gd2 ad2 qk gk ak ql gl2 al2 qr gr ar rx qm qx gx ax qs sx qo go2 ao2 qp gp2 ap2 L
theorem EQ.o0 {m : Nat} {s t : FS} (h : EQ m 0 s t) : s.1 3 = t.1 3 := by have := h.1.2.2.2.1; rw [Int32.add_zero] at this; exact this
def p_runC (C : Nat → List Int32) (s : FS) (j : Nat) (what : Int32) : Int32 := if what = 0 then (p_rounds C j s).1 3 else if what = 1 then (p_rounds C j s).1 4 else if what = 2 then (p_rounds C j s).1 5 else sm ((p_rounds C j s).2 0) 12
theorem sw02 {x : Int32} (h : x.toInt < 0 ∨ 2 < x.toInt) : ¬ x = 0 ∧ ¬ x = 1 ∧ ¬ x = 2 := ⟨fun z => by subst z; exact absurd h (by decide), fun z => by subst z; exact absurd h (by decide), fun z => by subst z; exact absurd h (by decide)⟩
set_option maxRecDepth 100000 in
set_option maxHeartbeats 400000 in
theorem K_run (E : ag) (kq : Nat) (cg : Nat → Int32) (qf : Nat → Nat) (gf : Nat → Int32) (af : Nat → Nat → Int32) (qd : Nat → Nat) (gd : Nat → Int32) (ad : Nat → Nat → Int32) (qk : Nat → Nat) (gk : Nat → Int32) (ak : Nat → Nat → Int32) (ql : Nat → Nat) (gl : Nat → Int32) (al : Nat → Nat → Int32) (qr : Nat → Nat) (gr : Nat → Int32) (ar : Nat → Nat → Int32) (rx : Nat) (qm : Nat) (qx : Nat → Nat → Nat) (gx : Nat → Nat → Int32) (ax : Nat → Nat → Nat → Int32) (qs : Nat) (sx : Nat → Option Nat) (qo : Nat → Nat) (go : Nat → Int32) (ao : Nat → Nat → Int32) (qp : Nat → Nat) (gp_ : Nat → Int32) (ap : Nat → Nat → Int32) (L : va_W) (t m : Nat) (ht : t < 6) (C : Nat → List Int32) (hr4 : gf 4 = nI t) (hC : TKC (ax t) C) (hG : GOOD (cfs gf af gl) m) (n what : Int32) : CT E yX5_run cX5_run 3 mX5_run.2.2.2.1 6 0 0 [.ref kq, .int n, .int what] (wK E kq cg qf gf af qd gd ad qk gk ak ql gl al qr gr ar rx qm qx gx ax qs sx qo go ao qp gp_ ap L) (ri (fun r w => r = (if inI n 0 40 = 0 ∨ inI what 0 3 = 0 then -2 else p_runC C (p_beg (cfs gf af gl)) n.toNatClampNeg what) ∧ QK E kq cg qf gf af qd gd ad qk gk ak ql gl al qr gr ar rx qm qx gx ax qs sx qo go ao qp gp_ ap L w)) := by
  refine CT.of (M := mX5_run) (ls := [some (.ref kq), some (.int n), some (.int what)]) (by decide) rfl (by decide) rfl (Nat.le_of_ble_eq_true rfl) ?_
  refine A_iload_n (dX5_run 0 rfl) rfl ?_
  refine A_bipush (40) (dX5_run 1 rfl) (by decide +kernel) ?_
  refine A_callSWi 2 (dX5_run 2 rfl) cbX5_within cwX5_87 (k_within E _ n 40) rfl rfl (Nat.le_of_ble_eq_true rfl) (Nat.le_of_ble_eq_true rfl) (Nat.le_of_ble_eq_true rfl) (Nat.le_of_ble_eq_true rfl) (Nat.le_of_ble_eq_true rfl) ?_
  rintro r3 w1 ⟨rfl, rfl⟩
  refine AW.pcq (pc2 := 6) rfl ?_
  refine A_if_eq 17 (dX5_run 3 rfl) (by decide) (fun h6 => ?_) (fun h6 => ?_)
  · refine A_bipush (-2) (dX5_run 8 rfl) (by decide +kernel) ?_
    refine A_ri (dX5_run 9 rfl) rfl rfl ?_
    exact ⟨by rw [if_pos (by first | exact Or.inl (by assumption) | exact Or.inr (by assumption))], ⟨gd, ad, gl, al, go, ao, gp_, ap, rfl⟩⟩
  · refine A_iload_n (dX5_run 4 rfl) rfl ?_
    refine A_iconst (3) (dX5_run 5 rfl) (by decide +kernel) ?_
    refine A_callSWi 2 (dX5_run 6 rfl) cbX5_within cwX5_87 (k_within E _ what 3) rfl rfl (Nat.le_of_ble_eq_true rfl) (Nat.le_of_ble_eq_true rfl) (Nat.le_of_ble_eq_true rfl) (Nat.le_of_ble_eq_true rfl) (Nat.le_of_ble_eq_true rfl) ?_
    rintro r11 w1 ⟨rfl, rfl⟩
    refine AW.pcq (pc2 := 14) rfl ?_
    refine A_if_ne 20 (dX5_run 7 rfl) (by decide) (fun h14 => ?_) (fun h14 => ?_)
    · rw [if_neg (fun z => z.elim h6 h14)]
      obtain ⟨j, hj, rfl⟩ := in40 h6
      rw [nI_clamp (n := j) (by omega)]
      refine A_aload_n (dX5_run 10 rfl) rfl ?_
      refine A_callVWv 0 (dX5_run 11 rfl) cbX5_beginTrial cwX5_165 (K_begin E kq cg qf gf af qd gd ad qk gk ak ql gl al qr gr ar rx qm qx gx ax qs sx qo go ao qp gp_ ap L) rfl rfl wK_0 rfl rfl (Nat.le_of_ble_eq_true rfl) (Nat.le_of_ble_eq_true rfl) (Nat.le_of_ble_eq_true rfl) (Nat.le_of_ble_eq_true rfl) (Nat.le_of_ble_eq_true rfl) ?_
      rintro w1 rfl
      have hE := kb_EQ (gd := gd) (ad := ad) (gf := gf) (af := af) (gl := gl) (gl0 := gl) hG.1.1
      have hGB := hG.beg.eq hE
      refine AW.pcq (pc2 := 24) rfl ?_
      refine A_aload_n (dX5_run 12 rfl) rfl ?_
      refine A_iload_n (dX5_run 13 rfl) rfl ?_
      refine A_callVWv 1 (dX5_run 14 rfl) cbX5_tryRounds cwX5_168 (K_tryT E kq cg qf gf af qd (kbG gd gf) (kbA ad af) qk gk ak ql (kbL gl) al qr gr ar rx qm qx gx ax qs sx qo go ao qp gp_ ap L t m ht C hr4 hC j (by omega) _ rfl rfl hGB) rfl rfl wK_0 rfl rfl (Nat.le_of_ble_eq_true rfl) (Nat.le_of_ble_eq_true rfl) (Nat.le_of_ble_eq_true rfl) (Nat.le_of_ble_eq_true rfl) (Nat.le_of_ble_eq_true rfl) ?_
      rintro w1 ⟨gd2, ad2, gl2, al2, rfl, h2, hl2⟩
      have hE2 := hE.rounds (C := C) hGB.1 j
      rw [← h2] at hE2
      refine AW.pcq (pc2 := 29) rfl ?_
      refine A_iload_n (dX5_run 15 rfl) rfl ?_
      by_cases hs30 : (what : Int32).toInt < (0 : Int) ∨ (2 : Int) < (what : Int32).toInt
      · refine A_tableOut 80 (dX5_run 16 rfl) hs30 (by decide) ?_
        refine A_aload_n (dX5_run 29 rfl) rfl ?_
        refine A_get (dX5_run 30 rfl) fwX5_16 wK_0 cK_f0_1 ?_
        refine A_callVi 0 (dX5_run 31 rfl) cbX1_allEars cwX5_178 (f_allEars E qd gd2 ad2) rfl rfl wF_0 rfl rfl [8, 9, 10, 11, 12, 13, 14] rfl rfl (Nat.le_of_ble_eq_true rfl) (Nat.le_of_ble_eq_true rfl) (Nat.le_of_ble_eq_true rfl) (Nat.le_of_ble_eq_true rfl) (Nat.le_of_ble_eq_true rfl) (by rintro _ _ ⟨_, rfl⟩; exact (Nat.le_of_ble_eq_true rfl)) ?_
        rintro r84 w1 ⟨rfl, rfl⟩
        refine AW.world (ws2 := wK E kq cg qf gf af qd gd2 ad2 qk gk ak ql gl2 al2 qr gr ar rx qm qx gx ax qs sx qo go ao qp gp_ ap L) mK_d ?_
        refine AW.pcq (pc2 := 87) rfl ?_
        refine A_ri (dX5_run 32 rfl) rfl rfl ?_
        refine ⟨?_, ⟨gd2, ad2, gl2, al2, go, ao, gp_, ap, rfl⟩⟩
        obtain ⟨z0, z1, z2⟩ := sw02 hs30
        unfold p_runC
        rw [if_neg z0, if_neg z1, if_neg z2]
        exact hE2.sum
      by_cases hc30_0 : what = (0 : Int32)
      · refine A_tableIn (26) 56 (dX5_run 16 rfl) (by rw [hc30_0]; decide) (by rw [hc30_0]; decide) (by rw [hc30_0]; rfl) (by decide) ?_
        refine A_aload_n (dX5_run 17 rfl) rfl ?_
        refine A_get (dX5_run 18 rfl) fwX5_16 wK_0 cK_f0_1 ?_
        refine A_get (dX5_run 19 rfl) fwX5_155 wK_8 cF_f0_9 ?_
        refine A_ri (dX5_run 20 rfl) rfl rfl ?_
        refine ⟨?_, ⟨gd2, ad2, gl2, al2, go, ao, gp_, ap, rfl⟩⟩
        rw [hc30_0]
        exact hE2.o0
      by_cases hc30_1 : what = (1 : Int32)
      · refine A_tableIn (34) 64 (dX5_run 16 rfl) (by rw [hc30_1]; decide) (by rw [hc30_1]; decide) (by rw [hc30_1]; rfl) (by decide) ?_
        refine A_aload_n (dX5_run 21 rfl) rfl ?_
        refine A_get (dX5_run 22 rfl) fwX5_29 wK_0 cK_f0_4 ?_
        refine A_get (dX5_run 23 rfl) fwX5_172 wK_22 cL_f0_4 ?_
        refine A_ri (dX5_run 24 rfl) rfl rfl ?_
        refine ⟨?_, ⟨gd2, ad2, gl2, al2, go, ao, gp_, ap, rfl⟩⟩
        rw [hc30_1]
        exact hE2.1.2.2.2.2.1
      have hc30_2 : what = (2 : Int32) := by
        apply Int32.toInt_inj.mp
        have hq := not_or.mp hs30
        have e0 : (2 : Int32).toInt = 2 := by decide
        have n0 : ¬ (what : Int32).toInt = 0 := fun hh => hc30_0 (Int32.toInt_inj.mp (hh.trans (by decide)))
        have n1 : ¬ (what : Int32).toInt = 1 := fun hh => hc30_1 (Int32.toInt_inj.mp (hh.trans (by decide)))
        omega
      refine A_tableIn (42) 72 (dX5_run 16 rfl) (by rw [hc30_2]; decide) (by rw [hc30_2]; decide) (by rw [hc30_2]; rfl) (by decide) ?_
      refine A_aload_n (dX5_run 25 rfl) rfl ?_
      refine A_get (dX5_run 26 rfl) fwX5_29 wK_0 cK_f0_4 ?_
      refine A_get (dX5_run 27 rfl) fwX5_175 wK_22 cL_f0_5 ?_
      refine A_ri (dX5_run 28 rfl) rfl rfl ?_
      refine ⟨?_, ⟨gd2, ad2, gl2, al2, go, ao, gp_, ap, rfl⟩⟩
      rw [hc30_2]
      exact hE2.1.2.2.2.2.2
    · refine A_bipush (-2) (dX5_run 8 rfl) (by decide +kernel) ?_
      refine A_ri (dX5_run 9 rfl) rfl rfl ?_
      exact ⟨by rw [if_pos (by first | exact Or.inl (by assumption) | exact Or.inr (by assumption))], ⟨gd, ad, gl, al, go, ao, gp_, ap, rfl⟩⟩

set_option maxRecDepth 100000 in
set_option maxHeartbeats 400000 in
theorem K_beat (E : ag) (kq : Nat) (cg : Nat → Int32) (qf : Nat → Nat) (gf : Nat → Int32) (af : Nat → Nat → Int32) (qd : Nat → Nat) (gd : Nat → Int32) (ad : Nat → Nat → Int32) (qk : Nat → Nat) (gk : Nat → Int32) (ak : Nat → Nat → Int32) (ql : Nat → Nat) (gl : Nat → Int32) (al : Nat → Nat → Int32) (qr : Nat → Nat) (gr : Nat → Int32) (ar : Nat → Nat → Int32) (rx : Nat) (qm : Nat) (qx : Nat → Nat → Nat) (gx : Nat → Nat → Int32) (ax : Nat → Nat → Nat → Int32) (qs : Nat) (sx : Nat → Option Nat) (qo : Nat → Nat) (go : Nat → Int32) (ao : Nat → Nat → Int32) (qp : Nat → Nat) (gp_ : Nat → Int32) (ap : Nat → Nat → Int32) (L : va_W) (t m : Nat) (ht : t < 6) (C : Nat → List Int32) (hr4 : gf 4 = nI t) (hC : TKC (ax t) C) (hG : GOOD (cfs gf af gl) m) (i n : Int32) : CT E yX5_beat cX5_beat 3 mX5_beat.2.2.2.1 6 0 0 [.ref kq, .int i, .int n] (wK E kq cg qf gf af qd gd ad qk gk ak ql gl al qr gr ar rx qm qx gx ax qs sx qo go ao qp gp_ ap L) (ri (fun r w => r = (if inI i 0 (gf 0 - 1) = 0 ∨ inI n 0 40 = 0 then -2 else (p_rounds C n.toNatClampNeg (p_beg (cfs gf af gl))).2 3 i.toNatClampNeg) ∧ QK E kq cg qf gf af qd gd ad qk gk ak ql gl al qr gr ar rx qm qx gx ax qs sx qo go ao qp gp_ ap L w)) := by
  refine CT.of (M := mX5_beat) (ls := [some (.ref kq), some (.int i), some (.int n)]) (by decide) rfl (by decide) rfl (Nat.le_of_ble_eq_true rfl) ?_
  refine A_aload_n (dX5_beat 0 rfl) rfl ?_
  refine A_iload_n (dX5_beat 1 rfl) rfl ?_
  refine A_callVWi 1 (dX5_beat 2 rfl) cbX5_isMan cwX5_110 (K_isMan E kq cg qf gf af qd gd ad qk gk ak ql gl al qr gr ar rx qm qx gx ax qs sx qo go ao qp gp_ ap L i m hG.1.1 hG.1.2.1) rfl rfl wK_0 rfl rfl (Nat.le_of_ble_eq_true rfl) (Nat.le_of_ble_eq_true rfl) (Nat.le_of_ble_eq_true rfl) (Nat.le_of_ble_eq_true rfl) (Nat.le_of_ble_eq_true rfl) ?_
  rintro r2 w1 ⟨rfl, rfl⟩
  refine AW.pcq (pc2 := 5) rfl ?_
  refine A_if_eq 17 (dX5_beat 3 rfl) (by decide) (fun h5 => ?_) (fun h5 => ?_)
  · refine A_bipush (-2) (dX5_beat 8 rfl) (by decide +kernel) ?_
    refine A_ri (dX5_beat 9 rfl) rfl rfl ?_
    exact ⟨by rw [if_pos (by first | exact Or.inl (by assumption) | exact Or.inr (by assumption))], ⟨gd, ad, gl, al, go, ao, gp_, ap, rfl⟩⟩
  · refine A_iload_n (dX5_beat 4 rfl) rfl ?_
    refine A_bipush (40) (dX5_beat 5 rfl) (by decide +kernel) ?_
    refine A_callSWi 2 (dX5_beat 6 rfl) cbX5_within cwX5_87 (k_within E _ n 40) rfl rfl (Nat.le_of_ble_eq_true rfl) (Nat.le_of_ble_eq_true rfl) (Nat.le_of_ble_eq_true rfl) (Nat.le_of_ble_eq_true rfl) (Nat.le_of_ble_eq_true rfl) ?_
    rintro r11 w1 ⟨rfl, rfl⟩
    refine AW.pcq (pc2 := 14) rfl ?_
    refine A_if_ne 20 (dX5_beat 7 rfl) (by decide) (fun h14 => ?_) (fun h14 => ?_)
    · rw [if_neg (fun z => z.elim h5 h14)]
      obtain ⟨j, hj, rfl⟩ := in40 h14
      have hgf0 : gf 0 = nI m := hG.1.2.1
      rw [hgf0] at h5
      obtain ⟨i0, hi0, rfl⟩ := man_nI hG.1.1 h5
      have hm5 := hG.1.1
      rw [nI_clamp (n := j) (by omega), nI_clamp (n := i0) (by omega)]
      refine A_aload_n (dX5_beat 10 rfl) rfl ?_
      refine A_callVWv 0 (dX5_beat 11 rfl) cbX5_beginTrial cwX5_165 (K_begin E kq cg qf gf af qd gd ad qk gk ak ql gl al qr gr ar rx qm qx gx ax qs sx qo go ao qp gp_ ap L) rfl rfl wK_0 rfl rfl (Nat.le_of_ble_eq_true rfl) (Nat.le_of_ble_eq_true rfl) (Nat.le_of_ble_eq_true rfl) (Nat.le_of_ble_eq_true rfl) (Nat.le_of_ble_eq_true rfl) ?_
      rintro w1 rfl
      have hE := kb_EQ (gd := gd) (ad := ad) (gf := gf) (af := af) (gl := gl) (gl0 := gl) hG.1.1
      have hGB := hG.beg.eq hE
      refine AW.pcq (pc2 := 24) rfl ?_
      refine A_aload_n (dX5_beat 12 rfl) rfl ?_
      refine A_iload_n (dX5_beat 13 rfl) rfl ?_
      refine A_callVWv 1 (dX5_beat 14 rfl) cbX5_tryRounds cwX5_168 (K_tryT E kq cg qf gf af qd (kbG gd gf) (kbA ad af) qk gk ak ql (kbL gl) al qr gr ar rx qm qx gx ax qs sx qo go ao qp gp_ ap L t m ht C hr4 hC j (by omega) _ rfl rfl hGB) rfl rfl wK_0 rfl rfl (Nat.le_of_ble_eq_true rfl) (Nat.le_of_ble_eq_true rfl) (Nat.le_of_ble_eq_true rfl) (Nat.le_of_ble_eq_true rfl) (Nat.le_of_ble_eq_true rfl) ?_
      rintro w1 ⟨gd2, ad2, gl2, al2, rfl, h2, hl2⟩
      have hE2 := hE.rounds (C := C) hGB.1 j
      rw [← h2] at hE2
      refine AW.pcq (pc2 := 29) rfl ?_
      refine A_aload_n (dX5_beat 15 rfl) rfl ?_
      refine A_get (dX5_beat 16 rfl) fwX5_16 wK_0 cK_f0_1 ?_
      refine A_get (dX5_beat 17 rfl) fwX5_113 wK_8 cF_f0_3 ?_
      refine A_iload_n (dX5_beat 18 rfl) rfl ?_
      refine A_iald (dX5_beat 19 rfl) wK_12 (vp_in_nI (n := i0) (by omega) (by decide)) ?_
      rw [nI_clamp (n := i0) (by omega)]
      refine A_ri (dX5_beat 20 rfl) rfl rfl ?_
      exact ⟨hE2.2.2.2.2.1 i0 hi0, ⟨gd2, ad2, gl2, al2, go, ao, gp_, ap, rfl⟩⟩
    · refine A_bipush (-2) (dX5_beat 8 rfl) (by decide +kernel) ?_
      refine A_ri (dX5_beat 9 rfl) rfl rfl ?_
      exact ⟨by rw [if_pos (by first | exact Or.inl (by assumption) | exact Or.inr (by assumption))], ⟨gd, ad, gl, al, go, ao, gp_, ap, rfl⟩⟩

theorem kn_turn {C : Nat → List Int32} {lt : Int32} {i a : Nat} {s : FS} (h : s.1 4 = nI a) : ∃ b, b ≤ a + 1 ∧ (p_turn C lt i s).1 4 = nI b := by
  unfold p_turn
  split
  · refine ⟨a + 1, Nat.le_refl _, ?_⟩
    show s.1 4 + 1 = nI (a + 1)
    rw [h, nI_1]
  · exact ⟨a, by omega, h⟩
theorem kn_turns {C : Nat → List Int32} {lt : Nat → Int32} {a : Nat} {s : FS} (h : s.1 4 = nI a) : ∀ n, ∃ b, b ≤ a + n ∧ (p_turns C lt n s).1 4 = nI b := by
  intro n
  induction n with
  | zero => exact ⟨a, by omega, h⟩
  | succ n ih =>
    obtain ⟨b, h1, h2⟩ := ih
    obtain ⟨b2, h3, h4⟩ := kn_turn (C := C) (lt := lt n) (i := n) h2
    exact ⟨b2, by omega, h4⟩
theorem kn_round {C : Nat → List Int32} {lt : Nat → Int32} {a m : Nat} {s : FS} (hF : FI s m) (h : s.1 4 = nI a) : ∃ b, b ≤ a + 5 ∧ (p_round C lt s).1 4 = nI b := by
  rw [p_round_m hF]
  obtain ⟨b, h1, h2⟩ := kn_turns (C := C) (lt := lt) h m
  exact ⟨b, by have := hF.1; omega, h2⟩
set_option maxRecDepth 100000 in
set_option maxHeartbeats 400000 in
theorem K_holdsL (E : ag) (kq : Nat) (cg : Nat → Int32) (qf : Nat → Nat) (gf : Nat → Int32) (af : Nat → Nat → Int32) (qd : Nat → Nat) (gd : Nat → Int32) (ad : Nat → Nat → Int32) (qk : Nat → Nat) (gk : Nat → Int32) (ak : Nat → Nat → Int32) (ql : Nat → Nat) (gl : Nat → Int32) (al : Nat → Nat → Int32) (qr : Nat → Nat) (gr : Nat → Int32) (ar : Nat → Nat → Int32) (rx : Nat) (qm : Nat) (qx : Nat → Nat → Nat) (gx : Nat → Nat → Int32) (ax : Nat → Nat → Nat → Int32) (qs : Nat) (sx : Nat → Option Nat) (qo : Nat → Nat) (go : Nat → Int32) (ao : Nat → Nat → Int32) (qp : Nat → Nat) (gp_ : Nat → Int32) (ap : Nat → Nat → Int32) (L : va_W) (t m : Nat) (ht : t < 6) (C : Nat → List Int32) (hr4 : gf 4 = nI t) (hC : TKC (ax t) C) (hG : GOOD (cfs gf af gl) m) : ∀ (n c : Nat), c + n = 40 → ∀ (gd1 : Nat → Int32) (ad1 : Nat → Nat → Int32) (gl1 : Nat → Int32) (al1 : Nat → Nat → Int32) (s : FS), EQ m 0 (cfs gd1 ad1 gl1) s → gl1 0 = 0 → GOOD s m → s.1 4 = 0 → AW E mX5_holds 6 0 0 6 [some (.ref kq), some (.int (nI c))] [] (wK E kq cg qf gf af qd gd1 ad1 qk gk ak ql gl1 al1 qr gr ar rx qm qx gx ax qs sx qo go ao qp gp_ ap L) (ri (fun r w => r = p_hold C n c s ∧ QK E kq cg qf gf af qd gd ad qk gk ak ql gl al qr gr ar rx qm qx gx ax qs sx qo go ao qp gp_ ap L w)) := by
  intro n
  induction n with
  | zero =>
    intro c hc
    intro gd1 ad1 gl1 al1 s hE1 hl1 hG1
    intro hk0
    obtain rfl : c = 40 := by omega
    refine A_iload_n (dX5_holds 4 rfl) rfl ?_
    refine A_bipush (40) (dX5_holds 5 rfl) (by decide +kernel) ?_
    refine A_icmp_ge 35 (dX5_holds 6 rfl) (by decide) (fun h9 => ?_) (fun h9 => absurd (show (40 : Int32) ≤ nI 40 by decide) h9)
    refine A_bipush (40) (dX5_holds 18 rfl) (by decide +kernel) ?_
    refine A_ri (dX5_holds 19 rfl) rfl rfl ?_
    exact ⟨rfl, ⟨gd1, ad1, gl1, al1, go, ao, gp_, ap, rfl⟩⟩
  | succ n ih =>
    intro c hc
    have hlt : c < 40 := by omega
    intro gd1 ad1 gl1 al1 s hE1 hl1 hG1
    intro hk0
    refine A_iload_n (dX5_holds 4 rfl) rfl ?_
    refine A_bipush (40) (dX5_holds 5 rfl) (by decide +kernel) ?_
    refine A_icmp_ge 35 (dX5_holds 6 rfl) (by decide) (fun h9 => absurd h9 (nI_ge (a := c) (b := 40) hlt (by decide))) (fun h9 => ?_)
    refine A_aload_n (dX5_holds 7 rfl) rfl ?_
    refine A_iconst (1) (dX5_holds 8 rfl) (by decide +kernel) ?_
    refine A_callVWv 1 (dX5_holds 9 rfl) cbX5_tryRounds cwX5_168 (K_tryT E kq cg qf gf af qd gd1 ad1 qk gk ak ql gl1 al1 qr gr ar rx qm qx gx ax qs sx qo go ao qp gp_ ap L t m ht C hr4 hC 1 (by decide) _ rfl hl1 (hG1.eq hE1)) rfl rfl wK_0 rfl rfl (Nat.le_of_ble_eq_true rfl) (Nat.le_of_ble_eq_true rfl) (Nat.le_of_ble_eq_true rfl) (Nat.le_of_ble_eq_true rfl) (Nat.le_of_ble_eq_true rfl) ?_
    rintro w1 ⟨gd2, ad2, gl2, al2, rfl, h2, hl2⟩
    have hE2 := (hE1.rounds (C := C) (hG1.eq hE1).1 1)
    rw [← h2] at hE2
    have hE2 : EQ m 0 (cfs gd2 ad2 gl2) (p_round C zro s) := hE2
    refine AW.pcq (pc2 := 17) rfl ?_
    refine A_aload_n (dX5_holds 10 rfl) rfl ?_
    refine A_get (dX5_holds 11 rfl) fwX5_29 wK_0 cK_f0_4 ?_
    refine A_get (dX5_holds 12 rfl) fwX5_172 wK_22 cL_f0_4 ?_
    refine A_if_le 29 (dX5_holds 13 rfl) (by decide) (fun h24 => ?_) (fun h24 => ?_)
    · have hk4 : gl2 2 = (p_round C zro s).1 4 := hE2.1.2.2.2.2.1
      obtain ⟨b, hb1, hb2⟩ := kn_round (C := C) (lt := zro) (a := 0) hG1.1 hk0
      have hb0 : b = 0 := by
        rcases Nat.eq_zero_or_pos b with z | z
        · exact z
        · rw [hk4, hb2] at h24; exact absurd h24 (nI_nle z (by omega))
      have hkn : (p_round C zro s).1 4 = 0 := by rw [hb2, hb0]; rfl
      rw [show p_hold C (n + 1) c s = p_hold C n (c + 1) (p_round C zro s) from if_pos hkn]
      refine A_iinc (ls2 := [_, _]) (nI (c + 1)) (dX5_holds 16 rfl) rfl (nI_1 c) (by decide) rfl rfl ?_
      refine A_goto 6 (dX5_holds 17 rfl) (by decide) ?_
      exact ih (c + 1) (by omega) gd2 ad2 gl2 al2 _ hE2 hl2 (hG1.round zro) hkn
    · have hk4 : gl2 2 = (p_round C zro s).1 4 := hE2.1.2.2.2.2.1
      have hkn : ¬ (p_round C zro s).1 4 = 0 := fun z => h24 (by rw [hk4, z]; decide)
      rw [show p_hold C (n + 1) c s = nI c from if_neg hkn]
      refine A_iload_n (dX5_holds 14 rfl) rfl ?_
      refine A_ri (dX5_holds 15 rfl) rfl rfl ?_
      exact ⟨rfl, ⟨gd2, ad2, gl2, al2, go, ao, gp_, ap, rfl⟩⟩

set_option maxRecDepth 100000 in
set_option maxHeartbeats 400000 in
theorem K_holds (E : ag) (kq : Nat) (cg : Nat → Int32) (qf : Nat → Nat) (gf : Nat → Int32) (af : Nat → Nat → Int32) (qd : Nat → Nat) (gd : Nat → Int32) (ad : Nat → Nat → Int32) (qk : Nat → Nat) (gk : Nat → Int32) (ak : Nat → Nat → Int32) (ql : Nat → Nat) (gl : Nat → Int32) (al : Nat → Nat → Int32) (qr : Nat → Nat) (gr : Nat → Int32) (ar : Nat → Nat → Int32) (rx : Nat) (qm : Nat) (qx : Nat → Nat → Nat) (gx : Nat → Nat → Int32) (ax : Nat → Nat → Nat → Int32) (qs : Nat) (sx : Nat → Option Nat) (qo : Nat → Nat) (go : Nat → Int32) (ao : Nat → Nat → Int32) (qp : Nat → Nat) (gp_ : Nat → Int32) (ap : Nat → Nat → Int32) (L : va_W) (t m : Nat) (ht : t < 6) (C : Nat → List Int32) (hr4 : gf 4 = nI t) (hC : TKC (ax t) C) (hG : GOOD (cfs gf af gl) m) : CT E yX5_holds cX5_holds 2 mX5_holds.2.2.2.1 6 0 0 [.ref kq] (wK E kq cg qf gf af qd gd ad qk gk ak ql gl al qr gr ar rx qm qx gx ax qs sx qo go ao qp gp_ ap L) (ri (fun r w => r = p_hold C 40 0 (p_beg (cfs gf af gl)) ∧ QK E kq cg qf gf af qd gd ad qk gk ak ql gl al qr gr ar rx qm qx gx ax qs sx qo go ao qp gp_ ap L w)) := by
  refine CT.of (M := mX5_holds) (ls := [some (.ref kq), none]) (by decide) rfl (by decide) rfl (Nat.le_of_ble_eq_true rfl) ?_
  refine A_aload_n (dX5_holds 0 rfl) rfl ?_
  refine A_callVWv 0 (dX5_holds 1 rfl) cbX5_beginTrial cwX5_165 (K_begin E kq cg qf gf af qd gd ad qk gk ak ql gl al qr gr ar rx qm qx gx ax qs sx qo go ao qp gp_ ap L) rfl rfl wK_0 rfl rfl (Nat.le_of_ble_eq_true rfl) (Nat.le_of_ble_eq_true rfl) (Nat.le_of_ble_eq_true rfl) (Nat.le_of_ble_eq_true rfl) (Nat.le_of_ble_eq_true rfl) ?_
  rintro w1 rfl
  have hE := kb_EQ (gd := gd) (ad := ad) (gf := gf) (af := af) (gl := gl) (gl0 := gl) hG.1.1
  have hGB := hG.beg.eq hE
  refine AW.pcq (pc2 := 4) rfl ?_
  refine A_iconst (0) (dX5_holds 2 rfl) (by decide +kernel) ?_
  refine A_istore_n (ls2 := [_, _]) (dX5_holds 3 rfl) (by decide) rfl rfl ?_
  exact K_holdsL E kq cg qf gf af qd gd ad qk gk ak ql gl al qr gr ar rx qm qx gx ax qs sx qo go ao qp gp_ ap L t m ht C hr4 hC hG 40 0 rfl _ _ _ al _ hE rfl hG.beg rfl

set_option maxRecDepth 100000 in
set_option maxHeartbeats 400000 in
theorem K_stopL (E : ag) (kq : Nat) (cg : Nat → Int32) (qf : Nat → Nat) (gf : Nat → Int32) (af : Nat → Nat → Int32) (qd : Nat → Nat) (gd : Nat → Int32) (ad : Nat → Nat → Int32) (qk : Nat → Nat) (gk : Nat → Int32) (ak : Nat → Nat → Int32) (ql : Nat → Nat) (gl : Nat → Int32) (al : Nat → Nat → Int32) (qr : Nat → Nat) (gr : Nat → Int32) (ar : Nat → Nat → Int32) (rx : Nat) (qm : Nat) (qx : Nat → Nat → Nat) (gx : Nat → Nat → Int32) (ax : Nat → Nat → Nat → Int32) (qs : Nat) (sx : Nat → Option Nat) (qo : Nat → Nat) (go : Nat → Int32) (ao : Nat → Nat → Int32) (qp : Nat → Nat) (gp_ : Nat → Int32) (ap : Nat → Nat → Int32) (L : va_W) (t m : Nat) (ht : t < 6) (C : Nat → List Int32) (hr4 : gf 4 = nI t) (hC : TKC (ax t) C) (hG : GOOD (cfs gf af gl) m) (less : Int32) : ∀ (n c : Nat), c + n = 40 → ∀ (gd1 : Nat → Int32) (ad1 : Nat → Nat → Int32) (gl1 : Nat → Int32) (al1 : Nat → Nat → Int32) (s : FS) (x3 : Option Value), noL [x3] = true → EQ m 0 (cfs gd1 ad1 gl1) s → gl1 0 = 0 → GOOD s m → AW E mX5_stop 6 0 0 18 [some (.ref kq), some (.int less), some (.int (nI c)), x3] [] (wK E kq cg qf gf af qd gd1 ad1 qk gk ak ql gl1 al1 qr gr ar rx qm qx gx ax qs sx qo go ao qp gp_ ap L) (ri (fun r w => r = p_stop C less n c s ∧ QK E kq cg qf gf af qd gd ad qk gk ak ql gl al qr gr ar rx qm qx gx ax qs sx qo go ao qp gp_ ap L w)) := by
  intro n
  induction n with
  | zero =>
    intro c hc
    intro gd1 ad1 gl1 al1 s x3 hx hE1 hl1 hG1
    obtain rfl : c = 40 := by omega
    refine A_iload_n (dX5_stop 10 rfl) rfl ?_
    refine A_bipush (40) (dX5_stop 11 rfl) (by decide +kernel) ?_
    refine A_icmp_ge 58 (dX5_stop 12 rfl) (by decide) (fun h21 => ?_) (fun h21 => absurd (show (40 : Int32) ≤ nI 40 by decide) h21)
    refine A_iconst (-1) (dX5_stop 31 rfl) (by decide +kernel) ?_
    refine A_ri (dX5_stop 32 rfl) rfl rfl ?_
    exact ⟨rfl, ⟨gd1, ad1, gl1, al1, go, ao, gp_, ap, rfl⟩⟩
  | succ n ih =>
    intro c hc
    have hlt : c < 40 := by omega
    intro gd1 ad1 gl1 al1 s x3 hx hE1 hl1 hG1
    refine A_iload_n (dX5_stop 10 rfl) rfl ?_
    refine A_bipush (40) (dX5_stop 11 rfl) (by decide +kernel) ?_
    refine A_icmp_ge 58 (dX5_stop 12 rfl) (by decide) (fun h21 => absurd h21 (nI_ge (a := c) (b := 40) hlt (by decide))) (fun h21 => ?_)
    refine A_aload_n (dX5_stop 13 rfl) rfl ?_
    refine A_get (dX5_stop 14 rfl) fwX5_16 wK_0 cK_f0_1 ?_
    refine A_get (dX5_stop 15 rfl) fwX5_155 wK_8 cF_f0_9 ?_
    refine A_istore_n (ls2 := [_, _, _, _]) (dX5_stop 16 rfl) (by decide) (by have := hx; simp_all [noL, Value.category]) rfl ?_
    refine A_aload_n (dX5_stop 17 rfl) rfl ?_
    refine AW.pcq (pc2 := 33) rfl ?_
    refine A_iconst (1) (dX5_stop 18 rfl) (by decide +kernel) ?_
    refine A_callVWv 1 (dX5_stop 19 rfl) cbX5_tryRounds cwX5_168 (K_tryT E kq cg qf gf af qd gd1 ad1 qk gk ak ql gl1 al1 qr gr ar rx qm qx gx ax qs sx qo go ao qp gp_ ap L t m ht C hr4 hC 1 (by decide) _ rfl hl1 (hG1.eq hE1)) rfl rfl wK_0 rfl rfl (Nat.le_of_ble_eq_true rfl) (Nat.le_of_ble_eq_true rfl) (Nat.le_of_ble_eq_true rfl) (Nat.le_of_ble_eq_true rfl) (Nat.le_of_ble_eq_true rfl) ?_
    rintro w1 ⟨gd2, ad2, gl2, al2, rfl, h2, hl2⟩
    have hE2 := (hE1.rounds (C := C) (hG1.eq hE1).1 1)
    rw [← h2] at hE2
    have hE2 : EQ m 0 (cfs gd2 ad2 gl2) (p_round C zro s) := hE2
    refine AW.pcq (pc2 := 37) rfl ?_
    refine A_aload_n (dX5_stop 20 rfl) rfl ?_
    refine A_get (dX5_stop 21 rfl) fwX5_16 wK_0 cK_f0_1 ?_
    refine A_get (dX5_stop 22 rfl) fwX5_155 wK_8 cF_f0_9 ?_
    refine A_iload_n (dX5_stop 23 rfl) rfl ?_
    refine A_isub (dX5_stop 24 rfl) ?_
    refine A_iload_n (dX5_stop 25 rfl) rfl ?_
    refine A_icmp_ge 52 (dX5_stop 26 rfl) (by decide) (fun h47 => ?_) (fun h47 => ?_)
    · have hsl : ¬ (p_round C zro s).1 3 - s.1 3 < less := by rw [← hE2.o0, ← hE1.o0]; exact Int32.not_lt.mpr h47
      rw [show p_stop C less (n + 1) c s = p_stop C less n (c + 1) (p_round C zro s) from if_neg hsl]
      refine A_iinc (ls2 := [_, _, _, _]) (nI (c + 1)) (dX5_stop 29 rfl) rfl (nI_1 c) (by decide) (by have := hx; simp_all [noL, Value.category]) rfl ?_
      refine A_goto 18 (dX5_stop 30 rfl) (by decide) ?_
      exact ih (c + 1) (by omega) gd2 ad2 gl2 al2 _ _ (by rfl) hE2 hl2 (hG1.round zro)
    · have hsl : (p_round C zro s).1 3 - s.1 3 < less := by rw [← hE2.o0, ← hE1.o0]; exact Int32.not_le.mp h47
      rw [show p_stop C less (n + 1) c s = nI c from if_pos hsl]
      refine A_iload_n (dX5_stop 27 rfl) rfl ?_
      refine A_ri (dX5_stop 28 rfl) rfl rfl ?_
      exact ⟨rfl, ⟨gd2, ad2, gl2, al2, go, ao, gp_, ap, rfl⟩⟩

set_option maxRecDepth 100000 in
set_option maxHeartbeats 400000 in
theorem K_stop (E : ag) (kq : Nat) (cg : Nat → Int32) (qf : Nat → Nat) (gf : Nat → Int32) (af : Nat → Nat → Int32) (qd : Nat → Nat) (gd : Nat → Int32) (ad : Nat → Nat → Int32) (qk : Nat → Nat) (gk : Nat → Int32) (ak : Nat → Nat → Int32) (ql : Nat → Nat) (gl : Nat → Int32) (al : Nat → Nat → Int32) (qr : Nat → Nat) (gr : Nat → Int32) (ar : Nat → Nat → Int32) (rx : Nat) (qm : Nat) (qx : Nat → Nat → Nat) (gx : Nat → Nat → Int32) (ax : Nat → Nat → Nat → Int32) (qs : Nat) (sx : Nat → Option Nat) (qo : Nat → Nat) (go : Nat → Int32) (ao : Nat → Nat → Int32) (qp : Nat → Nat) (gp_ : Nat → Int32) (ap : Nat → Nat → Int32) (L : va_W) (t m : Nat) (ht : t < 6) (C : Nat → List Int32) (hr4 : gf 4 = nI t) (hC : TKC (ax t) C) (hG : GOOD (cfs gf af gl) m) (less : Int32) : CT E yX5_stop cX5_stop 4 mX5_stop.2.2.2.1 6 0 0 [.ref kq, .int less] (wK E kq cg qf gf af qd gd ad qk gk ak ql gl al qr gr ar rx qm qx gx ax qs sx qo go ao qp gp_ ap L) (ri (fun r w => r = (if inI less 0 99999 = 0 then -2 else p_stop C less 40 0 (p_beg (cfs gf af gl))) ∧ QK E kq cg qf gf af qd gd ad qk gk ak ql gl al qr gr ar rx qm qx gx ax qs sx qo go ao qp gp_ ap L w)) := by
  refine CT.of (M := mX5_stop) (ls := [some (.ref kq), some (.int less), none, none]) (by decide) rfl (by decide) rfl (Nat.le_of_ble_eq_true rfl) ?_
  refine A_iload_n (dX5_stop 0 rfl) rfl ?_
  refine A_ldc (dX5_stop 1 rfl) kcX5_196 ?_
  refine A_callSWi 2 (dX5_stop 2 rfl) cbX5_within cwX5_87 (k_within E _ less 99999) rfl rfl (Nat.le_of_ble_eq_true rfl) (Nat.le_of_ble_eq_true rfl) (Nat.le_of_ble_eq_true rfl) (Nat.le_of_ble_eq_true rfl) (Nat.le_of_ble_eq_true rfl) ?_
  rintro r3 w1 ⟨rfl, rfl⟩
  refine AW.pcq (pc2 := 6) rfl ?_
  refine A_if_ne 12 (dX5_stop 3 rfl) (by decide) (fun h6 => ?_) (fun h6 => ?_)
  · refine A_aload_n (dX5_stop 6 rfl) rfl ?_
    refine A_callVWv 0 (dX5_stop 7 rfl) cbX5_beginTrial cwX5_165 (K_begin E kq cg qf gf af qd gd ad qk gk ak ql gl al qr gr ar rx qm qx gx ax qs sx qo go ao qp gp_ ap L) rfl rfl wK_0 rfl rfl (Nat.le_of_ble_eq_true rfl) (Nat.le_of_ble_eq_true rfl) (Nat.le_of_ble_eq_true rfl) (Nat.le_of_ble_eq_true rfl) (Nat.le_of_ble_eq_true rfl) ?_
    rintro w1 rfl
    have hE := kb_EQ (gd := gd) (ad := ad) (gf := gf) (af := af) (gl := gl) (gl0 := gl) hG.1.1
    have hGB := hG.beg.eq hE
    refine AW.pcq (pc2 := 16) rfl ?_
    refine A_iconst (0) (dX5_stop 8 rfl) (by decide +kernel) ?_
    refine A_istore_n (ls2 := [_, _, _, _]) (dX5_stop 9 rfl) (by decide) rfl rfl ?_
    rw [if_neg h6]
    exact K_stopL E kq cg qf gf af qd gd ad qk gk ak ql gl al qr gr ar rx qm qx gx ax qs sx qo go ao qp gp_ ap L t m ht C hr4 hC hG less 40 0 rfl _ _ _ al _ none rfl hE rfl hG.beg
  · refine A_bipush (-2) (dX5_stop 4 rfl) (by decide +kernel) ?_
    refine A_ri (dX5_stop 5 rfl) rfl rfl ?_
    exact ⟨by rw [if_pos (by assumption)], ⟨gd, ad, gl, al, go, ao, gp_, ap, rfl⟩⟩

theorem cf_idle {gf gl : Nat → Int32} {af : Nat → Nat → Int32} {i : Nat} : cfs gf (va_up af 4 (upd (af 4) i 0)) gl = p_idle i (cfs gf af gl) := by
  refine cfs_eq rfl rfl rfl rfl rfl rfl (fun k hk => cfs_z (af := af) hk) rfl rfl rfl rfl rfl rfl (fun k hk => ?_)
  show va_up (cfs gf af gl).2 4 _ k = _
  simp only [va_up]
  rw [if_neg (by omega)]
  exact cfs_az (gf := gf) (gl := gl) hk
theorem MOK.z {k f n : Int32} (h : MOK k f n) : MOK k 0 n := ⟨h.1, ⟨0, by decide, rfl⟩, h.2.2⟩
theorem GOOD.idle {s : FS} {m : Nat} (h : GOOD s m) (i : Nat) : GOOD (p_idle i s) m := by
  refine ⟨h.1, h.2.1, fun k hk => ?_⟩
  show MOK (s.2 2 k) (upd (s.2 4) i 0 k) (s.2 5 k)
  simp only [upd]
  split
  · exact (h.2.2 k hk).z
  · exact h.2.2 k hk
def p_slowC (C : Nat → List Int32) (i : Nat) (s : FS) : Int32 := sm ((p_rounds C 12 (p_idle i s)).2 0) 12 - sm ((p_rounds C 12 s).2 0) 12
set_option maxRecDepth 100000 in
set_option maxHeartbeats 400000 in
theorem K_slow (E : ag) (kq : Nat) (cg : Nat → Int32) (qf : Nat → Nat) (gf : Nat → Int32) (af : Nat → Nat → Int32) (qd : Nat → Nat) (gd : Nat → Int32) (ad : Nat → Nat → Int32) (qk : Nat → Nat) (gk : Nat → Int32) (ak : Nat → Nat → Int32) (ql : Nat → Nat) (gl : Nat → Int32) (al : Nat → Nat → Int32) (qr : Nat → Nat) (gr : Nat → Int32) (ar : Nat → Nat → Int32) (rx : Nat) (qm : Nat) (qx : Nat → Nat → Nat) (gx : Nat → Nat → Int32) (ax : Nat → Nat → Nat → Int32) (qs : Nat) (sx : Nat → Option Nat) (qo : Nat → Nat) (go : Nat → Int32) (ao : Nat → Nat → Int32) (qp : Nat → Nat) (gp_ : Nat → Int32) (ap : Nat → Nat → Int32) (L : va_W) (t m : Nat) (ht : t < 6) (C : Nat → List Int32) (hr4 : gf 4 = nI t) (hC : TKC (ax t) C) (hG : GOOD (cfs gf af gl) m) (i : Int32) : CT E yX5_slow cX5_slow 3 mX5_slow.2.2.2.1 6 0 0 [.ref kq, .int i] (wK E kq cg qf gf af qd gd ad qk gk ak ql gl al qr gr ar rx qm qx gx ax qs sx qo go ao qp gp_ ap L) (ri (fun r w => r = (if inI i 0 (gf 0 - 1) = 0 then -100000 else p_slowC C i.toNatClampNeg (p_beg (cfs gf af gl))) ∧ QK E kq cg qf gf af qd gd ad qk gk ak ql gl al qr gr ar rx qm qx gx ax qs sx qo go ao qp gp_ ap L w)) := by
  refine CT.of (M := mX5_slow) (ls := [some (.ref kq), some (.int i), none]) (by decide) rfl (by decide) rfl (Nat.le_of_ble_eq_true rfl) ?_
  refine A_aload_n (dX5_slow 0 rfl) rfl ?_
  refine A_iload_n (dX5_slow 1 rfl) rfl ?_
  refine A_callVWi 1 (dX5_slow 2 rfl) cbX5_isMan cwX5_110 (K_isMan E kq cg qf gf af qd gd ad qk gk ak ql gl al qr gr ar rx qm qx gx ax qs sx qo go ao qp gp_ ap L i m hG.1.1 hG.1.2.1) rfl rfl wK_0 rfl rfl (Nat.le_of_ble_eq_true rfl) (Nat.le_of_ble_eq_true rfl) (Nat.le_of_ble_eq_true rfl) (Nat.le_of_ble_eq_true rfl) (Nat.le_of_ble_eq_true rfl) ?_
  rintro r2 w1 ⟨rfl, rfl⟩
  refine AW.pcq (pc2 := 5) rfl ?_
  refine A_if_ne 11 (dX5_slow 3 rfl) (by decide) (fun h5 => ?_) (fun h5 => ?_)
  · rw [if_neg h5]
    have hgf0 : gf 0 = nI m := hG.1.2.1
    rw [hgf0] at h5
    obtain ⟨i0, hi0, rfl⟩ := man_nI hG.1.1 h5
    have hm5 := hG.1.1
    rw [nI_clamp (n := i0) (by omega)]
    refine A_aload_n (dX5_slow 6 rfl) rfl ?_
    refine A_callVWv 0 (dX5_slow 7 rfl) cbX5_beginTrial cwX5_165 (K_begin E kq cg qf gf af qd gd ad qk gk ak ql gl al qr gr ar rx qm qx gx ax qs sx qo go ao qp gp_ ap L) rfl rfl wK_0 rfl rfl (Nat.le_of_ble_eq_true rfl) (Nat.le_of_ble_eq_true rfl) (Nat.le_of_ble_eq_true rfl) (Nat.le_of_ble_eq_true rfl) (Nat.le_of_ble_eq_true rfl) ?_
    rintro w1 rfl
    have hE := kb_EQ (gd := gd) (ad := ad) (gf := gf) (af := af) (gl := gl) (gl0 := gl) hG.1.1
    have hGB := hG.beg.eq hE
    refine AW.pcq (pc2 := 15) rfl ?_
    refine A_aload_n (dX5_slow 8 rfl) rfl ?_
    refine A_bipush (12) (dX5_slow 9 rfl) (by decide +kernel) ?_
    refine A_callVWv 1 (dX5_slow 10 rfl) cbX5_tryRounds cwX5_168 (K_tryT E kq cg qf gf af qd (kbG gd gf) (kbA ad af) qk gk ak ql (kbL gl) al qr gr ar rx qm qx gx ax qs sx qo go ao qp gp_ ap L t m ht C hr4 hC 12 (by omega) _ rfl rfl hGB) rfl rfl wK_0 rfl rfl (Nat.le_of_ble_eq_true rfl) (Nat.le_of_ble_eq_true rfl) (Nat.le_of_ble_eq_true rfl) (Nat.le_of_ble_eq_true rfl) (Nat.le_of_ble_eq_true rfl) ?_
    rintro w1 ⟨gd2, ad2, gl2, al2, rfl, h2, hl2⟩
    have hE2 := hE.rounds (C := C) hGB.1 12
    rw [← h2] at hE2
    refine AW.pcq (pc2 := 21) rfl ?_
    refine A_aload_n (dX5_slow 11 rfl) rfl ?_
    refine A_get (dX5_slow 12 rfl) fwX5_16 wK_0 cK_f0_1 ?_
    refine A_callVi 0 (dX5_slow 13 rfl) cbX1_allEars cwX5_178 (f_allEars E qd gd2 ad2) rfl rfl wF_0 rfl rfl [8, 9, 10, 11, 12, 13, 14] rfl rfl (Nat.le_of_ble_eq_true rfl) (Nat.le_of_ble_eq_true rfl) (Nat.le_of_ble_eq_true rfl) (Nat.le_of_ble_eq_true rfl) (Nat.le_of_ble_eq_true rfl) (by rintro _ _ ⟨_, rfl⟩; exact (Nat.le_of_ble_eq_true rfl)) ?_
    rintro r25 w1 ⟨rfl, rfl⟩
    refine AW.world (ws2 := wK E kq cg qf gf af qd gd2 ad2 qk gk ak ql gl2 al2 qr gr ar rx qm qx gx ax qs sx qo go ao qp gp_ ap L) mK_d ?_
    refine AW.pcq (pc2 := 28) rfl ?_
    refine A_istore_n (ls2 := [_, _, _]) (dX5_slow 14 rfl) (by decide) rfl rfl ?_
    refine A_aload_n (dX5_slow 15 rfl) rfl ?_
    refine A_callVWv 0 (dX5_slow 16 rfl) cbX5_beginTrial cwX5_165 (K_begin E kq cg qf gf af qd gd2 ad2 qk gk ak ql gl2 al2 qr gr ar rx qm qx gx ax qs sx qo go ao qp gp_ ap L) rfl rfl wK_0 rfl rfl (Nat.le_of_ble_eq_true rfl) (Nat.le_of_ble_eq_true rfl) (Nat.le_of_ble_eq_true rfl) (Nat.le_of_ble_eq_true rfl) (Nat.le_of_ble_eq_true rfl) ?_
    rintro w1 rfl
    have hE3 := kb_EQ (gd := gd2) (ad := ad2) (gf := gf) (af := af) (gl := gl2) (gl0 := gl) hG.1.1
    refine AW.pcq (pc2 := 33) rfl ?_
    refine A_aload_n (dX5_slow 17 rfl) rfl ?_
    refine A_get (dX5_slow 18 rfl) fwX5_16 wK_0 cK_f0_1 ?_
    refine A_get (dX5_slow 19 rfl) fwX5_123 wK_8 cF_f0_4 ?_
    refine A_iload_n (dX5_slow 20 rfl) rfl ?_
    refine A_iconst (0) (dX5_slow 21 rfl) (by decide +kernel) ?_
    refine A_iast (dX5_slow 22 rfl) wK_13 (vp_in_nI (n := i0) (by omega) (by decide)) (wK_s13 _) ?_
    rw [nI_clamp (n := i0) (by omega)]
    have hE4 := hE3.idle i0
    rw [← cf_idle] at hE4
    have hG4 := (hG.beg.idle i0).eq hE4
    refine A_aload_n (dX5_slow 23 rfl) rfl ?_
    refine A_bipush (12) (dX5_slow 24 rfl) (by decide +kernel) ?_
    refine AW.pcq (pc2 := 46) rfl ?_
    refine A_callVWv 1 (dX5_slow 25 rfl) cbX5_tryRounds cwX5_168 (K_tryT E kq cg qf gf af qd (kbG gd2 gf) (va_up (kbA ad2 af) 4 (upd (kbA ad2 af 4) i0 0)) qk gk ak ql (kbL gl2) al2 qr gr ar rx qm qx gx ax qs sx qo go ao qp gp_ ap L t m ht C hr4 hC 12 (by decide) _ rfl rfl hG4) rfl rfl wK_0 rfl rfl (Nat.le_of_ble_eq_true rfl) (Nat.le_of_ble_eq_true rfl) (Nat.le_of_ble_eq_true rfl) (Nat.le_of_ble_eq_true rfl) (Nat.le_of_ble_eq_true rfl) ?_
    rintro w1 ⟨gd5, ad5, gl5, al5, rfl, h5q, hl5⟩
    have hE5 := hE4.rounds (C := C) hG4.1 12
    rw [← h5q] at hE5
    refine AW.pcq (pc2 := 49) rfl ?_
    refine A_aload_n (dX5_slow 26 rfl) rfl ?_
    refine A_get (dX5_slow 27 rfl) fwX5_16 wK_0 cK_f0_1 ?_
    refine A_callVi 0 (dX5_slow 28 rfl) cbX1_allEars cwX5_178 (f_allEars E qd gd5 ad5) rfl rfl wF_0 rfl rfl [8, 9, 10, 11, 12, 13, 14] rfl rfl (Nat.le_of_ble_eq_true rfl) (Nat.le_of_ble_eq_true rfl) (Nat.le_of_ble_eq_true rfl) (Nat.le_of_ble_eq_true rfl) (Nat.le_of_ble_eq_true rfl) (by rintro _ _ ⟨_, rfl⟩; exact (Nat.le_of_ble_eq_true rfl)) ?_
    rintro r53 w1 ⟨rfl, rfl⟩
    refine AW.world (ws2 := wK E kq cg qf gf af qd gd5 ad5 qk gk ak ql gl5 al5 qr gr ar rx qm qx gx ax qs sx qo go ao qp gp_ ap L) mK_d ?_
    refine AW.pcq (pc2 := 56) rfl ?_
    refine A_iload_n (dX5_slow 29 rfl) rfl ?_
    refine A_isub (dX5_slow 30 rfl) ?_
    refine A_ri (dX5_slow 31 rfl) rfl rfl ?_
    refine ⟨?_, ⟨gd5, ad5, gl5, al5, go, ao, gp_, ap, rfl⟩⟩
    unfold p_slowC
    exact congr (congrArg (fun a b => a - b) hE5.sum) hE2.sum
  · refine A_ldc (dX5_slow 4 rfl) kcX5_142 ?_
    refine A_ri (dX5_slow 5 rfl) rfl rfl ?_
    exact ⟨by rw [if_pos (by assumption)], ⟨gd, ad, gl, al, go, ao, gp_, ap, rfl⟩⟩

theorem cfs_gl {gf gl gl2 : Nat → Int32} {af : Nat → Nat → Int32} (h2 : gl2 2 = gl 2) (h3 : gl2 3 = gl 3) : cfs gf af gl2 = cfs gf af gl := cfs_eq rfl rfl rfl rfl h2 h3 (fun k hk => cfs_z (af := af) hk) rfl rfl rfl rfl rfl rfl (fun k hk => cfs_az (gf := gf) (gl := gl) hk)
set_option maxRecDepth 100000 in
set_option maxHeartbeats 400000 in
theorem K_drawn (E : ag) (kq : Nat) (cg : Nat → Int32) (qf : Nat → Nat) (gf : Nat → Int32) (af : Nat → Nat → Int32) (qd : Nat → Nat) (gd : Nat → Int32) (ad : Nat → Nat → Int32) (qk : Nat → Nat) (gk : Nat → Int32) (ak : Nat → Nat → Int32) (ql : Nat → Nat) (gl : Nat → Int32) (al : Nat → Nat → Int32) (qr : Nat → Nat) (gr : Nat → Int32) (ar : Nat → Nat → Int32) (rx : Nat) (qm : Nat) (qx : Nat → Nat → Nat) (gx : Nat → Nat → Int32) (ax : Nat → Nat → Nat → Int32) (qs : Nat) (sx : Nat → Option Nat) (qo : Nat → Nat) (go : Nat → Int32) (ao : Nat → Nat → Int32) (qp : Nat → Nat) (gp_ : Nat → Int32) (ap : Nat → Nat → Int32) (L : va_W) (t m : Nat) (ht : t < 6) (C : Nat → List Int32) (hr4 : gf 4 = nI t) (hC : TKC (ax t) C) (hG : GOOD (cfs gf af gl) m) (seed n : Int32) : CT E yX5_drawn cX5_drawn 3 mX5_drawn.2.2.2.1 6 0 0 [.ref kq, .int seed, .int n] (wK E kq cg qf gf af qd gd ad qk gk ak ql gl al qr gr ar rx qm qx gx ax qs sx qo go ao qp gp_ ap L) (ri (fun r w => r = (if inI n 0 40 = 0 then -2 else (p_draws C m seed n.toNatClampNeg (p_beg (cfs gf af gl))).1 4) ∧ QK E kq cg qf gf af qd gd ad qk gk ak ql gl al qr gr ar rx qm qx gx ax qs sx qo go ao qp gp_ ap L w)) := by
  refine CT.of (M := mX5_drawn) (ls := [some (.ref kq), some (.int seed), some (.int n)]) (by decide) rfl (by decide) rfl (Nat.le_of_ble_eq_true rfl) ?_
  refine A_iload_n (dX5_drawn 0 rfl) rfl ?_
  refine A_bipush (40) (dX5_drawn 1 rfl) (by decide +kernel) ?_
  refine A_callSWi 2 (dX5_drawn 2 rfl) cbX5_within cwX5_87 (k_within E _ n 40) rfl rfl (Nat.le_of_ble_eq_true rfl) (Nat.le_of_ble_eq_true rfl) (Nat.le_of_ble_eq_true rfl) (Nat.le_of_ble_eq_true rfl) (Nat.le_of_ble_eq_true rfl) ?_
  rintro r3 w1 ⟨rfl, rfl⟩
  refine AW.pcq (pc2 := 6) rfl ?_
  refine A_if_ne 12 (dX5_drawn 3 rfl) (by decide) (fun h6 => ?_) (fun h6 => ?_)
  · rw [if_neg h6]
    obtain ⟨j, hj, rfl⟩ := in40 h6
    rw [nI_clamp (n := j) (by omega)]
    refine A_aload_n (dX5_drawn 6 rfl) rfl ?_
    refine A_callVWv 0 (dX5_drawn 7 rfl) cbX5_beginTrial cwX5_165 (K_begin E kq cg qf gf af qd gd ad qk gk ak ql gl al qr gr ar rx qm qx gx ax qs sx qo go ao qp gp_ ap L) rfl rfl wK_0 rfl rfl (Nat.le_of_ble_eq_true rfl) (Nat.le_of_ble_eq_true rfl) (Nat.le_of_ble_eq_true rfl) (Nat.le_of_ble_eq_true rfl) (Nat.le_of_ble_eq_true rfl) ?_
    rintro w1 rfl
    have hE := kb_EQ (gd := gd) (ad := ad) (gf := gf) (af := af) (gl := gl) (gl0 := gl) hG.1.1
    have hGB := hG.beg.eq hE
    refine AW.pcq (pc2 := 16) rfl ?_
    refine A_aload_n (dX5_drawn 8 rfl) rfl ?_
    refine A_get (dX5_drawn 9 rfl) fwX5_29 wK_0 cK_f0_4 ?_
    refine A_iload_n (dX5_drawn 10 rfl) rfl ?_
    refine A_callVv 1 (dX5_drawn 11 rfl) cbX0_draw cwX5_204 (l_draw E ql (kbL gl) al seed) rfl rfl wL_0 rfl rfl [22, 23, 24] rfl rfl (Nat.le_of_ble_eq_true rfl) (Nat.le_of_ble_eq_true rfl) (Nat.le_of_ble_eq_true rfl) (Nat.le_of_ble_eq_true rfl) (Nat.le_of_ble_eq_true rfl) (by rintro _ rfl; exact (Nat.le_of_ble_eq_true rfl)) ?_
    rintro w1 rfl
    refine AW.world (ws2 := wK E kq cg qf gf af qd (kbG gd gf) (kbA ad af) qk gk ak ql (upd (upd (kbL gl) 0 1) 1 seed) al qr gr ar rx qm qx gx ax qs sx qo go ao qp gp_ ap L) mK_l ?_
    refine AW.pcq (pc2 := 24) rfl ?_
    refine A_aload_n (dX5_drawn 12 rfl) rfl ?_
    refine A_iload_n (dX5_drawn 13 rfl) rfl ?_
    refine A_callVWv 1 (dX5_drawn 14 rfl) cbX5_tryRounds cwX5_168 (K_try E kq cg qf gf af qd (kbG gd gf) (kbA ad af) qk gk ak ql (upd (upd (kbL gl) 0 1) 1 seed) al qr gr ar rx qm qx gx ax qs sx qo go ao qp gp_ ap L m j (by omega) C t ht hr4 hC hGB.1 hGB.2.1 hGB.2.2) rfl rfl wK_0 rfl rfl (Nat.le_of_ble_eq_true rfl) (Nat.le_of_ble_eq_true rfl) (Nat.le_of_ble_eq_true rfl) (Nat.le_of_ble_eq_true rfl) (Nat.le_of_ble_eq_true rfl) ?_
    rintro w1 ⟨gd2, ad2, gl2, al2, rfl, h2, -, -, -⟩
    have hE2 := hE.draws (C := C) hGB.1 seed j
    have h2b : cfs gd2 ad2 gl2 = p_draws C m seed j (cfs (kbG gd gf) (kbA ad af) (kbL gl)) := h2.trans ((show p_cr C m (upd (upd (kbL gl) 0 1) 1 seed) j _ = _ from if_neg (show ¬ upd (upd (kbL gl) 0 1) 1 seed 0 = 0 from (by decide : ¬ (1 : Int32) = 0))).trans (by rw [cfs_gl (gl2 := upd (upd (kbL gl) 0 1) 1 seed) (gl := kbL gl) rfl rfl]; rfl))
    rw [← h2b] at hE2
    refine AW.pcq (pc2 := 29) rfl ?_
    refine A_aload_n (dX5_drawn 15 rfl) rfl ?_
    refine A_get (dX5_drawn 16 rfl) fwX5_29 wK_0 cK_f0_4 ?_
    refine A_get (dX5_drawn 17 rfl) fwX5_172 wK_22 cL_f0_4 ?_
    refine A_ri (dX5_drawn 18 rfl) rfl rfl ?_
    exact ⟨hE2.1.2.2.2.2.1, ⟨gd2, ad2, gl2, al2, go, ao, gp_, ap, rfl⟩⟩
  · refine A_bipush (-2) (dX5_drawn 4 rfl) (by decide +kernel) ?_
    refine A_ri (dX5_drawn 5 rfl) rfl rfl ?_
    exact ⟨by rw [if_pos (by assumption)], ⟨gd, ad, gl, al, go, ao, gp_, ap, rfl⟩⟩

theorem EQ.al {m : Nat} {d : Int32} {s t : FS} {C : Nat → List Int32} (h : EQ m d s t) (hF : FI s m) {c i : Nat} (hc : c < 12) (hi : i < m) : EQ m d (p_al C c i s) (p_al C c i t) := by
  have hgp := h.gp hF hi
  have hgt := h.got (C := C) hi hc (p_gp t i)
  obtain ⟨⟨g0, g1, g2, g3, g4, g5⟩, a0, a1, a2, a3, a4, a5⟩ := h
  refine ⟨⟨g0, g1, g2, ?_, g4, g5⟩, ?_, a1, a2, a3, a4, a5⟩
  · show s.1 3 + p_got C s i c (p_gp s i) + d = t.1 3 + p_got C t i c (p_gp t i)
    rw [add_r, g3, hgp, hgt]
  · exact upd_ag a0 (by rw [hgp, hgt, a0 c hc])
theorem FI.als {s : FS} {m : Nat} (h : FI s m) (C : Nat → List Int32) (c n : Nat) : FI (p_als C c n s) m := by
  obtain ⟨h1, h2, h3, r, h4, h5⟩ := h
  exact ⟨h1, (p_als_G (by decide) n).trans h2, by rw [p_als_G (by decide) n]; exact h3, r, h4, (p_als_G (by decide) n).trans h5⟩
theorem EQ.als {m : Nat} {d : Int32} {s t : FS} {C : Nat → List Int32} (h : EQ m d s t) (hF : FI s m) {c : Nat} (hc : c < 12) : ∀ n, n ≤ m → EQ m d (p_als C c n s) (p_als C c n t) := by
  intro n
  induction n with
  | zero => intro _; exact h
  | succ n ih => intro hn; exact (ih (by omega)).al (hF.als C c n) hc (by omega)
set_option maxRecDepth 100000 in
set_option maxHeartbeats 400000 in
theorem K_once0 (E : ag) (kq : Nat) (cg : Nat → Int32) (qf : Nat → Nat) (gf : Nat → Int32) (af : Nat → Nat → Int32) (qd : Nat → Nat) (gd : Nat → Int32) (ad : Nat → Nat → Int32) (qk : Nat → Nat) (gk : Nat → Int32) (ak : Nat → Nat → Int32) (ql : Nat → Nat) (gl : Nat → Int32) (al : Nat → Nat → Int32) (qr : Nat → Nat) (gr : Nat → Int32) (ar : Nat → Nat → Int32) (rx : Nat) (qm : Nat) (qx : Nat → Nat → Nat) (gx : Nat → Nat → Int32) (ax : Nat → Nat → Nat → Int32) (qs : Nat) (sx : Nat → Option Nat) (qo : Nat → Nat) (go : Nat → Int32) (ao : Nat → Nat → Int32) (qp : Nat → Nat) (gp_ : Nat → Int32) (ap : Nat → Nat → Int32) (L : va_W) (m : Nat) (C : Nat → List Int32) (hr4 : gf 4 = nI 0) (hC : TKC (ax 0) C) (hG : GOOD (cfs gf af gl) m) (cl part : Int32) : CT E yX5_once cX5_once 3 mX5_once.2.2.2.1 6 0 0 [.ref kq, .int cl, .int part] (wK E kq cg qf gf af qd gd ad qk gk ak ql gl al qr gr ar rx qm qx gx ax qs sx qo go ao qp gp_ ap L) (rl (fun r w => r = (if inI cl 0 11 = 0 ∨ inI part 0 1 = 0 then -4611686018427387904 else if part = 0 then ((p_als C cl.toNatClampNeg m (p_beg (cfs gf af gl))).2 0 cl.toNatClampNeg).toInt64 else ((p_als C cl.toNatClampNeg m (p_beg (cfs gf af gl))).1 3).toInt64) ∧ QK E kq cg qf gf af qd gd ad qk gk ak ql gl al qr gr ar rx qm qx gx ax qs sx qo go ao qp gp_ ap L w)) := by
  refine CT.of (M := mX5_once) (ls := [some (.ref kq), some (.int cl), some (.int part)]) (by decide) rfl (by decide) rfl (Nat.le_of_ble_eq_true rfl) ?_
  refine A_iload_n (dX5_once 0 rfl) rfl ?_
  refine A_callSWi 1 (dX5_once 1 rfl) cbX5_isCell cwX5_97 (k_isCell E _ cl) rfl rfl (Nat.le_of_ble_eq_true rfl) (Nat.le_of_ble_eq_true rfl) (Nat.le_of_ble_eq_true rfl) (Nat.le_of_ble_eq_true rfl) (Nat.le_of_ble_eq_true rfl) ?_
  rintro r1 w1 ⟨rfl, rfl⟩
  refine AW.pcq (pc2 := 4) rfl ?_
  refine A_if_eq 15 (dX5_once 2 rfl) (by decide) (fun h4 => ?_) (fun h4 => ?_)
  · refine A_ldc2 (dX5_once 7 rfl) kcX5_207 ?_
    refine A_rl (dX5_once 8 rfl) rfl ?_
    exact ⟨by rw [if_pos (by first | exact Or.inl (by assumption) | exact Or.inr (by assumption))], ⟨gd, ad, gl, al, go, ao, gp_, ap, rfl⟩⟩
  · refine A_iload_n (dX5_once 3 rfl) rfl ?_
    refine A_iconst (1) (dX5_once 4 rfl) (by decide +kernel) ?_
    refine A_callSWi 2 (dX5_once 5 rfl) cbX5_within cwX5_87 (k_within E _ part 1) rfl rfl (Nat.le_of_ble_eq_true rfl) (Nat.le_of_ble_eq_true rfl) (Nat.le_of_ble_eq_true rfl) (Nat.le_of_ble_eq_true rfl) (Nat.le_of_ble_eq_true rfl) ?_
    rintro r9 w1 ⟨rfl, rfl⟩
    refine AW.pcq (pc2 := 12) rfl ?_
    refine A_if_ne 19 (dX5_once 6 rfl) (by decide) (fun h12 => ?_) (fun h12 => ?_)
    · rw [if_neg (fun z => z.elim h4 h12)]
      obtain ⟨c0, hc0, rfl⟩ := cell_nI h4
      simp only [nI_clamp (n := c0) (by omega)]
      refine A_aload_n (dX5_once 9 rfl) rfl ?_
      refine A_callVWv 0 (dX5_once 10 rfl) cbX5_beginTrial cwX5_165 (K_begin E kq cg qf gf af qd gd ad qk gk ak ql gl al qr gr ar rx qm qx gx ax qs sx qo go ao qp gp_ ap L) rfl rfl wK_0 rfl rfl (Nat.le_of_ble_eq_true rfl) (Nat.le_of_ble_eq_true rfl) (Nat.le_of_ble_eq_true rfl) (Nat.le_of_ble_eq_true rfl) (Nat.le_of_ble_eq_true rfl) ?_
      rintro w1 rfl
      have hE := kb_EQ (gd := gd) (ad := ad) (gf := gf) (af := af) (gl := gl) (gl0 := gl) hG.1.1
      have hGB := hG.beg.eq hE
      refine AW.pcq (pc2 := 23) rfl ?_
      refine A_aload_n (dX5_once 11 rfl) rfl ?_
      refine A_get (dX5_once 12 rfl) fwX5_29 wK_0 cK_f0_4 ?_
      refine A_aload_n (dX5_once 13 rfl) rfl ?_
      refine A_get (dX5_once 14 rfl) fwX5_16 wK_0 cK_f0_1 ?_
      refine A_aload_n (dX5_once 15 rfl) rfl ?_
      refine A_get (dX5_once 16 rfl) fwX5_42 wK_0 cK_f0_6 ?_
      refine A_aload_n (dX5_once 17 rfl) rfl ?_
      refine A_get (dX5_once 18 rfl) fwX5_10 wK_0 cK_f0_0 ?_
      refine AW.pcq (pc2 := 39) rfl ?_
      refine A_get (dX5_once 19 rfl) fwX5_152 wK_1 cF_f0_10 ?_
      rw [hr4]
      refine A_aald 3 (dX5_once 20 rfl) wK_27 rfl (vp_in_nI (n := 0) (by decide) (by decide)) ?_
      rw [nI_clamp (n := 0) (by decide)]
      refine AW.stack (st2 := [.ref (qx 0 0), .ref (qd 0), .ref (ql 0)]) rfl ?_
      refine A_iload_n (dX5_once 21 rfl) rfl ?_
      refine A_callVv 3 (dX5_once 22 rfl) cbX0_allStrike cwX5_209 (l_allStrike E ql (kbL gl) al qd (kbG gd gf) (kbA ad af) (qx 0) (gx 0) (ax 0) m c0 C hC hGB.1 hGB.2.1 hGB.2.2 hc0) rfl rfl wLT_0 rfl rfl [22, 23, 24, 8, 9, 10, 11, 12, 13, 14, 28, 29, 30] rfl rfl (Nat.le_of_ble_eq_true rfl) (Nat.le_of_ble_eq_true rfl) (Nat.le_of_ble_eq_true rfl) (Nat.le_of_ble_eq_true rfl) (Nat.le_of_ble_eq_true rfl) (by rintro _ ⟨_, _, _, rfl, _⟩; exact (Nat.le_of_ble_eq_true rfl)) ?_
      rintro w1 ⟨al2, gd2, ad2, rfl, h2⟩
      refine AW.world (ws2 := wK E kq cg qf gf af qd gd2 ad2 qk gk ak ql (kbL gl) al2 qr gr ar rx qm qx gx ax qs sx qo go ao qp gp_ ap L) mK_ld0 ?_
      have hE2 := hE.als (C := C) hGB.1 hc0 m (Nat.le_refl _)
      rw [← h2] at hE2
      refine AW.pcq (pc2 := 47) rfl ?_
      refine A_iload_n (dX5_once 23 rfl) rfl ?_
      refine A_if_ne 64 (dX5_once 24 rfl) (by decide) (fun h48 => ?_) (fun h48 => ?_)
      · refine A_aload_n (dX5_once 32 rfl) rfl ?_
        refine A_get (dX5_once 33 rfl) fwX5_16 wK_0 cK_f0_1 ?_
        refine A_get (dX5_once 34 rfl) fwX5_155 wK_8 cF_f0_9 ?_
        refine A_i2l (dX5_once 35 rfl) ?_
        refine A_rl (dX5_once 36 rfl) rfl ?_
        refine ⟨?_, ⟨gd2, ad2, (kbL gl), al2, go, ao, gp_, ap, rfl⟩⟩
        first
          | (rw [if_pos h48]; exact congrArg Int32.toInt64 (hE2.2.1 c0 hc0))
          | (rw [if_neg h48]; exact congrArg Int32.toInt64 hE2.o0)
      · refine A_aload_n (dX5_once 25 rfl) rfl ?_
        refine A_get (dX5_once 26 rfl) fwX5_16 wK_0 cK_f0_1 ?_
        refine A_get (dX5_once 27 rfl) fwX5_100 wK_8 cF_f0_0 ?_
        refine A_iload_n (dX5_once 28 rfl) rfl ?_
        refine A_iald (dX5_once 29 rfl) wK_9 (vp_in_nI (n := c0) (by omega) (by decide)) ?_
        rw [nI_clamp (n := c0) (by omega)]
        refine A_i2l (dX5_once 30 rfl) ?_
        refine A_goto 72 (dX5_once 31 rfl) (by decide) ?_
        refine A_rl (dX5_once 36 rfl) rfl ?_
        refine ⟨?_, ⟨gd2, ad2, (kbL gl), al2, go, ao, gp_, ap, rfl⟩⟩
        first
          | (rw [if_pos h48]; exact congrArg Int32.toInt64 (hE2.2.1 c0 hc0))
          | (rw [if_neg h48]; exact congrArg Int32.toInt64 hE2.o0)
    · refine A_ldc2 (dX5_once 7 rfl) kcX5_207 ?_
      refine A_rl (dX5_once 8 rfl) rfl ?_
      exact ⟨by rw [if_pos (by first | exact Or.inl (by assumption) | exact Or.inr (by assumption))], ⟨gd, ad, gl, al, go, ao, gp_, ap, rfl⟩⟩

set_option maxRecDepth 100000 in
set_option maxHeartbeats 400000 in
theorem K_once1 (E : ag) (kq : Nat) (cg : Nat → Int32) (qf : Nat → Nat) (gf : Nat → Int32) (af : Nat → Nat → Int32) (qd : Nat → Nat) (gd : Nat → Int32) (ad : Nat → Nat → Int32) (qk : Nat → Nat) (gk : Nat → Int32) (ak : Nat → Nat → Int32) (ql : Nat → Nat) (gl : Nat → Int32) (al : Nat → Nat → Int32) (qr : Nat → Nat) (gr : Nat → Int32) (ar : Nat → Nat → Int32) (rx : Nat) (qm : Nat) (qx : Nat → Nat → Nat) (gx : Nat → Nat → Int32) (ax : Nat → Nat → Nat → Int32) (qs : Nat) (sx : Nat → Option Nat) (qo : Nat → Nat) (go : Nat → Int32) (ao : Nat → Nat → Int32) (qp : Nat → Nat) (gp_ : Nat → Int32) (ap : Nat → Nat → Int32) (L : va_W) (m : Nat) (C : Nat → List Int32) (hr4 : gf 4 = nI 1) (hC : TKC (ax 1) C) (hG : GOOD (cfs gf af gl) m) (cl part : Int32) : CT E yX5_once cX5_once 3 mX5_once.2.2.2.1 6 0 0 [.ref kq, .int cl, .int part] (wK E kq cg qf gf af qd gd ad qk gk ak ql gl al qr gr ar rx qm qx gx ax qs sx qo go ao qp gp_ ap L) (rl (fun r w => r = (if inI cl 0 11 = 0 ∨ inI part 0 1 = 0 then -4611686018427387904 else if part = 0 then ((p_als C cl.toNatClampNeg m (p_beg (cfs gf af gl))).2 0 cl.toNatClampNeg).toInt64 else ((p_als C cl.toNatClampNeg m (p_beg (cfs gf af gl))).1 3).toInt64) ∧ QK E kq cg qf gf af qd gd ad qk gk ak ql gl al qr gr ar rx qm qx gx ax qs sx qo go ao qp gp_ ap L w)) := by
  refine CT.of (M := mX5_once) (ls := [some (.ref kq), some (.int cl), some (.int part)]) (by decide) rfl (by decide) rfl (Nat.le_of_ble_eq_true rfl) ?_
  refine A_iload_n (dX5_once 0 rfl) rfl ?_
  refine A_callSWi 1 (dX5_once 1 rfl) cbX5_isCell cwX5_97 (k_isCell E _ cl) rfl rfl (Nat.le_of_ble_eq_true rfl) (Nat.le_of_ble_eq_true rfl) (Nat.le_of_ble_eq_true rfl) (Nat.le_of_ble_eq_true rfl) (Nat.le_of_ble_eq_true rfl) ?_
  rintro r1 w1 ⟨rfl, rfl⟩
  refine AW.pcq (pc2 := 4) rfl ?_
  refine A_if_eq 15 (dX5_once 2 rfl) (by decide) (fun h4 => ?_) (fun h4 => ?_)
  · refine A_ldc2 (dX5_once 7 rfl) kcX5_207 ?_
    refine A_rl (dX5_once 8 rfl) rfl ?_
    exact ⟨by rw [if_pos (by first | exact Or.inl (by assumption) | exact Or.inr (by assumption))], ⟨gd, ad, gl, al, go, ao, gp_, ap, rfl⟩⟩
  · refine A_iload_n (dX5_once 3 rfl) rfl ?_
    refine A_iconst (1) (dX5_once 4 rfl) (by decide +kernel) ?_
    refine A_callSWi 2 (dX5_once 5 rfl) cbX5_within cwX5_87 (k_within E _ part 1) rfl rfl (Nat.le_of_ble_eq_true rfl) (Nat.le_of_ble_eq_true rfl) (Nat.le_of_ble_eq_true rfl) (Nat.le_of_ble_eq_true rfl) (Nat.le_of_ble_eq_true rfl) ?_
    rintro r9 w1 ⟨rfl, rfl⟩
    refine AW.pcq (pc2 := 12) rfl ?_
    refine A_if_ne 19 (dX5_once 6 rfl) (by decide) (fun h12 => ?_) (fun h12 => ?_)
    · rw [if_neg (fun z => z.elim h4 h12)]
      obtain ⟨c0, hc0, rfl⟩ := cell_nI h4
      simp only [nI_clamp (n := c0) (by omega)]
      refine A_aload_n (dX5_once 9 rfl) rfl ?_
      refine A_callVWv 0 (dX5_once 10 rfl) cbX5_beginTrial cwX5_165 (K_begin E kq cg qf gf af qd gd ad qk gk ak ql gl al qr gr ar rx qm qx gx ax qs sx qo go ao qp gp_ ap L) rfl rfl wK_0 rfl rfl (Nat.le_of_ble_eq_true rfl) (Nat.le_of_ble_eq_true rfl) (Nat.le_of_ble_eq_true rfl) (Nat.le_of_ble_eq_true rfl) (Nat.le_of_ble_eq_true rfl) ?_
      rintro w1 rfl
      have hE := kb_EQ (gd := gd) (ad := ad) (gf := gf) (af := af) (gl := gl) (gl0 := gl) hG.1.1
      have hGB := hG.beg.eq hE
      refine AW.pcq (pc2 := 23) rfl ?_
      refine A_aload_n (dX5_once 11 rfl) rfl ?_
      refine A_get (dX5_once 12 rfl) fwX5_29 wK_0 cK_f0_4 ?_
      refine A_aload_n (dX5_once 13 rfl) rfl ?_
      refine A_get (dX5_once 14 rfl) fwX5_16 wK_0 cK_f0_1 ?_
      refine A_aload_n (dX5_once 15 rfl) rfl ?_
      refine A_get (dX5_once 16 rfl) fwX5_42 wK_0 cK_f0_6 ?_
      refine A_aload_n (dX5_once 17 rfl) rfl ?_
      refine A_get (dX5_once 18 rfl) fwX5_10 wK_0 cK_f0_0 ?_
      refine AW.pcq (pc2 := 39) rfl ?_
      refine A_get (dX5_once 19 rfl) fwX5_152 wK_1 cF_f0_10 ?_
      rw [hr4]
      refine A_aald 3 (dX5_once 20 rfl) wK_27 rfl (vp_in_nI (n := 1) (by decide) (by decide)) ?_
      rw [nI_clamp (n := 1) (by decide)]
      refine AW.stack (st2 := [.ref (qx 1 0), .ref (qd 0), .ref (ql 0)]) rfl ?_
      refine A_iload_n (dX5_once 21 rfl) rfl ?_
      refine A_callVv 3 (dX5_once 22 rfl) cbX0_allStrike cwX5_209 (l_allStrike E ql (kbL gl) al qd (kbG gd gf) (kbA ad af) (qx 1) (gx 1) (ax 1) m c0 C hC hGB.1 hGB.2.1 hGB.2.2 hc0) rfl rfl wLT_0 rfl rfl [22, 23, 24, 8, 9, 10, 11, 12, 13, 14, 31, 32, 33] rfl rfl (Nat.le_of_ble_eq_true rfl) (Nat.le_of_ble_eq_true rfl) (Nat.le_of_ble_eq_true rfl) (Nat.le_of_ble_eq_true rfl) (Nat.le_of_ble_eq_true rfl) (by rintro _ ⟨_, _, _, rfl, _⟩; exact (Nat.le_of_ble_eq_true rfl)) ?_
      rintro w1 ⟨al2, gd2, ad2, rfl, h2⟩
      refine AW.world (ws2 := wK E kq cg qf gf af qd gd2 ad2 qk gk ak ql (kbL gl) al2 qr gr ar rx qm qx gx ax qs sx qo go ao qp gp_ ap L) mK_ld1 ?_
      have hE2 := hE.als (C := C) hGB.1 hc0 m (Nat.le_refl _)
      rw [← h2] at hE2
      refine AW.pcq (pc2 := 47) rfl ?_
      refine A_iload_n (dX5_once 23 rfl) rfl ?_
      refine A_if_ne 64 (dX5_once 24 rfl) (by decide) (fun h48 => ?_) (fun h48 => ?_)
      · refine A_aload_n (dX5_once 32 rfl) rfl ?_
        refine A_get (dX5_once 33 rfl) fwX5_16 wK_0 cK_f0_1 ?_
        refine A_get (dX5_once 34 rfl) fwX5_155 wK_8 cF_f0_9 ?_
        refine A_i2l (dX5_once 35 rfl) ?_
        refine A_rl (dX5_once 36 rfl) rfl ?_
        refine ⟨?_, ⟨gd2, ad2, (kbL gl), al2, go, ao, gp_, ap, rfl⟩⟩
        first
          | (rw [if_pos h48]; exact congrArg Int32.toInt64 (hE2.2.1 c0 hc0))
          | (rw [if_neg h48]; exact congrArg Int32.toInt64 hE2.o0)
      · refine A_aload_n (dX5_once 25 rfl) rfl ?_
        refine A_get (dX5_once 26 rfl) fwX5_16 wK_0 cK_f0_1 ?_
        refine A_get (dX5_once 27 rfl) fwX5_100 wK_8 cF_f0_0 ?_
        refine A_iload_n (dX5_once 28 rfl) rfl ?_
        refine A_iald (dX5_once 29 rfl) wK_9 (vp_in_nI (n := c0) (by omega) (by decide)) ?_
        rw [nI_clamp (n := c0) (by omega)]
        refine A_i2l (dX5_once 30 rfl) ?_
        refine A_goto 72 (dX5_once 31 rfl) (by decide) ?_
        refine A_rl (dX5_once 36 rfl) rfl ?_
        refine ⟨?_, ⟨gd2, ad2, (kbL gl), al2, go, ao, gp_, ap, rfl⟩⟩
        first
          | (rw [if_pos h48]; exact congrArg Int32.toInt64 (hE2.2.1 c0 hc0))
          | (rw [if_neg h48]; exact congrArg Int32.toInt64 hE2.o0)
    · refine A_ldc2 (dX5_once 7 rfl) kcX5_207 ?_
      refine A_rl (dX5_once 8 rfl) rfl ?_
      exact ⟨by rw [if_pos (by first | exact Or.inl (by assumption) | exact Or.inr (by assumption))], ⟨gd, ad, gl, al, go, ao, gp_, ap, rfl⟩⟩

set_option maxRecDepth 100000 in
set_option maxHeartbeats 400000 in
theorem K_once2 (E : ag) (kq : Nat) (cg : Nat → Int32) (qf : Nat → Nat) (gf : Nat → Int32) (af : Nat → Nat → Int32) (qd : Nat → Nat) (gd : Nat → Int32) (ad : Nat → Nat → Int32) (qk : Nat → Nat) (gk : Nat → Int32) (ak : Nat → Nat → Int32) (ql : Nat → Nat) (gl : Nat → Int32) (al : Nat → Nat → Int32) (qr : Nat → Nat) (gr : Nat → Int32) (ar : Nat → Nat → Int32) (rx : Nat) (qm : Nat) (qx : Nat → Nat → Nat) (gx : Nat → Nat → Int32) (ax : Nat → Nat → Nat → Int32) (qs : Nat) (sx : Nat → Option Nat) (qo : Nat → Nat) (go : Nat → Int32) (ao : Nat → Nat → Int32) (qp : Nat → Nat) (gp_ : Nat → Int32) (ap : Nat → Nat → Int32) (L : va_W) (m : Nat) (C : Nat → List Int32) (hr4 : gf 4 = nI 2) (hC : TKC (ax 2) C) (hG : GOOD (cfs gf af gl) m) (cl part : Int32) : CT E yX5_once cX5_once 3 mX5_once.2.2.2.1 6 0 0 [.ref kq, .int cl, .int part] (wK E kq cg qf gf af qd gd ad qk gk ak ql gl al qr gr ar rx qm qx gx ax qs sx qo go ao qp gp_ ap L) (rl (fun r w => r = (if inI cl 0 11 = 0 ∨ inI part 0 1 = 0 then -4611686018427387904 else if part = 0 then ((p_als C cl.toNatClampNeg m (p_beg (cfs gf af gl))).2 0 cl.toNatClampNeg).toInt64 else ((p_als C cl.toNatClampNeg m (p_beg (cfs gf af gl))).1 3).toInt64) ∧ QK E kq cg qf gf af qd gd ad qk gk ak ql gl al qr gr ar rx qm qx gx ax qs sx qo go ao qp gp_ ap L w)) := by
  refine CT.of (M := mX5_once) (ls := [some (.ref kq), some (.int cl), some (.int part)]) (by decide) rfl (by decide) rfl (Nat.le_of_ble_eq_true rfl) ?_
  refine A_iload_n (dX5_once 0 rfl) rfl ?_
  refine A_callSWi 1 (dX5_once 1 rfl) cbX5_isCell cwX5_97 (k_isCell E _ cl) rfl rfl (Nat.le_of_ble_eq_true rfl) (Nat.le_of_ble_eq_true rfl) (Nat.le_of_ble_eq_true rfl) (Nat.le_of_ble_eq_true rfl) (Nat.le_of_ble_eq_true rfl) ?_
  rintro r1 w1 ⟨rfl, rfl⟩
  refine AW.pcq (pc2 := 4) rfl ?_
  refine A_if_eq 15 (dX5_once 2 rfl) (by decide) (fun h4 => ?_) (fun h4 => ?_)
  · refine A_ldc2 (dX5_once 7 rfl) kcX5_207 ?_
    refine A_rl (dX5_once 8 rfl) rfl ?_
    exact ⟨by rw [if_pos (by first | exact Or.inl (by assumption) | exact Or.inr (by assumption))], ⟨gd, ad, gl, al, go, ao, gp_, ap, rfl⟩⟩
  · refine A_iload_n (dX5_once 3 rfl) rfl ?_
    refine A_iconst (1) (dX5_once 4 rfl) (by decide +kernel) ?_
    refine A_callSWi 2 (dX5_once 5 rfl) cbX5_within cwX5_87 (k_within E _ part 1) rfl rfl (Nat.le_of_ble_eq_true rfl) (Nat.le_of_ble_eq_true rfl) (Nat.le_of_ble_eq_true rfl) (Nat.le_of_ble_eq_true rfl) (Nat.le_of_ble_eq_true rfl) ?_
    rintro r9 w1 ⟨rfl, rfl⟩
    refine AW.pcq (pc2 := 12) rfl ?_
    refine A_if_ne 19 (dX5_once 6 rfl) (by decide) (fun h12 => ?_) (fun h12 => ?_)
    · rw [if_neg (fun z => z.elim h4 h12)]
      obtain ⟨c0, hc0, rfl⟩ := cell_nI h4
      simp only [nI_clamp (n := c0) (by omega)]
      refine A_aload_n (dX5_once 9 rfl) rfl ?_
      refine A_callVWv 0 (dX5_once 10 rfl) cbX5_beginTrial cwX5_165 (K_begin E kq cg qf gf af qd gd ad qk gk ak ql gl al qr gr ar rx qm qx gx ax qs sx qo go ao qp gp_ ap L) rfl rfl wK_0 rfl rfl (Nat.le_of_ble_eq_true rfl) (Nat.le_of_ble_eq_true rfl) (Nat.le_of_ble_eq_true rfl) (Nat.le_of_ble_eq_true rfl) (Nat.le_of_ble_eq_true rfl) ?_
      rintro w1 rfl
      have hE := kb_EQ (gd := gd) (ad := ad) (gf := gf) (af := af) (gl := gl) (gl0 := gl) hG.1.1
      have hGB := hG.beg.eq hE
      refine AW.pcq (pc2 := 23) rfl ?_
      refine A_aload_n (dX5_once 11 rfl) rfl ?_
      refine A_get (dX5_once 12 rfl) fwX5_29 wK_0 cK_f0_4 ?_
      refine A_aload_n (dX5_once 13 rfl) rfl ?_
      refine A_get (dX5_once 14 rfl) fwX5_16 wK_0 cK_f0_1 ?_
      refine A_aload_n (dX5_once 15 rfl) rfl ?_
      refine A_get (dX5_once 16 rfl) fwX5_42 wK_0 cK_f0_6 ?_
      refine A_aload_n (dX5_once 17 rfl) rfl ?_
      refine A_get (dX5_once 18 rfl) fwX5_10 wK_0 cK_f0_0 ?_
      refine AW.pcq (pc2 := 39) rfl ?_
      refine A_get (dX5_once 19 rfl) fwX5_152 wK_1 cF_f0_10 ?_
      rw [hr4]
      refine A_aald 3 (dX5_once 20 rfl) wK_27 rfl (vp_in_nI (n := 2) (by decide) (by decide)) ?_
      rw [nI_clamp (n := 2) (by decide)]
      refine AW.stack (st2 := [.ref (qx 2 0), .ref (qd 0), .ref (ql 0)]) rfl ?_
      refine A_iload_n (dX5_once 21 rfl) rfl ?_
      refine A_callVv 3 (dX5_once 22 rfl) cbX0_allStrike cwX5_209 (l_allStrike E ql (kbL gl) al qd (kbG gd gf) (kbA ad af) (qx 2) (gx 2) (ax 2) m c0 C hC hGB.1 hGB.2.1 hGB.2.2 hc0) rfl rfl wLT_0 rfl rfl [22, 23, 24, 8, 9, 10, 11, 12, 13, 14, 34, 35, 36] rfl rfl (Nat.le_of_ble_eq_true rfl) (Nat.le_of_ble_eq_true rfl) (Nat.le_of_ble_eq_true rfl) (Nat.le_of_ble_eq_true rfl) (Nat.le_of_ble_eq_true rfl) (by rintro _ ⟨_, _, _, rfl, _⟩; exact (Nat.le_of_ble_eq_true rfl)) ?_
      rintro w1 ⟨al2, gd2, ad2, rfl, h2⟩
      refine AW.world (ws2 := wK E kq cg qf gf af qd gd2 ad2 qk gk ak ql (kbL gl) al2 qr gr ar rx qm qx gx ax qs sx qo go ao qp gp_ ap L) mK_ld2 ?_
      have hE2 := hE.als (C := C) hGB.1 hc0 m (Nat.le_refl _)
      rw [← h2] at hE2
      refine AW.pcq (pc2 := 47) rfl ?_
      refine A_iload_n (dX5_once 23 rfl) rfl ?_
      refine A_if_ne 64 (dX5_once 24 rfl) (by decide) (fun h48 => ?_) (fun h48 => ?_)
      · refine A_aload_n (dX5_once 32 rfl) rfl ?_
        refine A_get (dX5_once 33 rfl) fwX5_16 wK_0 cK_f0_1 ?_
        refine A_get (dX5_once 34 rfl) fwX5_155 wK_8 cF_f0_9 ?_
        refine A_i2l (dX5_once 35 rfl) ?_
        refine A_rl (dX5_once 36 rfl) rfl ?_
        refine ⟨?_, ⟨gd2, ad2, (kbL gl), al2, go, ao, gp_, ap, rfl⟩⟩
        first
          | (rw [if_pos h48]; exact congrArg Int32.toInt64 (hE2.2.1 c0 hc0))
          | (rw [if_neg h48]; exact congrArg Int32.toInt64 hE2.o0)
      · refine A_aload_n (dX5_once 25 rfl) rfl ?_
        refine A_get (dX5_once 26 rfl) fwX5_16 wK_0 cK_f0_1 ?_
        refine A_get (dX5_once 27 rfl) fwX5_100 wK_8 cF_f0_0 ?_
        refine A_iload_n (dX5_once 28 rfl) rfl ?_
        refine A_iald (dX5_once 29 rfl) wK_9 (vp_in_nI (n := c0) (by omega) (by decide)) ?_
        rw [nI_clamp (n := c0) (by omega)]
        refine A_i2l (dX5_once 30 rfl) ?_
        refine A_goto 72 (dX5_once 31 rfl) (by decide) ?_
        refine A_rl (dX5_once 36 rfl) rfl ?_
        refine ⟨?_, ⟨gd2, ad2, (kbL gl), al2, go, ao, gp_, ap, rfl⟩⟩
        first
          | (rw [if_pos h48]; exact congrArg Int32.toInt64 (hE2.2.1 c0 hc0))
          | (rw [if_neg h48]; exact congrArg Int32.toInt64 hE2.o0)
    · refine A_ldc2 (dX5_once 7 rfl) kcX5_207 ?_
      refine A_rl (dX5_once 8 rfl) rfl ?_
      exact ⟨by rw [if_pos (by first | exact Or.inl (by assumption) | exact Or.inr (by assumption))], ⟨gd, ad, gl, al, go, ao, gp_, ap, rfl⟩⟩

set_option maxRecDepth 100000 in
set_option maxHeartbeats 400000 in
theorem K_once3 (E : ag) (kq : Nat) (cg : Nat → Int32) (qf : Nat → Nat) (gf : Nat → Int32) (af : Nat → Nat → Int32) (qd : Nat → Nat) (gd : Nat → Int32) (ad : Nat → Nat → Int32) (qk : Nat → Nat) (gk : Nat → Int32) (ak : Nat → Nat → Int32) (ql : Nat → Nat) (gl : Nat → Int32) (al : Nat → Nat → Int32) (qr : Nat → Nat) (gr : Nat → Int32) (ar : Nat → Nat → Int32) (rx : Nat) (qm : Nat) (qx : Nat → Nat → Nat) (gx : Nat → Nat → Int32) (ax : Nat → Nat → Nat → Int32) (qs : Nat) (sx : Nat → Option Nat) (qo : Nat → Nat) (go : Nat → Int32) (ao : Nat → Nat → Int32) (qp : Nat → Nat) (gp_ : Nat → Int32) (ap : Nat → Nat → Int32) (L : va_W) (m : Nat) (C : Nat → List Int32) (hr4 : gf 4 = nI 3) (hC : TKC (ax 3) C) (hG : GOOD (cfs gf af gl) m) (cl part : Int32) : CT E yX5_once cX5_once 3 mX5_once.2.2.2.1 6 0 0 [.ref kq, .int cl, .int part] (wK E kq cg qf gf af qd gd ad qk gk ak ql gl al qr gr ar rx qm qx gx ax qs sx qo go ao qp gp_ ap L) (rl (fun r w => r = (if inI cl 0 11 = 0 ∨ inI part 0 1 = 0 then -4611686018427387904 else if part = 0 then ((p_als C cl.toNatClampNeg m (p_beg (cfs gf af gl))).2 0 cl.toNatClampNeg).toInt64 else ((p_als C cl.toNatClampNeg m (p_beg (cfs gf af gl))).1 3).toInt64) ∧ QK E kq cg qf gf af qd gd ad qk gk ak ql gl al qr gr ar rx qm qx gx ax qs sx qo go ao qp gp_ ap L w)) := by
  refine CT.of (M := mX5_once) (ls := [some (.ref kq), some (.int cl), some (.int part)]) (by decide) rfl (by decide) rfl (Nat.le_of_ble_eq_true rfl) ?_
  refine A_iload_n (dX5_once 0 rfl) rfl ?_
  refine A_callSWi 1 (dX5_once 1 rfl) cbX5_isCell cwX5_97 (k_isCell E _ cl) rfl rfl (Nat.le_of_ble_eq_true rfl) (Nat.le_of_ble_eq_true rfl) (Nat.le_of_ble_eq_true rfl) (Nat.le_of_ble_eq_true rfl) (Nat.le_of_ble_eq_true rfl) ?_
  rintro r1 w1 ⟨rfl, rfl⟩
  refine AW.pcq (pc2 := 4) rfl ?_
  refine A_if_eq 15 (dX5_once 2 rfl) (by decide) (fun h4 => ?_) (fun h4 => ?_)
  · refine A_ldc2 (dX5_once 7 rfl) kcX5_207 ?_
    refine A_rl (dX5_once 8 rfl) rfl ?_
    exact ⟨by rw [if_pos (by first | exact Or.inl (by assumption) | exact Or.inr (by assumption))], ⟨gd, ad, gl, al, go, ao, gp_, ap, rfl⟩⟩
  · refine A_iload_n (dX5_once 3 rfl) rfl ?_
    refine A_iconst (1) (dX5_once 4 rfl) (by decide +kernel) ?_
    refine A_callSWi 2 (dX5_once 5 rfl) cbX5_within cwX5_87 (k_within E _ part 1) rfl rfl (Nat.le_of_ble_eq_true rfl) (Nat.le_of_ble_eq_true rfl) (Nat.le_of_ble_eq_true rfl) (Nat.le_of_ble_eq_true rfl) (Nat.le_of_ble_eq_true rfl) ?_
    rintro r9 w1 ⟨rfl, rfl⟩
    refine AW.pcq (pc2 := 12) rfl ?_
    refine A_if_ne 19 (dX5_once 6 rfl) (by decide) (fun h12 => ?_) (fun h12 => ?_)
    · rw [if_neg (fun z => z.elim h4 h12)]
      obtain ⟨c0, hc0, rfl⟩ := cell_nI h4
      simp only [nI_clamp (n := c0) (by omega)]
      refine A_aload_n (dX5_once 9 rfl) rfl ?_
      refine A_callVWv 0 (dX5_once 10 rfl) cbX5_beginTrial cwX5_165 (K_begin E kq cg qf gf af qd gd ad qk gk ak ql gl al qr gr ar rx qm qx gx ax qs sx qo go ao qp gp_ ap L) rfl rfl wK_0 rfl rfl (Nat.le_of_ble_eq_true rfl) (Nat.le_of_ble_eq_true rfl) (Nat.le_of_ble_eq_true rfl) (Nat.le_of_ble_eq_true rfl) (Nat.le_of_ble_eq_true rfl) ?_
      rintro w1 rfl
      have hE := kb_EQ (gd := gd) (ad := ad) (gf := gf) (af := af) (gl := gl) (gl0 := gl) hG.1.1
      have hGB := hG.beg.eq hE
      refine AW.pcq (pc2 := 23) rfl ?_
      refine A_aload_n (dX5_once 11 rfl) rfl ?_
      refine A_get (dX5_once 12 rfl) fwX5_29 wK_0 cK_f0_4 ?_
      refine A_aload_n (dX5_once 13 rfl) rfl ?_
      refine A_get (dX5_once 14 rfl) fwX5_16 wK_0 cK_f0_1 ?_
      refine A_aload_n (dX5_once 15 rfl) rfl ?_
      refine A_get (dX5_once 16 rfl) fwX5_42 wK_0 cK_f0_6 ?_
      refine A_aload_n (dX5_once 17 rfl) rfl ?_
      refine A_get (dX5_once 18 rfl) fwX5_10 wK_0 cK_f0_0 ?_
      refine AW.pcq (pc2 := 39) rfl ?_
      refine A_get (dX5_once 19 rfl) fwX5_152 wK_1 cF_f0_10 ?_
      rw [hr4]
      refine A_aald 3 (dX5_once 20 rfl) wK_27 rfl (vp_in_nI (n := 3) (by decide) (by decide)) ?_
      rw [nI_clamp (n := 3) (by decide)]
      refine AW.stack (st2 := [.ref (qx 3 0), .ref (qd 0), .ref (ql 0)]) rfl ?_
      refine A_iload_n (dX5_once 21 rfl) rfl ?_
      refine A_callVv 3 (dX5_once 22 rfl) cbX0_allStrike cwX5_209 (l_allStrike E ql (kbL gl) al qd (kbG gd gf) (kbA ad af) (qx 3) (gx 3) (ax 3) m c0 C hC hGB.1 hGB.2.1 hGB.2.2 hc0) rfl rfl wLT_0 rfl rfl [22, 23, 24, 8, 9, 10, 11, 12, 13, 14, 37, 38, 39] rfl rfl (Nat.le_of_ble_eq_true rfl) (Nat.le_of_ble_eq_true rfl) (Nat.le_of_ble_eq_true rfl) (Nat.le_of_ble_eq_true rfl) (Nat.le_of_ble_eq_true rfl) (by rintro _ ⟨_, _, _, rfl, _⟩; exact (Nat.le_of_ble_eq_true rfl)) ?_
      rintro w1 ⟨al2, gd2, ad2, rfl, h2⟩
      refine AW.world (ws2 := wK E kq cg qf gf af qd gd2 ad2 qk gk ak ql (kbL gl) al2 qr gr ar rx qm qx gx ax qs sx qo go ao qp gp_ ap L) mK_ld3 ?_
      have hE2 := hE.als (C := C) hGB.1 hc0 m (Nat.le_refl _)
      rw [← h2] at hE2
      refine AW.pcq (pc2 := 47) rfl ?_
      refine A_iload_n (dX5_once 23 rfl) rfl ?_
      refine A_if_ne 64 (dX5_once 24 rfl) (by decide) (fun h48 => ?_) (fun h48 => ?_)
      · refine A_aload_n (dX5_once 32 rfl) rfl ?_
        refine A_get (dX5_once 33 rfl) fwX5_16 wK_0 cK_f0_1 ?_
        refine A_get (dX5_once 34 rfl) fwX5_155 wK_8 cF_f0_9 ?_
        refine A_i2l (dX5_once 35 rfl) ?_
        refine A_rl (dX5_once 36 rfl) rfl ?_
        refine ⟨?_, ⟨gd2, ad2, (kbL gl), al2, go, ao, gp_, ap, rfl⟩⟩
        first
          | (rw [if_pos h48]; exact congrArg Int32.toInt64 (hE2.2.1 c0 hc0))
          | (rw [if_neg h48]; exact congrArg Int32.toInt64 hE2.o0)
      · refine A_aload_n (dX5_once 25 rfl) rfl ?_
        refine A_get (dX5_once 26 rfl) fwX5_16 wK_0 cK_f0_1 ?_
        refine A_get (dX5_once 27 rfl) fwX5_100 wK_8 cF_f0_0 ?_
        refine A_iload_n (dX5_once 28 rfl) rfl ?_
        refine A_iald (dX5_once 29 rfl) wK_9 (vp_in_nI (n := c0) (by omega) (by decide)) ?_
        rw [nI_clamp (n := c0) (by omega)]
        refine A_i2l (dX5_once 30 rfl) ?_
        refine A_goto 72 (dX5_once 31 rfl) (by decide) ?_
        refine A_rl (dX5_once 36 rfl) rfl ?_
        refine ⟨?_, ⟨gd2, ad2, (kbL gl), al2, go, ao, gp_, ap, rfl⟩⟩
        first
          | (rw [if_pos h48]; exact congrArg Int32.toInt64 (hE2.2.1 c0 hc0))
          | (rw [if_neg h48]; exact congrArg Int32.toInt64 hE2.o0)
    · refine A_ldc2 (dX5_once 7 rfl) kcX5_207 ?_
      refine A_rl (dX5_once 8 rfl) rfl ?_
      exact ⟨by rw [if_pos (by first | exact Or.inl (by assumption) | exact Or.inr (by assumption))], ⟨gd, ad, gl, al, go, ao, gp_, ap, rfl⟩⟩

set_option maxRecDepth 100000 in
set_option maxHeartbeats 400000 in
theorem K_once4 (E : ag) (kq : Nat) (cg : Nat → Int32) (qf : Nat → Nat) (gf : Nat → Int32) (af : Nat → Nat → Int32) (qd : Nat → Nat) (gd : Nat → Int32) (ad : Nat → Nat → Int32) (qk : Nat → Nat) (gk : Nat → Int32) (ak : Nat → Nat → Int32) (ql : Nat → Nat) (gl : Nat → Int32) (al : Nat → Nat → Int32) (qr : Nat → Nat) (gr : Nat → Int32) (ar : Nat → Nat → Int32) (rx : Nat) (qm : Nat) (qx : Nat → Nat → Nat) (gx : Nat → Nat → Int32) (ax : Nat → Nat → Nat → Int32) (qs : Nat) (sx : Nat → Option Nat) (qo : Nat → Nat) (go : Nat → Int32) (ao : Nat → Nat → Int32) (qp : Nat → Nat) (gp_ : Nat → Int32) (ap : Nat → Nat → Int32) (L : va_W) (m : Nat) (C : Nat → List Int32) (hr4 : gf 4 = nI 4) (hC : TKC (ax 4) C) (hG : GOOD (cfs gf af gl) m) (cl part : Int32) : CT E yX5_once cX5_once 3 mX5_once.2.2.2.1 6 0 0 [.ref kq, .int cl, .int part] (wK E kq cg qf gf af qd gd ad qk gk ak ql gl al qr gr ar rx qm qx gx ax qs sx qo go ao qp gp_ ap L) (rl (fun r w => r = (if inI cl 0 11 = 0 ∨ inI part 0 1 = 0 then -4611686018427387904 else if part = 0 then ((p_als C cl.toNatClampNeg m (p_beg (cfs gf af gl))).2 0 cl.toNatClampNeg).toInt64 else ((p_als C cl.toNatClampNeg m (p_beg (cfs gf af gl))).1 3).toInt64) ∧ QK E kq cg qf gf af qd gd ad qk gk ak ql gl al qr gr ar rx qm qx gx ax qs sx qo go ao qp gp_ ap L w)) := by
  refine CT.of (M := mX5_once) (ls := [some (.ref kq), some (.int cl), some (.int part)]) (by decide) rfl (by decide) rfl (Nat.le_of_ble_eq_true rfl) ?_
  refine A_iload_n (dX5_once 0 rfl) rfl ?_
  refine A_callSWi 1 (dX5_once 1 rfl) cbX5_isCell cwX5_97 (k_isCell E _ cl) rfl rfl (Nat.le_of_ble_eq_true rfl) (Nat.le_of_ble_eq_true rfl) (Nat.le_of_ble_eq_true rfl) (Nat.le_of_ble_eq_true rfl) (Nat.le_of_ble_eq_true rfl) ?_
  rintro r1 w1 ⟨rfl, rfl⟩
  refine AW.pcq (pc2 := 4) rfl ?_
  refine A_if_eq 15 (dX5_once 2 rfl) (by decide) (fun h4 => ?_) (fun h4 => ?_)
  · refine A_ldc2 (dX5_once 7 rfl) kcX5_207 ?_
    refine A_rl (dX5_once 8 rfl) rfl ?_
    exact ⟨by rw [if_pos (by first | exact Or.inl (by assumption) | exact Or.inr (by assumption))], ⟨gd, ad, gl, al, go, ao, gp_, ap, rfl⟩⟩
  · refine A_iload_n (dX5_once 3 rfl) rfl ?_
    refine A_iconst (1) (dX5_once 4 rfl) (by decide +kernel) ?_
    refine A_callSWi 2 (dX5_once 5 rfl) cbX5_within cwX5_87 (k_within E _ part 1) rfl rfl (Nat.le_of_ble_eq_true rfl) (Nat.le_of_ble_eq_true rfl) (Nat.le_of_ble_eq_true rfl) (Nat.le_of_ble_eq_true rfl) (Nat.le_of_ble_eq_true rfl) ?_
    rintro r9 w1 ⟨rfl, rfl⟩
    refine AW.pcq (pc2 := 12) rfl ?_
    refine A_if_ne 19 (dX5_once 6 rfl) (by decide) (fun h12 => ?_) (fun h12 => ?_)
    · rw [if_neg (fun z => z.elim h4 h12)]
      obtain ⟨c0, hc0, rfl⟩ := cell_nI h4
      simp only [nI_clamp (n := c0) (by omega)]
      refine A_aload_n (dX5_once 9 rfl) rfl ?_
      refine A_callVWv 0 (dX5_once 10 rfl) cbX5_beginTrial cwX5_165 (K_begin E kq cg qf gf af qd gd ad qk gk ak ql gl al qr gr ar rx qm qx gx ax qs sx qo go ao qp gp_ ap L) rfl rfl wK_0 rfl rfl (Nat.le_of_ble_eq_true rfl) (Nat.le_of_ble_eq_true rfl) (Nat.le_of_ble_eq_true rfl) (Nat.le_of_ble_eq_true rfl) (Nat.le_of_ble_eq_true rfl) ?_
      rintro w1 rfl
      have hE := kb_EQ (gd := gd) (ad := ad) (gf := gf) (af := af) (gl := gl) (gl0 := gl) hG.1.1
      have hGB := hG.beg.eq hE
      refine AW.pcq (pc2 := 23) rfl ?_
      refine A_aload_n (dX5_once 11 rfl) rfl ?_
      refine A_get (dX5_once 12 rfl) fwX5_29 wK_0 cK_f0_4 ?_
      refine A_aload_n (dX5_once 13 rfl) rfl ?_
      refine A_get (dX5_once 14 rfl) fwX5_16 wK_0 cK_f0_1 ?_
      refine A_aload_n (dX5_once 15 rfl) rfl ?_
      refine A_get (dX5_once 16 rfl) fwX5_42 wK_0 cK_f0_6 ?_
      refine A_aload_n (dX5_once 17 rfl) rfl ?_
      refine A_get (dX5_once 18 rfl) fwX5_10 wK_0 cK_f0_0 ?_
      refine AW.pcq (pc2 := 39) rfl ?_
      refine A_get (dX5_once 19 rfl) fwX5_152 wK_1 cF_f0_10 ?_
      rw [hr4]
      refine A_aald 3 (dX5_once 20 rfl) wK_27 rfl (vp_in_nI (n := 4) (by decide) (by decide)) ?_
      rw [nI_clamp (n := 4) (by decide)]
      refine AW.stack (st2 := [.ref (qx 4 0), .ref (qd 0), .ref (ql 0)]) rfl ?_
      refine A_iload_n (dX5_once 21 rfl) rfl ?_
      refine A_callVv 3 (dX5_once 22 rfl) cbX0_allStrike cwX5_209 (l_allStrike E ql (kbL gl) al qd (kbG gd gf) (kbA ad af) (qx 4) (gx 4) (ax 4) m c0 C hC hGB.1 hGB.2.1 hGB.2.2 hc0) rfl rfl wLT_0 rfl rfl [22, 23, 24, 8, 9, 10, 11, 12, 13, 14, 40, 41, 42] rfl rfl (Nat.le_of_ble_eq_true rfl) (Nat.le_of_ble_eq_true rfl) (Nat.le_of_ble_eq_true rfl) (Nat.le_of_ble_eq_true rfl) (Nat.le_of_ble_eq_true rfl) (by rintro _ ⟨_, _, _, rfl, _⟩; exact (Nat.le_of_ble_eq_true rfl)) ?_
      rintro w1 ⟨al2, gd2, ad2, rfl, h2⟩
      refine AW.world (ws2 := wK E kq cg qf gf af qd gd2 ad2 qk gk ak ql (kbL gl) al2 qr gr ar rx qm qx gx ax qs sx qo go ao qp gp_ ap L) mK_ld4 ?_
      have hE2 := hE.als (C := C) hGB.1 hc0 m (Nat.le_refl _)
      rw [← h2] at hE2
      refine AW.pcq (pc2 := 47) rfl ?_
      refine A_iload_n (dX5_once 23 rfl) rfl ?_
      refine A_if_ne 64 (dX5_once 24 rfl) (by decide) (fun h48 => ?_) (fun h48 => ?_)
      · refine A_aload_n (dX5_once 32 rfl) rfl ?_
        refine A_get (dX5_once 33 rfl) fwX5_16 wK_0 cK_f0_1 ?_
        refine A_get (dX5_once 34 rfl) fwX5_155 wK_8 cF_f0_9 ?_
        refine A_i2l (dX5_once 35 rfl) ?_
        refine A_rl (dX5_once 36 rfl) rfl ?_
        refine ⟨?_, ⟨gd2, ad2, (kbL gl), al2, go, ao, gp_, ap, rfl⟩⟩
        first
          | (rw [if_pos h48]; exact congrArg Int32.toInt64 (hE2.2.1 c0 hc0))
          | (rw [if_neg h48]; exact congrArg Int32.toInt64 hE2.o0)
      · refine A_aload_n (dX5_once 25 rfl) rfl ?_
        refine A_get (dX5_once 26 rfl) fwX5_16 wK_0 cK_f0_1 ?_
        refine A_get (dX5_once 27 rfl) fwX5_100 wK_8 cF_f0_0 ?_
        refine A_iload_n (dX5_once 28 rfl) rfl ?_
        refine A_iald (dX5_once 29 rfl) wK_9 (vp_in_nI (n := c0) (by omega) (by decide)) ?_
        rw [nI_clamp (n := c0) (by omega)]
        refine A_i2l (dX5_once 30 rfl) ?_
        refine A_goto 72 (dX5_once 31 rfl) (by decide) ?_
        refine A_rl (dX5_once 36 rfl) rfl ?_
        refine ⟨?_, ⟨gd2, ad2, (kbL gl), al2, go, ao, gp_, ap, rfl⟩⟩
        first
          | (rw [if_pos h48]; exact congrArg Int32.toInt64 (hE2.2.1 c0 hc0))
          | (rw [if_neg h48]; exact congrArg Int32.toInt64 hE2.o0)
    · refine A_ldc2 (dX5_once 7 rfl) kcX5_207 ?_
      refine A_rl (dX5_once 8 rfl) rfl ?_
      exact ⟨by rw [if_pos (by first | exact Or.inl (by assumption) | exact Or.inr (by assumption))], ⟨gd, ad, gl, al, go, ao, gp_, ap, rfl⟩⟩

set_option maxRecDepth 100000 in
set_option maxHeartbeats 400000 in
theorem K_once5 (E : ag) (kq : Nat) (cg : Nat → Int32) (qf : Nat → Nat) (gf : Nat → Int32) (af : Nat → Nat → Int32) (qd : Nat → Nat) (gd : Nat → Int32) (ad : Nat → Nat → Int32) (qk : Nat → Nat) (gk : Nat → Int32) (ak : Nat → Nat → Int32) (ql : Nat → Nat) (gl : Nat → Int32) (al : Nat → Nat → Int32) (qr : Nat → Nat) (gr : Nat → Int32) (ar : Nat → Nat → Int32) (rx : Nat) (qm : Nat) (qx : Nat → Nat → Nat) (gx : Nat → Nat → Int32) (ax : Nat → Nat → Nat → Int32) (qs : Nat) (sx : Nat → Option Nat) (qo : Nat → Nat) (go : Nat → Int32) (ao : Nat → Nat → Int32) (qp : Nat → Nat) (gp_ : Nat → Int32) (ap : Nat → Nat → Int32) (L : va_W) (m : Nat) (C : Nat → List Int32) (hr4 : gf 4 = nI 5) (hC : TKC (ax 5) C) (hG : GOOD (cfs gf af gl) m) (cl part : Int32) : CT E yX5_once cX5_once 3 mX5_once.2.2.2.1 6 0 0 [.ref kq, .int cl, .int part] (wK E kq cg qf gf af qd gd ad qk gk ak ql gl al qr gr ar rx qm qx gx ax qs sx qo go ao qp gp_ ap L) (rl (fun r w => r = (if inI cl 0 11 = 0 ∨ inI part 0 1 = 0 then -4611686018427387904 else if part = 0 then ((p_als C cl.toNatClampNeg m (p_beg (cfs gf af gl))).2 0 cl.toNatClampNeg).toInt64 else ((p_als C cl.toNatClampNeg m (p_beg (cfs gf af gl))).1 3).toInt64) ∧ QK E kq cg qf gf af qd gd ad qk gk ak ql gl al qr gr ar rx qm qx gx ax qs sx qo go ao qp gp_ ap L w)) := by
  refine CT.of (M := mX5_once) (ls := [some (.ref kq), some (.int cl), some (.int part)]) (by decide) rfl (by decide) rfl (Nat.le_of_ble_eq_true rfl) ?_
  refine A_iload_n (dX5_once 0 rfl) rfl ?_
  refine A_callSWi 1 (dX5_once 1 rfl) cbX5_isCell cwX5_97 (k_isCell E _ cl) rfl rfl (Nat.le_of_ble_eq_true rfl) (Nat.le_of_ble_eq_true rfl) (Nat.le_of_ble_eq_true rfl) (Nat.le_of_ble_eq_true rfl) (Nat.le_of_ble_eq_true rfl) ?_
  rintro r1 w1 ⟨rfl, rfl⟩
  refine AW.pcq (pc2 := 4) rfl ?_
  refine A_if_eq 15 (dX5_once 2 rfl) (by decide) (fun h4 => ?_) (fun h4 => ?_)
  · refine A_ldc2 (dX5_once 7 rfl) kcX5_207 ?_
    refine A_rl (dX5_once 8 rfl) rfl ?_
    exact ⟨by rw [if_pos (by first | exact Or.inl (by assumption) | exact Or.inr (by assumption))], ⟨gd, ad, gl, al, go, ao, gp_, ap, rfl⟩⟩
  · refine A_iload_n (dX5_once 3 rfl) rfl ?_
    refine A_iconst (1) (dX5_once 4 rfl) (by decide +kernel) ?_
    refine A_callSWi 2 (dX5_once 5 rfl) cbX5_within cwX5_87 (k_within E _ part 1) rfl rfl (Nat.le_of_ble_eq_true rfl) (Nat.le_of_ble_eq_true rfl) (Nat.le_of_ble_eq_true rfl) (Nat.le_of_ble_eq_true rfl) (Nat.le_of_ble_eq_true rfl) ?_
    rintro r9 w1 ⟨rfl, rfl⟩
    refine AW.pcq (pc2 := 12) rfl ?_
    refine A_if_ne 19 (dX5_once 6 rfl) (by decide) (fun h12 => ?_) (fun h12 => ?_)
    · rw [if_neg (fun z => z.elim h4 h12)]
      obtain ⟨c0, hc0, rfl⟩ := cell_nI h4
      simp only [nI_clamp (n := c0) (by omega)]
      refine A_aload_n (dX5_once 9 rfl) rfl ?_
      refine A_callVWv 0 (dX5_once 10 rfl) cbX5_beginTrial cwX5_165 (K_begin E kq cg qf gf af qd gd ad qk gk ak ql gl al qr gr ar rx qm qx gx ax qs sx qo go ao qp gp_ ap L) rfl rfl wK_0 rfl rfl (Nat.le_of_ble_eq_true rfl) (Nat.le_of_ble_eq_true rfl) (Nat.le_of_ble_eq_true rfl) (Nat.le_of_ble_eq_true rfl) (Nat.le_of_ble_eq_true rfl) ?_
      rintro w1 rfl
      have hE := kb_EQ (gd := gd) (ad := ad) (gf := gf) (af := af) (gl := gl) (gl0 := gl) hG.1.1
      have hGB := hG.beg.eq hE
      refine AW.pcq (pc2 := 23) rfl ?_
      refine A_aload_n (dX5_once 11 rfl) rfl ?_
      refine A_get (dX5_once 12 rfl) fwX5_29 wK_0 cK_f0_4 ?_
      refine A_aload_n (dX5_once 13 rfl) rfl ?_
      refine A_get (dX5_once 14 rfl) fwX5_16 wK_0 cK_f0_1 ?_
      refine A_aload_n (dX5_once 15 rfl) rfl ?_
      refine A_get (dX5_once 16 rfl) fwX5_42 wK_0 cK_f0_6 ?_
      refine A_aload_n (dX5_once 17 rfl) rfl ?_
      refine A_get (dX5_once 18 rfl) fwX5_10 wK_0 cK_f0_0 ?_
      refine AW.pcq (pc2 := 39) rfl ?_
      refine A_get (dX5_once 19 rfl) fwX5_152 wK_1 cF_f0_10 ?_
      rw [hr4]
      refine A_aald 3 (dX5_once 20 rfl) wK_27 rfl (vp_in_nI (n := 5) (by decide) (by decide)) ?_
      rw [nI_clamp (n := 5) (by decide)]
      refine AW.stack (st2 := [.ref (qx 5 0), .ref (qd 0), .ref (ql 0)]) rfl ?_
      refine A_iload_n (dX5_once 21 rfl) rfl ?_
      refine A_callVv 3 (dX5_once 22 rfl) cbX0_allStrike cwX5_209 (l_allStrike E ql (kbL gl) al qd (kbG gd gf) (kbA ad af) (qx 5) (gx 5) (ax 5) m c0 C hC hGB.1 hGB.2.1 hGB.2.2 hc0) rfl rfl wLT_0 rfl rfl [22, 23, 24, 8, 9, 10, 11, 12, 13, 14, 43, 44, 45] rfl rfl (Nat.le_of_ble_eq_true rfl) (Nat.le_of_ble_eq_true rfl) (Nat.le_of_ble_eq_true rfl) (Nat.le_of_ble_eq_true rfl) (Nat.le_of_ble_eq_true rfl) (by rintro _ ⟨_, _, _, rfl, _⟩; exact (Nat.le_of_ble_eq_true rfl)) ?_
      rintro w1 ⟨al2, gd2, ad2, rfl, h2⟩
      refine AW.world (ws2 := wK E kq cg qf gf af qd gd2 ad2 qk gk ak ql (kbL gl) al2 qr gr ar rx qm qx gx ax qs sx qo go ao qp gp_ ap L) mK_ld5 ?_
      have hE2 := hE.als (C := C) hGB.1 hc0 m (Nat.le_refl _)
      rw [← h2] at hE2
      refine AW.pcq (pc2 := 47) rfl ?_
      refine A_iload_n (dX5_once 23 rfl) rfl ?_
      refine A_if_ne 64 (dX5_once 24 rfl) (by decide) (fun h48 => ?_) (fun h48 => ?_)
      · refine A_aload_n (dX5_once 32 rfl) rfl ?_
        refine A_get (dX5_once 33 rfl) fwX5_16 wK_0 cK_f0_1 ?_
        refine A_get (dX5_once 34 rfl) fwX5_155 wK_8 cF_f0_9 ?_
        refine A_i2l (dX5_once 35 rfl) ?_
        refine A_rl (dX5_once 36 rfl) rfl ?_
        refine ⟨?_, ⟨gd2, ad2, (kbL gl), al2, go, ao, gp_, ap, rfl⟩⟩
        first
          | (rw [if_pos h48]; exact congrArg Int32.toInt64 (hE2.2.1 c0 hc0))
          | (rw [if_neg h48]; exact congrArg Int32.toInt64 hE2.o0)
      · refine A_aload_n (dX5_once 25 rfl) rfl ?_
        refine A_get (dX5_once 26 rfl) fwX5_16 wK_0 cK_f0_1 ?_
        refine A_get (dX5_once 27 rfl) fwX5_100 wK_8 cF_f0_0 ?_
        refine A_iload_n (dX5_once 28 rfl) rfl ?_
        refine A_iald (dX5_once 29 rfl) wK_9 (vp_in_nI (n := c0) (by omega) (by decide)) ?_
        rw [nI_clamp (n := c0) (by omega)]
        refine A_i2l (dX5_once 30 rfl) ?_
        refine A_goto 72 (dX5_once 31 rfl) (by decide) ?_
        refine A_rl (dX5_once 36 rfl) rfl ?_
        refine ⟨?_, ⟨gd2, ad2, (kbL gl), al2, go, ao, gp_, ap, rfl⟩⟩
        first
          | (rw [if_pos h48]; exact congrArg Int32.toInt64 (hE2.2.1 c0 hc0))
          | (rw [if_neg h48]; exact congrArg Int32.toInt64 hE2.o0)
    · refine A_ldc2 (dX5_once 7 rfl) kcX5_207 ?_
      refine A_rl (dX5_once 8 rfl) rfl ?_
      exact ⟨by rw [if_pos (by first | exact Or.inl (by assumption) | exact Or.inr (by assumption))], ⟨gd, ad, gl, al, go, ao, gp_, ap, rfl⟩⟩

theorem K_once (E : ag) (kq : Nat) (cg : Nat → Int32) (qf : Nat → Nat) (gf : Nat → Int32) (af : Nat → Nat → Int32) (qd : Nat → Nat) (gd : Nat → Int32) (ad : Nat → Nat → Int32) (qk : Nat → Nat) (gk : Nat → Int32) (ak : Nat → Nat → Int32) (ql : Nat → Nat) (gl : Nat → Int32) (al : Nat → Nat → Int32) (qr : Nat → Nat) (gr : Nat → Int32) (ar : Nat → Nat → Int32) (rx : Nat) (qm : Nat) (qx : Nat → Nat → Nat) (gx : Nat → Nat → Int32) (ax : Nat → Nat → Nat → Int32) (qs : Nat) (sx : Nat → Option Nat) (qo : Nat → Nat) (go : Nat → Int32) (ao : Nat → Nat → Int32) (qp : Nat → Nat) (gp_ : Nat → Int32) (ap : Nat → Nat → Int32) (L : va_W) (t m : Nat) (ht : t < 6) (C : Nat → List Int32) (hr4 : gf 4 = nI t) (hC : TKC (ax t) C) (hG : GOOD (cfs gf af gl) m) (cl part : Int32) : CT E yX5_once cX5_once 3 mX5_once.2.2.2.1 6 0 0 [.ref kq, .int cl, .int part] (wK E kq cg qf gf af qd gd ad qk gk ak ql gl al qr gr ar rx qm qx gx ax qs sx qo go ao qp gp_ ap L) (rl (fun r w => r = (if inI cl 0 11 = 0 ∨ inI part 0 1 = 0 then -4611686018427387904 else if part = 0 then ((p_als C cl.toNatClampNeg m (p_beg (cfs gf af gl))).2 0 cl.toNatClampNeg).toInt64 else ((p_als C cl.toNatClampNeg m (p_beg (cfs gf af gl))).1 3).toInt64) ∧ QK E kq cg qf gf af qd gd ad qk gk ak ql gl al qr gr ar rx qm qx gx ax qs sx qo go ao qp gp_ ap L w)) := by
  match t with
  | 0 => exact K_once0 E kq cg qf gf af qd gd ad qk gk ak ql gl al qr gr ar rx qm qx gx ax qs sx qo go ao qp gp_ ap L m C hr4 hC hG cl part
  | 1 => exact K_once1 E kq cg qf gf af qd gd ad qk gk ak ql gl al qr gr ar rx qm qx gx ax qs sx qo go ao qp gp_ ap L m C hr4 hC hG cl part
  | 2 => exact K_once2 E kq cg qf gf af qd gd ad qk gk ak ql gl al qr gr ar rx qm qx gx ax qs sx qo go ao qp gp_ ap L m C hr4 hC hG cl part
  | 3 => exact K_once3 E kq cg qf gf af qd gd ad qk gk ak ql gl al qr gr ar rx qm qx gx ax qs sx qo go ao qp gp_ ap L m C hr4 hC hG cl part
  | 4 => exact K_once4 E kq cg qf gf af qd gd ad qk gk ak ql gl al qr gr ar rx qm qx gx ax qs sx qo go ao qp gp_ ap L m C hr4 hC hG cl part
  | 5 => exact K_once5 E kq cg qf gf af qd gd ad qk gk ak ql gl al qr gr ar rx qm qx gx ax qs sx qo go ao qp gp_ ap L m C hr4 hC hG cl part
  | t + 6 => omega
