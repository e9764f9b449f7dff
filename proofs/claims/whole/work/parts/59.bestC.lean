theorem cf_men {gf gl : Nat → Int32} {af : Nat → Nat → Int32} {v : Int32} : cfs (upd gf 0 v) af gl = p_men v (cfs gf af gl) := by
  refine cfs_eq rfl rfl rfl rfl rfl rfl (fun k hk => ?_) rfl rfl rfl rfl rfl rfl (fun k hk => cfs_az (gf := gf) (gl := gl) hk)
  show upd (cfs gf af gl).1 0 v k = 0
  simp only [upd]
  rw [if_neg (by omega)]
  exact cfs_z hk
theorem GOOD.men {s : FS} {m k : Nat} (h : GOOD s m) (hk : k ≤ m) : GOOD (p_men (nI k) s) k := ⟨h.1.men (by have := h.1.1; omega), h.2.1, fun i hi => h.2.2 i (by omega)⟩
def p_fewC (C : Nat → List Int32) (want : Int32) (s : FS) : Nat → Nat → Int32
  | 0, _ => -1
  | n + 1, k => if want ≤ (p_rounds C 12 (p_men (nI k) s)).1 3 then nI k else p_fewC C want s n (k + 1)
theorem cf_leave {gf gl : Nat → Int32} {af : Nat → Nat → Int32} {m who : Nat} {x : Int32} (hx : x = nI (m - 1)) : cfs (upd gf 0 x) (va_up (va_up (va_up (va_up af 2 (p_lv m who (af 2))) 3 (p_lv m who (af 3))) 4 (p_lv m who (af 4))) 5 (p_lv m who (af 5))) gl = p_leave m who (cfs gf af gl) := by
  subst hx
  refine cfs_eq rfl rfl rfl rfl rfl rfl (fun k hk => ?_) rfl rfl rfl rfl rfl rfl (fun k hk => ?_)
  · show upd (cfs gf af gl).1 0 _ k = 0
    simp only [upd]
    rw [if_neg (by omega)]
    exact cfs_z hk
  · show p_lvA m who (cfs gf af gl).2 k = _
    simp only [p_lvA, va_up]
    rw [if_neg (by omega), if_neg (by omega), if_neg (by omega), if_neg (by omega)]
    exact cfs_az (gf := gf) (gl := gl) hk
theorem GOOD.leave {s : FS} {m who : Nat} (h : GOOD s m) (hw : who < m) : GOOD (p_leave m who s) (m - 1) := by
  refine ⟨h.1.leave, h.2.1, fun i hi => ?_⟩
  show MOK (p_lv m who (s.2 2) i) (p_lv m who (s.2 4) i) (p_lv m who (s.2 5) i)
  simp only [p_lv]
  by_cases e : who ≤ i ∧ i + 1 < m
  · rw [if_pos e, if_pos e, if_pos e]; exact h.2.2 (i + 1) (by omega)
  · rw [if_neg e, if_neg e, if_neg e]; exact h.2.2 i (by omega)
def p_homeC (C : Nat → List Int32) (m : Nat) (s : FS) (who : Nat) : Int32 := (p_rounds C 12 (p_leave m who s)).1 3
def BTS (s : FS) (m : Nat) : Prop := ∀ i, i < m → ∃ B, B ≤ 239 ∧ s.2 3 i = nI B
theorem hld_n {B v : Nat} (hB : B ≤ 239) (hv : 12 ≤ v) (hv2 : v ≤ 240) : hld (nI B) (nI v) = nI B - nI B / nI v * nI v := by
  rw [hld_p (nI_nle (by omega) (by omega))]
  unfold mo
  rw [pk_rem (by omega) (by omega) (by omega), if_neg (nI_pos (by have := Nat.mod_lt B (show 0 < v by omega); omega))]
theorem cf_bars {gf gl : Nat → Int32} {af : Nat → Nat → Int32} {m v : Nat} {s : FS} (h : EQ m 0 (cfs gf af gl) s) (hB : BTS s m) (hv : 12 ≤ v) (hv2 : v ≤ 240) : EQ m 0 (cfs (upd gf 1 (nI v)) (va_up af 3 (cp m (fun k => hld (af 3 k) (nI v)) (af 3))) gl) (p_bars m (nI v) s) := by
  obtain ⟨⟨g0, g1, g2, g3, g4, g5⟩, a0, a1, a2, a3, a4, a5⟩ := h
  refine ⟨⟨g0, rfl, g2, g3, g4, g5⟩, a0, a1, a2, fun i hi => ?_, a4, a5⟩
  show cp m (fun k => hld (af 3 k) (nI v)) (af 3) i = cp m (rmf (nI v) (s.2 3)) (s.2 3) i
  rw [cp_in hi, cp_in hi]
  unfold rmf
  have h3 : af 3 i = s.2 3 i := a3 i hi
  obtain ⟨B, hB1, hB2⟩ := hB i hi
  rw [h3, hB2]
  exact hld_n hB1 hv hv2
theorem GOOD.bars {s : FS} {m v : Nat} (h : GOOD s m) (hv : 12 ≤ v) (hv2 : v ≤ 240) : GOOD (p_bars m (nI v) s) m := ⟨h.1.bars (nI_ne0 (by omega) (by omega)), nI_nle (by omega) (by omega), h.2.2⟩
def p_barC (C : Nat → List Int32) (m : Nat) (s : FS) (b : Nat) : Int32 := (p_rounds C 12 (p_bars m (nI b) s)).1 3 * 1000 / (12 * nI b)
theorem l12i {b : Nat} (h : b ≤ 240) (h0 : 12 ≤ b) : ¬ 12 * nI b = 0 := by rw [show (12 : Int32) * nI b = nI (12 * b) from pk_mul 12 b]; exact nI_ne0 (by omega) (by omega)
def WET (s : FS) : Prop := ∀ c, c < 12 → ∃ W, W ≤ 9 ∧ s.2 1 c = nI W
theorem p_rounds_A {C : Nat → List Int32} {s : FS} {j : Nat} (h0 : j ≠ 0) (h3 : j ≠ 3) : ∀ n, (p_rounds C n s).2 j = s.2 j := by
  intro n
  induction n with
  | zero => rfl
  | succ n ih => exact (show (p_round C zro (p_rounds C n s)).2 j = _ from p_turns_A h0 h3 _).trans ih
theorem cf_turned {gf gl : Nat → Int32} {af : Nat → Nat → Int32} {m : Nat} {d : Int32} {s : FS} (h : EQ m d (cfs gf af gl) s) : EQ m d (cfs gf (va_up (va_up af 0 (rvc 6 (af 0))) 1 (cp 12 (fun k => dw (af 1 k)) (af 1))) gl) (p_turned s) := by
  obtain ⟨g, a0, a1, a2, a3, a4, a5⟩ := h
  refine ⟨g, fun c hc => ?_, fun c hc => ?_, a2, a3, a4, a5⟩
  · show rvc 6 (af 0) c = s.2 0 (11 - c)
    rw [rvc_6 hc]
    exact a0 (11 - c) (by omega)
  · show cp 12 (fun k => dw (af 1 k)) (af 1) c = dw (s.2 1 c)
    rw [cp_in hc]
    exact congrArg dw (a1 c hc)
theorem GOOD.turned {s : FS} {m : Nat} (h : GOOD s m) : GOOD (p_turned s) m := h
/-- a trial in which straw is turned ahead of round k: behind c rounds -/
def p_ahd (C : Nat → List Int32) (s : FS) (k c : Nat) : FS := if c ≤ k then p_rounds C c s else p_rounds C (c - k) (p_turned (p_rounds C k s))
set_option maxRecDepth 100000 in
set_option maxHeartbeats 400000 in
theorem K_fewL (E : ag) (kq : Nat) (cg : Nat → Int32) (qf : Nat → Nat) (gf : Nat → Int32) (af : Nat → Nat → Int32) (qd : Nat → Nat) (gd : Nat → Int32) (ad : Nat → Nat → Int32) (qk : Nat → Nat) (gk : Nat → Int32) (ak : Nat → Nat → Int32) (ql : Nat → Nat) (gl : Nat → Int32) (al : Nat → Nat → Int32) (qr : Nat → Nat) (gr : Nat → Int32) (ar : Nat → Nat → Int32) (rx : Nat) (qm : Nat) (qx : Nat → Nat → Nat) (gx : Nat → Nat → Int32) (ax : Nat → Nat → Nat → Int32) (qs : Nat) (sx : Nat → Option Nat) (qo : Nat → Nat) (go : Nat → Int32) (ao : Nat → Nat → Int32) (qp : Nat → Nat) (gp_ : Nat → Int32) (ap : Nat → Nat → Int32) (L : va_W) (t m : Nat) (ht : t < 6) (C : Nat → List Int32) (hr4 : gf 4 = nI t) (hC : TKC (ax t) C) (hG : GOOD (cfs gf af gl) m) (want : Int32) : ∀ (n c : Nat), c + n = (m + 1) → 1 ≤ c → ∀ (gd1 : Nat → Int32) (ad1 : Nat → Nat → Int32) (gl1 : Nat → Int32) (al1 : Nat → Nat → Int32), AW E mX5_fewest 6 0 0 14 [some (.ref kq), some (.int want), some (.int (nI c))] [] (wK E kq cg qf gf af qd gd1 ad1 qk gk ak ql gl1 al1 qr gr ar rx qm qx gx ax qs sx qo go ao qp gp_ ap L) (ri (fun r w => r = p_fewC C want (p_beg (cfs gf af gl)) n c ∧ QK E kq cg qf gf af qd gd ad qk gk ak ql gl al qr gr ar rx qm qx gx ax qs sx qo go ao qp gp_ ap L w)) := by
  intro n
  induction n with
  | zero =>
    intro c hc
    intro hc1 gd1 ad1 gl1 al1
    have hm5 := hG.1.1
    obtain rfl : c = m + 1 := by omega
    refine A_iload_n (dX5_fewest 8 rfl) rfl ?_
    refine A_aload_n (dX5_fewest 9 rfl) rfl ?_
    refine A_get (dX5_fewest 10 rfl) fwX5_10 wK_0 cK_f0_0 ?_
    refine A_get (dX5_fewest 11 rfl) fwX5_91 wK_1 cF_f0_6 ?_
    refine A_icmp_gt 62 (dX5_fewest 12 rfl) (by decide) (fun h22 => ?_) (fun h22 => absurd (show gf 0 < nI (m + 1) by rw [(show gf 0 = nI m from hG.1.2.1)]; exact nI_lt (by omega) (by omega)) h22)
    refine A_iconst (-1) (dX5_fewest 31 rfl) (by decide +kernel) ?_
    refine A_ri (dX5_fewest 32 rfl) rfl rfl ?_
    exact ⟨rfl, ⟨gd1, ad1, gl1, al1, go, ao, gp_, ap, rfl⟩⟩
  | succ n ih =>
    intro c hc
    have hlt : c < (m + 1) := by omega
    intro hc1 gd1 ad1 gl1 al1
    have hm5 := hG.1.1
    refine A_iload_n (dX5_fewest 8 rfl) rfl ?_
    refine A_aload_n (dX5_fewest 9 rfl) rfl ?_
    refine A_get (dX5_fewest 10 rfl) fwX5_10 wK_0 cK_f0_0 ?_
    refine A_get (dX5_fewest 11 rfl) fwX5_91 wK_1 cF_f0_6 ?_
    refine A_icmp_gt 62 (dX5_fewest 12 rfl) (by decide) (fun h22 => absurd h22 (show ¬ gf 0 < nI c by rw [(show gf 0 = nI m from hG.1.2.1)]; exact nI_nlt (by omega) (by omega))) (fun h22 => ?_)
    refine A_aload_n (dX5_fewest 13 rfl) rfl ?_
    refine A_callVWv 0 (dX5_fewest 14 rfl) cbX5_beginTrial cwX5_165 (K_begin E kq cg qf gf af qd gd1 ad1 qk gk ak ql gl1 al1 qr gr ar rx qm qx gx ax qs sx qo go ao qp gp_ ap L) rfl rfl wK_0 rfl rfl (Nat.le_of_ble_eq_true rfl) (Nat.le_of_ble_eq_true rfl) (Nat.le_of_ble_eq_true rfl) (Nat.le_of_ble_eq_true rfl) (Nat.le_of_ble_eq_true rfl) ?_
    rintro w1 rfl
    have hE := kb_EQ (gd := gd1) (ad := ad1) (gf := gf) (af := af) (gl := gl1) (gl0 := gl) hG.1.1
    refine AW.pcq (pc2 := 29) rfl ?_
    refine A_aload_n (dX5_fewest 15 rfl) rfl ?_
    refine A_get (dX5_fewest 16 rfl) fwX5_16 wK_0 cK_f0_1 ?_
    refine A_iload_n (dX5_fewest 17 rfl) rfl ?_
    refine A_putO (dX5_fewest 18 rfl) fwX5_91 fcX1 ftX1_6 wK_8 rfl rfl cF_l0 (wK_p8_6 _) ?_
    have hE3 := hE.men (k := c) (by omega)
    rw [← cf_men] at hE3
    have hG3 := (hG.beg.men (k := c) (by omega)).eq hE3
    refine A_aload_n (dX5_fewest 19 rfl) rfl ?_
    refine A_bipush (12) (dX5_fewest 20 rfl) (by decide +kernel) ?_
    refine A_callVWv 1 (dX5_fewest 21 rfl) cbX5_tryRounds cwX5_168 (K_tryT E kq cg qf gf af qd (upd (kbG gd1 gf) 0 (nI c)) (kbA ad1 af) qk gk ak ql (kbL gl1) al1 qr gr ar rx qm qx gx ax qs sx qo go ao qp gp_ ap L t c ht C hr4 hC 12 (by decide) _ rfl rfl hG3) rfl rfl wK_0 rfl rfl (Nat.le_of_ble_eq_true rfl) (Nat.le_of_ble_eq_true rfl) (Nat.le_of_ble_eq_true rfl) (Nat.le_of_ble_eq_true rfl) (Nat.le_of_ble_eq_true rfl) ?_
    rintro w1 ⟨gd2, ad2, gl2, al2, rfl, h2, hl2⟩
    have hE4 := hE3.rounds (C := C) hG3.1 12
    rw [← h2] at hE4
    refine AW.pcq (pc2 := 43) rfl ?_
    refine A_aload_n (dX5_fewest 22 rfl) rfl ?_
    refine A_get (dX5_fewest 23 rfl) fwX5_16 wK_0 cK_f0_1 ?_
    refine A_get (dX5_fewest 24 rfl) fwX5_155 wK_8 cF_f0_9 ?_
    refine A_iload_n (dX5_fewest 25 rfl) rfl ?_
    refine A_icmp_lt 56 (dX5_fewest 26 rfl) (by decide) (fun h51 => ?_) (fun h51 => ?_)
    · have hw : ¬ want ≤ (p_rounds C 12 (p_men (nI c) (p_beg (cfs gf af gl)))).1 3 := by rw [← hE4.o0]; exact Int32.not_le.mpr h51
      rw [show p_fewC C want (p_beg (cfs gf af gl)) (n + 1) c = p_fewC C want (p_beg (cfs gf af gl)) n (c + 1) from if_neg hw]
      refine A_iinc (ls2 := [_, _, _]) (nI (c + 1)) (dX5_fewest 29 rfl) rfl (nI_1 c) (by decide) rfl rfl ?_
      refine A_goto 14 (dX5_fewest 30 rfl) (by decide) ?_
      exact ih (c + 1) (by omega) (by omega) gd2 ad2 gl2 al2
    · have hw : want ≤ (p_rounds C 12 (p_men (nI c) (p_beg (cfs gf af gl)))).1 3 := by rw [← hE4.o0]; exact Int32.not_lt.mp h51
      rw [show p_fewC C want (p_beg (cfs gf af gl)) (n + 1) c = nI c from if_pos hw]
      refine A_iload_n (dX5_fewest 27 rfl) rfl ?_
      refine A_ri (dX5_fewest 28 rfl) rfl rfl ?_
      exact ⟨rfl, ⟨gd2, ad2, gl2, al2, go, ao, gp_, ap, rfl⟩⟩

set_option maxRecDepth 100000 in
set_option maxHeartbeats 400000 in
theorem K_fewest (E : ag) (kq : Nat) (cg : Nat → Int32) (qf : Nat → Nat) (gf : Nat → Int32) (af : Nat → Nat → Int32) (qd : Nat → Nat) (gd : Nat → Int32) (ad : Nat → Nat → Int32) (qk : Nat → Nat) (gk : Nat → Int32) (ak : Nat → Nat → Int32) (ql : Nat → Nat) (gl : Nat → Int32) (al : Nat → Nat → Int32) (qr : Nat → Nat) (gr : Nat → Int32) (ar : Nat → Nat → Int32) (rx : Nat) (qm : Nat) (qx : Nat → Nat → Nat) (gx : Nat → Nat → Int32) (ax : Nat → Nat → Nat → Int32) (qs : Nat) (sx : Nat → Option Nat) (qo : Nat → Nat) (go : Nat → Int32) (ao : Nat → Nat → Int32) (qp : Nat → Nat) (gp_ : Nat → Int32) (ap : Nat → Nat → Int32) (L : va_W) (t m : Nat) (ht : t < 6) (C : Nat → List Int32) (hr4 : gf 4 = nI t) (hC : TKC (ax t) C) (hG : GOOD (cfs gf af gl) m) (want : Int32) : CT E yX5_fewest cX5_fewest 3 mX5_fewest.2.2.2.1 6 0 0 [.ref kq, .int want] (wK E kq cg qf gf af qd gd ad qk gk ak ql gl al qr gr ar rx qm qx gx ax qs sx qo go ao qp gp_ ap L) (ri (fun r w => r = (if inI want 0 999999 = 0 then -2 else p_fewC C want (p_beg (cfs gf af gl)) m 1) ∧ QK E kq cg qf gf af qd gd ad qk gk ak ql gl al qr gr ar rx qm qx gx ax qs sx qo go ao qp gp_ ap L w)) := by
  refine CT.of (M := mX5_fewest) (ls := [some (.ref kq), some (.int want), none]) (by decide) rfl (by decide) rfl (Nat.le_of_ble_eq_true rfl) ?_
  refine A_iload_n (dX5_fewest 0 rfl) rfl ?_
  refine A_ldc (dX5_fewest 1 rfl) kcX5_197 ?_
  refine A_callSWi 2 (dX5_fewest 2 rfl) cbX5_within cwX5_87 (k_within E _ want 999999) rfl rfl (Nat.le_of_ble_eq_true rfl) (Nat.le_of_ble_eq_true rfl) (Nat.le_of_ble_eq_true rfl) (Nat.le_of_ble_eq_true rfl) (Nat.le_of_ble_eq_true rfl) ?_
  rintro r3 w1 ⟨rfl, rfl⟩
  refine AW.pcq (pc2 := 6) rfl ?_
  refine A_if_ne 12 (dX5_fewest 3 rfl) (by decide) (fun h6 => ?_) (fun h6 => ?_)
  · refine A_iconst (1) (dX5_fewest 6 rfl) (by decide +kernel) ?_
    refine A_istore_n (ls2 := [_, _, _]) (dX5_fewest 7 rfl) (by decide) rfl rfl ?_
    rw [if_neg h6]
    exact K_fewL E kq cg qf gf af qd gd ad qk gk ak ql gl al qr gr ar rx qm qx gx ax qs sx qo go ao qp gp_ ap L t m ht C hr4 hC hG want m 1 (by omega) (by decide) gd ad gl al
  · refine A_bipush (-2) (dX5_fewest 4 rfl) (by decide +kernel) ?_
    refine A_ri (dX5_fewest 5 rfl) rfl rfl ?_
    exact ⟨by rw [if_pos (by assumption)], ⟨gd, ad, gl, al, go, ao, gp_, ap, rfl⟩⟩

set_option maxRecDepth 100000 in
set_option maxHeartbeats 400000 in
theorem K_barL (E : ag) (kq : Nat) (cg : Nat → Int32) (qf : Nat → Nat) (gf : Nat → Int32) (af : Nat → Nat → Int32) (qd : Nat → Nat) (gd : Nat → Int32) (ad : Nat → Nat → Int32) (qk : Nat → Nat) (gk : Nat → Int32) (ak : Nat → Nat → Int32) (ql : Nat → Nat) (gl : Nat → Int32) (al : Nat → Nat → Int32) (qr : Nat → Nat) (gr : Nat → Int32) (ar : Nat → Nat → Int32) (rx : Nat) (qm : Nat) (qx : Nat → Nat → Nat) (gx : Nat → Nat → Int32) (ax : Nat → Nat → Nat → Int32) (qs : Nat) (sx : Nat → Option Nat) (qo : Nat → Nat) (go : Nat → Int32) (ao : Nat → Nat → Int32) (qp : Nat → Nat) (gp_ : Nat → Int32) (ap : Nat → Nat → Int32) (L : va_W) (t m : Nat) (ht : t < 6) (C : Nat → List Int32) (hr4 : gf 4 = nI t) (hC : TKC (ax t) C) (hG : GOOD (cfs gf af gl) m) (hB : BTS (cfs gf af gl) m) (what : Int32) : ∀ (n c : Nat), c + n = 241 → 12 ≤ c → ∀ (gd1 : Nat → Int32) (ad1 : Nat → Nat → Int32) (gl1 : Nat → Int32) (al1 : Nat → Nat → Int32) (x y : Int32) (x5 : Option Value), noL [x5] = true → AW E mX5_bar 6 0 0 19 [some (.ref kq), some (.int what), some (.int x), some (.int y), some (.int (nI c)), x5] [] (wK E kq cg qf gf af qd gd1 ad1 qk gk ak ql gl1 al1 qr gr ar rx qm qx gx ax qs sx qo go ao qp gp_ ap L) (ri (fun r w => r = (if what = 0 then (bst (p_barC C m (p_beg (cfs gf af gl))) n c x y).1 else (bst (p_barC C m (p_beg (cfs gf af gl))) n c x y).2) ∧ QK E kq cg qf gf af qd gd ad qk gk ak ql gl al qr gr ar rx qm qx gx ax qs sx qo go ao qp gp_ ap L w)) := by
  intro n
  induction n with
  | zero =>
    intro c hc
    intro hc12 gd1 ad1 gl1 al1 x y x5 hx
    obtain rfl : c = 241 := by omega
    refine A_iload (dX5_bar 12 rfl) rfl ?_
    refine A_sipush (240) (dX5_bar 13 rfl) (by decide +kernel) ?_
    refine A_icmp_gt 84 (dX5_bar 14 rfl) (by decide) (fun h24 => ?_) (fun h24 => absurd (show (240 : Int32) < nI 241 by decide) h24)
    refine A_iload_n (dX5_bar 44 rfl) rfl ?_
    refine A_if_ne 92 (dX5_bar 45 rfl) (by decide) (fun hq => ?_) (fun hq => ?_)
    · refine A_iload_n (dX5_bar 48 rfl) rfl ?_
      refine A_ri (dX5_bar 49 rfl) rfl rfl ?_
      refine ⟨?_, ⟨gd1, ad1, gl1, al1, go, ao, gp_, ap, rfl⟩⟩
      first | rw [if_pos hq]; rfl | rw [if_neg hq]; rfl
    · refine A_iload_n (dX5_bar 46 rfl) rfl ?_
      refine A_goto 93 (dX5_bar 47 rfl) (by decide) ?_
      refine A_ri (dX5_bar 49 rfl) rfl rfl ?_
      refine ⟨?_, ⟨gd1, ad1, gl1, al1, go, ao, gp_, ap, rfl⟩⟩
      first | rw [if_pos hq]; rfl | rw [if_neg hq]; rfl
  | succ n ih =>
    intro c hc
    have hlt : c < 241 := by omega
    intro hc12 gd1 ad1 gl1 al1 x y x5 hx
    have hm5 := hG.1.1
    refine A_iload (dX5_bar 12 rfl) rfl ?_
    refine A_sipush (240) (dX5_bar 13 rfl) (by decide +kernel) ?_
    refine A_icmp_gt 84 (dX5_bar 14 rfl) (by decide) (fun h24 => absurd h24 (nI_nlt (a := 240) (b := c) (by omega) (by decide))) (fun h24 => ?_)
    refine A_aload_n (dX5_bar 15 rfl) rfl ?_
    refine A_callVWv 0 (dX5_bar 16 rfl) cbX5_beginTrial cwX5_165 (K_begin E kq cg qf gf af qd gd1 ad1 qk gk ak ql gl1 al1 qr gr ar rx qm qx gx ax qs sx qo go ao qp gp_ ap L) rfl rfl wK_0 rfl rfl (Nat.le_of_ble_eq_true rfl) (Nat.le_of_ble_eq_true rfl) (Nat.le_of_ble_eq_true rfl) (Nat.le_of_ble_eq_true rfl) (Nat.le_of_ble_eq_true rfl) ?_
    rintro w1 rfl
    have hE := kb_EQ (gd := gd1) (ad := ad1) (gf := gf) (af := af) (gl := gl1) (gl0 := gl) hG.1.1
    refine AW.pcq (pc2 := 31) rfl ?_
    refine A_aload_n (dX5_bar 17 rfl) rfl ?_
    refine A_get (dX5_bar 18 rfl) fwX5_16 wK_0 cK_f0_1 ?_
    refine A_iload (dX5_bar 19 rfl) rfl ?_
    refine A_callVi 1 (dX5_bar 20 rfl) cbX1_holdBy cwX5_129 (f_holdBy E qd (kbG gd1 gf) (kbA ad1 af) (nI c) m hm5 (show gf 0 = nI m from hG.1.2.1)) rfl rfl wF_0 rfl rfl [8, 9, 10, 11, 12, 13, 14] rfl rfl (Nat.le_of_ble_eq_true rfl) (Nat.le_of_ble_eq_true rfl) (Nat.le_of_ble_eq_true rfl) (Nat.le_of_ble_eq_true rfl) (Nat.le_of_ble_eq_true rfl) (by rintro _ _ ⟨_, rfl⟩; exact (Nat.le_of_ble_eq_true rfl)) ?_
    rintro r37 w1 ⟨rfl, rfl⟩
    have hE3 := cf_bars (v := c) hE hB (by omega) (by omega)
    have hG3 := (hG.beg.bars (v := c) (by omega) (by omega)).eq hE3
    refine AW.world (ws2 := wK E kq cg qf gf af qd (upd (kbG gd1 gf) 1 (nI c)) (va_up (kbA ad1 af) 3 (cp m (fun k => hld (kbA ad1 af 3 k) (nI c)) (kbA ad1 af 3))) qk gk ak ql (kbL gl1) al1 qr gr ar rx qm qx gx ax qs sx qo go ao qp gp_ ap L) mK_d ?_
    refine AW.pcq (pc2 := 40) rfl ?_
    refine A_pop (dX5_bar 21 rfl) rfl ?_
    refine A_aload_n (dX5_bar 22 rfl) rfl ?_
    refine A_bipush (12) (dX5_bar 23 rfl) (by decide +kernel) ?_
    refine A_callVWv 1 (dX5_bar 24 rfl) cbX5_tryRounds cwX5_168 (K_tryT E kq cg qf gf af qd (upd (kbG gd1 gf) 1 (nI c)) (va_up (kbA ad1 af) 3 (cp m (fun k => hld (kbA ad1 af 3 k) (nI c)) (kbA ad1 af 3))) qk gk ak ql (kbL gl1) al1 qr gr ar rx qm qx gx ax qs sx qo go ao qp gp_ ap L t m ht C hr4 hC 12 (by decide) _ rfl rfl hG3) rfl rfl wK_0 rfl rfl (Nat.le_of_ble_eq_true rfl) (Nat.le_of_ble_eq_true rfl) (Nat.le_of_ble_eq_true rfl) (Nat.le_of_ble_eq_true rfl) (Nat.le_of_ble_eq_true rfl) ?_
    rintro w1 ⟨gd2, ad2, gl2, al2, rfl, h2, hl2⟩
    have hE4 := hE3.rounds (C := C) hG3.1 12
    rw [← h2] at hE4
    have ho : gd2 3 = _ := hE4.o0
    refine AW.pcq (pc2 := 47) rfl ?_
    refine A_aload_n (dX5_bar 25 rfl) rfl ?_
    refine A_get (dX5_bar 26 rfl) fwX5_16 wK_0 cK_f0_1 ?_
    refine A_get (dX5_bar 27 rfl) fwX5_155 wK_8 cF_f0_9 ?_
    refine A_sipush (1000) (dX5_bar 28 rfl) (by decide +kernel) ?_
    refine A_imul (dX5_bar 29 rfl) ?_
    refine A_bipush (12) (dX5_bar 30 rfl) (by decide +kernel) ?_
    refine A_iload (dX5_bar 31 rfl) rfl ?_
    refine A_imul (dX5_bar 32 rfl) ?_
    refine AW.pcq (pc2 := 63) rfl ?_
    refine A_idiv (dX5_bar 33 rfl) (l12i (by omega) (by omega)) ?_
    have hv : gd2 3 * 1000 / (12 * nI c) = p_barC C m (p_beg (cfs gf af gl)) c := by unfold p_barC; rw [ho]
    rw [hv]
    refine A_istore (ls2 := [_, _, _, _, _, _]) (dX5_bar 34 rfl) (by decide) (by have := hx; simp_all [noL, Value.category]) rfl ?_
    refine A_iload (dX5_bar 35 rfl) rfl ?_
    refine A_iload_n (dX5_bar 36 rfl) rfl ?_
    refine A_icmp_le 78 (dX5_bar 37 rfl) (by decide) (fun h69 => ?_) (fun h69 => ?_)
    · rw [show bst (p_barC C m (p_beg (cfs gf af gl))) (n + 1) c x y = bst (p_barC C m (p_beg (cfs gf af gl))) n (c + 1) x y from if_neg (Int32.not_lt.mpr h69)]
      refine A_iinc (ls2 := [_, _, _, _, _, _]) (nI (c + 1)) (dX5_bar 42 rfl) rfl (nI_1 c) (by decide) (by have := hx; simp_all [noL, Value.category]) rfl ?_
      refine A_goto 19 (dX5_bar 43 rfl) (by decide) ?_
      exact ih (c + 1) (by omega) (by omega) gd2 ad2 gl2 al2 _ _ _ (by rfl)
    · rw [show bst (p_barC C m (p_beg (cfs gf af gl))) (n + 1) c x y = bst (p_barC C m (p_beg (cfs gf af gl))) n (c + 1) (nI c) (p_barC C m (p_beg (cfs gf af gl)) c) from if_pos (Int32.not_le.mp h69)]
      refine A_iload (dX5_bar 38 rfl) rfl ?_
      refine A_istore_n (ls2 := [_, _, _, _, _, _]) (dX5_bar 39 rfl) (by decide) (by have := hx; simp_all [noL, Value.category]) rfl ?_
      refine A_iload (dX5_bar 40 rfl) rfl ?_
      refine A_istore_n (ls2 := [_, _, _, _, _, _]) (dX5_bar 41 rfl) (by decide) (by have := hx; simp_all [noL, Value.category]) rfl ?_
      refine A_iinc (ls2 := [_, _, _, _, _, _]) (nI (c + 1)) (dX5_bar 42 rfl) rfl (nI_1 c) (by decide) (by have := hx; simp_all [noL, Value.category]) rfl ?_
      refine A_goto 19 (dX5_bar 43 rfl) (by decide) ?_
      exact ih (c + 1) (by omega) (by omega) gd2 ad2 gl2 al2 _ _ _ (by rfl)

set_option maxRecDepth 100000 in
set_option maxHeartbeats 400000 in
theorem K_bar (E : ag) (kq : Nat) (cg : Nat → Int32) (qf : Nat → Nat) (gf : Nat → Int32) (af : Nat → Nat → Int32) (qd : Nat → Nat) (gd : Nat → Int32) (ad : Nat → Nat → Int32) (qk : Nat → Nat) (gk : Nat → Int32) (ak : Nat → Nat → Int32) (ql : Nat → Nat) (gl : Nat → Int32) (al : Nat → Nat → Int32) (qr : Nat → Nat) (gr : Nat → Int32) (ar : Nat → Nat → Int32) (rx : Nat) (qm : Nat) (qx : Nat → Nat → Nat) (gx : Nat → Nat → Int32) (ax : Nat → Nat → Nat → Int32) (qs : Nat) (sx : Nat → Option Nat) (qo : Nat → Nat) (go : Nat → Int32) (ao : Nat → Nat → Int32) (qp : Nat → Nat) (gp_ : Nat → Int32) (ap : Nat → Nat → Int32) (L : va_W) (t m : Nat) (ht : t < 6) (C : Nat → List Int32) (hr4 : gf 4 = nI t) (hC : TKC (ax t) C) (hG : GOOD (cfs gf af gl) m) (hB : BTS (cfs gf af gl) m) (what : Int32) : CT E yX5_bar cX5_bar 6 mX5_bar.2.2.2.1 6 0 0 [.ref kq, .int what] (wK E kq cg qf gf af qd gd ad qk gk ak ql gl al qr gr ar rx qm qx gx ax qs sx qo go ao qp gp_ ap L) (ri (fun r w => r = (if inI what 0 1 = 0 then -2 else if what = 0 then (bst (p_barC C m (p_beg (cfs gf af gl))) 229 12 (-1) (-1)).1 else (bst (p_barC C m (p_beg (cfs gf af gl))) 229 12 (-1) (-1)).2) ∧ QK E kq cg qf gf af qd gd ad qk gk ak ql gl al qr gr ar rx qm qx gx ax qs sx qo go ao qp gp_ ap L w)) := by
  refine CT.of (M := mX5_bar) (ls := [some (.ref kq), some (.int what), none, none, none, none]) (by decide) rfl (by decide) rfl (Nat.le_of_ble_eq_true rfl) ?_
  refine A_iload_n (dX5_bar 0 rfl) rfl ?_
  refine A_iconst (1) (dX5_bar 1 rfl) (by decide +kernel) ?_
  refine A_callSWi 2 (dX5_bar 2 rfl) cbX5_within cwX5_87 (k_within E _ what 1) rfl rfl (Nat.le_of_ble_eq_true rfl) (Nat.le_of_ble_eq_true rfl) (Nat.le_of_ble_eq_true rfl) (Nat.le_of_ble_eq_true rfl) (Nat.le_of_ble_eq_true rfl) ?_
  rintro r2 w1 ⟨rfl, rfl⟩
  refine AW.pcq (pc2 := 5) rfl ?_
  refine A_if_ne 11 (dX5_bar 3 rfl) (by decide) (fun h5 => ?_) (fun h5 => ?_)
  · refine A_iconst (-1) (dX5_bar 6 rfl) (by decide +kernel) ?_
    refine A_istore_n (ls2 := [_, _, _, _, _, _]) (dX5_bar 7 rfl) (by decide) rfl rfl ?_
    refine A_iconst (-1) (dX5_bar 8 rfl) (by decide +kernel) ?_
    refine A_istore_n (ls2 := [_, _, _, _, _, _]) (dX5_bar 9 rfl) (by decide) rfl rfl ?_
    refine A_bipush (12) (dX5_bar 10 rfl) (by decide +kernel) ?_
    refine A_istore (ls2 := [_, _, _, _, _, _]) (dX5_bar 11 rfl) (by decide) rfl rfl ?_
    rw [if_neg h5]
    exact K_barL E kq cg qf gf af qd gd ad qk gk ak ql gl al qr gr ar rx qm qx gx ax qs sx qo go ao qp gp_ ap L t m ht C hr4 hC hG hB what 229 12 (by decide) (by decide) gd ad gl al (-1) (-1) none rfl
  · refine A_bipush (-2) (dX5_bar 4 rfl) (by decide +kernel) ?_
    refine A_ri (dX5_bar 5 rfl) rfl rfl ?_
    exact ⟨by rw [if_pos (by assumption)], ⟨gd, ad, gl, al, go, ao, gp_, ap, rfl⟩⟩

set_option maxRecDepth 100000 in
set_option maxHeartbeats 400000 in
theorem K_homeL (E : ag) (kq : Nat) (cg : Nat → Int32) (qf : Nat → Nat) (gf : Nat → Int32) (af : Nat → Nat → Int32) (qd : Nat → Nat) (gd : Nat → Int32) (ad : Nat → Nat → Int32) (qk : Nat → Nat) (gk : Nat → Int32) (ak : Nat → Nat → Int32) (ql : Nat → Nat) (gl : Nat → Int32) (al : Nat → Nat → Int32) (qr : Nat → Nat) (gr : Nat → Int32) (ar : Nat → Nat → Int32) (rx : Nat) (qm : Nat) (qx : Nat → Nat → Nat) (gx : Nat → Nat → Int32) (ax : Nat → Nat → Nat → Int32) (qs : Nat) (sx : Nat → Option Nat) (qo : Nat → Nat) (go : Nat → Int32) (ao : Nat → Nat → Int32) (qp : Nat → Nat) (gp_ : Nat → Int32) (ap : Nat → Nat → Int32) (L : va_W) (t m : Nat) (ht : t < 6) (C : Nat → List Int32) (hr4 : gf 4 = nI t) (hC : TKC (ax t) C) (hG : GOOD (cfs gf af gl) m) : ∀ (n c : Nat), c + n = m → ∀ (gd1 : Nat → Int32) (ad1 : Nat → Nat → Int32) (gl1 : Nat → Int32) (al1 : Nat → Nat → Int32) (x y : Int32), AW E mX5_home 6 0 0 22 [some (.ref kq), some (.int y), some (.int x), some (.int (nI c))] [] (wK E kq cg qf gf af qd gd1 ad1 qk gk ak ql gl1 al1 qr gr ar rx qm qx gx ax qs sx qo go ao qp gp_ ap L) (ri (fun r w => r = (bst (p_homeC C m (p_beg (cfs gf af gl))) n c x y).1 ∧ QK E kq cg qf gf af qd gd ad qk gk ak ql gl al qr gr ar rx qm qx gx ax qs sx qo go ao qp gp_ ap L w)) := by
  intro n
  induction n with
  | zero =>
    intro c hc
    intro gd1 ad1 gl1 al1 x y
    have hm5 := hG.1.1
    obtain rfl : m = c := by omega
    refine A_iload_n (dX5_home 13 rfl) rfl ?_
    refine A_aload_n (dX5_home 14 rfl) rfl ?_
    refine A_get (dX5_home 15 rfl) fwX5_10 wK_0 cK_f0_0 ?_
    refine A_get (dX5_home 16 rfl) fwX5_91 wK_1 cF_f0_6 ?_
    refine A_icmp_ge 78 (dX5_home 17 rfl) (by decide) (fun h30 => ?_) (fun h30 => absurd (show gf 0 ≤ nI m by rw [(show gf 0 = nI m from hG.1.2.1)]; exact nI_le (Nat.le_refl _) (by omega)) h30)
    refine A_iload_n (dX5_home 40 rfl) rfl ?_
    refine A_ri (dX5_home 41 rfl) rfl rfl ?_
    exact ⟨rfl, ⟨gd1, ad1, gl1, al1, go, ao, gp_, ap, rfl⟩⟩
  | succ n ih =>
    intro c hc
    have hlt : c < m := by omega
    intro gd1 ad1 gl1 al1 x y
    have hm5 := hG.1.1
    refine A_iload_n (dX5_home 13 rfl) rfl ?_
    refine A_aload_n (dX5_home 14 rfl) rfl ?_
    refine A_get (dX5_home 15 rfl) fwX5_10 wK_0 cK_f0_0 ?_
    refine A_get (dX5_home 16 rfl) fwX5_91 wK_1 cF_f0_6 ?_
    refine A_icmp_ge 78 (dX5_home 17 rfl) (by decide) (fun h30 => absurd h30 (show ¬ gf 0 ≤ nI c by rw [(show gf 0 = nI m from hG.1.2.1)]; exact nI_ge hlt (by omega))) (fun h30 => ?_)
    refine A_aload_n (dX5_home 18 rfl) rfl ?_
    refine A_callVWv 0 (dX5_home 19 rfl) cbX5_beginTrial cwX5_165 (K_begin E kq cg qf gf af qd gd1 ad1 qk gk ak ql gl1 al1 qr gr ar rx qm qx gx ax qs sx qo go ao qp gp_ ap L) rfl rfl wK_0 rfl rfl (Nat.le_of_ble_eq_true rfl) (Nat.le_of_ble_eq_true rfl) (Nat.le_of_ble_eq_true rfl) (Nat.le_of_ble_eq_true rfl) (Nat.le_of_ble_eq_true rfl) ?_
    rintro w1 rfl
    have hE := kb_EQ (gd := gd1) (ad := ad1) (gf := gf) (af := af) (gl := gl1) (gl0 := gl) hG.1.1
    refine AW.pcq (pc2 := 37) rfl ?_
    refine A_aload_n (dX5_home 20 rfl) rfl ?_
    refine A_get (dX5_home 21 rfl) fwX5_16 wK_0 cK_f0_1 ?_
    refine A_iload_n (dX5_home 22 rfl) rfl ?_
    refine A_callVv 1 (dX5_home 23 rfl) cbX1_leaveOut cwX5_184 (f_leaveOut E qd (kbG gd1 gf) (kbA ad1 af) m c hm5 (show gf 0 = nI m from hG.1.2.1) hlt) rfl rfl wF_0 rfl rfl [8, 9, 10, 11, 12, 13, 14] rfl rfl (Nat.le_of_ble_eq_true rfl) (Nat.le_of_ble_eq_true rfl) (Nat.le_of_ble_eq_true rfl) (Nat.le_of_ble_eq_true rfl) (Nat.le_of_ble_eq_true rfl) (by rintro _ rfl; exact (Nat.le_of_ble_eq_true rfl)) ?_
    rintro w1 rfl
    have hx0 : kbG gd1 gf 0 - 1 = nI (m - 1) := by
      show gf 0 - 1 = _
      rw [(show gf 0 = nI m from hG.1.2.1)]
      obtain ⟨j, rfl⟩ : ∃ j, m = j + 1 := ⟨m - 1, by omega⟩
      exact nI_pred j
    have hE3 := hE.leave c
    rw [← cf_leave hx0] at hE3
    have hG3 := (hG.beg.leave hlt).eq hE3
    refine AW.world (ws2 := wK E kq cg qf gf af qd (upd (kbG gd1 gf) 0 (kbG gd1 gf 0 - 1)) (va_up (va_up (va_up (va_up (kbA ad1 af) 2 (p_lv m c ((kbA ad1 af) 2))) 3 (p_lv m c ((kbA ad1 af) 3))) 4 (p_lv m c ((kbA ad1 af) 4))) 5 (p_lv m c ((kbA ad1 af) 5))) qk gk ak ql (kbL gl1) al1 qr gr ar rx qm qx gx ax qs sx qo go ao qp gp_ ap L) mK_d ?_
    refine AW.pcq (pc2 := 45) rfl ?_
    refine A_aload_n (dX5_home 24 rfl) rfl ?_
    refine A_bipush (12) (dX5_home 25 rfl) (by decide +kernel) ?_
    refine A_callVWv 1 (dX5_home 26 rfl) cbX5_tryRounds cwX5_168 (K_tryT E kq cg qf gf af qd (upd (kbG gd1 gf) 0 (kbG gd1 gf 0 - 1)) (va_up (va_up (va_up (va_up (kbA ad1 af) 2 (p_lv m c ((kbA ad1 af) 2))) 3 (p_lv m c ((kbA ad1 af) 3))) 4 (p_lv m c ((kbA ad1 af) 4))) 5 (p_lv m c ((kbA ad1 af) 5))) qk gk ak ql (kbL gl1) al1 qr gr ar rx qm qx gx ax qs sx qo go ao qp gp_ ap L t (m - 1) ht C hr4 hC 12 (by decide) _ rfl rfl hG3) rfl rfl wK_0 rfl rfl (Nat.le_of_ble_eq_true rfl) (Nat.le_of_ble_eq_true rfl) (Nat.le_of_ble_eq_true rfl) (Nat.le_of_ble_eq_true rfl) (Nat.le_of_ble_eq_true rfl) ?_
    rintro w1 ⟨gd2, ad2, gl2, al2, rfl, h2, hl2⟩
    have hE4 := hE3.rounds (C := C) hG3.1 12
    rw [← h2] at hE4
    have ho : gd2 3 = p_homeC C m (p_beg (cfs gf af gl)) c := hE4.o0
    refine AW.pcq (pc2 := 51) rfl ?_
    refine A_aload_n (dX5_home 27 rfl) rfl ?_
    refine A_get (dX5_home 28 rfl) fwX5_16 wK_0 cK_f0_1 ?_
    refine A_get (dX5_home 29 rfl) fwX5_155 wK_8 cF_f0_9 ?_
    rw [ho]
    refine A_iload_n (dX5_home 30 rfl) rfl ?_
    refine A_icmp_le 72 (dX5_home 31 rfl) (by decide) (fun h59 => ?_) (fun h59 => ?_)
    · rw [show bst (p_homeC C m (p_beg (cfs gf af gl))) (n + 1) c x y = bst (p_homeC C m (p_beg (cfs gf af gl))) n (c + 1) x y from if_neg (Int32.not_lt.mpr h59)]
      refine A_iinc (ls2 := [_, _, _, _]) (nI (c + 1)) (dX5_home 38 rfl) rfl (nI_1 c) (by decide) rfl rfl ?_
      refine A_goto 22 (dX5_home 39 rfl) (by decide) ?_
      exact ih (c + 1) (by omega) gd2 ad2 gl2 al2 _ _
    · rw [show bst (p_homeC C m (p_beg (cfs gf af gl))) (n + 1) c x y = bst (p_homeC C m (p_beg (cfs gf af gl))) n (c + 1) (nI c) (p_homeC C m (p_beg (cfs gf af gl)) c) from if_pos (Int32.not_le.mp h59)]
      refine A_aload_n (dX5_home 32 rfl) rfl ?_
      refine A_get (dX5_home 33 rfl) fwX5_16 wK_0 cK_f0_1 ?_
      refine A_get (dX5_home 34 rfl) fwX5_155 wK_8 cF_f0_9 ?_
      rw [ho]
      refine A_istore_n (ls2 := [_, _, _, _]) (dX5_home 35 rfl) (by decide) rfl rfl ?_
      refine A_iload_n (dX5_home 36 rfl) rfl ?_
      refine A_istore_n (ls2 := [_, _, _, _]) (dX5_home 37 rfl) (by decide) rfl rfl ?_
      refine A_iinc (ls2 := [_, _, _, _]) (nI (c + 1)) (dX5_home 38 rfl) rfl (nI_1 c) (by decide) rfl rfl ?_
      refine A_goto 22 (dX5_home 39 rfl) (by decide) ?_
      exact ih (c + 1) (by omega) gd2 ad2 gl2 al2 _ _

set_option maxRecDepth 100000 in
set_option maxHeartbeats 400000 in
theorem K_home (E : ag) (kq : Nat) (cg : Nat → Int32) (qf : Nat → Nat) (gf : Nat → Int32) (af : Nat → Nat → Int32) (qd : Nat → Nat) (gd : Nat → Int32) (ad : Nat → Nat → Int32) (qk : Nat → Nat) (gk : Nat → Int32) (ak : Nat → Nat → Int32) (ql : Nat → Nat) (gl : Nat → Int32) (al : Nat → Nat → Int32) (qr : Nat → Nat) (gr : Nat → Int32) (ar : Nat → Nat → Int32) (rx : Nat) (qm : Nat) (qx : Nat → Nat → Nat) (gx : Nat → Nat → Int32) (ax : Nat → Nat → Nat → Int32) (qs : Nat) (sx : Nat → Option Nat) (qo : Nat → Nat) (go : Nat → Int32) (ao : Nat → Nat → Int32) (qp : Nat → Nat) (gp_ : Nat → Int32) (ap : Nat → Nat → Int32) (L : va_W) (t m : Nat) (ht : t < 6) (C : Nat → List Int32) (hr4 : gf 4 = nI t) (hC : TKC (ax t) C) (hG : GOOD (cfs gf af gl) m) : CT E yX5_home cX5_home 4 mX5_home.2.2.2.1 6 0 0 [.ref kq] (wK E kq cg qf gf af qd gd ad qk gk ak ql gl al qr gr ar rx qm qx gx ax qs sx qo go ao qp gp_ ap L) (ri (fun r w => r = (bst (p_homeC C m (p_beg (cfs gf af gl))) m 0 (-1) ((p_rounds C 12 (p_beg (cfs gf af gl))).1 3)).1 ∧ QK E kq cg qf gf af qd gd ad qk gk ak ql gl al qr gr ar rx qm qx gx ax qs sx qo go ao qp gp_ ap L w)) := by
  refine CT.of (M := mX5_home) (ls := [some (.ref kq), none, none, none]) (by decide) rfl (by decide) rfl (Nat.le_of_ble_eq_true rfl) ?_
  refine A_aload_n (dX5_home 0 rfl) rfl ?_
  refine A_callVWv 0 (dX5_home 1 rfl) cbX5_beginTrial cwX5_165 (K_begin E kq cg qf gf af qd gd ad qk gk ak ql gl al qr gr ar rx qm qx gx ax qs sx qo go ao qp gp_ ap L) rfl rfl wK_0 rfl rfl (Nat.le_of_ble_eq_true rfl) (Nat.le_of_ble_eq_true rfl) (Nat.le_of_ble_eq_true rfl) (Nat.le_of_ble_eq_true rfl) (Nat.le_of_ble_eq_true rfl) ?_
  rintro w1 rfl
  have hE := kb_EQ (gd := gd) (ad := ad) (gf := gf) (af := af) (gl := gl) (gl0 := gl) hG.1.1
  have hGB := hG.beg.eq hE
  refine AW.pcq (pc2 := 4) rfl ?_
  refine A_aload_n (dX5_home 2 rfl) rfl ?_
  refine A_bipush (12) (dX5_home 3 rfl) (by decide +kernel) ?_
  refine A_callVWv 1 (dX5_home 4 rfl) cbX5_tryRounds cwX5_168 (K_tryT E kq cg qf gf af qd (kbG gd gf) (kbA ad af) qk gk ak ql (kbL gl) al qr gr ar rx qm qx gx ax qs sx qo go ao qp gp_ ap L t m ht C hr4 hC 12 (by omega) _ rfl rfl hGB) rfl rfl wK_0 rfl rfl (Nat.le_of_ble_eq_true rfl) (Nat.le_of_ble_eq_true rfl) (Nat.le_of_ble_eq_true rfl) (Nat.le_of_ble_eq_true rfl) (Nat.le_of_ble_eq_true rfl) ?_
  rintro w1 ⟨gd2, ad2, gl2, al2, rfl, h2, hl2⟩
  have hE2 := hE.rounds (C := C) hGB.1 12
  rw [← h2] at hE2
  refine AW.pcq (pc2 := 10) rfl ?_
  refine A_aload_n (dX5_home 5 rfl) rfl ?_
  refine A_get (dX5_home 6 rfl) fwX5_16 wK_0 cK_f0_1 ?_
  refine A_get (dX5_home 7 rfl) fwX5_155 wK_8 cF_f0_9 ?_
  have ho : gd2 3 = (p_rounds C 12 (p_beg (cfs gf af gl))).1 3 := hE2.o0
  rw [ho]
  refine A_istore_n (ls2 := [_, _, _, _]) (dX5_home 8 rfl) (by decide) rfl rfl ?_
  refine A_iconst (-1) (dX5_home 9 rfl) (by decide +kernel) ?_
  refine A_istore_n (ls2 := [_, _, _, _]) (dX5_home 10 rfl) (by decide) rfl rfl ?_
  refine A_iconst (0) (dX5_home 11 rfl) (by decide +kernel) ?_
  refine A_istore_n (ls2 := [_, _, _, _]) (dX5_home 12 rfl) (by decide) rfl rfl ?_
  exact K_homeL E kq cg qf gf af qd gd ad qk gk ak ql gl al qr gr ar rx qm qx gx ax qs sx qo go ao qp gp_ ap L t m ht C hr4 hC hG m 0 (by omega) gd2 ad2 gl2 al2 _ _

theorem ahd_lt {C : Nat → List Int32} {s : FS} {k c : Nat} (h : c < k) : p_ahd C s k (c + 1) = p_round C zro (p_ahd C s k c) := by
  unfold p_ahd
  rw [if_pos (by omega), if_pos (by omega)]
  rfl
theorem ahd_eq {C : Nat → List Int32} {s : FS} {k : Nat} : p_ahd C s k (k + 1) = p_round C zro (p_turned (p_ahd C s k k)) := by
  unfold p_ahd
  rw [if_neg (by omega), if_pos (Nat.le_refl _), show k + 1 - k = 1 by omega]
  rfl
theorem ahd_gt {C : Nat → List Int32} {s : FS} {k c : Nat} (h : k < c) : p_ahd C s k (c + 1) = p_round C zro (p_ahd C s k c) := by
  unfold p_ahd
  rw [if_neg (by omega), if_neg (by omega), show c + 1 - k = c - k + 1 by omega]
  rfl
theorem GOOD.ahd {C : Nat → List Int32} {s : FS} {m : Nat} (h : GOOD s m) (k c : Nat) : GOOD (p_ahd C s k c) m := by
  unfold p_ahd
  split
  · exact h.rounds c
  · exact (GOOD.turned (h.rounds k)).rounds _
theorem WET.ahd {C : Nat → List Int32} {s : FS} (h : WET s) {k c : Nat} (hc : c ≤ k) : WET (p_ahd C s k c) := by
  unfold p_ahd
  rw [if_pos hc]
  intro x hx
  rw [p_rounds_A (by decide) (by decide)]
  exact h x hx
set_option maxRecDepth 100000 in
set_option maxHeartbeats 400000 in
theorem K_aheadL (E : ag) (kq : Nat) (cg : Nat → Int32) (qf : Nat → Nat) (gf : Nat → Int32) (af : Nat → Nat → Int32) (qd : Nat → Nat) (gd : Nat → Int32) (ad : Nat → Nat → Int32) (qk : Nat → Nat) (gk : Nat → Int32) (ak : Nat → Nat → Int32) (ql : Nat → Nat) (gl : Nat → Int32) (al : Nat → Nat → Int32) (qr : Nat → Nat) (gr : Nat → Int32) (ar : Nat → Nat → Int32) (rx : Nat) (qm : Nat) (qx : Nat → Nat → Nat) (gx : Nat → Nat → Int32) (ax : Nat → Nat → Nat → Int32) (qs : Nat) (sx : Nat → Option Nat) (qo : Nat → Nat) (go : Nat → Int32) (ao : Nat → Nat → Int32) (qp : Nat → Nat) (gp_ : Nat → Int32) (ap : Nat → Nat → Int32) (L : va_W) (t m : Nat) (ht : t < 6) (C : Nat → List Int32) (hr4 : gf 4 = nI t) (hC : TKC (ax t) C) (hG : GOOD (cfs gf af gl) m) (hW : WET (cfs gf af gl)) (k : Nat) (hk : k < 2 ^ 31) : ∀ (n c : Nat), c + n = 12 → ∀ (gd1 : Nat → Int32) (ad1 : Nat → Nat → Int32) (gl1 : Nat → Int32) (al1 : Nat → Nat → Int32), EQ m 0 (cfs gd1 ad1 gl1) (p_ahd C (p_beg (cfs gf af gl)) k c) → gl1 0 = 0 → AW E mX5_outTurnedAhead 6 0 0 6 [some (.ref kq), some (.int (nI k)), some (.int (nI c))] [] (wK E kq cg qf gf af qd gd1 ad1 qk gk ak ql gl1 al1 qr gr ar rx qm qx gx ax qs sx qo go ao qp gp_ ap L) (ri (fun r w => r = (p_ahd C (p_beg (cfs gf af gl)) k 12).1 3 ∧ QK E kq cg qf gf af qd gd ad qk gk ak ql gl al qr gr ar rx qm qx gx ax qs sx qo go ao qp gp_ ap L w)) := by
  intro n
  induction n with
  | zero =>
    intro c hc
    intro gd1 ad1 gl1 al1 hE1 hl1
    obtain rfl : c = 12 := by omega
    refine A_iload_n (dX5_outTurnedAhead 4 rfl) rfl ?_
    refine A_bipush (12) (dX5_outTurnedAhead 5 rfl) (by decide +kernel) ?_
    refine A_icmp_ge 35 (dX5_outTurnedAhead 6 rfl) (by decide) (fun h9 => ?_) (fun h9 => absurd (show (12 : Int32) ≤ nI 12 by decide) h9)
    refine A_aload_n (dX5_outTurnedAhead 18 rfl) rfl ?_
    refine A_get (dX5_outTurnedAhead 19 rfl) fwX5_16 wK_0 cK_f0_1 ?_
    refine A_get (dX5_outTurnedAhead 20 rfl) fwX5_155 wK_8 cF_f0_9 ?_
    refine A_ri (dX5_outTurnedAhead 21 rfl) rfl rfl ?_
    exact ⟨hE1.o0, ⟨gd1, ad1, gl1, al1, go, ao, gp_, ap, rfl⟩⟩
  | succ n ih =>
    intro c hc
    have hlt : c < 12 := by omega
    intro gd1 ad1 gl1 al1 hE1 hl1
    refine A_iload_n (dX5_outTurnedAhead 4 rfl) rfl ?_
    refine A_bipush (12) (dX5_outTurnedAhead 5 rfl) (by decide +kernel) ?_
    refine A_icmp_ge 35 (dX5_outTurnedAhead 6 rfl) (by decide) (fun h9 => absurd h9 (nI_ge (a := c) (b := 12) hlt (by decide))) (fun h9 => ?_)
    refine A_iload_n (dX5_outTurnedAhead 7 rfl) rfl ?_
    refine A_iload_n (dX5_outTurnedAhead 8 rfl) rfl ?_
    refine A_icmp_ne 24 (dX5_outTurnedAhead 9 rfl) (by decide) (fun h14 => ?_) (fun h14 => ?_)
    · have hne : ¬ c = k := fun z => h14 (by rw [z])
      have hGx := (GOOD.ahd (C := C) hG.beg k c).eq hE1
      refine A_aload_n (dX5_outTurnedAhead 13 rfl) rfl ?_
      refine A_iconst (1) (dX5_outTurnedAhead 14 rfl) (by decide +kernel) ?_
      refine A_callVWv 1 (dX5_outTurnedAhead 15 rfl) cbX5_tryRounds cwX5_168 (K_tryT E kq cg qf gf af qd gd1 _ qk gk ak ql gl1 al1 qr gr ar rx qm qx gx ax qs sx qo go ao qp gp_ ap L t m ht C hr4 hC 1 (by decide) _ rfl hl1 hGx) rfl rfl wK_0 rfl rfl (Nat.le_of_ble_eq_true rfl) (Nat.le_of_ble_eq_true rfl) (Nat.le_of_ble_eq_true rfl) (Nat.le_of_ble_eq_true rfl) (Nat.le_of_ble_eq_true rfl) ?_
      rintro w1 ⟨gd2, ad2, gl2, al2, rfl, h2, hl2⟩
      have hE2 := hE1.rounds (C := C) hGx.1 1
      rw [← h2] at hE2
      refine AW.pcq (pc2 := 29) rfl ?_
      refine A_iinc (ls2 := [_, _, _]) (nI (c + 1)) (dX5_outTurnedAhead 16 rfl) rfl (nI_1 c) (by decide) rfl rfl ?_
      refine A_goto 6 (dX5_outTurnedAhead 17 rfl) (by decide) ?_
      refine ih (c + 1) (by omega) gd2 ad2 gl2 al2 ?_ hl2
      first
        | (subst heq
           rw [ahd_eq]
           exact hE2)
        | (rcases Nat.lt_trichotomy c k with z | z | z
           · rw [ahd_lt z]; exact hE2
           · exact absurd z hne
           · rw [ahd_gt z]; exact hE2)
    · have heq : c = k := (nI_eq (by omega) hk).mp h14
      have hE0 := hE1
      have hwet : ∀ x, x < 12 → ∃ W, W ≤ 9 ∧ ad1 1 x = nI W := fun x hx => by
        have h9q := hE1.2.2.1 x hx
        obtain ⟨W, w1, w2⟩ := WET.ahd (C := C) (s := (p_beg (cfs gf af gl))) hW (k := k) (c := c) (by omega) x hx
        exact ⟨W, w1, h9q.trans w2⟩
      refine A_aload_n (dX5_outTurnedAhead 10 rfl) rfl ?_
      refine A_get (dX5_outTurnedAhead 11 rfl) fwX5_16 wK_0 cK_f0_1 ?_
      refine A_callVv 0 (dX5_outTurnedAhead 12 rfl) cbX1_turnStraw cwX5_187 (f_turnStraw E qd gd1 ad1 hwet) rfl rfl wF_0 rfl rfl [8, 9, 10, 11, 12, 13, 14] rfl rfl (Nat.le_of_ble_eq_true rfl) (Nat.le_of_ble_eq_true rfl) (Nat.le_of_ble_eq_true rfl) (Nat.le_of_ble_eq_true rfl) (Nat.le_of_ble_eq_true rfl) (by rintro _ rfl; exact (Nat.le_of_ble_eq_true rfl)) ?_
      rintro w1 rfl
      replace hE1 := cf_turned hE1
      have hGx := (GOOD.turned (GOOD.ahd (C := C) hG.beg k c)).eq hE1
      refine AW.world (ws2 := wK E kq cg qf gf af qd gd1 (va_up (va_up ad1 0 (rvc 6 (ad1 0))) 1 (cp 12 (fun k => dw (ad1 1 k)) (ad1 1))) qk gk ak ql gl1 al1 qr gr ar rx qm qx gx ax qs sx qo go ao qp gp_ ap L) mK_d ?_
      refine AW.pcq (pc2 := 24) rfl ?_
      refine A_aload_n (dX5_outTurnedAhead 13 rfl) rfl ?_
      refine A_iconst (1) (dX5_outTurnedAhead 14 rfl) (by decide +kernel) ?_
      refine A_callVWv 1 (dX5_outTurnedAhead 15 rfl) cbX5_tryRounds cwX5_168 (K_tryT E kq cg qf gf af qd gd1 _ qk gk ak ql gl1 al1 qr gr ar rx qm qx gx ax qs sx qo go ao qp gp_ ap L t m ht C hr4 hC 1 (by decide) _ rfl hl1 hGx) rfl rfl wK_0 rfl rfl (Nat.le_of_ble_eq_true rfl) (Nat.le_of_ble_eq_true rfl) (Nat.le_of_ble_eq_true rfl) (Nat.le_of_ble_eq_true rfl) (Nat.le_of_ble_eq_true rfl) ?_
      rintro w1 ⟨gd2, ad2, gl2, al2, rfl, h2, hl2⟩
      have hE2 := hE1.rounds (C := C) hGx.1 1
      rw [← h2] at hE2
      refine AW.pcq (pc2 := 29) rfl ?_
      refine A_iinc (ls2 := [_, _, _]) (nI (c + 1)) (dX5_outTurnedAhead 16 rfl) rfl (nI_1 c) (by decide) rfl rfl ?_
      refine A_goto 6 (dX5_outTurnedAhead 17 rfl) (by decide) ?_
      refine ih (c + 1) (by omega) gd2 ad2 gl2 al2 ?_ hl2
      first
        | (subst heq
           rw [ahd_eq]
           exact hE2)
        | (rcases Nat.lt_trichotomy c k with z | z | z
           · rw [ahd_lt z]; exact hE2
           · exact absurd z hne
           · rw [ahd_gt z]; exact hE2)

set_option maxRecDepth 100000 in
set_option maxHeartbeats 400000 in
theorem K_aheadN (E : ag) (kq : Nat) (cg : Nat → Int32) (qf : Nat → Nat) (gf : Nat → Int32) (af : Nat → Nat → Int32) (qd : Nat → Nat) (gd : Nat → Int32) (ad : Nat → Nat → Int32) (qk : Nat → Nat) (gk : Nat → Int32) (ak : Nat → Nat → Int32) (ql : Nat → Nat) (gl : Nat → Int32) (al : Nat → Nat → Int32) (qr : Nat → Nat) (gr : Nat → Int32) (ar : Nat → Nat → Int32) (rx : Nat) (qm : Nat) (qx : Nat → Nat → Nat) (gx : Nat → Nat → Int32) (ax : Nat → Nat → Nat → Int32) (qs : Nat) (sx : Nat → Option Nat) (qo : Nat → Nat) (go : Nat → Int32) (ao : Nat → Nat → Int32) (qp : Nat → Nat) (gp_ : Nat → Int32) (ap : Nat → Nat → Int32) (L : va_W) (t m : Nat) (ht : t < 6) (C : Nat → List Int32) (hr4 : gf 4 = nI t) (hC : TKC (ax t) C) (hG : GOOD (cfs gf af gl) m) : ∀ (n c : Nat), c + n = 12 → ∀ (gd1 : Nat → Int32) (ad1 : Nat → Nat → Int32) (gl1 : Nat → Int32) (al1 : Nat → Nat → Int32), EQ m 0 (cfs gd1 ad1 gl1) (p_rounds C c (p_beg (cfs gf af gl))) → gl1 0 = 0 → AW E mX5_outTurnedAhead 6 0 0 6 [some (.ref kq), some (.int (-1)), some (.int (nI c))] [] (wK E kq cg qf gf af qd gd1 ad1 qk gk ak ql gl1 al1 qr gr ar rx qm qx gx ax qs sx qo go ao qp gp_ ap L) (ri (fun r w => r = (p_rounds C 12 (p_beg (cfs gf af gl))).1 3 ∧ QK E kq cg qf gf af qd gd ad qk gk ak ql gl al qr gr ar rx qm qx gx ax qs sx qo go ao qp gp_ ap L w)) := by
  intro n
  induction n with
  | zero =>
    intro c hc
    intro gd1 ad1 gl1 al1 hE1 hl1
    obtain rfl : c = 12 := by omega
    refine A_iload_n (dX5_outTurnedAhead 4 rfl) rfl ?_
    refine A_bipush (12) (dX5_outTurnedAhead 5 rfl) (by decide +kernel) ?_
    refine A_icmp_ge 35 (dX5_outTurnedAhead 6 rfl) (by decide) (fun h9 => ?_) (fun h9 => absurd (show (12 : Int32) ≤ nI 12 by decide) h9)
    refine A_aload_n (dX5_outTurnedAhead 18 rfl) rfl ?_
    refine A_get (dX5_outTurnedAhead 19 rfl) fwX5_16 wK_0 cK_f0_1 ?_
    refine A_get (dX5_outTurnedAhead 20 rfl) fwX5_155 wK_8 cF_f0_9 ?_
    refine A_ri (dX5_outTurnedAhead 21 rfl) rfl rfl ?_
    exact ⟨hE1.o0, ⟨gd1, ad1, gl1, al1, go, ao, gp_, ap, rfl⟩⟩
  | succ n ih =>
    intro c hc
    have hlt : c < 12 := by omega
    intro gd1 ad1 gl1 al1 hE1 hl1
    have hGx := (hG.beg.rounds (C := C) c).eq hE1
    refine A_iload_n (dX5_outTurnedAhead 4 rfl) rfl ?_
    refine A_bipush (12) (dX5_outTurnedAhead 5 rfl) (by decide +kernel) ?_
    refine A_icmp_ge 35 (dX5_outTurnedAhead 6 rfl) (by decide) (fun h9 => absurd h9 (nI_ge (a := c) (b := 12) hlt (by decide))) (fun h9 => ?_)
    refine A_iload_n (dX5_outTurnedAhead 7 rfl) rfl ?_
    refine A_iload_n (dX5_outTurnedAhead 8 rfl) rfl ?_
    refine A_icmp_ne 24 (dX5_outTurnedAhead 9 rfl) (by decide) (fun h14 => ?_) (fun h14 => absurd h14 (nIm1n (by omega)))
    refine A_aload_n (dX5_outTurnedAhead 13 rfl) rfl ?_
    refine A_iconst (1) (dX5_outTurnedAhead 14 rfl) (by decide +kernel) ?_
    refine A_callVWv 1 (dX5_outTurnedAhead 15 rfl) cbX5_tryRounds cwX5_168 (K_tryT E kq cg qf gf af qd gd1 ad1 qk gk ak ql gl1 al1 qr gr ar rx qm qx gx ax qs sx qo go ao qp gp_ ap L t m ht C hr4 hC 1 (by decide) _ rfl hl1 hGx) rfl rfl wK_0 rfl rfl (Nat.le_of_ble_eq_true rfl) (Nat.le_of_ble_eq_true rfl) (Nat.le_of_ble_eq_true rfl) (Nat.le_of_ble_eq_true rfl) (Nat.le_of_ble_eq_true rfl) ?_
    rintro w1 ⟨gd2, ad2, gl2, al2, rfl, h2, hl2⟩
    have hE2 := hE1.rounds (C := C) hGx.1 1
    rw [← h2] at hE2
    refine AW.pcq (pc2 := 29) rfl ?_
    refine A_iinc (ls2 := [_, _, _]) (nI (c + 1)) (dX5_outTurnedAhead 16 rfl) rfl (nI_1 c) (by decide) rfl rfl ?_
    refine A_goto 6 (dX5_outTurnedAhead 17 rfl) (by decide) ?_
    exact ih (c + 1) (by omega) gd2 ad2 gl2 al2 hE2 hl2

set_option maxRecDepth 100000 in
set_option maxHeartbeats 400000 in
theorem K_ahead (E : ag) (kq : Nat) (cg : Nat → Int32) (qf : Nat → Nat) (gf : Nat → Int32) (af : Nat → Nat → Int32) (qd : Nat → Nat) (gd : Nat → Int32) (ad : Nat → Nat → Int32) (qk : Nat → Nat) (gk : Nat → Int32) (ak : Nat → Nat → Int32) (ql : Nat → Nat) (gl : Nat → Int32) (al : Nat → Nat → Int32) (qr : Nat → Nat) (gr : Nat → Int32) (ar : Nat → Nat → Int32) (rx : Nat) (qm : Nat) (qx : Nat → Nat → Nat) (gx : Nat → Nat → Int32) (ax : Nat → Nat → Nat → Int32) (qs : Nat) (sx : Nat → Option Nat) (qo : Nat → Nat) (go : Nat → Int32) (ao : Nat → Nat → Int32) (qp : Nat → Nat) (gp_ : Nat → Int32) (ap : Nat → Nat → Int32) (L : va_W) (t m : Nat) (ht : t < 6) (C : Nat → List Int32) (hr4 : gf 4 = nI t) (hC : TKC (ax t) C) (hG : GOOD (cfs gf af gl) m) (hW : WET (cfs gf af gl)) (k : Nat) (hk : k < 2 ^ 31) : CT E yX5_outTurnedAhead cX5_outTurnedAhead 3 mX5_outTurnedAhead.2.2.2.1 6 0 0 [.ref kq, .int (nI k)] (wK E kq cg qf gf af qd gd ad qk gk ak ql gl al qr gr ar rx qm qx gx ax qs sx qo go ao qp gp_ ap L) (ri (fun r w => r = (p_ahd C (p_beg (cfs gf af gl)) k 12).1 3 ∧ QK E kq cg qf gf af qd gd ad qk gk ak ql gl al qr gr ar rx qm qx gx ax qs sx qo go ao qp gp_ ap L w)) := by
  refine CT.of (M := mX5_outTurnedAhead) (ls := [some (.ref kq), some (.int (nI k)), none]) (by decide) rfl (by decide) rfl (Nat.le_of_ble_eq_true rfl) ?_
  refine A_aload_n (dX5_outTurnedAhead 0 rfl) rfl ?_
  refine A_callVWv 0 (dX5_outTurnedAhead 1 rfl) cbX5_beginTrial cwX5_165 (K_begin E kq cg qf gf af qd gd ad qk gk ak ql gl al qr gr ar rx qm qx gx ax qs sx qo go ao qp gp_ ap L) rfl rfl wK_0 rfl rfl (Nat.le_of_ble_eq_true rfl) (Nat.le_of_ble_eq_true rfl) (Nat.le_of_ble_eq_true rfl) (Nat.le_of_ble_eq_true rfl) (Nat.le_of_ble_eq_true rfl) ?_
  rintro w1 rfl
  have hE := kb_EQ (gd := gd) (ad := ad) (gf := gf) (af := af) (gl := gl) (gl0 := gl) hG.1.1
  have hGB := hG.beg.eq hE
  refine AW.pcq (pc2 := 4) rfl ?_
  refine A_iconst (0) (dX5_outTurnedAhead 2 rfl) (by decide +kernel) ?_
  refine A_istore_n (ls2 := [_, _, _]) (dX5_outTurnedAhead 3 rfl) (by decide) rfl rfl ?_
  exact K_aheadL E kq cg qf gf af qd gd ad qk gk ak ql gl al qr gr ar rx qm qx gx ax qs sx qo go ao qp gp_ ap L t m ht C hr4 hC hG hW k hk 12 0 rfl _ _ _ al hE rfl

set_option maxRecDepth 100000 in
set_option maxHeartbeats 400000 in
theorem K_aheadM (E : ag) (kq : Nat) (cg : Nat → Int32) (qf : Nat → Nat) (gf : Nat → Int32) (af : Nat → Nat → Int32) (qd : Nat → Nat) (gd : Nat → Int32) (ad : Nat → Nat → Int32) (qk : Nat → Nat) (gk : Nat → Int32) (ak : Nat → Nat → Int32) (ql : Nat → Nat) (gl : Nat → Int32) (al : Nat → Nat → Int32) (qr : Nat → Nat) (gr : Nat → Int32) (ar : Nat → Nat → Int32) (rx : Nat) (qm : Nat) (qx : Nat → Nat → Nat) (gx : Nat → Nat → Int32) (ax : Nat → Nat → Nat → Int32) (qs : Nat) (sx : Nat → Option Nat) (qo : Nat → Nat) (go : Nat → Int32) (ao : Nat → Nat → Int32) (qp : Nat → Nat) (gp_ : Nat → Int32) (ap : Nat → Nat → Int32) (L : va_W) (t m : Nat) (ht : t < 6) (C : Nat → List Int32) (hr4 : gf 4 = nI t) (hC : TKC (ax t) C) (hG : GOOD (cfs gf af gl) m) : CT E yX5_outTurnedAhead cX5_outTurnedAhead 3 mX5_outTurnedAhead.2.2.2.1 6 0 0 [.ref kq, .int (-1)] (wK E kq cg qf gf af qd gd ad qk gk ak ql gl al qr gr ar rx qm qx gx ax qs sx qo go ao qp gp_ ap L) (ri (fun r w => r = (p_rounds C 12 (p_beg (cfs gf af gl))).1 3 ∧ QK E kq cg qf gf af qd gd ad qk gk ak ql gl al qr gr ar rx qm qx gx ax qs sx qo go ao qp gp_ ap L w)) := by
  refine CT.of (M := mX5_outTurnedAhead) (ls := [some (.ref kq), some (.int (-1)), none]) (by decide) rfl (by decide) rfl (Nat.le_of_ble_eq_true rfl) ?_
  refine A_aload_n (dX5_outTurnedAhead 0 rfl) rfl ?_
  refine A_callVWv 0 (dX5_outTurnedAhead 1 rfl) cbX5_beginTrial cwX5_165 (K_begin E kq cg qf gf af qd gd ad qk gk ak ql gl al qr gr ar rx qm qx gx ax qs sx qo go ao qp gp_ ap L) rfl rfl wK_0 rfl rfl (Nat.le_of_ble_eq_true rfl) (Nat.le_of_ble_eq_true rfl) (Nat.le_of_ble_eq_true rfl) (Nat.le_of_ble_eq_true rfl) (Nat.le_of_ble_eq_true rfl) ?_
  rintro w1 rfl
  have hE := kb_EQ (gd := gd) (ad := ad) (gf := gf) (af := af) (gl := gl) (gl0 := gl) hG.1.1
  have hGB := hG.beg.eq hE
  refine AW.pcq (pc2 := 4) rfl ?_
  refine A_iconst (0) (dX5_outTurnedAhead 2 rfl) (by decide +kernel) ?_
  refine A_istore_n (ls2 := [_, _, _]) (dX5_outTurnedAhead 3 rfl) (by decide) rfl rfl ?_
  exact K_aheadN E kq cg qf gf af qd gd ad qk gk ak ql gl al qr gr ar rx qm qx gx ax qs sx qo go ao qp gp_ ap L t m ht C hr4 hC hG 12 0 rfl _ _ _ al hE rfl

