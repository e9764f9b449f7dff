set_option maxRecDepth 100000 in
set_option maxHeartbeats 400000 in
theorem m_homeB (E : ag) (q : Nat → Nat) (g : Nat → Int32) (tw : Int64) (a : Nat → Nat → Int32) (t m : Nat) (C : Nat → List Int32) (hg4 : g 4 = nI t) (hK : TOK (a 1) (a 2) t C) (hF : FI (rfs g a) m) (c : Nat) (hlt : c < m) (h1 : Nat → Int32) (tw1 : Int64) (b1 : Nat → Nat → Int32) (hf1 : rfs h1 b1 = p_try (rfs g a)) (hd1 : AD g a h1 b1) (x y : Int32) (post : Option Value → va_W → Prop) (K : ∀ (h3 : Nat → Int32) (tw3 : Int64) (b3 : Nat → Nat → Int32), rfs h3 b3 = p_try (rfs g a) → AD g a h3 b3 → BK g a h3 b3 → AW E mX6_home 48 0 0 28 [some (.ref (q 0)), some (.int (if y < p_homeV C m (rfs g a) c then p_homeV C m (rfs g a) c else y)), some (.int (if y < p_homeV C m (rfs g a) c then nI c else x)), some (.int (nI (c + 1))), some (.int (nI (m - 1))), some (.int (p_homeV C m (rfs g a) c))] [] (MW E q h3 tw3 b3) post) : AW E mX6_home 48 0 0 74 [some (.ref (q 0)), some (.int y), some (.int x), some (.int (nI c)), some (.int (nI (m - 1))), some (.int (nI m))] [] (MW E q h1 tw1 (mLv m c b1)) post := by
  refine A_aload_n (dX6_home 39 rfl) rfl ?_
  refine A_iload (dX6_home 40 rfl) rfl ?_
  refine A_put (dX6_home 41 rfl) fwX6_100 fcX6 ftX6_13 MW_0 rfl rfl ML_0 (MP_13 _) ?_
  refine A_aload_n (dX6_home 42 rfl) rfl ?_
  refine A_bipush (12) (dX6_home 43 rfl) (by decide +kernel) ?_
  refine A_callVWv 1 (dX6_home 44 rfl) cbX6_goesOn cwX6_337 (m_goesOnT E q g a t (m - 1) C hg4 hK (upd h1 13 (nI (m - 1))) tw1 (mLv m c b1) (p_leave m c (p_try (rfs g a))) (by rw [rf_leave, hf1]) ((hd1.lv).up (by decide)) hF.try.leave 12 (by decide)) rfl rfl MW_0 rfl rfl (Nat.le_of_ble_eq_true rfl) (Nat.le_of_ble_eq_true rfl) (Nat.le_of_ble_eq_true rfl) (Nat.le_of_ble_eq_true rfl) (Nat.le_of_ble_eq_true rfl) ?_
  rintro w1 ⟨h2, tw2, b2, rfl, hf2, hd2⟩
  refine AW.pcq (pc2 := 86) rfl ?_
  refine A_aload_n (dX6_home 45 rfl) rfl ?_
  refine A_get (dX6_home 46 rfl) fwX6_305 MW_0 MF_16 ?_
  refine A_aload_n (dX6_home 47 rfl) rfl ?_
  refine A_get (dX6_home 48 rfl) fwX6_324 MW_0 MF_46 ?_
  refine A_isub (dX6_home 49 rfl) ?_
  refine A_istore (ls2 := [_, _, _, _, _, _]) (dX6_home 50 rfl) (by decide) rfl rfl ?_
  refine A_aload_n (dX6_home 51 rfl) rfl ?_
  refine A_callVWv 0 (dX6_home 52 rfl) cbX6_laysBack cwX6_343 (m_backQ E q g tw2 a h2 b2 hd2) rfl rfl MW_0 rfl rfl (Nat.le_of_ble_eq_true rfl) (Nat.le_of_ble_eq_true rfl) (Nat.le_of_ble_eq_true rfl) (Nat.le_of_ble_eq_true rfl) (Nat.le_of_ble_eq_true rfl) ?_
  rintro w1 ⟨h3, tw3, b3, rfl, hf3, hd3, hb3⟩
  have hv : h2 16 - h2 46 = p_homeV C m (rfs g a) c := by unfold p_homeV; rw [rf16 hf2, hd2.1.2.2.2]; rfl
  rw [hv]
  have K3 := K h3 tw3 b3 hf3 hd3 hb3
  refine AW.pcq (pc2 := 101) rfl ?_
  refine A_iload (dX6_home 53 rfl) rfl ?_
  refine A_iload_n (dX6_home 54 rfl) rfl ?_
  refine A_icmp_le 112 (dX6_home 55 rfl) (by decide) (fun h104 => ?_) (fun h104 => ?_)
  · rw [if_neg (Int32.not_lt.mpr h104), if_neg (Int32.not_lt.mpr h104)] at K3
    refine A_iinc (ls2 := [_, _, _, _, _, _]) (nI (c + 1)) (dX6_home 60 rfl) rfl (nI_1 c) (by decide) rfl rfl ?_
    refine A_goto 28 (dX6_home 61 rfl) (by decide) ?_
    exact K3
  · rw [if_pos (Int32.not_le.mp h104), if_pos (Int32.not_le.mp h104)] at K3
    refine A_iload_n (dX6_home 56 rfl) rfl ?_
    refine A_istore_n (ls2 := [_, _, _, _, _, _]) (dX6_home 57 rfl) (by decide) rfl rfl ?_
    refine A_iload (dX6_home 58 rfl) rfl ?_
    refine A_istore_n (ls2 := [_, _, _, _, _, _]) (dX6_home 59 rfl) (by decide) rfl rfl ?_
    refine A_iinc (ls2 := [_, _, _, _, _, _]) (nI (c + 1)) (dX6_home 60 rfl) rfl (nI_1 c) (by decide) rfl rfl ?_
    refine A_goto 28 (dX6_home 61 rfl) (by decide) ?_
    exact K3
set_option maxRecDepth 100000 in
set_option maxHeartbeats 400000 in
theorem m_homeL (E : ag) (q : Nat → Nat) (g : Nat → Int32) (tw : Int64) (a : Nat → Nat → Int32) (t m : Nat) (C : Nat → List Int32) (hg4 : g 4 = nI t) (hK : TOK (a 1) (a 2) t C) (hF : FI (rfs g a) m) : ∀ (n c : Nat), c + n = m → ∀ (h1 : Nat → Int32) (tw1 : Int64) (b1 : Nat → Nat → Int32) (x y : Int32) (x4 x5 : Option Value), noL [x4, x5] = true → rfs h1 b1 = p_try (rfs g a) → AD g a h1 b1 → BK g a h1 b1 → AW E mX6_home 48 0 0 28 [some (.ref (q 0)), some (.int y), some (.int x), some (.int (nI c)), x4, x5] [] (MW E q h1 tw1 b1) (ri (fun r w => r = (bst (p_homeV C m (rfs g a)) n c x y).1 ∧ QW E q g a w)) := by
  intro n
  induction n with
  | zero =>
    intro c hc
    intro h1 tw1 b1 x y x4 x5 hx hf1 hd1 hb1
    obtain rfl : m = c := by omega
    have hm5 := hF.1
    refine A_iload_n (dX6_home 17 rfl) rfl ?_
    refine A_aload_n (dX6_home 18 rfl) rfl ?_
    refine A_get (dX6_home 19 rfl) fwX6_315 MW_0 MF_43 ?_
    refine A_icmp_ge 118 (dX6_home 20 rfl) (by decide) (fun h33 => ?_) (fun h33 => absurd (show h1 43 ≤ nI m by rw [(show h1 43 = nI m by rw [hd1.1.1]; exact hF.2.1)]; exact nI_le (Nat.le_refl _) (by omega)) h33)
    refine A_iload_n (dX6_home 62 rfl) rfl ?_
    refine A_ri (dX6_home 63 rfl) rfl rfl ?_
    exact ⟨rfl, h1, tw1, b1, rfl, hb1⟩
  | succ n ih =>
    intro c hc
    have hlt : c < m := by omega
    intro h1 tw1 b1 x y x4 x5 hx hf1 hd1 hb1
    have hm5 := hF.1
    refine A_iload_n (dX6_home 17 rfl) rfl ?_
    refine A_aload_n (dX6_home 18 rfl) rfl ?_
    refine A_get (dX6_home 19 rfl) fwX6_315 MW_0 MF_43 ?_
    refine A_icmp_ge 118 (dX6_home 20 rfl) (by decide) (fun h33 => absurd h33 (show ¬ h1 43 ≤ nI c by rw [(show h1 43 = nI m by rw [hd1.1.1]; exact hF.2.1)]; exact nI_ge hlt (by omega))) (fun h33 => ?_)
    refine A_iconst (0) (dX6_home 21 rfl) (by decide +kernel) ?_
    refine A_istore (ls2 := [_, _, _, _, _, _]) (dX6_home 22 rfl) (by decide) (by have := hx; simp_all [noL, Value.category]) rfl ?_
    refine A_iconst (0) (dX6_home 23 rfl) (by decide +kernel) ?_
    refine A_istore (ls2 := [_, _, _, _, _, _]) (dX6_home 24 rfl) (by decide) (by have := hx; simp_all [noL, Value.category]) rfl ?_
    have h9 := fun K => m_homeI1 E q g tw a t m C hg4 hK hF h1 tw1 b1 hf1 hd1 hb1 c hlt x y (ri (fun r w => r = (bst (p_homeV C m (rfs g a)) (n + 1) c x y).1 ∧ QW E q g a w)) K c 0 (by omega)
    rw [mLv_0 (Nat.zero_le _)] at h9
    refine h9 ?_
    refine m_homeB E q g tw a t m C hg4 hK hF c hlt h1 tw1 b1 hf1 hd1 x y _ (fun h3 tw3 b3 hf3 hd3 hb3 => ?_)
    have h8 := ih (c + 1) (by omega) h3 tw3 b3 (if y < p_homeV C m (rfs g a) c then nI c else x) (if y < p_homeV C m (rfs g a) c then p_homeV C m (rfs g a) c else y) (some (.int (nI (m - 1)))) (some (.int (p_homeV C m (rfs g a) c))) rfl hf3 hd3 hb3
    have e : bst (p_homeV C m (rfs g a)) (n + 1) c x y = bst (p_homeV C m (rfs g a)) n (c + 1) (if y < p_homeV C m (rfs g a) c then nI c else x) (if y < p_homeV C m (rfs g a) c then p_homeV C m (rfs g a) c else y) := by
      simp only [bst]
      split <;> rfl
    rw [e]
    exact h8

set_option maxRecDepth 100000 in
set_option maxHeartbeats 400000 in
theorem m_home (E : ag) (q : Nat → Nat) (g : Nat → Int32) (tw : Int64) (a : Nat → Nat → Int32) (t m : Nat) (C : Nat → List Int32) (hg4 : g 4 = nI t) (hK : TOK (a 1) (a 2) t C) (hF : FI (rfs g a) m) : CT E yX6_home cX6_home 6 mX6_home.2.2.2.1 48 0 0 [.ref (q 0)] (MW E q g tw a) (ri (fun r w => r = (bst (p_homeV C m (rfs g a)) m 0 (-1) (p_gain C 12 (rfs g a))).1 ∧ QW E q g a w)) := by
  refine CT.of (M := mX6_home) (ls := [some (.ref (q 0)), none, none, none, none, none]) (by decide) rfl (by decide) rfl (Nat.le_of_ble_eq_true rfl) ?_
  refine A_aload_n (dX6_home 0 rfl) rfl ?_
  refine A_callVWv 0 (dX6_home 1 rfl) cbX6_laysAside cwX6_334 (m_asideQ E q g tw a) rfl rfl MW_0 rfl rfl (Nat.le_of_ble_eq_true rfl) (Nat.le_of_ble_eq_true rfl) (Nat.le_of_ble_eq_true rfl) (Nat.le_of_ble_eq_true rfl) (Nat.le_of_ble_eq_true rfl) ?_
  rintro w1 ⟨h1, tw1, b1, rfl, hf1, hd1, hb1⟩
  refine AW.pcq (pc2 := 4) rfl ?_
  refine A_aload_n (dX6_home 2 rfl) rfl ?_
  refine A_bipush (12) (dX6_home 3 rfl) (by decide +kernel) ?_
  refine A_callVWv 1 (dX6_home 4 rfl) cbX6_goesOn cwX6_337 (m_goesOnT E q g a t m C hg4 hK h1 tw1 b1 _ hf1 hd1 hF.try 12 (by decide)) rfl rfl MW_0 rfl rfl (Nat.le_of_ble_eq_true rfl) (Nat.le_of_ble_eq_true rfl) (Nat.le_of_ble_eq_true rfl) (Nat.le_of_ble_eq_true rfl) (Nat.le_of_ble_eq_true rfl) ?_
  rintro w1 ⟨h2, tw2, b2, rfl, hf2, hd2⟩
  refine AW.pcq (pc2 := 10) rfl ?_
  refine A_aload_n (dX6_home 5 rfl) rfl ?_
  refine A_get (dX6_home 6 rfl) fwX6_305 MW_0 MF_16 ?_
  refine A_aload_n (dX6_home 7 rfl) rfl ?_
  refine A_get (dX6_home 8 rfl) fwX6_324 MW_0 MF_46 ?_
  refine A_isub (dX6_home 9 rfl) ?_
  refine A_istore_n (ls2 := [_, _, _, _, _, _]) (dX6_home 10 rfl) (by decide) rfl rfl ?_
  refine A_aload_n (dX6_home 11 rfl) rfl ?_
  refine A_callVWv 0 (dX6_home 12 rfl) cbX6_laysBack cwX6_343 (m_backQ E q g tw2 a h2 b2 hd2) rfl rfl MW_0 rfl rfl (Nat.le_of_ble_eq_true rfl) (Nat.le_of_ble_eq_true rfl) (Nat.le_of_ble_eq_true rfl) (Nat.le_of_ble_eq_true rfl) (Nat.le_of_ble_eq_true rfl) ?_
  rintro w1 ⟨h3, tw3, b3, rfl, hf3, hd3, hb3⟩
  have hv : h2 16 - h2 46 = p_gain C 12 (rfs g a) := by unfold p_gain; rw [rf16 hf2, hd2.1.2.2.2]; rfl
  rw [hv]
  refine AW.pcq (pc2 := 24) rfl ?_
  refine A_iconst (-1) (dX6_home 13 rfl) (by decide +kernel) ?_
  refine A_istore_n (ls2 := [_, _, _, _, _, _]) (dX6_home 14 rfl) (by decide) rfl rfl ?_
  refine A_iconst (0) (dX6_home 15 rfl) (by decide +kernel) ?_
  refine A_istore_n (ls2 := [_, _, _, _, _, _]) (dX6_home 16 rfl) (by decide) rfl rfl ?_
  exact m_homeL E q g tw a t m C hg4 hK hF m 0 (by omega) h3 tw3 b3 _ _ none none rfl hf3 hd3 hb3

def p_bars (m : Nat) (v : Int32) (s : FS) : FS := (upd s.1 1 v, va_up s.2 3 (cp m (rmf v (s.2 3)) (s.2 3)))
theorem rf_bars {g : Nat → Int32} {a : Nat → Nat → Int32} {m : Nat} {v : Int32} : rfs (upd g 14 v) (va_up a 7 (cp m (rmf v (a 7)) (a 7))) = p_bars m v (rfs g a) := by
  refine rfs_eq rfl rfl rfl rfl rfl rfl (fun k hk => ?_) rfl rfl rfl rfl rfl rfl (fun k hk => ?_)
  · show upd (rfs g a).1 1 _ k = 0
    simp only [upd]
    rw [if_neg (by omega)]
    exact rfs_z hk
  · show va_up (rfs g a).2 3 _ k = _
    simp only [va_up]
    rw [if_neg (by omega)]
    exact rfs_az (g := g) hk
theorem FI.bars {s : FS} {m : Nat} (h : FI s m) {v : Int32} (hv : ¬ v = 0) : FI (p_bars m v s) m := ⟨h.1, h.2.1, hv, h.2.2.2⟩
def p_barV (C : Nat → List Int32) (m : Nat) (s : FS) (b : Nat) : Int32 := (((p_rounds C 12 (p_bars m (nI b) (p_try s))).1 3 - s.1 3).toInt64 * 1000 / (12 * nI b).toInt64).toInt32
theorem l12 {b : Nat} (h : b ≤ 240) (h0 : 12 ≤ b) : ¬ (12 * nI b).toInt64 = 0 := fun z => by
  have e : (12 : Int32) * nI b = nI (12 * b) := pk_mul 12 b
  rw [e, nI_l (by omega)] at z
  have := congrArg Int64.toInt z
  rw [lN_toInt (by omega)] at this
  have h0 : (0 : Int64).toInt = 0 := by decide
  rw [h0] at this
  omega
set_option maxRecDepth 100000 in
set_option maxHeartbeats 400000 in
theorem m_barL (E : ag) (q : Nat → Nat) (g : Nat → Int32) (tw : Int64) (a : Nat → Nat → Int32) (t m : Nat) (C : Nat → List Int32) (hg4 : g 4 = nI t) (hK : TOK (a 1) (a 2) t C) (hF : FI (rfs g a) m) (what : Int32) : ∀ (n c : Nat), c + n = 241 → 12 ≤ c → ∀ (h1 : Nat → Int32) (tw1 : Int64) (b1 : Nat → Nat → Int32) (x y : Int32) (x5 : Option Value), noL [x5] = true → rfs h1 b1 = p_try (rfs g a) → AD g a h1 b1 → BK g a h1 b1 → AW E mX6_bar 48 0 0 26 [some (.ref (q 0)), some (.int what), some (.int x), some (.int y), some (.int (nI c)), x5] [] (MW E q h1 tw1 b1) (ri (fun r w => r = (if what = 0 then (bst (p_barV C m (rfs g a)) n c x y).1 else (bst (p_barV C m (rfs g a)) n c x y).2) ∧ QW E q g a w)) := by
  intro n
  induction n with
  | zero =>
    intro c hc
    intro hc12 h1 tw1 b1 x y x5 hx hf1 hd1 hb1
    obtain rfl : c = 241 := by omega
    refine A_iload (dX6_bar 16 rfl) rfl ?_
    refine A_sipush (240) (dX6_bar 17 rfl) (by decide +kernel) ?_
    refine A_icmp_gt 92 (dX6_bar 18 rfl) (by decide) (fun h31 => ?_) (fun h31 => absurd (show (240 : Int32) < nI 241 by decide) h31)
    refine A_iload_n (dX6_bar 51 rfl) rfl ?_
    refine A_if_ne 100 (dX6_bar 52 rfl) (by decide) (fun hq => ?_) (fun hq => ?_)
    · refine A_iload_n (dX6_bar 55 rfl) rfl ?_
      refine A_ri (dX6_bar 56 rfl) rfl rfl ?_
      refine ⟨?_, h1, tw1, b1, rfl, hb1⟩
      first | rw [if_pos hq]; rfl | rw [if_neg hq]; rfl
    · refine A_iload_n (dX6_bar 53 rfl) rfl ?_
      refine A_goto 101 (dX6_bar 54 rfl) (by decide) ?_
      refine A_ri (dX6_bar 56 rfl) rfl rfl ?_
      refine ⟨?_, h1, tw1, b1, rfl, hb1⟩
      first | rw [if_pos hq]; rfl | rw [if_neg hq]; rfl
  | succ n ih =>
    intro c hc
    have hlt : c < 241 := by omega
    intro hc12 h1 tw1 b1 x y x5 hx hf1 hd1 hb1
    refine A_iload (dX6_bar 16 rfl) rfl ?_
    refine A_sipush (240) (dX6_bar 17 rfl) (by decide +kernel) ?_
    refine A_icmp_gt 92 (dX6_bar 18 rfl) (by decide) (fun h31 => absurd h31 (nI_nlt (a := 240) (b := c) (by omega) (by decide))) (fun h31 => ?_)
    refine A_aload_n (dX6_bar 19 rfl) rfl ?_
    refine A_iload (dX6_bar 20 rfl) rfl ?_
    refine A_callVWv 1 (dX6_bar 21 rfl) cbX6_bars cwX6_138 (m_bars E q h1 tw1 b1 (nI c) m hF.1 (by rw [hb1.1 13 (by decide)]; exact hF.2.1) (nI_ne0 (by omega) (by omega))) rfl rfl MW_0 rfl rfl (Nat.le_of_ble_eq_true rfl) (Nat.le_of_ble_eq_true rfl) (Nat.le_of_ble_eq_true rfl) (Nat.le_of_ble_eq_true rfl) (Nat.le_of_ble_eq_true rfl) ?_
    rintro w1 rfl
    refine AW.pcq (pc2 := 40) rfl ?_
    refine A_aload_n (dX6_bar 22 rfl) rfl ?_
    refine A_bipush (12) (dX6_bar 23 rfl) (by decide +kernel) ?_
    refine A_callVWv 1 (dX6_bar 24 rfl) cbX6_goesOn cwX6_337 (m_goesOnT E q g a t m C hg4 hK (upd h1 14 (nI c)) tw1 (va_up b1 7 (cp m (rmf (nI c) (b1 7)) (b1 7))) (p_bars m (nI c) (p_try (rfs g a))) (by rw [rf_bars, hf1]) ((hd1.up (by decide)).ua (by decide)) (hF.try.bars (nI_ne0 (by omega) (by omega))) 12 (by decide)) rfl rfl MW_0 rfl rfl (Nat.le_of_ble_eq_true rfl) (Nat.le_of_ble_eq_true rfl) (Nat.le_of_ble_eq_true rfl) (Nat.le_of_ble_eq_true rfl) (Nat.le_of_ble_eq_true rfl) ?_
    rintro w1 ⟨h2, tw2, b2, rfl, hf2, hd2⟩
    refine AW.pcq (pc2 := 46) rfl ?_
    refine A_aload_n (dX6_bar 25 rfl) rfl ?_
    refine A_get (dX6_bar 26 rfl) fwX6_305 MW_0 MF_16 ?_
    refine A_aload_n (dX6_bar 27 rfl) rfl ?_
    refine A_get (dX6_bar 28 rfl) fwX6_324 MW_0 MF_46 ?_
    refine A_isub (dX6_bar 29 rfl) ?_
    refine A_i2l (dX6_bar 30 rfl) ?_
    refine A_ldc2 (dX6_bar 31 rfl) kcX6_346 ?_
    refine A_lmul (dX6_bar 32 rfl) ?_
    refine AW.pcq (pc2 := 60) rfl ?_
    refine A_bipush (12) (dX6_bar 33 rfl) (by decide +kernel) ?_
    refine A_iload (dX6_bar 34 rfl) rfl ?_
    refine A_imul (dX6_bar 35 rfl) ?_
    refine A_i2l (dX6_bar 36 rfl) ?_
    refine A_ldiv (dX6_bar 37 rfl) (l12 (by omega) (by omega)) ?_
    refine A_l2i (dX6_bar 38 rfl) ?_
    refine A_istore (ls2 := [_, _, _, _, _, _]) (dX6_bar 39 rfl) (by decide) (by have := hx; simp_all [noL, Value.category]) rfl ?_
    refine A_aload_n (dX6_bar 40 rfl) rfl ?_
    refine AW.pcq (pc2 := 71) rfl ?_
    refine A_callVWv 0 (dX6_bar 41 rfl) cbX6_laysBack cwX6_343 (m_backQ E q g tw2 a h2 b2 hd2) rfl rfl MW_0 rfl rfl (Nat.le_of_ble_eq_true rfl) (Nat.le_of_ble_eq_true rfl) (Nat.le_of_ble_eq_true rfl) (Nat.le_of_ble_eq_true rfl) (Nat.le_of_ble_eq_true rfl) ?_
    rintro w1 ⟨h3, tw3, b3, rfl, hf3, hd3, hb3⟩
    have hv : ((h2 16 - h2 46).toInt64 * 1000 / (12 * nI c).toInt64).toInt32 = p_barV C m (rfs g a) c := by unfold p_barV; rw [rf16 hf2, hd2.1.2.2.2]; rfl
    rw [hv]
    refine AW.pcq (pc2 := 74) rfl ?_
    refine A_iload (dX6_bar 42 rfl) rfl ?_
    refine A_iload_n (dX6_bar 43 rfl) rfl ?_
    refine A_icmp_le 86 (dX6_bar 44 rfl) (by decide) (fun h77 => ?_) (fun h77 => ?_)
    · rw [show bst (p_barV C m (rfs g a)) (n + 1) c x y = bst (p_barV C m (rfs g a)) n (c + 1) x y from if_neg (Int32.not_lt.mpr h77)]
      refine A_iinc (ls2 := [_, _, _, _, _, _]) (nI (c + 1)) (dX6_bar 49 rfl) rfl (nI_1 c) (by decide) rfl rfl ?_
      refine A_goto 26 (dX6_bar 50 rfl) (by decide) ?_
      exact ih (c + 1) (by omega) (by omega) h3 tw3 b3 _ _ _ (by rfl) hf3 hd3 hb3
    · rw [show bst (p_barV C m (rfs g a)) (n + 1) c x y = bst (p_barV C m (rfs g a)) n (c + 1) (nI c) (p_barV C m (rfs g a) c) from if_pos (Int32.not_le.mp h77)]
      refine A_iload (dX6_bar 45 rfl) rfl ?_
      refine A_istore_n (ls2 := [_, _, _, _, _, _]) (dX6_bar 46 rfl) (by decide) (by have := hx; simp_all [noL, Value.category]) rfl ?_
      refine A_iload (dX6_bar 47 rfl) rfl ?_
      refine A_istore_n (ls2 := [_, _, _, _, _, _]) (dX6_bar 48 rfl) (by decide) (by have := hx; simp_all [noL, Value.category]) rfl ?_
      refine A_iinc (ls2 := [_, _, _, _, _, _]) (nI (c + 1)) (dX6_bar 49 rfl) rfl (nI_1 c) (by decide) rfl rfl ?_
      refine A_goto 26 (dX6_bar 50 rfl) (by decide) ?_
      exact ih (c + 1) (by omega) (by omega) h3 tw3 b3 _ _ _ (by rfl) hf3 hd3 hb3

set_option maxRecDepth 100000 in
set_option maxHeartbeats 400000 in
theorem m_bar (E : ag) (q : Nat → Nat) (g : Nat → Int32) (tw : Int64) (a : Nat → Nat → Int32) (t m : Nat) (C : Nat → List Int32) (hg4 : g 4 = nI t) (hK : TOK (a 1) (a 2) t C) (hF : FI (rfs g a) m) (what : Int32) : CT E yX6_bar cX6_bar 6 mX6_bar.2.2.2.1 48 0 0 [.ref (q 0), .int what] (MW E q g tw a) (ri (fun r w => r = (if inI what 0 1 = 0 then -2 else if what = 0 then (bst (p_barV C m (rfs g a)) 229 12 12 (-1)).1 else (bst (p_barV C m (rfs g a)) 229 12 12 (-1)).2) ∧ QW E q g a w)) := by
  refine CT.of (M := mX6_bar) (ls := [some (.ref (q 0)), some (.int what), none, none, none, none]) (by decide) rfl (by decide) rfl (Nat.le_of_ble_eq_true rfl) ?_
  refine A_iload_n (dX6_bar 0 rfl) rfl ?_
  refine A_i2l (dX6_bar 1 rfl) ?_
  refine A_lconst (0) (dX6_bar 2 rfl) (by decide +kernel) ?_
  refine A_lconst (1) (dX6_bar 3 rfl) (by decide +kernel) ?_
  refine A_callSWi 3 (dX6_bar 4 rfl) cbX6_in cwX6_103 (m_in E _ what 0 1 _ _ _ rfl (by decide) (by decide)) rfl rfl (Nat.le_of_ble_eq_true rfl) (Nat.le_of_ble_eq_true rfl) (Nat.le_of_ble_eq_true rfl) (Nat.le_of_ble_eq_true rfl) (Nat.le_of_ble_eq_true rfl) ?_
  rintro r4 w1 ⟨rfl, rfl⟩
  refine AW.pcq (pc2 := 7) rfl ?_
  refine A_if_ne 13 (dX6_bar 5 rfl) (by decide) (fun h7 => ?_) (fun h7 => ?_)
  · refine A_aload_n (dX6_bar 8 rfl) rfl ?_
    refine A_callVWv 0 (dX6_bar 9 rfl) cbX6_laysAside cwX6_334 (m_asideQ E q g tw a) rfl rfl MW_0 rfl rfl (Nat.le_of_ble_eq_true rfl) (Nat.le_of_ble_eq_true rfl) (Nat.le_of_ble_eq_true rfl) (Nat.le_of_ble_eq_true rfl) (Nat.le_of_ble_eq_true rfl) ?_
    rintro w1 ⟨h1, tw1, b1, rfl, hf1, hd1, hb1⟩
    refine AW.pcq (pc2 := 17) rfl ?_
    refine A_bipush (12) (dX6_bar 10 rfl) (by decide +kernel) ?_
    refine A_istore_n (ls2 := [_, _, _, _, _, _]) (dX6_bar 11 rfl) (by decide) rfl rfl ?_
    refine A_iconst (-1) (dX6_bar 12 rfl) (by decide +kernel) ?_
    refine A_istore_n (ls2 := [_, _, _, _, _, _]) (dX6_bar 13 rfl) (by decide) rfl rfl ?_
    refine A_bipush (12) (dX6_bar 14 rfl) (by decide +kernel) ?_
    refine A_istore (ls2 := [_, _, _, _, _, _]) (dX6_bar 15 rfl) (by decide) rfl rfl ?_
    rw [if_neg h7]
    exact m_barL E q g tw a t m C hg4 hK hF what 229 12 (by decide) (by decide) h1 tw1 b1 12 (-1) none rfl hf1 hd1 hb1
  · refine A_bipush (-2) (dX6_bar 6 rfl) (by decide +kernel) ?_
    refine A_ri (dX6_bar 7 rfl) rfl rfl ?_
    exact ⟨by rw [if_pos (by assumption)], QW.rf⟩

