def wA (E : ag) (x n : Nat) (f : Nat → Int32) : va_W := [(x, .inl (E.2.1 0, n, .inl f))]
theorem wA_0 {E : ag} {x n : Nat} {f : Nat → Int32} : (wA E x n f)[0]? = some (x, .inl (E.2.1 0, n, .inl f)) := rfl
theorem wA_s {E : ag} {x n : Nat} {f : Nat → Int32} (h : Nat → Int32) : (wA E x n f).set 0 (x, .inl (E.2.1 0, n, .inl h)) = wA E x n h := rfl
theorem le_m1 {i : Int32} {m : Nat} (hm : m ≤ 5) : i < nI m ↔ i ≤ nI m - 1 := by
  rw [Int32.lt_iff_toInt_lt, Int32.le_iff_toInt_le, nIm1 m hm, nI_toInt (by omega)]
  omega
theorem lt_le (x : Int32) (a b : Int32) (h : a.toInt = b.toInt + 1) : x < a ↔ x ≤ b := by rw [Int32.lt_iff_toInt_lt, Int32.le_iff_toInt_le, h]; omega
def hld (x b : Int32) : Int32 := if b ≤ 0 then 0 else mo x b
theorem hld_p {x b : Int32} (h : ¬ b ≤ 0) : hld x b = mo x b := if_neg h
set_option maxRecDepth 100000 in
set_option maxHeartbeats 400000 in
theorem k_within (E : ag) (ws : va_W) (v h : Int32) : CT E yX5_within cX5_within 2 mX5_within.2.2.2.1 1 0 0 [.int v, .int h] (ws) (ri (fun r w => r = inI v 0 h ∧ w = ws)) := by
  refine CT.of (M := mX5_within) (ls := [some (.int v), some (.int h)]) (by decide) rfl (by decide) rfl (Nat.le_of_ble_eq_true rfl) ?_
  refine A_iload_n (dX5_within 0 rfl) rfl ?_
  refine A_if_lt 13 (dX5_within 1 rfl) (by decide) (fun h1 => ?_) (fun h1 => ?_)
  · refine A_iconst (0) (dX5_within 7 rfl) (by decide +kernel) ?_
    refine A_ri (dX5_within 8 rfl) rfl (by decide) ?_
    refine ⟨?_, rfl⟩
    first | exact (inI_lo (fun z => absurd z (Int32.not_le.mpr (by assumption)))).symm | exact (inI_hi (fun z => absurd z (Int32.not_le.mpr (by assumption)))).symm | exact (inI_of (Int32.not_lt.mp (by assumption)) (by first | assumption | exact Int32.not_lt.mp (by assumption))).symm
  · refine A_iload_n (dX5_within 2 rfl) rfl ?_
    refine A_iload_n (dX5_within 3 rfl) rfl ?_
    refine A_icmp_gt 13 (dX5_within 4 rfl) (by decide) (fun h6 => ?_) (fun h6 => ?_)
    · refine A_iconst (0) (dX5_within 7 rfl) (by decide +kernel) ?_
      refine A_ri (dX5_within 8 rfl) rfl (by decide) ?_
      refine ⟨?_, rfl⟩
      first | exact (inI_lo (fun z => absurd z (Int32.not_le.mpr (by assumption)))).symm | exact (inI_hi (fun z => absurd z (Int32.not_le.mpr (by assumption)))).symm | exact (inI_of (Int32.not_lt.mp (by assumption)) (by first | assumption | exact Int32.not_lt.mp (by assumption))).symm
    · refine A_iconst (1) (dX5_within 5 rfl) (by decide +kernel) ?_
      refine A_goto 14 (dX5_within 6 rfl) (by decide) ?_
      refine A_ri (dX5_within 8 rfl) rfl (by decide) ?_
      refine ⟨?_, rfl⟩
      first | exact (inI_lo (fun z => absurd z (Int32.not_le.mpr (by assumption)))).symm | exact (inI_hi (fun z => absurd z (Int32.not_le.mpr (by assumption)))).symm | exact (inI_of (Int32.not_lt.mp (by assumption)) (by first | assumption | exact Int32.not_lt.mp (by assumption))).symm

set_option maxRecDepth 100000 in
set_option maxHeartbeats 400000 in
theorem k_isCell (E : ag) (ws : va_W) (v : Int32) : CT E yX5_isCell cX5_isCell 1 mX5_isCell.2.2.2.1 1 0 0 [.int v] (ws) (ri (fun r w => r = inI v 0 11 ∧ w = ws)) := by
  refine CT.of (M := mX5_isCell) (ls := [some (.int v)]) (by decide) rfl (by decide) rfl (Nat.le_of_ble_eq_true rfl) ?_
  refine A_iload_n (dX5_isCell 0 rfl) rfl ?_
  refine A_if_lt 14 (dX5_isCell 1 rfl) (by decide) (fun h1 => ?_) (fun h1 => ?_)
  · refine A_iconst (0) (dX5_isCell 7 rfl) (by decide +kernel) ?_
    refine A_ri (dX5_isCell 8 rfl) rfl (by decide) ?_
    refine ⟨?_, rfl⟩
    first | exact (inI_lo (fun z => absurd z (Int32.not_le.mpr (by assumption)))).symm | exact (inI_hi (fun z => absurd ((lt_le v 12 11 (by decide)).mpr z) (Int32.not_lt.mpr (by assumption)))).symm | exact (inI_of (Int32.not_lt.mp (by assumption)) ((lt_le v 12 11 (by decide)).mp (by first | assumption | exact Int32.not_le.mp (by assumption)))).symm
  · refine A_iload_n (dX5_isCell 2 rfl) rfl ?_
    refine A_bipush (12) (dX5_isCell 3 rfl) (by decide +kernel) ?_
    refine A_icmp_ge 14 (dX5_isCell 4 rfl) (by decide) (fun h7 => ?_) (fun h7 => ?_)
    · refine A_iconst (0) (dX5_isCell 7 rfl) (by decide +kernel) ?_
      refine A_ri (dX5_isCell 8 rfl) rfl (by decide) ?_
      refine ⟨?_, rfl⟩
      first | exact (inI_lo (fun z => absurd z (Int32.not_le.mpr (by assumption)))).symm | exact (inI_hi (fun z => absurd ((lt_le v 12 11 (by decide)).mpr z) (Int32.not_lt.mpr (by assumption)))).symm | exact (inI_of (Int32.not_lt.mp (by assumption)) ((lt_le v 12 11 (by decide)).mp (by first | assumption | exact Int32.not_le.mp (by assumption)))).symm
    · refine A_iconst (1) (dX5_isCell 5 rfl) (by decide +kernel) ?_
      refine A_goto 15 (dX5_isCell 6 rfl) (by decide) ?_
      refine A_ri (dX5_isCell 8 rfl) rfl (by decide) ?_
      refine ⟨?_, rfl⟩
      first | exact (inI_lo (fun z => absurd z (Int32.not_le.mpr (by assumption)))).symm | exact (inI_hi (fun z => absurd ((lt_le v 12 11 (by decide)).mpr z) (Int32.not_lt.mpr (by assumption)))).symm | exact (inI_of (Int32.not_lt.mp (by assumption)) ((lt_le v 12 11 (by decide)).mp (by first | assumption | exact Int32.not_le.mp (by assumption)))).symm

set_option maxRecDepth 100000 in
set_option maxHeartbeats 400000 in
theorem k_isSheet (E : ag) (ws : va_W) (v : Int32) : CT E yX5_isSheet cX5_isSheet 1 mX5_isSheet.2.2.2.1 1 0 0 [.int v] (ws) (ri (fun r w => r = inI v 0 3 ∧ w = ws)) := by
  refine CT.of (M := mX5_isSheet) (ls := [some (.int v)]) (by decide) rfl (by decide) rfl (Nat.le_of_ble_eq_true rfl) ?_
  refine A_iload_n (dX5_isSheet 0 rfl) rfl ?_
  refine A_if_lt 13 (dX5_isSheet 1 rfl) (by decide) (fun h1 => ?_) (fun h1 => ?_)
  · refine A_iconst (0) (dX5_isSheet 7 rfl) (by decide +kernel) ?_
    refine A_ri (dX5_isSheet 8 rfl) rfl (by decide) ?_
    refine ⟨?_, rfl⟩
    first | exact (inI_lo (fun z => absurd z (Int32.not_le.mpr (by assumption)))).symm | exact (inI_hi (fun z => absurd ((lt_le v 4 3 (by decide)).mpr z) (Int32.not_lt.mpr (by assumption)))).symm | exact (inI_of (Int32.not_lt.mp (by assumption)) ((lt_le v 4 3 (by decide)).mp (by first | assumption | exact Int32.not_le.mp (by assumption)))).symm
  · refine A_iload_n (dX5_isSheet 2 rfl) rfl ?_
    refine A_iconst (4) (dX5_isSheet 3 rfl) (by decide +kernel) ?_
    refine A_icmp_ge 13 (dX5_isSheet 4 rfl) (by decide) (fun h6 => ?_) (fun h6 => ?_)
    · refine A_iconst (0) (dX5_isSheet 7 rfl) (by decide +kernel) ?_
      refine A_ri (dX5_isSheet 8 rfl) rfl (by decide) ?_
      refine ⟨?_, rfl⟩
      first | exact (inI_lo (fun z => absurd z (Int32.not_le.mpr (by assumption)))).symm | exact (inI_hi (fun z => absurd ((lt_le v 4 3 (by decide)).mpr z) (Int32.not_lt.mpr (by assumption)))).symm | exact (inI_of (Int32.not_lt.mp (by assumption)) ((lt_le v 4 3 (by decide)).mp (by first | assumption | exact Int32.not_le.mp (by assumption)))).symm
    · refine A_iconst (1) (dX5_isSheet 5 rfl) (by decide +kernel) ?_
      refine A_goto 14 (dX5_isSheet 6 rfl) (by decide) ?_
      refine A_ri (dX5_isSheet 8 rfl) rfl (by decide) ?_
      refine ⟨?_, rfl⟩
      first | exact (inI_lo (fun z => absurd z (Int32.not_le.mpr (by assumption)))).symm | exact (inI_hi (fun z => absurd ((lt_le v 4 3 (by decide)).mpr z) (Int32.not_lt.mpr (by assumption)))).symm | exact (inI_of (Int32.not_lt.mp (by assumption)) ((lt_le v 4 3 (by decide)).mp (by first | assumption | exact Int32.not_le.mp (by assumption)))).symm

set_option maxRecDepth 100000 in
set_option maxHeartbeats 400000 in
theorem k_bounded (E : ag) (ws : va_W) (v l h : Int32) (hlh : l.toInt ≤ h.toInt) : CT E yX5_bounded cX5_bounded 3 mX5_bounded.2.2.2.1 1 0 0 [.int v, .int l, .int h] (ws) (ri (fun r w => r = wiI v l h ∧ w = ws)) := by
  refine CT.of (M := mX5_bounded) (ls := [some (.int v), some (.int l), some (.int h)]) (by decide) rfl (by decide) rfl (Nat.le_of_ble_eq_true rfl) ?_
  refine A_iload_n (dX5_bounded 0 rfl) rfl ?_
  refine A_iload_n (dX5_bounded 1 rfl) rfl ?_
  refine A_iload_n (dX5_bounded 2 rfl) rfl ?_
  refine A_min (dX5_bounded 3 rfl) mmX5_244 (Nat.le_of_ble_eq_true rfl) (Nat.le_of_ble_eq_true rfl) ?_
  refine A_max (dX5_bounded 4 rfl) mmX5_249 (Nat.le_of_ble_eq_true rfl) (Nat.le_of_ble_eq_true rfl) ?_
  refine A_ri (dX5_bounded 5 rfl) rfl rfl ?_
  refine ⟨?_, rfl⟩
  simp only [wiI, Int32.lt_iff_toInt_lt]
  by_cases z1 : v.toInt < h.toInt
  · rw [if_pos z1]
    by_cases z2 : l.toInt < v.toInt
    · rw [if_pos z2, if_neg (by omega), if_neg (by omega)]
    · rw [if_neg z2]
      by_cases z3 : v.toInt < l.toInt
      · rw [if_pos z3]
      · rw [if_neg z3, if_neg (by omega)]
        exact Int32.toInt_inj.mp (by omega)
  · rw [if_neg z1]
    by_cases z2 : l.toInt < h.toInt
    · rw [if_pos z2, if_neg (by omega)]
      by_cases z3 : h.toInt < v.toInt
      · rw [if_pos z3]
      · rw [if_neg z3]
        exact Int32.toInt_inj.mp (by omega)
    · rw [if_neg z2]
      by_cases z3 : v.toInt < l.toInt
      · omega
      · rw [if_neg z3]
        by_cases z4 : h.toInt < v.toInt
        · rw [if_pos z4]
          exact Int32.toInt_inj.mp (by omega)
        · rw [if_neg z4]
          exact Int32.toInt_inj.mp (by omega)

set_option maxRecDepth 100000 in
set_option maxHeartbeats 400000 in
theorem k_exchange (E : ag) (x n : Nat) (f : Nat → Int32) (i v : Int32) (hi : vp_in i n) : CT E yX5_exchange cX5_exchange 4 mX5_exchange.2.2.2.1 1 0 0 [.ref x, .int i, .int v] (wA E x n f) (ri (fun r w => r = f i.toNatClampNeg ∧ w = wA E x n (upd f i.toNatClampNeg v))) := by
  refine CT.of (M := mX5_exchange) (ls := [some (.ref x), some (.int i), some (.int v), none]) (by decide) rfl (by decide) rfl (Nat.le_of_ble_eq_true rfl) ?_
  refine A_aload_n (dX5_exchange 0 rfl) rfl ?_
  refine A_iload_n (dX5_exchange 1 rfl) rfl ?_
  refine A_iald (dX5_exchange 2 rfl) wA_0 (by assumption) ?_
  refine A_istore_n (ls2 := [_, _, _, _]) (dX5_exchange 3 rfl) (by decide) rfl rfl ?_
  refine A_aload_n (dX5_exchange 4 rfl) rfl ?_
  refine A_iload_n (dX5_exchange 5 rfl) rfl ?_
  refine A_iload_n (dX5_exchange 6 rfl) rfl ?_
  refine A_iast (dX5_exchange 7 rfl) wA_0 (by assumption) (wA_s _) ?_
  refine AW.pcq (pc2 := 8) rfl ?_
  refine A_iload_n (dX5_exchange 8 rfl) rfl ?_
  refine A_ri (dX5_exchange 9 rfl) rfl rfl ?_
  exact ⟨rfl, rfl⟩

set_option maxRecDepth 100000 in
set_option maxHeartbeats 400000 in
theorem k_held (E : ag) (ws : va_W) (x b : Int32) : CT E yX5_held cX5_held 3 mX5_held.2.2.2.1 1 0 0 [.int x, .int b] (ws) (ri (fun r w => r = hld x b ∧ w = ws)) := by
  refine CT.of (M := mX5_held) (ls := [some (.int x), some (.int b), none]) (by decide) rfl (by decide) rfl (Nat.le_of_ble_eq_true rfl) ?_
  refine A_iload_n (dX5_held 0 rfl) rfl ?_
  refine A_if_gt 6 (dX5_held 1 rfl) (by decide) (fun h1 => ?_) (fun h1 => ?_)
  · have hb : ¬ b ≤ 0 := fun z => absurd h1 (Int32.not_lt.mpr z)
    refine A_iload_n (dX5_held 4 rfl) rfl ?_
    refine A_iload_n (dX5_held 5 rfl) rfl ?_
    refine A_irem (dX5_held 6 rfl) (fun z => hb (by rw [z]; decide)) ?_
    refine A_istore_n (ls2 := [_, _, _]) (dX5_held 7 rfl) (by decide) rfl rfl ?_
    refine A_iload_n (dX5_held 8 rfl) rfl ?_
    refine A_if_ge 20 (dX5_held 9 rfl) (by decide) (fun h11 => ?_) (fun h11 => ?_)
    · refine A_iload_n (dX5_held 14 rfl) rfl ?_
      refine A_ri (dX5_held 15 rfl) rfl rfl ?_
      refine ⟨?_, rfl⟩
      rw [hld_p hb]
      first
        | (rw [← mo_eq, if_pos h11])
        | (rw [← mo_eq, if_neg (fun z => z h11)])
    · refine A_iload_n (dX5_held 10 rfl) rfl ?_
      refine A_iload_n (dX5_held 11 rfl) rfl ?_
      refine A_iadd (dX5_held 12 rfl) ?_
      refine A_goto 21 (dX5_held 13 rfl) (by decide) ?_
      refine A_ri (dX5_held 15 rfl) rfl rfl ?_
      refine ⟨?_, rfl⟩
      rw [hld_p hb]
      first
        | (rw [← mo_eq, if_pos h11])
        | (rw [← mo_eq, if_neg (fun z => z h11)])
  · refine A_iconst (0) (dX5_held 2 rfl) (by decide +kernel) ?_
    refine A_ri (dX5_held 3 rfl) rfl rfl ?_
    exact ⟨(if_pos (Int32.not_lt.mp h1)).symm, rfl⟩

theorem sm_s (f : Nat → Int32) (n : Nat) : sm f (n + 1) = sm f n + f n := rfl
set_option maxRecDepth 100000 in
set_option maxHeartbeats 400000 in
theorem k_sumL (E : ag) (x n : Nat) (f : Nat → Int32) (hn : n < 2 ^ 31) : ∀ (k c : Nat), c + k = n → ∀ (x5 : Option Value), noL [x5] = true → AW E mX1_sum 1 0 0 10 [some (.ref x), some (.int (sm f c)), some (.ref x), some (.int (nI n)), some (.int (nI c)), x5] [] (wA E x n f) (ri (fun r w => r = sm f n ∧ w = wA E x n f)) := by
  intro k
  induction k with
  | zero =>
    intro c hc
    intro x5 hx
    obtain rfl : n = c := by omega
    refine A_iload (dX1_sum 9 rfl) rfl ?_
    refine A_iload_n (dX1_sum 10 rfl) rfl ?_
    refine A_icmp_ge 33 (dX1_sum 11 rfl) (by decide) (fun h13 => ?_) (fun h13 => absurd (nI_le (a := n) (b := n) (Nat.le_refl _) (by omega)) h13)
    refine A_iload_n (dX1_sum 22 rfl) rfl ?_
    refine A_ri (dX1_sum 23 rfl) rfl rfl ?_
    exact ⟨rfl, rfl⟩
  | succ k ih =>
    intro c hc
    have hlt : c < n := by omega
    intro x5 hx
    refine A_iload (dX1_sum 9 rfl) rfl ?_
    refine A_iload_n (dX1_sum 10 rfl) rfl ?_
    refine A_icmp_ge 33 (dX1_sum 11 rfl) (by decide) (fun h13 => absurd h13 (nI_ge hlt (by omega))) (fun h13 => ?_)
    refine A_aload_n (dX1_sum 12 rfl) rfl ?_
    refine A_iload (dX1_sum 13 rfl) rfl ?_
    refine A_iald (dX1_sum 14 rfl) wA_0 (vp_in_nI (n := c) (by omega) (by omega)) ?_
    refine A_istore (ls2 := [_, _, _, _, _, _]) (dX1_sum 15 rfl) (by decide) (by have := hx; simp_all [noL, Value.category]) rfl ?_
    refine A_iload_n (dX1_sum 16 rfl) rfl ?_
    refine AW.pcq (pc2 := 23) rfl ?_
    refine A_iload (dX1_sum 17 rfl) rfl ?_
    refine A_iadd (dX1_sum 18 rfl) ?_
    refine A_istore_n (ls2 := [_, _, _, _, _, _]) (dX1_sum 19 rfl) (by decide) (by have := hx; simp_all [noL, Value.category]) rfl ?_
    refine A_iinc (ls2 := [_, _, _, _, _, _]) (nI (c + 1)) (dX1_sum 20 rfl) rfl (nI_1 c) (by decide) (by have := hx; simp_all [noL, Value.category]) rfl ?_
    refine A_goto 10 (dX1_sum 21 rfl) (by decide) ?_
    rw [nI_clamp (by omega)]
    exact ih (c + 1) (by omega) _ (by rfl)

set_option maxRecDepth 100000 in
set_option maxHeartbeats 400000 in
theorem k_sum (E : ag) (x n : Nat) (f : Nat → Int32) (hn : n < 2 ^ 31) : CT E yX1_sum cX1_sum 6 mX1_sum.2.2.2.1 1 0 0 [.ref x] (wA E x n f) (ri (fun r w => r = sm f n ∧ w = wA E x n f)) := by
  refine CT.of (M := mX1_sum) (ls := [some (.ref x), none, none, none, none, none]) (by decide) rfl (by decide) rfl (Nat.le_of_ble_eq_true rfl) ?_
  refine A_iconst (0) (dX1_sum 0 rfl) (by decide +kernel) ?_
  refine A_istore_n (ls2 := [_, _, _, _, _, _]) (dX1_sum 1 rfl) (by decide) rfl rfl ?_
  refine A_aload_n (dX1_sum 2 rfl) rfl ?_
  refine A_astore_n (ls2 := [_, _, _, _, _, _]) (dX1_sum 3 rfl) (by decide) rfl rfl ?_
  refine A_aload_n (dX1_sum 4 rfl) rfl ?_
  refine A_alen _ (dX1_sum 5 rfl) wA_0 rfl ?_
  refine A_istore_n (ls2 := [_, _, _, _, _, _]) (dX1_sum 6 rfl) (by decide) rfl rfl ?_
  refine A_iconst (0) (dX1_sum 7 rfl) (by decide +kernel) ?_
  refine AW.pcq (pc2 := 8) rfl ?_
  refine A_istore (ls2 := [_, _, _, _, _, _]) (dX1_sum 8 rfl) (by decide) rfl rfl ?_
  exact k_sumL E x n f hn n 0 (by omega) none rfl

set_option maxRecDepth 100000 in
set_option maxHeartbeats 400000 in
theorem f_gapOf (E : ag) (qf : Nat → Nat) (gf : Nat → Int32) (af : Nat → Nat → Int32) (i : Int32) (hi : vp_in i 5) (hm : vp_in (gf 0 - 1) 5) (hj : ¬ i = 0 → vp_in (i - 1) 5) (hb : ¬ gf 1 ≤ 0) : CT E yX1_gapOf cX1_gapOf 3 mX1_gapOf.2.2.2.1 2 0 0 [.ref (qf 0), .int i] (wF E qf gf af) (ri (fun r w => r = p_gap (gf 0) (gf 1) (af 3) i ∧ w = wF E qf gf af)) := by
  refine CT.of (M := mX1_gapOf) (ls := [some (.ref (qf 0)), some (.int i), none]) (by decide) rfl (by decide) rfl (Nat.le_of_ble_eq_true rfl) ?_
  refine A_aload_n (dX1_gapOf 0 rfl) rfl ?_
  refine A_get (dX1_gapOf 1 rfl) fwX1_30 wF_0 cF_f0_6 ?_
  refine A_iconst (1) (dX1_gapOf 2 rfl) (by decide +kernel) ?_
  refine A_icmp_ne 13 (dX1_gapOf 3 rfl) (by decide) (fun h5 => ?_) (fun h5 => ?_)
  · refine A_iload_n (dX1_gapOf 7 rfl) rfl ?_
    refine A_if_ne 26 (dX1_gapOf 8 rfl) (by decide) (fun h14 => ?_) (fun h14 => ?_)
    · refine A_iload_n (dX1_gapOf 14 rfl) rfl ?_
      refine A_iconst (1) (dX1_gapOf 15 rfl) (by decide +kernel) ?_
      refine A_isub (dX1_gapOf 16 rfl) ?_
      refine A_istore_n (ls2 := [_, _, _]) (dX1_gapOf 17 rfl) (by decide) rfl rfl ?_
      refine A_aload_n (dX1_gapOf 18 rfl) rfl ?_
      refine A_get (dX1_gapOf 19 rfl) fwX1_21 wF_0 cF_f0_3 ?_
      refine A_iload_n (dX1_gapOf 20 rfl) rfl ?_
      refine A_iald (dX1_gapOf 21 rfl) wF_4 (by assumption) ?_
      refine AW.pcq (pc2 := 36) rfl ?_
      refine A_aload_n (dX1_gapOf 22 rfl) rfl ?_
      refine A_get (dX1_gapOf 23 rfl) fwX1_21 wF_0 cF_f0_3 ?_
      refine A_iload_n (dX1_gapOf 24 rfl) rfl ?_
      refine A_iald (dX1_gapOf 25 rfl) wF_4 (by first | assumption | exact hj (by assumption)) ?_
      refine A_isub (dX1_gapOf 26 rfl) ?_
      refine A_aload_n (dX1_gapOf 27 rfl) rfl ?_
      refine A_get (dX1_gapOf 28 rfl) fwX1_34 wF_0 cF_f0_7 ?_
      refine A_callSNWi 2 (dX1_gapOf 29 rfl) cbX5_held cwX1_52 (k_held E _ _ (gf 1)) rfl rfl (Nat.le_of_ble_eq_true rfl) (Nat.le_of_ble_eq_true rfl) (Nat.le_of_ble_eq_true rfl) (Nat.le_of_ble_eq_true rfl) (Nat.le_of_ble_eq_true rfl) ?_
      rintro r47 w1 ⟨rfl, rfl⟩
      refine AW.pcq (pc2 := 50) rfl ?_
      refine A_ri (dX1_gapOf 30 rfl) rfl rfl ?_
      refine ⟨?_, rfl⟩
      simp_all [p_gap, hld_p]
    · refine A_aload_n (dX1_gapOf 9 rfl) rfl ?_
      refine A_get (dX1_gapOf 10 rfl) fwX1_30 wF_0 cF_f0_6 ?_
      refine A_iconst (1) (dX1_gapOf 11 rfl) (by decide +kernel) ?_
      refine A_isub (dX1_gapOf 12 rfl) ?_
      refine A_goto 29 (dX1_gapOf 13 rfl) (by decide) ?_
      refine A_istore_n (ls2 := [_, _, _]) (dX1_gapOf 17 rfl) (by decide) rfl rfl ?_
      refine A_aload_n (dX1_gapOf 18 rfl) rfl ?_
      refine A_get (dX1_gapOf 19 rfl) fwX1_21 wF_0 cF_f0_3 ?_
      refine A_iload_n (dX1_gapOf 20 rfl) rfl ?_
      refine A_iald (dX1_gapOf 21 rfl) wF_4 (by assumption) ?_
      refine A_aload_n (dX1_gapOf 22 rfl) rfl ?_
      refine A_get (dX1_gapOf 23 rfl) fwX1_21 wF_0 cF_f0_3 ?_
      refine A_iload_n (dX1_gapOf 24 rfl) rfl ?_
      refine AW.pcq (pc2 := 41) rfl ?_
      refine A_iald (dX1_gapOf 25 rfl) wF_4 (by first | assumption | exact hj (by assumption)) ?_
      refine A_isub (dX1_gapOf 26 rfl) ?_
      refine A_aload_n (dX1_gapOf 27 rfl) rfl ?_
      refine A_get (dX1_gapOf 28 rfl) fwX1_34 wF_0 cF_f0_7 ?_
      refine A_callSNWi 2 (dX1_gapOf 29 rfl) cbX5_held cwX1_52 (k_held E _ _ (gf 1)) rfl rfl (Nat.le_of_ble_eq_true rfl) (Nat.le_of_ble_eq_true rfl) (Nat.le_of_ble_eq_true rfl) (Nat.le_of_ble_eq_true rfl) (Nat.le_of_ble_eq_true rfl) ?_
      rintro r47 w1 ⟨rfl, rfl⟩
      refine AW.pcq (pc2 := 50) rfl ?_
      refine A_ri (dX1_gapOf 30 rfl) rfl rfl ?_
      refine ⟨?_, rfl⟩
      simp_all [p_gap, hld_p]
  · refine A_aload_n (dX1_gapOf 4 rfl) rfl ?_
    refine A_get (dX1_gapOf 5 rfl) fwX1_34 wF_0 cF_f0_7 ?_
    refine A_ri (dX1_gapOf 6 rfl) rfl rfl ?_
    refine ⟨?_, rfl⟩
    simp_all [p_gap, hld_p]

set_option maxRecDepth 100000 in
set_option maxHeartbeats 400000 in
theorem f_cellOf (E : ag) (qf : Nat → Nat) (gf : Nat → Int32) (af : Nat → Nat → Int32) (i : Int32) : CT E yX1_cellOf cX1_cellOf 2 mX1_cellOf.2.2.2.1 1 0 0 [.ref (qf 0), .int i] (wF E qf gf af) (ri (fun r w => r = gf 2 * gf 0 + i - (gf 2 * gf 0 + i) / 12 * 12 ∧ w = wF E qf gf af)) := by
  refine CT.of (M := mX1_cellOf) (ls := [some (.ref (qf 0)), some (.int i)]) (by decide) rfl (by decide) rfl (Nat.le_of_ble_eq_true rfl) ?_
  refine A_aload_n (dX1_cellOf 0 rfl) rfl ?_
  refine A_get (dX1_cellOf 1 rfl) fwX1_37 wF_0 cF_f0_8 ?_
  refine A_aload_n (dX1_cellOf 2 rfl) rfl ?_
  refine A_get (dX1_cellOf 3 rfl) fwX1_30 wF_0 cF_f0_6 ?_
  refine A_imul (dX1_cellOf 4 rfl) ?_
  refine A_iload_n (dX1_cellOf 5 rfl) rfl ?_
  refine A_iadd (dX1_cellOf 6 rfl) ?_
  refine A_bipush (12) (dX1_cellOf 7 rfl) (by decide +kernel) ?_
  refine AW.pcq (pc2 := 13) rfl ?_
  refine A_irem (dX1_cellOf 8 rfl) (by decide) ?_
  refine A_ri (dX1_cellOf 9 rfl) rfl rfl ?_
  exact ⟨rfl, rfl⟩

/-- a man as the class's own numbers let him be -/
def MOK (k f n : Int32) : Prop := (∃ K, K ≤ 5 ∧ k = nI K) ∧ (∃ F, F ≤ 9 ∧ f = nI F) ∧ (∃ N, N ≤ 9 ∧ n = nI N)
theorem k_cases {K : Nat} (h : K ≤ 5) : nI K = 0 ∨ nI K = 1 ∨ nI K = 2 ∨ nI K = 3 ∨ nI K = 4 ∨ nI K = 5 := by
  have : ∀ K, K ≤ 5 → nI K = 0 ∨ nI K = 1 ∨ nI K = 2 ∨ nI K = 3 ∨ nI K = 4 ∨ nI K = 5 := by decide +kernel
  exact this K h
theorem pl_ge : ∀ F, F ≤ 9 → ∀ N, N ≤ 9 → ¬ (10 : Int32) * nI F < 0 ∧ ¬ (10 : Int32) * nI F + 5 * nI N < 0 := by decide +kernel
theorem mx0 (x : Int32) : (if 0 < x then x else 0) = (if x < 0 then 0 else x) := by
  by_cases h : 0 < x
  · rw [if_pos h, if_neg (fun z => absurd (Int32.lt_iff_toInt_lt.mp z) (by have := Int32.lt_iff_toInt_lt.mp h; omega))]
  · rw [if_neg h]
    by_cases h2 : x < 0
    · rw [if_pos h2]
    · rw [if_neg h2]
      exact Int32.toInt_inj.mp (by have a := Int32.not_lt.mp h; have b := Int32.not_lt.mp h2; rw [Int32.le_iff_toInt_le] at a b; omega)
theorem k_lo {k : Int32} (hk : k = 0 ∨ k = 1 ∨ k = 2 ∨ k = 3 ∨ k = 4 ∨ k = 5) (h : k.toInt < 1 ∨ 5 < k.toInt) : k = 0 := by
  rcases hk with rfl | rfl | rfl | rfl | rfl | rfl
  · rfl
  all_goals (exact absurd h (by decide))
section
variable {f n r : Int32}
theorem ps_0 (h : ¬ 10 * f < 0) : p_str 0 f n r = 10 * f := by simp [p_str, h]
theorem ps_1 (h : ¬ 10 * f + 5 * n < 0) : p_str 1 f n r = 10 * f + 5 * n := by simp [p_str, h]
theorem ps_4 (h : ¬ 10 * f + 5 * n < 0) : p_str 4 f n r = 10 * f + 5 * n := by simp [p_str, h]
theorem ps_2 : p_str 2 f n r = if 0 < 10 * f - r then 10 * f - r else 0 := by rw [mx0]; simp [p_str]
theorem ps_3 : p_str 3 f n r = if 0 < 10 * f - r then 10 * f - r else 0 := by rw [mx0]; simp [p_str]
theorem ps_5 : p_str 5 f n r = if 0 < (10 * f - r) / 2 then (10 * f - r) / 2 else 0 := by rw [mx0]; simp [p_str]
end
set_option maxRecDepth 100000 in
set_option maxHeartbeats 400000 in
theorem f_strikesOf (E : ag) (qf : Nat → Nat) (gf : Nat → Int32) (af : Nat → Nat → Int32) (i : Nat) (hi : i < 5) (hk : MOK (af 2 i) (af 4 i) (af 5 i)) : CT E yX1_strikesOf cX1_strikesOf 3 mX1_strikesOf.2.2.2.1 1 0 0 [.ref (qf 0), .int (nI i)] (wF E qf gf af) (ri (fun r w => r = p_str (af 2 i) (af 4 i) (af 5 i) (gf 2) ∧ w = wF E qf gf af)) := by
  refine CT.of (M := mX1_strikesOf) (ls := [some (.ref (qf 0)), some (.int (nI i)), none]) (by decide) rfl (by decide) rfl (Nat.le_of_ble_eq_true rfl) ?_
  refine A_bipush (10) (dX1_strikesOf 0 rfl) (by decide +kernel) ?_
  refine A_aload_n (dX1_strikesOf 1 rfl) rfl ?_
  refine A_get (dX1_strikesOf 2 rfl) fwX1_24 wF_0 cF_f0_4 ?_
  refine A_iload_n (dX1_strikesOf 3 rfl) rfl ?_
  refine A_iald (dX1_strikesOf 4 rfl) wF_5 (vp_in_nI (n := i) (by omega) (by decide)) ?_
  rw [nI_clamp (n := i) (by omega)]
  refine A_imul (dX1_strikesOf 5 rfl) ?_
  refine A_istore_n (ls2 := [_, _, _]) (dX1_strikesOf 6 rfl) (by decide) rfl rfl ?_
  refine A_aload_n (dX1_strikesOf 7 rfl) rfl ?_
  refine AW.pcq (pc2 := 11) rfl ?_
  refine A_get (dX1_strikesOf 8 rfl) fwX1_18 wF_0 cF_f0_2 ?_
  refine A_iload_n (dX1_strikesOf 9 rfl) rfl ?_
  refine A_iald (dX1_strikesOf 10 rfl) wF_3 (vp_in_nI (n := i) (by omega) (by decide)) ?_
  rw [nI_clamp (n := i) (by omega)]
  obtain ⟨⟨K, hK, eK⟩, ⟨F, hF, eF⟩, ⟨N, hN, eN⟩⟩ := hk
  have hkc := k_cases hK
  rw [← eK] at hkc
  have hge := pl_ge F hF N hN
  rw [← eF, ← eN] at hge
  by_cases hs16 : ((af 2 i) : Int32).toInt < (1 : Int) ∨ (5 : Int) < ((af 2 i) : Int32).toInt
  · refine A_tableOut 87 (dX1_strikesOf 11 rfl) hs16 (by decide) ?_
    refine A_iload_n (dX1_strikesOf 37 rfl) rfl ?_
    refine A_ri (dX1_strikesOf 38 rfl) rfl rfl ?_
    refine ⟨?_, rfl⟩
    rw [k_lo hkc hs16]; exact (ps_0 hge.1).symm
  by_cases hc16_1 : (af 2 i) = (1 : Int32)
  · refine A_tableIn (36) 52 (dX1_strikesOf 11 rfl) (by rw [hc16_1]; decide) (by rw [hc16_1]; decide) (by rw [hc16_1]; rfl) (by decide) ?_
    refine A_iload_n (dX1_strikesOf 12 rfl) rfl ?_
    refine A_iconst (5) (dX1_strikesOf 13 rfl) (by decide +kernel) ?_
    refine A_aload_n (dX1_strikesOf 14 rfl) rfl ?_
    refine A_get (dX1_strikesOf 15 rfl) fwX1_27 wF_0 cF_f0_5 ?_
    refine A_iload_n (dX1_strikesOf 16 rfl) rfl ?_
    refine A_iald (dX1_strikesOf 17 rfl) wF_6 (vp_in_nI (n := i) (by omega) (by decide)) ?_
    rw [nI_clamp (n := i) (by omega)]
    refine A_imul (dX1_strikesOf 18 rfl) ?_
    refine A_iadd (dX1_strikesOf 19 rfl) ?_
    refine AW.pcq (pc2 := 62) rfl ?_
    refine A_ri (dX1_strikesOf 20 rfl) rfl rfl ?_
    refine ⟨?_, rfl⟩
    first | (rw [hc16_1]; exact (ps_1 hge.2).symm) | (rw [hc16_4]; exact (ps_4 hge.2).symm)
  by_cases hc16_2 : (af 2 i) = (2 : Int32)
  · refine A_tableIn (47) 63 (dX1_strikesOf 11 rfl) (by rw [hc16_2]; decide) (by rw [hc16_2]; decide) (by rw [hc16_2]; rfl) (by decide) ?_
    refine A_iconst (0) (dX1_strikesOf 21 rfl) (by decide +kernel) ?_
    refine A_iload_n (dX1_strikesOf 22 rfl) rfl ?_
    refine A_aload_n (dX1_strikesOf 23 rfl) rfl ?_
    refine A_get (dX1_strikesOf 24 rfl) fwX1_37 wF_0 cF_f0_8 ?_
    refine A_isub (dX1_strikesOf 25 rfl) ?_
    refine A_max (dX1_strikesOf 26 rfl) mmX1_60 (Nat.le_of_ble_eq_true rfl) (Nat.le_of_ble_eq_true rfl) ?_
    refine A_ri (dX1_strikesOf 27 rfl) rfl rfl ?_
    refine ⟨?_, rfl⟩
    first | (rw [hc16_2]; exact ps_2.symm) | (rw [hc16_3]; exact ps_3.symm)
  by_cases hc16_3 : (af 2 i) = (3 : Int32)
  · refine A_tableIn (47) 63 (dX1_strikesOf 11 rfl) (by rw [hc16_3]; decide) (by rw [hc16_3]; decide) (by rw [hc16_3]; rfl) (by decide) ?_
    refine A_iconst (0) (dX1_strikesOf 21 rfl) (by decide +kernel) ?_
    refine A_iload_n (dX1_strikesOf 22 rfl) rfl ?_
    refine A_aload_n (dX1_strikesOf 23 rfl) rfl ?_
    refine A_get (dX1_strikesOf 24 rfl) fwX1_37 wF_0 cF_f0_8 ?_
    refine A_isub (dX1_strikesOf 25 rfl) ?_
    refine A_max (dX1_strikesOf 26 rfl) mmX1_60 (Nat.le_of_ble_eq_true rfl) (Nat.le_of_ble_eq_true rfl) ?_
    refine A_ri (dX1_strikesOf 27 rfl) rfl rfl ?_
    refine ⟨?_, rfl⟩
    first | (rw [hc16_2]; exact ps_2.symm) | (rw [hc16_3]; exact ps_3.symm)
  by_cases hc16_4 : (af 2 i) = (4 : Int32)
  · refine A_tableIn (36) 52 (dX1_strikesOf 11 rfl) (by rw [hc16_4]; decide) (by rw [hc16_4]; decide) (by rw [hc16_4]; rfl) (by decide) ?_
    refine A_iload_n (dX1_strikesOf 12 rfl) rfl ?_
    refine A_iconst (5) (dX1_strikesOf 13 rfl) (by decide +kernel) ?_
    refine A_aload_n (dX1_strikesOf 14 rfl) rfl ?_
    refine A_get (dX1_strikesOf 15 rfl) fwX1_27 wF_0 cF_f0_5 ?_
    refine A_iload_n (dX1_strikesOf 16 rfl) rfl ?_
    refine A_iald (dX1_strikesOf 17 rfl) wF_6 (vp_in_nI (n := i) (by omega) (by decide)) ?_
    rw [nI_clamp (n := i) (by omega)]
    refine A_imul (dX1_strikesOf 18 rfl) ?_
    refine A_iadd (dX1_strikesOf 19 rfl) ?_
    refine AW.pcq (pc2 := 62) rfl ?_
    refine A_ri (dX1_strikesOf 20 rfl) rfl rfl ?_
    refine ⟨?_, rfl⟩
    first | (rw [hc16_1]; exact (ps_1 hge.2).symm) | (rw [hc16_4]; exact (ps_4 hge.2).symm)
  have hc16_5 : (af 2 i) = (5 : Int32) := by
    apply Int32.toInt_inj.mp
    have hq := not_or.mp hs16
    have e0 : (5 : Int32).toInt = 5 := by decide
    have n0 : ¬ ((af 2 i) : Int32).toInt = 1 := fun hh => hc16_1 (Int32.toInt_inj.mp (hh.trans (by decide)))
    have n1 : ¬ ((af 2 i) : Int32).toInt = 2 := fun hh => hc16_2 (Int32.toInt_inj.mp (hh.trans (by decide)))
    have n2 : ¬ ((af 2 i) : Int32).toInt = 3 := fun hh => hc16_3 (Int32.toInt_inj.mp (hh.trans (by decide)))
    have n3 : ¬ ((af 2 i) : Int32).toInt = 4 := fun hh => hc16_4 (Int32.toInt_inj.mp (hh.trans (by decide)))
    omega
  refine A_tableIn (58) 74 (dX1_strikesOf 11 rfl) (by rw [hc16_5]; decide) (by rw [hc16_5]; decide) (by rw [hc16_5]; rfl) (by decide) ?_
  refine A_iconst (0) (dX1_strikesOf 28 rfl) (by decide +kernel) ?_
  refine A_iload_n (dX1_strikesOf 29 rfl) rfl ?_
  refine A_aload_n (dX1_strikesOf 30 rfl) rfl ?_
  refine A_get (dX1_strikesOf 31 rfl) fwX1_37 wF_0 cF_f0_8 ?_
  refine A_isub (dX1_strikesOf 32 rfl) ?_
  refine A_iconst (2) (dX1_strikesOf 33 rfl) (by decide +kernel) ?_
  refine A_idiv (dX1_strikesOf 34 rfl) (by decide) ?_
  refine A_max (dX1_strikesOf 35 rfl) mmX1_60 (Nat.le_of_ble_eq_true rfl) (Nat.le_of_ble_eq_true rfl) ?_
  refine AW.pcq (pc2 := 86) rfl ?_
  refine A_ri (dX1_strikesOf 36 rfl) rfl rfl ?_
  refine ⟨?_, rfl⟩
  rw [hc16_5]; exact ps_5.symm

set_option maxRecDepth 100000 in
set_option maxHeartbeats 400000 in
theorem f_mendsOf (E : ag) (qf : Nat → Nat) (gf : Nat → Int32) (af : Nat → Nat → Int32) (i : Nat) (hi : i < 5) (x : Int32) (hk : MOK (af 2 i) (af 4 i) (af 5 i)) : CT E yX1_mendsOf cX1_mendsOf 4 mX1_mendsOf.2.2.2.1 1 0 0 [.ref (qf 0), .int (nI i), .int x] (wF E qf gf af) (ri (fun r w => r = p_mnd (af 2 i) (af 5 i) x ∧ w = wF E qf gf af)) := by
  refine CT.of (M := mX1_mendsOf) (ls := [some (.ref (qf 0)), some (.int (nI i)), some (.int x), none]) (by decide) rfl (by decide) rfl (Nat.le_of_ble_eq_true rfl) ?_
  refine A_iload_n (dX1_mendsOf 0 rfl) rfl ?_
  refine A_iconst (2) (dX1_mendsOf 1 rfl) (by decide +kernel) ?_
  refine A_idiv (dX1_mendsOf 2 rfl) (by decide) ?_
  refine A_istore_n (ls2 := [_, _, _, _]) (dX1_mendsOf 3 rfl) (by decide) rfl rfl ?_
  refine A_aload_n (dX1_mendsOf 4 rfl) rfl ?_
  refine A_get (dX1_mendsOf 5 rfl) fwX1_18 wF_0 cF_f0_2 ?_
  refine A_iload_n (dX1_mendsOf 6 rfl) rfl ?_
  refine A_iald (dX1_mendsOf 7 rfl) wF_3 (vp_in_nI (n := i) (by omega) (by decide)) ?_
  rw [nI_clamp (n := i) (by omega)]
  obtain ⟨⟨K, hK, eK⟩, -, -⟩ := hk
  have hkc := k_cases hK
  rw [← eK] at hkc
  refine AW.pcq (pc2 := 10) rfl ?_
  by_cases hs10 : ((af 2 i) : Int32).toInt < (1 : Int) ∨ (5 : Int) < ((af 2 i) : Int32).toInt
  · refine A_tableOut 69 (dX1_mendsOf 8 rfl) hs10 (by decide) ?_
    refine A_iload_n (dX1_mendsOf 32 rfl) rfl ?_
    refine A_ri (dX1_mendsOf 33 rfl) rfl rfl ?_
    refine ⟨?_, rfl⟩
    rw [k_lo hkc hs10]; simp [p_mnd]
  by_cases hc10_1 : (af 2 i) = (1 : Int32)
  · refine A_tableIn (34) 44 (dX1_mendsOf 8 rfl) (by rw [hc10_1]; decide) (by rw [hc10_1]; decide) (by rw [hc10_1]; rfl) (by decide) ?_
    refine A_iload_n (dX1_mendsOf 9 rfl) rfl ?_
    refine A_iconst (2) (dX1_mendsOf 10 rfl) (by decide +kernel) ?_
    refine A_idiv (dX1_mendsOf 11 rfl) (by decide) ?_
    refine A_ri (dX1_mendsOf 12 rfl) rfl rfl ?_
    refine ⟨?_, rfl⟩
    first | (rw [hc10_1]; simp [p_mnd]; done) | (rw [hc10_2]; simp [p_mnd]; done) | (rw [hc10_3]; simp [p_mnd]; done) | (rw [hc10_4]; simp [p_mnd]; done) | (rw [hc10_5]; simp [p_mnd]; done)
  by_cases hc10_2 : (af 2 i) = (2 : Int32)
  · refine A_tableIn (38) 48 (dX1_mendsOf 8 rfl) (by rw [hc10_2]; decide) (by rw [hc10_2]; decide) (by rw [hc10_2]; rfl) (by decide) ?_
    refine A_iload_n (dX1_mendsOf 13 rfl) rfl ?_
    refine A_iconst (3) (dX1_mendsOf 14 rfl) (by decide +kernel) ?_
    refine A_idiv (dX1_mendsOf 15 rfl) (by decide) ?_
    refine A_ri (dX1_mendsOf 16 rfl) rfl rfl ?_
    refine ⟨?_, rfl⟩
    first | (rw [hc10_1]; simp [p_mnd]; done) | (rw [hc10_2]; simp [p_mnd]; done) | (rw [hc10_3]; simp [p_mnd]; done) | (rw [hc10_4]; simp [p_mnd]; done) | (rw [hc10_5]; simp [p_mnd]; done)
  by_cases hc10_3 : (af 2 i) = (3 : Int32)
  · refine A_tableIn (42) 52 (dX1_mendsOf 8 rfl) (by rw [hc10_3]; decide) (by rw [hc10_3]; decide) (by rw [hc10_3]; rfl) (by decide) ?_
    refine A_iload_n (dX1_mendsOf 17 rfl) rfl ?_
    refine A_iconst (3) (dX1_mendsOf 18 rfl) (by decide +kernel) ?_
    refine A_idiv (dX1_mendsOf 19 rfl) (by decide) ?_
    refine A_aload_n (dX1_mendsOf 20 rfl) rfl ?_
    refine A_get (dX1_mendsOf 21 rfl) fwX1_27 wF_0 cF_f0_5 ?_
    refine A_iload_n (dX1_mendsOf 22 rfl) rfl ?_
    refine A_iald (dX1_mendsOf 23 rfl) wF_6 (vp_in_nI (n := i) (by omega) (by decide)) ?_
    rw [nI_clamp (n := i) (by omega)]
    refine A_isub (dX1_mendsOf 24 rfl) ?_
    refine AW.pcq (pc2 := 62) rfl ?_
    refine A_ri (dX1_mendsOf 25 rfl) rfl rfl ?_
    refine ⟨?_, rfl⟩
    first | (rw [hc10_1]; simp [p_mnd]; done) | (rw [hc10_2]; simp [p_mnd]; done) | (rw [hc10_3]; simp [p_mnd]; done) | (rw [hc10_4]; simp [p_mnd]; done) | (rw [hc10_5]; simp [p_mnd]; done)
  by_cases hc10_4 : (af 2 i) = (4 : Int32)
  · refine A_tableIn (53) 63 (dX1_mendsOf 8 rfl) (by rw [hc10_4]; decide) (by rw [hc10_4]; decide) (by rw [hc10_4]; rfl) (by decide) ?_
    refine A_iload_n (dX1_mendsOf 26 rfl) rfl ?_
    refine A_iload_n (dX1_mendsOf 27 rfl) rfl ?_
    refine A_iconst (2) (dX1_mendsOf 28 rfl) (by decide +kernel) ?_
    refine A_idiv (dX1_mendsOf 29 rfl) (by decide) ?_
    refine A_isub (dX1_mendsOf 30 rfl) ?_
    refine A_ri (dX1_mendsOf 31 rfl) rfl rfl ?_
    refine ⟨?_, rfl⟩
    first | (rw [hc10_1]; simp [p_mnd]; done) | (rw [hc10_2]; simp [p_mnd]; done) | (rw [hc10_3]; simp [p_mnd]; done) | (rw [hc10_4]; simp [p_mnd]; done) | (rw [hc10_5]; simp [p_mnd]; done)
  have hc10_5 : (af 2 i) = (5 : Int32) := by
    apply Int32.toInt_inj.mp
    have hq := not_or.mp hs10
    have e0 : (5 : Int32).toInt = 5 := by decide
    have n0 : ¬ ((af 2 i) : Int32).toInt = 1 := fun hh => hc10_1 (Int32.toInt_inj.mp (hh.trans (by decide)))
    have n1 : ¬ ((af 2 i) : Int32).toInt = 2 := fun hh => hc10_2 (Int32.toInt_inj.mp (hh.trans (by decide)))
    have n2 : ¬ ((af 2 i) : Int32).toInt = 3 := fun hh => hc10_3 (Int32.toInt_inj.mp (hh.trans (by decide)))
    have n3 : ¬ ((af 2 i) : Int32).toInt = 4 := fun hh => hc10_4 (Int32.toInt_inj.mp (hh.trans (by decide)))
    omega
  refine A_tableIn (42) 52 (dX1_mendsOf 8 rfl) (by rw [hc10_5]; decide) (by rw [hc10_5]; decide) (by rw [hc10_5]; rfl) (by decide) ?_
  refine A_iload_n (dX1_mendsOf 17 rfl) rfl ?_
  refine A_iconst (3) (dX1_mendsOf 18 rfl) (by decide +kernel) ?_
  refine A_idiv (dX1_mendsOf 19 rfl) (by decide) ?_
  refine A_aload_n (dX1_mendsOf 20 rfl) rfl ?_
  refine A_get (dX1_mendsOf 21 rfl) fwX1_27 wF_0 cF_f0_5 ?_
  refine A_iload_n (dX1_mendsOf 22 rfl) rfl ?_
  refine A_iald (dX1_mendsOf 23 rfl) wF_6 (vp_in_nI (n := i) (by omega) (by decide)) ?_
  rw [nI_clamp (n := i) (by omega)]
  refine A_isub (dX1_mendsOf 24 rfl) ?_
  refine AW.pcq (pc2 := 62) rfl ?_
  refine A_ri (dX1_mendsOf 25 rfl) rfl rfl ?_
  refine ⟨?_, rfl⟩
  first | (rw [hc10_1]; simp [p_mnd]; done) | (rw [hc10_2]; simp [p_mnd]; done) | (rw [hc10_3]; simp [p_mnd]; done) | (rw [hc10_4]; simp [p_mnd]; done) | (rw [hc10_5]; simp [p_mnd]; done)

set_option maxRecDepth 100000 in
set_option maxHeartbeats 400000 in
theorem f_getOut (E : ag) (qf : Nat → Nat) (gf : Nat → Int32) (af : Nat → Nat → Int32) (c : Nat) (hc : c < 12) (v : Int32) : CT E yX1_getOut cX1_getOut 4 mX1_getOut.2.2.2.1 2 0 0 [.ref (qf 0), .int (nI c), .int v] (wF E qf gf af) (rv (fun w => w = wF E qf (upd gf 3 (gf 3 + af 0 c * wiI v 0 1000 / 1000)) (va_up af 0 (upd (af 0) c (af 0 c - af 0 c * wiI v 0 1000 / 1000))))) := by
  refine CT.of (M := mX1_getOut) (ls := [some (.ref (qf 0)), some (.int (nI c)), some (.int v), none]) (by decide) rfl (by decide) rfl (Nat.le_of_ble_eq_true rfl) ?_
  refine A_iload_n (dX1_getOut 0 rfl) rfl ?_
  refine A_iconst (0) (dX1_getOut 1 rfl) (by decide +kernel) ?_
  refine A_sipush (1000) (dX1_getOut 2 rfl) (by decide +kernel) ?_
  refine A_callSNWi 3 (dX1_getOut 3 rfl) cbX5_bounded cwX1_65 (k_bounded E _ v 0 1000 (by decide)) rfl rfl (Nat.le_of_ble_eq_true rfl) (Nat.le_of_ble_eq_true rfl) (Nat.le_of_ble_eq_true rfl) (Nat.le_of_ble_eq_true rfl) (Nat.le_of_ble_eq_true rfl) ?_
  rintro r5 w1 ⟨rfl, rfl⟩
  refine AW.pcq (pc2 := 8) rfl ?_
  refine A_aload_n (dX1_getOut 4 rfl) rfl ?_
  refine A_get (dX1_getOut 5 rfl) fwX1_9 wF_0 cF_f0_0 ?_
  refine A_iload_n (dX1_getOut 6 rfl) rfl ?_
  refine A_iald (dX1_getOut 7 rfl) wF_1 (vp_in_nI (n := c) (by omega) (by decide)) ?_
  rw [nI_clamp (n := c) (by omega)]
  refine A_imul (dX1_getOut 8 rfl) ?_
  rw [Int32.mul_comm]
  refine A_sipush (1000) (dX1_getOut 9 rfl) (by decide +kernel) ?_
  refine A_idiv (dX1_getOut 10 rfl) (by decide) ?_
  refine A_istore_n (ls2 := [_, _, _, _]) (dX1_getOut 11 rfl) (by decide) rfl rfl ?_
  refine AW.pcq (pc2 := 20) rfl ?_
  refine A_aload_n (dX1_getOut 12 rfl) rfl ?_
  refine A_get (dX1_getOut 13 rfl) fwX1_9 wF_0 cF_f0_0 ?_
  refine A_iload_n (dX1_getOut 14 rfl) rfl ?_
  refine A_dup2 (dX1_getOut 15 rfl) rfl rfl ?_
  refine A_iald (dX1_getOut 16 rfl) wF_1 (vp_in_nI (n := c) (by omega) (by decide)) ?_
  rw [nI_clamp (n := c) (by omega)]
  refine A_iload_n (dX1_getOut 17 rfl) rfl ?_
  refine A_isub (dX1_getOut 18 rfl) ?_
  refine A_iast (dX1_getOut 19 rfl) wF_1 (vp_in_nI (n := c) (by omega) (by decide)) (wF_s1 _) ?_
  rw [nI_clamp (n := c) (by omega)]
  refine AW.pcq (pc2 := 30) rfl ?_
  refine A_aload_n (dX1_getOut 20 rfl) rfl ?_
  refine A_dup (dX1_getOut 21 rfl) rfl ?_
  refine A_get (dX1_getOut 22 rfl) fwX1_40 wF_0 cF_f0_9 ?_
  refine A_iload_n (dX1_getOut 23 rfl) rfl ?_
  refine A_iadd (dX1_getOut 24 rfl) ?_
  refine A_put (dX1_getOut 25 rfl) fwX1_40 fcX1 ftX1_9 wF_0 rfl rfl cF_l0 (wF_p0_9 _) ?_
  refine A_rv (dX1_getOut 26 rfl) rfl ?_
  exact rfl

set_option maxRecDepth 100000 in
set_option maxHeartbeats 400000 in
theorem f_allEars (E : ag) (qf : Nat → Nat) (gf : Nat → Int32) (af : Nat → Nat → Int32) : CT E yX1_allEars cX1_allEars 1 mX1_allEars.2.2.2.1 2 0 0 [.ref (qf 0)] (wF E qf gf af) (ri (fun r w => r = sm (af 0) 12 ∧ w = wF E qf gf af)) := by
  refine CT.of (M := mX1_allEars) (ls := [some (.ref (qf 0))]) (by decide) rfl (by decide) rfl (Nat.le_of_ble_eq_true rfl) ?_
  refine A_aload_n (dX1_allEars 0 rfl) rfl ?_
  refine A_get (dX1_allEars 1 rfl) fwX1_9 wF_0 cF_f0_0 ?_
  refine A_callSi 1 (dX1_allEars 2 rfl) cbX1_sum cwX1_73 (k_sum E (qf 1) 12 (af 0) (by decide)) rfl rfl [1] rfl rfl (Nat.le_of_ble_eq_true rfl) (Nat.le_of_ble_eq_true rfl) (Nat.le_of_ble_eq_true rfl) (Nat.le_of_ble_eq_true rfl) (Nat.le_of_ble_eq_true rfl) (by rintro _ _ ⟨_, rfl⟩; exact (Nat.le_of_ble_eq_true rfl)) ?_
  rintro r4 w1 ⟨rfl, rfl⟩
  refine AW.world (ws2 := wF E qf gf af) rfl ?_
  refine AW.pcq (pc2 := 7) rfl ?_
  refine A_ri (dX1_allEars 3 rfl) rfl rfl ?_
  exact ⟨rfl, rfl⟩

set_option maxRecDepth 100000 in
set_option maxHeartbeats 400000 in
theorem f_allWet (E : ag) (qf : Nat → Nat) (gf : Nat → Int32) (af : Nat → Nat → Int32) : CT E yX1_allWet cX1_allWet 1 mX1_allWet.2.2.2.1 2 0 0 [.ref (qf 0)] (wF E qf gf af) (ri (fun r w => r = sm (af 1) 12 ∧ w = wF E qf gf af)) := by
  refine CT.of (M := mX1_allWet) (ls := [some (.ref (qf 0))]) (by decide) rfl (by decide) rfl (Nat.le_of_ble_eq_true rfl) ?_
  refine A_aload_n (dX1_allWet 0 rfl) rfl ?_
  refine A_get (dX1_allWet 1 rfl) fwX1_15 wF_0 cF_f0_1 ?_
  refine A_callSi 1 (dX1_allWet 2 rfl) cbX1_sum cwX1_73 (k_sum E (qf 2) 12 (af 1) (by decide)) rfl rfl [2] rfl rfl (Nat.le_of_ble_eq_true rfl) (Nat.le_of_ble_eq_true rfl) (Nat.le_of_ble_eq_true rfl) (Nat.le_of_ble_eq_true rfl) (Nat.le_of_ble_eq_true rfl) (by rintro _ _ ⟨_, rfl⟩; exact (Nat.le_of_ble_eq_true rfl)) ?_
  rintro r4 w1 ⟨rfl, rfl⟩
  refine AW.world (ws2 := wF E qf gf af) rfl ?_
  refine AW.pcq (pc2 := 7) rfl ?_
  refine A_ri (dX1_allWet 3 rfl) rfl rfl ?_
  exact ⟨rfl, rfl⟩

