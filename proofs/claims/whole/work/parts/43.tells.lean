def bop (s a b : Int32) : Int32 := if s = -9 then a + b else if s = -10 then a - b else if s = -11 then a * b else if s = -12 then (if a < b then 1 else 0) else if s = -13 then (if a = b then 1 else 0) else if s = -14 then (if a ≠ 0 ∧ b ≠ 0 then 1 else 0) else (if a ≠ 0 ∨ b ≠ 0 then 1 else 0)
theorem sw_n {s : Int32} (h : s.toInt < -14 ∨ -9 < s.toInt) : ¬ s = -9 ∧ ¬ s = -10 ∧ ¬ s = -11 ∧ ¬ s = -12 ∧ ¬ s = -13 ∧ ¬ s = -14 := by
  refine ⟨?_, ?_, ?_, ?_, ?_, ?_⟩ <;> (intro z; subst z; exact absurd h (by decide))
theorem bop_o {s a b : Int32} (h : ¬ s = -9 ∧ ¬ s = -10 ∧ ¬ s = -11 ∧ ¬ s = -12 ∧ ¬ s = -13 ∧ ¬ s = -14) : bop s a b = if a ≠ 0 ∨ b ≠ 0 then 1 else 0 := by
  obtain ⟨h1, h2, h3, h4, h5, h6⟩ := h
  unfold bop
  rw [if_neg h1, if_neg h2, if_neg h3, if_neg h4, if_neg h5, if_neg h6]
set_option maxRecDepth 100000 in
theorem k_joined9 (E : ag) (ws : va_W) (a b : Int32) : CT E yX4_joined cX4_joined 3 mX4_joined.2.2.2.1 1 0 0 [.int (-9), .int a, .int b] ws (ri (fun r w => r = bop (-9) a b ∧ w = ws)) := by
  refine CT.of (M := mX4_joined) (ls := [some (.int (-9)), some (.int a), some (.int b)]) (by decide) rfl (by decide) rfl (Nat.le_of_ble_eq_true rfl) ?_
  refine A_iload_n (dX4_joined 0 rfl) rfl ?_
  refine A_tableIn (39) 40 (dX4_joined 1 rfl) (by decide) (by decide) rfl (by decide) ?_
  refine A_iload_n (dX4_joined 2 rfl) rfl ?_
  refine A_iload_n (dX4_joined 3 rfl) rfl ?_
  refine A_iadd (dX4_joined 4 rfl) ?_
  refine A_ri (dX4_joined 5 rfl) rfl rfl ?_
  refine ⟨?_, rfl⟩
  first
    | rfl
    | (show (1 : Int32) = if a < b then 1 else 0; rw [if_pos (Int32.not_le.mp (by assumption))])
    | (show (0 : Int32) = if a < b then 1 else 0; rw [if_neg (Int32.not_lt.mpr (by assumption))])
    | (show (1 : Int32) = if a = b then 1 else 0; rw [if_pos (by assumption)])
    | (show (0 : Int32) = if a = b then 1 else 0; rw [if_neg (by assumption)])
    | (show (1 : Int32) = if a ≠ 0 ∧ b ≠ 0 then 1 else 0; rw [if_pos ⟨by assumption, by assumption⟩])
    | (show (0 : Int32) = if a ≠ 0 ∧ b ≠ 0 then 1 else 0; rw [if_neg (fun z => z.1 (by assumption))])
    | (show (0 : Int32) = if a ≠ 0 ∧ b ≠ 0 then 1 else 0; rw [if_neg (fun z => z.2 (by assumption))])

set_option maxRecDepth 100000 in
theorem k_joined10 (E : ag) (ws : va_W) (a b : Int32) : CT E yX4_joined cX4_joined 3 mX4_joined.2.2.2.1 1 0 0 [.int (-10), .int a, .int b] ws (ri (fun r w => r = bop (-10) a b ∧ w = ws)) := by
  refine CT.of (M := mX4_joined) (ls := [some (.int (-10)), some (.int a), some (.int b)]) (by decide) rfl (by decide) rfl (Nat.le_of_ble_eq_true rfl) ?_
  refine A_iload_n (dX4_joined 0 rfl) rfl ?_
  refine A_tableIn (43) 44 (dX4_joined 1 rfl) (by decide) (by decide) rfl (by decide) ?_
  refine A_iload_n (dX4_joined 6 rfl) rfl ?_
  refine A_iload_n (dX4_joined 7 rfl) rfl ?_
  refine A_isub (dX4_joined 8 rfl) ?_
  refine A_ri (dX4_joined 9 rfl) rfl rfl ?_
  refine ⟨?_, rfl⟩
  first
    | rfl
    | (show (1 : Int32) = if a < b then 1 else 0; rw [if_pos (Int32.not_le.mp (by assumption))])
    | (show (0 : Int32) = if a < b then 1 else 0; rw [if_neg (Int32.not_lt.mpr (by assumption))])
    | (show (1 : Int32) = if a = b then 1 else 0; rw [if_pos (by assumption)])
    | (show (0 : Int32) = if a = b then 1 else 0; rw [if_neg (by assumption)])
    | (show (1 : Int32) = if a ≠ 0 ∧ b ≠ 0 then 1 else 0; rw [if_pos ⟨by assumption, by assumption⟩])
    | (show (0 : Int32) = if a ≠ 0 ∧ b ≠ 0 then 1 else 0; rw [if_neg (fun z => z.1 (by assumption))])
    | (show (0 : Int32) = if a ≠ 0 ∧ b ≠ 0 then 1 else 0; rw [if_neg (fun z => z.2 (by assumption))])

set_option maxRecDepth 100000 in
theorem k_joined11 (E : ag) (ws : va_W) (a b : Int32) : CT E yX4_joined cX4_joined 3 mX4_joined.2.2.2.1 1 0 0 [.int (-11), .int a, .int b] ws (ri (fun r w => r = bop (-11) a b ∧ w = ws)) := by
  refine CT.of (M := mX4_joined) (ls := [some (.int (-11)), some (.int a), some (.int b)]) (by decide) rfl (by decide) rfl (Nat.le_of_ble_eq_true rfl) ?_
  refine A_iload_n (dX4_joined 0 rfl) rfl ?_
  refine A_tableIn (47) 48 (dX4_joined 1 rfl) (by decide) (by decide) rfl (by decide) ?_
  refine A_iload_n (dX4_joined 10 rfl) rfl ?_
  refine A_iload_n (dX4_joined 11 rfl) rfl ?_
  refine A_imul (dX4_joined 12 rfl) ?_
  refine A_ri (dX4_joined 13 rfl) rfl rfl ?_
  refine ⟨?_, rfl⟩
  first
    | rfl
    | (show (1 : Int32) = if a < b then 1 else 0; rw [if_pos (Int32.not_le.mp (by assumption))])
    | (show (0 : Int32) = if a < b then 1 else 0; rw [if_neg (Int32.not_lt.mpr (by assumption))])
    | (show (1 : Int32) = if a = b then 1 else 0; rw [if_pos (by assumption)])
    | (show (0 : Int32) = if a = b then 1 else 0; rw [if_neg (by assumption)])
    | (show (1 : Int32) = if a ≠ 0 ∧ b ≠ 0 then 1 else 0; rw [if_pos ⟨by assumption, by assumption⟩])
    | (show (0 : Int32) = if a ≠ 0 ∧ b ≠ 0 then 1 else 0; rw [if_neg (fun z => z.1 (by assumption))])
    | (show (0 : Int32) = if a ≠ 0 ∧ b ≠ 0 then 1 else 0; rw [if_neg (fun z => z.2 (by assumption))])

set_option maxRecDepth 100000 in
theorem k_joined12 (E : ag) (ws : va_W) (a b : Int32) : CT E yX4_joined cX4_joined 3 mX4_joined.2.2.2.1 1 0 0 [.int (-12), .int a, .int b] ws (ri (fun r w => r = bop (-12) a b ∧ w = ws)) := by
  refine CT.of (M := mX4_joined) (ls := [some (.int (-12)), some (.int a), some (.int b)]) (by decide) rfl (by decide) rfl (Nat.le_of_ble_eq_true rfl) ?_
  refine A_iload_n (dX4_joined 0 rfl) rfl ?_
  refine A_tableIn (51) 52 (dX4_joined 1 rfl) (by decide) (by decide) rfl (by decide) ?_
  refine A_iload_n (dX4_joined 14 rfl) rfl ?_
  refine A_iload_n (dX4_joined 15 rfl) rfl ?_
  refine A_icmp_ge 61 (dX4_joined 16 rfl) (by decide) (fun h54 => ?_) (fun h54 => ?_)
  · refine A_iconst (0) (dX4_joined 19 rfl) (by decide +kernel) ?_
    refine A_ri (dX4_joined 20 rfl) rfl rfl ?_
    refine ⟨?_, rfl⟩
    first
      | rfl
      | (show (1 : Int32) = if a < b then 1 else 0; rw [if_pos (Int32.not_le.mp (by assumption))])
      | (show (0 : Int32) = if a < b then 1 else 0; rw [if_neg (Int32.not_lt.mpr (by assumption))])
      | (show (1 : Int32) = if a = b then 1 else 0; rw [if_pos (by assumption)])
      | (show (0 : Int32) = if a = b then 1 else 0; rw [if_neg (by assumption)])
      | (show (1 : Int32) = if a ≠ 0 ∧ b ≠ 0 then 1 else 0; rw [if_pos ⟨by assumption, by assumption⟩])
      | (show (0 : Int32) = if a ≠ 0 ∧ b ≠ 0 then 1 else 0; rw [if_neg (fun z => z.1 (by assumption))])
      | (show (0 : Int32) = if a ≠ 0 ∧ b ≠ 0 then 1 else 0; rw [if_neg (fun z => z.2 (by assumption))])
  · refine A_iconst (1) (dX4_joined 17 rfl) (by decide +kernel) ?_
    refine A_goto 62 (dX4_joined 18 rfl) (by decide) ?_
    refine A_ri (dX4_joined 20 rfl) rfl rfl ?_
    refine ⟨?_, rfl⟩
    first
      | rfl
      | (show (1 : Int32) = if a < b then 1 else 0; rw [if_pos (Int32.not_le.mp (by assumption))])
      | (show (0 : Int32) = if a < b then 1 else 0; rw [if_neg (Int32.not_lt.mpr (by assumption))])
      | (show (1 : Int32) = if a = b then 1 else 0; rw [if_pos (by assumption)])
      | (show (0 : Int32) = if a = b then 1 else 0; rw [if_neg (by assumption)])
      | (show (1 : Int32) = if a ≠ 0 ∧ b ≠ 0 then 1 else 0; rw [if_pos ⟨by assumption, by assumption⟩])
      | (show (0 : Int32) = if a ≠ 0 ∧ b ≠ 0 then 1 else 0; rw [if_neg (fun z => z.1 (by assumption))])
      | (show (0 : Int32) = if a ≠ 0 ∧ b ≠ 0 then 1 else 0; rw [if_neg (fun z => z.2 (by assumption))])

set_option maxRecDepth 100000 in
theorem k_joined13 (E : ag) (ws : va_W) (a b : Int32) : CT E yX4_joined cX4_joined 3 mX4_joined.2.2.2.1 1 0 0 [.int (-13), .int a, .int b] ws (ri (fun r w => r = bop (-13) a b ∧ w = ws)) := by
  refine CT.of (M := mX4_joined) (ls := [some (.int (-13)), some (.int a), some (.int b)]) (by decide) rfl (by decide) rfl (Nat.le_of_ble_eq_true rfl) ?_
  refine A_iload_n (dX4_joined 0 rfl) rfl ?_
  refine A_tableIn (62) 63 (dX4_joined 1 rfl) (by decide) (by decide) rfl (by decide) ?_
  refine A_iload_n (dX4_joined 21 rfl) rfl ?_
  refine A_iload_n (dX4_joined 22 rfl) rfl ?_
  refine A_icmp_ne 72 (dX4_joined 23 rfl) (by decide) (fun h65 => ?_) (fun h65 => ?_)
  · refine A_iconst (0) (dX4_joined 26 rfl) (by decide +kernel) ?_
    refine A_ri (dX4_joined 27 rfl) rfl rfl ?_
    refine ⟨?_, rfl⟩
    first
      | rfl
      | (show (1 : Int32) = if a < b then 1 else 0; rw [if_pos (Int32.not_le.mp (by assumption))])
      | (show (0 : Int32) = if a < b then 1 else 0; rw [if_neg (Int32.not_lt.mpr (by assumption))])
      | (show (1 : Int32) = if a = b then 1 else 0; rw [if_pos (by assumption)])
      | (show (0 : Int32) = if a = b then 1 else 0; rw [if_neg (by assumption)])
      | (show (1 : Int32) = if a ≠ 0 ∧ b ≠ 0 then 1 else 0; rw [if_pos ⟨by assumption, by assumption⟩])
      | (show (0 : Int32) = if a ≠ 0 ∧ b ≠ 0 then 1 else 0; rw [if_neg (fun z => z.1 (by assumption))])
      | (show (0 : Int32) = if a ≠ 0 ∧ b ≠ 0 then 1 else 0; rw [if_neg (fun z => z.2 (by assumption))])
  · refine A_iconst (1) (dX4_joined 24 rfl) (by decide +kernel) ?_
    refine A_goto 73 (dX4_joined 25 rfl) (by decide) ?_
    refine A_ri (dX4_joined 27 rfl) rfl rfl ?_
    refine ⟨?_, rfl⟩
    first
      | rfl
      | (show (1 : Int32) = if a < b then 1 else 0; rw [if_pos (Int32.not_le.mp (by assumption))])
      | (show (0 : Int32) = if a < b then 1 else 0; rw [if_neg (Int32.not_lt.mpr (by assumption))])
      | (show (1 : Int32) = if a = b then 1 else 0; rw [if_pos (by assumption)])
      | (show (0 : Int32) = if a = b then 1 else 0; rw [if_neg (by assumption)])
      | (show (1 : Int32) = if a ≠ 0 ∧ b ≠ 0 then 1 else 0; rw [if_pos ⟨by assumption, by assumption⟩])
      | (show (0 : Int32) = if a ≠ 0 ∧ b ≠ 0 then 1 else 0; rw [if_neg (fun z => z.1 (by assumption))])
      | (show (0 : Int32) = if a ≠ 0 ∧ b ≠ 0 then 1 else 0; rw [if_neg (fun z => z.2 (by assumption))])

set_option maxRecDepth 100000 in
theorem k_joined14 (E : ag) (ws : va_W) (a b : Int32) : CT E yX4_joined cX4_joined 3 mX4_joined.2.2.2.1 1 0 0 [.int (-14), .int a, .int b] ws (ri (fun r w => r = bop (-14) a b ∧ w = ws)) := by
  refine CT.of (M := mX4_joined) (ls := [some (.int (-14)), some (.int a), some (.int b)]) (by decide) rfl (by decide) rfl (Nat.le_of_ble_eq_true rfl) ?_
  refine A_iload_n (dX4_joined 0 rfl) rfl ?_
  refine A_tableIn (73) 74 (dX4_joined 1 rfl) (by decide) (by decide) rfl (by decide) ?_
  refine A_iload_n (dX4_joined 28 rfl) rfl ?_
  refine A_if_eq 86 (dX4_joined 29 rfl) (by decide) (fun h75 => ?_) (fun h75 => ?_)
  · refine A_iconst (0) (dX4_joined 34 rfl) (by decide +kernel) ?_
    refine A_ri (dX4_joined 35 rfl) rfl rfl ?_
    refine ⟨?_, rfl⟩
    first
      | rfl
      | (show (1 : Int32) = if a < b then 1 else 0; rw [if_pos (Int32.not_le.mp (by assumption))])
      | (show (0 : Int32) = if a < b then 1 else 0; rw [if_neg (Int32.not_lt.mpr (by assumption))])
      | (show (1 : Int32) = if a = b then 1 else 0; rw [if_pos (by assumption)])
      | (show (0 : Int32) = if a = b then 1 else 0; rw [if_neg (by assumption)])
      | (show (1 : Int32) = if a ≠ 0 ∧ b ≠ 0 then 1 else 0; rw [if_pos ⟨by assumption, by assumption⟩])
      | (show (0 : Int32) = if a ≠ 0 ∧ b ≠ 0 then 1 else 0; rw [if_neg (fun z => z.1 (by assumption))])
      | (show (0 : Int32) = if a ≠ 0 ∧ b ≠ 0 then 1 else 0; rw [if_neg (fun z => z.2 (by assumption))])
  · refine A_iload_n (dX4_joined 30 rfl) rfl ?_
    refine A_if_eq 86 (dX4_joined 31 rfl) (by decide) (fun h79 => ?_) (fun h79 => ?_)
    · refine A_iconst (0) (dX4_joined 34 rfl) (by decide +kernel) ?_
      refine A_ri (dX4_joined 35 rfl) rfl rfl ?_
      refine ⟨?_, rfl⟩
      first
        | rfl
        | (show (1 : Int32) = if a < b then 1 else 0; rw [if_pos (Int32.not_le.mp (by assumption))])
        | (show (0 : Int32) = if a < b then 1 else 0; rw [if_neg (Int32.not_lt.mpr (by assumption))])
        | (show (1 : Int32) = if a = b then 1 else 0; rw [if_pos (by assumption)])
        | (show (0 : Int32) = if a = b then 1 else 0; rw [if_neg (by assumption)])
        | (show (1 : Int32) = if a ≠ 0 ∧ b ≠ 0 then 1 else 0; rw [if_pos ⟨by assumption, by assumption⟩])
        | (show (0 : Int32) = if a ≠ 0 ∧ b ≠ 0 then 1 else 0; rw [if_neg (fun z => z.1 (by assumption))])
        | (show (0 : Int32) = if a ≠ 0 ∧ b ≠ 0 then 1 else 0; rw [if_neg (fun z => z.2 (by assumption))])
    · refine A_iconst (1) (dX4_joined 32 rfl) (by decide +kernel) ?_
      refine A_goto 87 (dX4_joined 33 rfl) (by decide) ?_
      refine A_ri (dX4_joined 35 rfl) rfl rfl ?_
      refine ⟨?_, rfl⟩
      first
        | rfl
        | (show (1 : Int32) = if a < b then 1 else 0; rw [if_pos (Int32.not_le.mp (by assumption))])
        | (show (0 : Int32) = if a < b then 1 else 0; rw [if_neg (Int32.not_lt.mpr (by assumption))])
        | (show (1 : Int32) = if a = b then 1 else 0; rw [if_pos (by assumption)])
        | (show (0 : Int32) = if a = b then 1 else 0; rw [if_neg (by assumption)])
        | (show (1 : Int32) = if a ≠ 0 ∧ b ≠ 0 then 1 else 0; rw [if_pos ⟨by assumption, by assumption⟩])
        | (show (0 : Int32) = if a ≠ 0 ∧ b ≠ 0 then 1 else 0; rw [if_neg (fun z => z.1 (by assumption))])
        | (show (0 : Int32) = if a ≠ 0 ∧ b ≠ 0 then 1 else 0; rw [if_neg (fun z => z.2 (by assumption))])

set_option maxRecDepth 100000 in
theorem k_joinedO (E : ag) (ws : va_W) (s a b : Int32) (hs : s.toInt < -14 ∨ -9 < s.toInt) : CT E yX4_joined cX4_joined 3 mX4_joined.2.2.2.1 1 0 0 [.int s, .int a, .int b] ws (ri (fun r w => r = bop s a b ∧ w = ws)) := by
  refine CT.of (M := mX4_joined) (ls := [some (.int s), some (.int a), some (.int b)]) (by decide) rfl (by decide) rfl (Nat.le_of_ble_eq_true rfl) ?_
  refine A_iload_n (dX4_joined 0 rfl) rfl ?_
  refine A_tableOut 88 (dX4_joined 1 rfl) hs (by decide) ?_
  refine A_iload_n (dX4_joined 36 rfl) rfl ?_
  refine A_if_ne 96 (dX4_joined 37 rfl) (by decide) (fun h89 => ?_) (fun h89 => ?_)
  · refine A_iconst (1) (dX4_joined 40 rfl) (by decide +kernel) ?_
    refine A_goto 101 (dX4_joined 41 rfl) (by decide) ?_
    refine A_ri (dX4_joined 43 rfl) rfl rfl ?_
    refine ⟨?_, rfl⟩
    rw [bop_o (sw_n hs)]
    first
      | rw [if_pos (Or.inl (by assumption))]
      | rw [if_pos (Or.inr (by assumption))]
      | rw [if_neg (fun z => z.elim (fun z => z (by assumption)) (fun z => z (by assumption)))]
  · refine A_iload_n (dX4_joined 38 rfl) rfl ?_
    refine A_if_eq 100 (dX4_joined 39 rfl) (by decide) (fun h93 => ?_) (fun h93 => ?_)
    · refine A_iconst (0) (dX4_joined 42 rfl) (by decide +kernel) ?_
      refine A_ri (dX4_joined 43 rfl) rfl rfl ?_
      refine ⟨?_, rfl⟩
      rw [bop_o (sw_n hs)]
      first
        | rw [if_pos (Or.inl (by assumption))]
        | rw [if_pos (Or.inr (by assumption))]
        | rw [if_neg (fun z => z.elim (fun z => z (by assumption)) (fun z => z (by assumption)))]
    · refine A_iconst (1) (dX4_joined 40 rfl) (by decide +kernel) ?_
      refine A_goto 101 (dX4_joined 41 rfl) (by decide) ?_
      refine A_ri (dX4_joined 43 rfl) rfl rfl ?_
      refine ⟨?_, rfl⟩
      rw [bop_o (sw_n hs)]
      first
        | rw [if_pos (Or.inl (by assumption))]
        | rw [if_pos (Or.inr (by assumption))]
        | rw [if_neg (fun z => z.elim (fun z => z (by assumption)) (fun z => z (by assumption)))]

theorem k_joined (E : ag) (ws : va_W) (s a b : Int32) : CT E yX4_joined cX4_joined 3 mX4_joined.2.2.2.1 1 0 0 [.int s, .int a, .int b] ws (ri (fun r w => r = bop s a b ∧ w = ws)) := by
  by_cases hs : s.toInt < -14 ∨ -9 < s.toInt
  · exact k_joinedO E ws s a b hs
  · have h1 := not_or.mp hs
    have e : s = -9 ∨ s = -10 ∨ s = -11 ∨ s = -12 ∨ s = -13 ∨ s = -14 := by
      have e9 : (-9 : Int32).toInt = -9 := by decide
      have e10 : (-10 : Int32).toInt = -10 := by decide
      have e11 : (-11 : Int32).toInt = -11 := by decide
      have e12 : (-12 : Int32).toInt = -12 := by decide
      have e13 : (-13 : Int32).toInt = -13 := by decide
      have e14 : (-14 : Int32).toInt = -14 := by decide
      simp only [← Int32.toInt_inj, e9, e10, e11, e12, e13, e14]
      omega
    rcases e with rfl | rfl | rfl | rfl | rfl | rfl
    · exact k_joined9 E ws a b
    · exact k_joined10 E ws a b
    · exact k_joined11 E ws a b
    · exact k_joined12 E ws a b
    · exact k_joined13 E ws a b
    · exact k_joined14 E ws a b
/-- a list as the stack's row holds it, its head on top -/
def STK (f : Nat → Int32) : List Int32 → Prop
  | [] => True
  | x :: r => f r.length = x ∧ STK f r
theorem STK.up {f : Nat → Int32} {n : Nat} {x : Int32} : ∀ {st : List Int32}, st.length ≤ n → STK f st → STK (upd f n x) st := by
  intro st
  induction st with
  | nil => intro _ _; trivial
  | cons y r ih =>
    intro h1 h2
    have h3 : r.length < n := by rw [List.length_cons] at h1; omega
    exact ⟨by simp only [upd]; rw [if_neg (by omega)]; exact h2.1, ih (by omega) h2.2⟩
theorem STK.push {f : Nat → Int32} {x : Int32} {st : List Int32} (h : STK f st) : STK (upd f st.length x) (x :: st) := ⟨pk_us, STK.up (Nat.le_refl _) h⟩
theorem ev1_push {e : Nat → Int32} {s : Int32} {st : List Int32} (h : -6 ≤ s) : ev1 e s st = (if 0 ≤ s then s else e (-1 - s).toNatClampNeg) :: st := if_pos h
theorem ev1_u {e : Nat → Int32} {s : Int32} {st : List Int32} (h : ¬ -6 ≤ s) (h8 : -8 ≤ s) : ev1 e s st = match st with | x :: r => (if s = -7 then -x else if x = 0 then 1 else 0) :: r | [] => [] := by
  unfold ev1
  rw [if_neg h]
  by_cases h7 : s = -7
  · rw [if_pos h7]
    cases st with
    | nil => rfl
    | cons x r => simp [h7]
  · rw [if_neg h7]
    have e8 : s = -8 := by
      have e6 : (-6 : Int32).toInt = -6 := by decide
      have e7 : (-7 : Int32).toInt = -7 := by decide
      have e8 : (-8 : Int32).toInt = -8 := by decide
      rw [Int32.le_iff_toInt_le] at h h8
      rw [← Int32.toInt_inj] at h7 ⊢
      omega
    rw [if_pos e8]
    cases st with
    | nil => rfl
    | cons x r => simp [h7]
theorem ev1_b {e : Nat → Int32} {s : Int32} {st : List Int32} (h : ¬ -6 ≤ s) (h8 : ¬ -8 ≤ s) : ev1 e s st = match st with | y :: x :: r => bop s x y :: r | r => r := by
  unfold ev1
  rw [if_neg h, if_neg (fun z => h8 (by rw [z]; decide)), if_neg (fun z => h8 (by rw [z]; decide))]
  rfl
theorem six {s : Int32} (h : -6 ≤ s) (h0 : s < 0) : vp_in (-1 - s) 6 := by
  have e0 : (0 : Int32).toInt = 0 := by decide
  have e6 : (-6 : Int32).toInt = -6 := by decide
  have e1 : (-1 : Int32).toInt = -1 := by decide
  rw [Int32.le_iff_toInt_le] at h
  rw [Int32.lt_iff_toInt_lt] at h0
  rw [vp_in_iff, Int32.toInt_sub, Int.bmod_eq_of_le (by omega) (by omega)]
  omega
theorem tp_s (n : Nat) : nI n - 1 + 1 = nI n := by rw [← Int32.toBitVec_inj]; simp
theorem tp_p (n : Nat) : nI (n + 1) - 1 = nI n := nI_pred n
set_option maxRecDepth 100000 in
set_option maxHeartbeats 1000000 in
theorem k_tellsL (E : ag) (qx : Nat → Nat) (gx : Nat → Int32) (ax : Nat → Nat → Int32) (qy : Nat → Nat) (gy : Nat → Int32) (ay : Nat → Nat → Int32) (p en : Nat) (hen160 : en ≤ 160) : ∀ (c : List Int32) (k : Nat) (st : List Int32) (f : Nat → Int32) (x7 : Option Value), noL [x7] = true → (∀ j, j < c.length → ax 0 (k + j) = c.getD j 0) → k + c.length = en → st.length ≤ k → STK f st → AW E mX4_tells 2 0 0 29 [some (.ref (qx 0)), some (.int (nI p)), some (.ref (qy 0)), some (.ref (qy 1)), some (.int (nI st.length - 1)), some (.int (nI en)), some (.int (nI k)), x7] [] (wTS E qx gx ax qy gy (va_up ay 1 f)) (ri (fun r w => r = (evs (ay 0) c st).headD 0 ∧ ∃ f2, w = wTS E qx gx ax qy gy (va_up ay 1 f2))) := by
  intro c
  induction c with
  | nil =>
    intro k st f x7 hx hc hen hst hS
    refine A_iload (dX4_tells 18 rfl) rfl ?_
    refine A_iload (dX4_tells 19 rfl) rfl ?_
    refine A_icmp_ge 167 (dX4_tells 20 rfl) (by decide) (fun h33 => ?_) (fun h33 => absurd (nI_le (a := en) (b := k) (by simp at hen; omega) (by simp at hen; omega)) h33)
    rcases st with _ | ⟨x, r⟩
    · refine A_iload (dX4_tells 92 rfl) rfl ?_
      refine A_if_lt 179 (dX4_tells 93 rfl) (by decide) (fun h169 => ?_) (fun h169 => absurd (show nI ([] : List Int32).length - 1 < 0 by decide) h169)
      refine A_iconst (0) (dX4_tells 98 rfl) (by decide +kernel) ?_
      refine A_ri (dX4_tells 99 rfl) rfl rfl ?_
      exact ⟨rfl, f, rfl⟩
    · rw [show nI (x :: r).length - 1 = nI r.length from tp_p _]
      have hrl : r.length + 1 ≤ k := by simpa using hst
      have hkn : k = en := by simpa using hen
      refine A_iload (dX4_tells 92 rfl) rfl ?_
      refine A_if_lt 179 (dX4_tells 93 rfl) (by decide) (fun h169 => absurd h169 (nI_pos (by omega))) (fun h169 => ?_)
      refine A_aload_n (dX4_tells 94 rfl) rfl ?_
      refine A_iload (dX4_tells 95 rfl) rfl ?_
      refine A_iald (dX4_tells 96 rfl) wTS_4 (vp_in_nI (n := r.length) (by omega) (by decide)) ?_
      rw [nI_clamp (n := r.length) (by omega), show va_up ay 1 f 1 r.length = x from hS.1]
      refine A_goto 180 (dX4_tells 97 rfl) (by decide) ?_
      refine A_ri (dX4_tells 99 rfl) rfl rfl ?_
      exact ⟨rfl, f, rfl⟩
  | cons s c ih =>
    intro k st f x7 hx hc hen hst hS
    have hkn : k < en := by rw [List.length_cons] at hen; omega
    refine A_iload (dX4_tells 18 rfl) rfl ?_
    refine A_iload (dX4_tells 19 rfl) rfl ?_
    refine A_icmp_ge 167 (dX4_tells 20 rfl) (by decide) (fun h33 => absurd h33 (nI_ge (a := k) (b := en) (by omega) (by omega))) (fun h33 => ?_)
    refine A_aload_n (dX4_tells 21 rfl) rfl ?_
    refine A_get (dX4_tells 22 rfl) fwX4_9 wTS_0 cT_f0_0 ?_
    refine A_iload (dX4_tells 23 rfl) rfl ?_
    refine A_iald (dX4_tells 24 rfl) wTS_1 (vp_in_nI (n := k) (by omega) (by decide)) ?_
    rw [nI_clamp (n := k) (by omega), show ax 0 k = s from hc 0 (by simp)]
    refine A_istore (ls2 := [_, _, _, _, _, _, _, _]) (dX4_tells 25 rfl) (by decide) (by have := hx; simp_all [noL, Value.category]) rfl ?_
    by_cases h6 : -6 ≤ s
    rotate_left
    by_cases h8 : -8 ≤ s
    rotate_left 2
    · rw [show evs (ay 0) (s :: c) st = evs (ay 0) c (ev1 (ay 0) s st) from rfl, ev1_push h6]
      refine A_iload (dX4_tells 26 rfl) rfl ?_
      refine A_bipush (-6) (dX4_tells 27 rfl) (by decide +kernel) ?_
      refine A_icmp_lt 87 (dX4_tells 28 rfl) (by decide) (fun h49 => absurd h6 (Int32.not_le.mpr h49)) (fun h49 => ?_)
      refine A_iload (dX4_tells 29 rfl) rfl ?_
      refine A_iconst (1) (dX4_tells 30 rfl) (by decide +kernel) ?_
      refine A_iadd (dX4_tells 31 rfl) ?_
      refine A_aload_n (dX4_tells 32 rfl) rfl ?_
      refine A_alen _ (dX4_tells 33 rfl) wTS_4 rfl ?_
      rw [tp_s]
      refine AW.pcq (pc2 := 58) rfl ?_
      refine A_icmp_ge 161 (dX4_tells 34 rfl) (by decide) (fun h58 => absurd h58 (nI_ge (a := st.length) (b := 160) (by omega) (by decide))) (fun h58 => ?_)
      refine A_iinc (ls2 := [_, _, _, _, _, _, _, _]) (nI st.length) (dX4_tells 35 rfl) rfl (tp_s _) (by decide) (by have := hx; simp_all [noL, Value.category]) rfl ?_
      refine A_aload_n (dX4_tells 36 rfl) rfl ?_
      refine A_iload (dX4_tells 37 rfl) rfl ?_
      refine A_iload (dX4_tells 38 rfl) rfl ?_
      refine A_if_lt 77 (dX4_tells 39 rfl) (by decide) (fun h69 => ?_) (fun h69 => ?_)
      · rw [if_neg (Int32.not_le.mpr h69)]
        refine A_aload_n (dX4_tells 42 rfl) rfl ?_
        refine A_iconst (-1) (dX4_tells 43 rfl) (by decide +kernel) ?_
        refine A_iload (dX4_tells 44 rfl) rfl ?_
        refine A_isub (dX4_tells 45 rfl) ?_
        refine A_iald (dX4_tells 46 rfl) wTS_3 (six h6 h69) ?_
        refine A_iast (dX4_tells 47 rfl) wTS_4 (vp_in_nI (n := st.length) (by omega) (by decide)) (wTS_s4 _) ?_
        rw [nI_clamp (n := st.length) (by omega)]
        refine A_goto 161 (dX4_tells 48 rfl) (by decide) ?_
        refine A_iinc (ls2 := [_, _, _, _, _, _, _, _]) (nI (k + 1)) (dX4_tells 90 rfl) rfl (nI_1 k) (by decide) (by have := hx; simp_all [noL, Value.category]) rfl ?_
        refine A_goto 29 (dX4_tells 91 rfl) (by decide) ?_
        rw [up24]
        have h9 := ih (k + 1) ((ay 0 (-1 - s).toNatClampNeg) :: st) (upd f st.length (ay 0 (-1 - s).toNatClampNeg)) (some (.int s)) rfl (fun j hj => by have h9 := hc (j + 1) (by rw [List.length_cons]; omega); rw [show k + (j + 1) = k + 1 + j by omega] at h9; exact h9) (by rw [List.length_cons] at hen; omega) (by rw [List.length_cons]; omega) hS.push
        rw [show nI ((ay 0 (-1 - s).toNatClampNeg) :: st).length - 1 = nI st.length from tp_p _] at h9
        exact h9
      · rw [if_pos (Int32.not_lt.mp h69)]
        refine A_iload (dX4_tells 40 rfl) rfl ?_
        refine A_goto 83 (dX4_tells 41 rfl) (by decide) ?_
        refine A_iast (dX4_tells 47 rfl) wTS_4 (vp_in_nI (n := st.length) (by omega) (by decide)) (wTS_s4 _) ?_
        rw [nI_clamp (n := st.length) (by omega)]
        refine A_goto 161 (dX4_tells 48 rfl) (by decide) ?_
        refine A_iinc (ls2 := [_, _, _, _, _, _, _, _]) (nI (k + 1)) (dX4_tells 90 rfl) rfl (nI_1 k) (by decide) (by have := hx; simp_all [noL, Value.category]) rfl ?_
        refine A_goto 29 (dX4_tells 91 rfl) (by decide) ?_
        rw [up24]
        have h9 := ih (k + 1) (s :: st) (upd f st.length s) (some (.int s)) rfl (fun j hj => by have h9 := hc (j + 1) (by rw [List.length_cons]; omega); rw [show k + (j + 1) = k + 1 + j by omega] at h9; exact h9) (by rw [List.length_cons] at hen; omega) (by rw [List.length_cons]; omega) hS.push
        rw [show nI (s :: st).length - 1 = nI st.length from tp_p _] at h9
        exact h9
    · rw [show evs (ay 0) (s :: c) st = evs (ay 0) c (ev1 (ay 0) s st) from rfl, ev1_u h6 h8]
      refine A_iload (dX4_tells 26 rfl) rfl ?_
      refine A_bipush (-6) (dX4_tells 27 rfl) (by decide +kernel) ?_
      refine A_icmp_lt 87 (dX4_tells 28 rfl) (by decide) (fun h49 => ?_) (fun h49 => absurd (Int32.not_le.mp h6) h49)
      refine A_iload (dX4_tells 49 rfl) rfl ?_
      refine A_bipush (-8) (dX4_tells 50 rfl) (by decide +kernel) ?_
      refine A_icmp_lt 133 (dX4_tells 51 rfl) (by decide) (fun h91 => absurd h8 (Int32.not_le.mpr h91)) (fun h91 => ?_)
      rcases st with _ | ⟨x, r⟩
      · refine A_iload (dX4_tells 52 rfl) rfl ?_
        refine A_if_lt 161 (dX4_tells 53 rfl) (by decide) (fun h96 => ?_) (fun h96 => absurd (show nI ([] : List Int32).length - 1 < 0 by decide) h96)
        refine A_iinc (ls2 := [_, _, _, _, _, _, _, _]) (nI (k + 1)) (dX4_tells 90 rfl) rfl (nI_1 k) (by decide) (by have := hx; simp_all [noL, Value.category]) rfl ?_
        refine A_goto 29 (dX4_tells 91 rfl) (by decide) ?_
        have h9 := ih (k + 1) [] f (some (.int s)) rfl (fun j hj => by have h9 := hc (j + 1) (by rw [List.length_cons]; omega); rw [show k + (j + 1) = k + 1 + j by omega] at h9; exact h9) (by rw [List.length_cons] at hen; omega) (Nat.zero_le _) trivial
        exact h9
      · rw [show nI (x :: r).length - 1 = nI r.length from tp_p _]
        have hrl : r.length + 1 ≤ k := by simpa using hst
        obtain ⟨hx0, hr0⟩ := hS
        refine A_iload (dX4_tells 52 rfl) rfl ?_
        refine A_if_lt 161 (dX4_tells 53 rfl) (by decide) (fun h96 => absurd h96 (nI_pos (by omega))) (fun h96 => ?_)
        refine A_aload_n (dX4_tells 54 rfl) rfl ?_
        refine A_iload (dX4_tells 55 rfl) rfl ?_
        refine A_iload (dX4_tells 56 rfl) rfl ?_
        refine A_bipush (-7) (dX4_tells 57 rfl) (by decide +kernel) ?_
        refine A_icmp_ne 117 (dX4_tells 58 rfl) (by decide) (fun h106 => ?_) (fun h106 => ?_)
        · show AW _ _ _ _ _ _ _ _ _ (ri (fun r2 w => r2 = (evs (ay 0) c ((if s = -7 then -x else if x = 0 then 1 else 0) :: r)).headD 0 ∧ _))
          rw [if_neg h106]
          refine A_aload_n (dX4_tells 64 rfl) rfl ?_
          refine A_iload (dX4_tells 65 rfl) rfl ?_
          refine A_iald (dX4_tells 66 rfl) wTS_4 (vp_in_nI (n := r.length) (by omega) (by decide)) ?_
          rw [nI_clamp (n := r.length) (by omega), show va_up ay 1 f 1 r.length = x from hx0]
          refine A_if_ne 128 (dX4_tells 67 rfl) (by decide) (fun h121 => ?_) (fun h121 => ?_)
          · rw [if_neg h121]
            refine A_iconst (0) (dX4_tells 70 rfl) (by decide +kernel) ?_
            refine A_iast (dX4_tells 71 rfl) wTS_4 (vp_in_nI (n := r.length) (by omega) (by decide)) (wTS_s4 _) ?_
            rw [nI_clamp (n := r.length) (by omega)]
            refine A_goto 161 (dX4_tells 72 rfl) (by decide) ?_
            refine A_iinc (ls2 := [_, _, _, _, _, _, _, _]) (nI (k + 1)) (dX4_tells 90 rfl) rfl (nI_1 k) (by decide) (by have := hx; simp_all [noL, Value.category]) rfl ?_
            refine A_goto 29 (dX4_tells 91 rfl) (by decide) ?_
            rw [up24]
            have h9 := ih (k + 1) ((0 : Int32) :: r) (upd f r.length (0 : Int32)) (some (.int s)) rfl (fun j hj => by have h9 := hc (j + 1) (by rw [List.length_cons]; omega); rw [show k + (j + 1) = k + 1 + j by omega] at h9; exact h9) (by rw [List.length_cons] at hen; omega) (by rw [List.length_cons]; omega) ⟨pk_us, STK.up (Nat.le_refl _) hr0⟩
            rw [show nI ((0 : Int32) :: r).length - 1 = nI r.length from tp_p _] at h9
            exact h9
          · rw [if_pos h121]
            refine A_iconst (1) (dX4_tells 68 rfl) (by decide +kernel) ?_
            refine A_goto 129 (dX4_tells 69 rfl) (by decide) ?_
            refine A_iast (dX4_tells 71 rfl) wTS_4 (vp_in_nI (n := r.length) (by omega) (by decide)) (wTS_s4 _) ?_
            rw [nI_clamp (n := r.length) (by omega)]
            refine A_goto 161 (dX4_tells 72 rfl) (by decide) ?_
            refine A_iinc (ls2 := [_, _, _, _, _, _, _, _]) (nI (k + 1)) (dX4_tells 90 rfl) rfl (nI_1 k) (by decide) (by have := hx; simp_all [noL, Value.category]) rfl ?_
            refine A_goto 29 (dX4_tells 91 rfl) (by decide) ?_
            rw [up24]
            have h9 := ih (k + 1) ((1 : Int32) :: r) (upd f r.length (1 : Int32)) (some (.int s)) rfl (fun j hj => by have h9 := hc (j + 1) (by rw [List.length_cons]; omega); rw [show k + (j + 1) = k + 1 + j by omega] at h9; exact h9) (by rw [List.length_cons] at hen; omega) (by rw [List.length_cons]; omega) ⟨pk_us, STK.up (Nat.le_refl _) hr0⟩
            rw [show nI ((1 : Int32) :: r).length - 1 = nI r.length from tp_p _] at h9
            exact h9
        · show AW _ _ _ _ _ _ _ _ _ (ri (fun r2 w => r2 = (evs (ay 0) c ((if s = -7 then -x else if x = 0 then 1 else 0) :: r)).headD 0 ∧ _))
          rw [if_pos h106]
          refine A_aload_n (dX4_tells 59 rfl) rfl ?_
          refine A_iload (dX4_tells 60 rfl) rfl ?_
          refine A_iald (dX4_tells 61 rfl) wTS_4 (vp_in_nI (n := r.length) (by omega) (by decide)) ?_
          rw [nI_clamp (n := r.length) (by omega), show va_up ay 1 f 1 r.length = x from hx0]
          refine A_ineg (dX4_tells 62 rfl) ?_
          refine A_goto 129 (dX4_tells 63 rfl) (by decide) ?_
          refine A_iast (dX4_tells 71 rfl) wTS_4 (vp_in_nI (n := r.length) (by omega) (by decide)) (wTS_s4 _) ?_
          rw [nI_clamp (n := r.length) (by omega)]
          refine A_goto 161 (dX4_tells 72 rfl) (by decide) ?_
          refine A_iinc (ls2 := [_, _, _, _, _, _, _, _]) (nI (k + 1)) (dX4_tells 90 rfl) rfl (nI_1 k) (by decide) (by have := hx; simp_all [noL, Value.category]) rfl ?_
          refine A_goto 29 (dX4_tells 91 rfl) (by decide) ?_
          rw [up24]
          have h9 := ih (k + 1) ((-x) :: r) (upd f r.length (-x)) (some (.int s)) rfl (fun j hj => by have h9 := hc (j + 1) (by rw [List.length_cons]; omega); rw [show k + (j + 1) = k + 1 + j by omega] at h9; exact h9) (by rw [List.length_cons] at hen; omega) (by rw [List.length_cons]; omega) ⟨pk_us, STK.up (Nat.le_refl _) hr0⟩
          rw [show nI ((-x) :: r).length - 1 = nI r.length from tp_p _] at h9
          exact h9
    · rw [show evs (ay 0) (s :: c) st = evs (ay 0) c (ev1 (ay 0) s st) from rfl, ev1_b h6 h8]
      refine A_iload (dX4_tells 26 rfl) rfl ?_
      refine A_bipush (-6) (dX4_tells 27 rfl) (by decide +kernel) ?_
      refine A_icmp_lt 87 (dX4_tells 28 rfl) (by decide) (fun h49 => ?_) (fun h49 => absurd (Int32.not_le.mp h6) h49)
      refine A_iload (dX4_tells 49 rfl) rfl ?_
      refine A_bipush (-8) (dX4_tells 50 rfl) (by decide +kernel) ?_
      refine A_icmp_lt 133 (dX4_tells 51 rfl) (by decide) (fun h91 => ?_) (fun h91 => absurd (Int32.not_le.mp h8) h91)
      rcases st with _ | ⟨y, _ | ⟨x, r⟩⟩
      · refine A_iload (dX4_tells 73 rfl) rfl ?_
        refine A_iconst (1) (dX4_tells 74 rfl) (by decide +kernel) ?_
        refine A_icmp_lt 161 (dX4_tells 75 rfl) (by decide) (fun h136 => ?_) (fun h136 => absurd (show nI ([] : List Int32).length - 1 < 1 by decide) h136)
        refine A_iinc (ls2 := [_, _, _, _, _, _, _, _]) (nI (k + 1)) (dX4_tells 90 rfl) rfl (nI_1 k) (by decide) (by have := hx; simp_all [noL, Value.category]) rfl ?_
        refine A_goto 29 (dX4_tells 91 rfl) (by decide) ?_
        have h9 := ih (k + 1) [] f (some (.int s)) rfl (fun j hj => by have h9 := hc (j + 1) (by rw [List.length_cons]; omega); rw [show k + (j + 1) = k + 1 + j by omega] at h9; exact h9) (by rw [List.length_cons] at hen; omega) (Nat.zero_le _) trivial
        exact h9
      · refine A_iload (dX4_tells 73 rfl) rfl ?_
        refine A_iconst (1) (dX4_tells 74 rfl) (by decide +kernel) ?_
        refine A_icmp_lt 161 (dX4_tells 75 rfl) (by decide) (fun h136 => ?_) (fun h136 => absurd (show nI [y].length - 1 < 1 from (by decide : nI 1 - 1 < 1)) h136)
        refine A_iinc (ls2 := [_, _, _, _, _, _, _, _]) (nI (k + 1)) (dX4_tells 90 rfl) rfl (nI_1 k) (by decide) (by have := hx; simp_all [noL, Value.category]) rfl ?_
        refine A_goto 29 (dX4_tells 91 rfl) (by decide) ?_
        have h9 := ih (k + 1) [y] f (some (.int s)) rfl (fun j hj => by have h9 := hc (j + 1) (by rw [List.length_cons]; omega); rw [show k + (j + 1) = k + 1 + j by omega] at h9; exact h9) (by rw [List.length_cons] at hen; omega) (by have h8 := hst; rw [List.length_cons] at h8 ⊢; omega) hS
        exact h9
      · rw [show nI (y :: x :: r).length - 1 = nI (r.length + 1) from tp_p _]
        have hrl : r.length + 2 ≤ k := by simpa using hst
        obtain ⟨hy0, hx0, hr0⟩ := hS
        have hy1 : f (r.length + 1) = y := hy0
        refine A_iload (dX4_tells 73 rfl) rfl ?_
        refine A_iconst (1) (dX4_tells 74 rfl) (by decide +kernel) ?_
        refine A_icmp_lt 161 (dX4_tells 75 rfl) (by decide) (fun h136 => absurd h136 (nI_nlt (a := r.length + 1) (b := 1) (by omega) (by omega))) (fun h136 => ?_)
        refine A_iinc (ls2 := [_, _, _, _, _, _, _, _]) (nI r.length) (dX4_tells 76 rfl) rfl (by rw [sub1]; exact tp_p _) (by decide) (by have := hx; simp_all [noL, Value.category]) rfl ?_
        refine A_aload_n (dX4_tells 77 rfl) rfl ?_
        refine A_iload (dX4_tells 78 rfl) rfl ?_
        refine A_iload (dX4_tells 79 rfl) rfl ?_
        refine A_aload_n (dX4_tells 80 rfl) rfl ?_
        refine AW.pcq (pc2 := 148) rfl ?_
        refine A_iload (dX4_tells 81 rfl) rfl ?_
        refine A_iald (dX4_tells 82 rfl) wTS_4 (vp_in_nI (n := r.length) (by omega) (by decide)) ?_
        rw [nI_clamp (n := r.length) (by omega), show va_up ay 1 f 1 r.length = x from hx0]
        refine A_aload_n (dX4_tells 83 rfl) rfl ?_
        refine A_iload (dX4_tells 84 rfl) rfl ?_
        refine A_iconst (1) (dX4_tells 85 rfl) (by decide +kernel) ?_
        refine A_iadd (dX4_tells 86 rfl) ?_
        rw [nI_1]
        refine A_iald (dX4_tells 87 rfl) wTS_4 (vp_in_nI (n := r.length + 1) (by omega) (by decide)) ?_
        rw [nI_clamp (n := r.length + 1) (by omega), show va_up ay 1 f 1 (r.length + 1) = y from hy1]
        refine A_callSWi 3 (dX4_tells 88 rfl) cbX4_joined cwX4_28 (k_joined E _ s x y) rfl rfl (Nat.le_of_ble_eq_true rfl) (Nat.le_of_ble_eq_true rfl) (Nat.le_of_ble_eq_true rfl) (Nat.le_of_ble_eq_true rfl) (Nat.le_of_ble_eq_true rfl) ?_
        rintro r157 w1 ⟨rfl, rfl⟩
        refine AW.pcq (pc2 := 160) rfl ?_
        refine A_iast (dX4_tells 89 rfl) wTS_4 (vp_in_nI (n := r.length) (by omega) (by decide)) (wTS_s4 _) ?_
        rw [nI_clamp (n := r.length) (by omega)]
        refine A_iinc (ls2 := [_, _, _, _, _, _, _, _]) (nI (k + 1)) (dX4_tells 90 rfl) rfl (nI_1 k) (by decide) (by have := hx; simp_all [noL, Value.category]) rfl ?_
        refine A_goto 29 (dX4_tells 91 rfl) (by decide) ?_
        rw [up24]
        have h9 := ih (k + 1) ((bop s x y) :: r) (upd f r.length (bop s x y)) (some (.int s)) rfl (fun j hj => by have h9 := hc (j + 1) (by rw [List.length_cons]; omega); rw [show k + (j + 1) = k + 1 + j by omega] at h9; exact h9) (by rw [List.length_cons] at hen; omega) (by rw [List.length_cons]; omega) ⟨pk_us, STK.up (Nat.le_refl _) hr0⟩
        rw [show nI ((bop s x y) :: r).length - 1 = nI r.length from tp_p _] at h9
        exact h9

/-- a compiled text holds the codes C -/
def TKC (ax : Nat → Nat → Int32) (C : Nat → List Int32) : Prop := (C 0).length + (C 1).length + (C 2).length ≤ 160 ∧ ax 1 0 = 0 ∧ ax 1 1 = nI (C 0).length ∧ ax 1 2 = nI ((C 0).length + (C 1).length) ∧ ax 1 3 = nI ((C 0).length + (C 1).length + (C 2).length) ∧ (∀ j, j < (C 0).length → ax 0 j = (C 0).getD j 0) ∧ (∀ j, j < (C 1).length → ax 0 ((C 0).length + j) = (C 1).getD j 0) ∧ (∀ j, j < (C 2).length → ax 0 ((C 0).length + (C 1).length + j) = (C 2).getD j 0)
theorem TKC.at {ax : Nat → Nat → Int32} {C : Nat → List Int32} (h : TKC ax C) {p : Nat} (hp : p < 3) : ∃ s0, ax 1 p = nI s0 ∧ ax 1 (p + 1) = nI (s0 + (C p).length) ∧ s0 + (C p).length ≤ 160 ∧ ∀ j, j < (C p).length → ax 0 (s0 + j) = (C p).getD j 0 := by
  obtain ⟨h1, e0, e1, e2, e3, c0, c1, c2⟩ := h
  match p with
  | 0 => exact ⟨0, e0, by rw [Nat.zero_add (C 0).length]; exact e1, by omega, fun j hj => by rw [Nat.zero_add]; exact c0 j hj⟩
  | 1 => exact ⟨(C 0).length, e1, e2, by omega, c1⟩
  | 2 => exact ⟨(C 0).length + (C 1).length, e2, e3, by omega, c2⟩
  | p + 3 => omega
set_option maxRecDepth 100000 in
theorem k_tells (E : ag) (qx : Nat → Nat) (gx : Nat → Int32) (ax : Nat → Nat → Int32) (qy : Nat → Nat) (gy : Nat → Int32) (ay : Nat → Nat → Int32) (p : Nat) (hp : p < 3) (C : Nat → List Int32) (hC : TKC ax C) : CT E yX4_tells cX4_tells 8 mX4_tells.2.2.2.1 2 0 0 [.ref (qx 0), .int (nI p), .ref (qy 0), .ref (qy 1)] (wTS E qx gx ax qy gy ay) (ri (fun r w => r = pev C p (ay 0) ∧ ∃ f2, w = wTS E qx gx ax qy gy (va_up ay 1 f2))) := by
  obtain ⟨s0, e0, e1, hle, hcs⟩ := hC.at hp
  have hmin : (if Int32.ofNat 160 < nI (s0 + (C p).length) then Int32.ofNat 160 else nI (s0 + (C p).length)) = nI (s0 + (C p).length) := if_neg (show ¬ nI 160 < nI (s0 + (C p).length) from nI_nlt (by omega) (by omega))
  refine CT.of (M := mX4_tells) (ls := [some (.ref (qx 0)), some (.int (nI p)), some (.ref (qy 0)), some (.ref (qy 1)), none, none, none, none]) (by decide) rfl (by decide) rfl (Nat.le_of_ble_eq_true rfl) ?_
  refine A_iconst (-1) (dX4_tells 0 rfl) (by decide +kernel) ?_
  refine A_istore (ls2 := [_, _, _, _, _, _, _, _]) (dX4_tells 1 rfl) (by decide) rfl rfl ?_
  refine A_aload_n (dX4_tells 2 rfl) rfl ?_
  refine A_get (dX4_tells 3 rfl) fwX4_15 wTS_0 cT_f0_1 ?_
  refine A_iload_n (dX4_tells 4 rfl) rfl ?_
  refine A_iconst (1) (dX4_tells 5 rfl) (by decide +kernel) ?_
  refine A_iadd (dX4_tells 6 rfl) ?_
  rw [nI_1]
  refine A_iald (dX4_tells 7 rfl) wTS_2 (vp_in_nI (n := p + 1) (by omega) (by decide)) ?_
  rw [nI_clamp (n := p + 1) (by omega), e1]
  refine AW.pcq (pc2 := 11) rfl ?_
  refine A_aload_n (dX4_tells 8 rfl) rfl ?_
  refine A_get (dX4_tells 9 rfl) fwX4_9 wTS_0 cT_f0_0 ?_
  refine A_alen _ (dX4_tells 10 rfl) wTS_1 rfl ?_
  refine A_min (dX4_tells 11 rfl) mmX4_22 (Nat.le_of_ble_eq_true rfl) (Nat.le_of_ble_eq_true rfl) ?_
  rw [hmin]
  refine A_istore (ls2 := [_, _, _, _, _, _, _, _]) (dX4_tells 12 rfl) (by decide) rfl rfl ?_
  refine A_aload_n (dX4_tells 13 rfl) rfl ?_
  refine A_get (dX4_tells 14 rfl) fwX4_15 wTS_0 cT_f0_1 ?_
  refine A_iload_n (dX4_tells 15 rfl) rfl ?_
  refine AW.pcq (pc2 := 26) rfl ?_
  refine A_iald (dX4_tells 16 rfl) wTS_2 (vp_in_nI (n := p) (by omega) (by decide)) ?_
  rw [nI_clamp (n := p) (by omega), e0]
  refine A_istore (ls2 := [_, _, _, _, _, _, _, _]) (dX4_tells 17 rfl) (by decide) rfl rfl ?_
  have h9 := k_tellsL E qx gx ax qy gy ay p (s0 + (C p).length) hle (C p) s0 [] (ay 1) none rfl hcs rfl (Nat.zero_le _) trivial
  rw [up_same] at h9
  exact h9

