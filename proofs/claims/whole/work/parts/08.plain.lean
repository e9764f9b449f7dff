/-! PLAIN METHODS OF THE REFERENCE -/
def inI (v l h : Int32) : Int32 := if l ≤ v ∧ v ≤ h then 1 else 0
theorem inI_no {v l h : Int32} (q : inI v l h = 0) : ¬ (l ≤ v ∧ v ≤ h) := fun z => by simp [inI, z] at q
theorem inI_yes {v l h : Int32} (q : ¬ inI v l h = 0) : l.toInt ≤ v.toInt ∧ v.toInt ≤ h.toInt := by
  by_cases z : l ≤ v ∧ v ≤ h
  · exact ⟨Int32.le_iff_toInt_le.mp z.1, Int32.le_iff_toInt_le.mp z.2⟩
  · exact absurd (by simp [inI, z]) q
theorem inI_of {v l h : Int32} (a : l ≤ v) (b : v ≤ h) : inI v l h = 1 := by simp [inI, a, b]
theorem inI_lo {v l h : Int32} (a : ¬ l ≤ v) : inI v l h = 0 := by simp [inI, a]
theorem inI_hi {v l h : Int32} (b : ¬ v ≤ h) : inI v l h = 0 := by simp [inI, b]
theorem wide_le (a b : Int32) : a.toInt64 ≤ b.toInt64 ↔ a ≤ b := by rw [Int64.le_iff_toInt_le, Int32.le_iff_toInt_le, Int32.toInt_toInt64, Int32.toInt_toInt64]
theorem cmp_neg (x y : Int64) : lg_cmp x y < 0 ↔ x < y := by
  unfold lg_cmp
  simp only [GT.gt, Int64.lt_iff_toInt_lt, ← Int64.toInt_inj]
  split
  · exact ⟨fun z => absurd z (by decide), fun z => by omega⟩
  · split
    · exact ⟨fun z => absurd z (by decide), fun z => by omega⟩
    · exact ⟨fun _ => by omega, fun _ => by decide⟩
theorem cmp_pos (x y : Int64) : 0 < lg_cmp x y ↔ y < x := by
  unfold lg_cmp
  simp only [GT.gt, Int64.lt_iff_toInt_lt, ← Int64.toInt_inj]
  split
  · rename_i h
    exact ⟨fun _ => h, fun _ => by decide⟩
  · split
    · exact ⟨fun z => absurd z (by decide), fun z => by omega⟩
    · exact ⟨fun z => absurd z (by decide), fun z => by omega⟩
theorem cmp_z (x y : Int64) : lg_cmp x y = 0 ↔ x = y := by
  unfold lg_cmp
  simp only [GT.gt, Int64.lt_iff_toInt_lt, ← Int64.toInt_inj]
  split
  · exact ⟨fun z => absurd z (by decide), fun z => by omega⟩
  · split
    · rename_i h
      exact ⟨fun _ => h, fun _ => rfl⟩
    · exact ⟨fun z => absurd z (by decide), fun z => by omega⟩
theorem inI_nar {v l h : Int32} : narrow .boolean (.int (inI v l h)) = .int (inI v l h) := by unfold inI; split <;> decide
theorem nnar0 : narrow .boolean (.int 0) = .int 0 := by decide
theorem nnar1 : narrow .boolean (.int 1) = .int 1 := by decide
def wiI (v l h : Int32) : Int32 := if v < l then l else if h < v then h else v

set_option maxRecDepth 100000 in
set_option maxHeartbeats 4000000 in
theorem m_in (E : ag) (ws : va_W) (v l h : Int32) (V L H : Int64) (hv : V = v.toInt64) (hl : L = l.toInt64) (hh : H = h.toInt64) : CT E yX6_in cX6_in 6 mX6_in.2.2.2.1 1 0 0 [.long V, .long L, .long H] (ws) (ri (fun r w => r = inI v l h ∧ w = ws)) := by
  refine CT.of (M := mX6_in) (ls := [some (.long V), none, some (.long L), none, some (.long H), none]) (by decide) rfl (by decide) rfl (Nat.le_of_ble_eq_true rfl) ?_
  refine A_lload_n (dX6_in 0 rfl) rfl ?_
  refine A_lload_n (dX6_in 1 rfl) rfl ?_
  refine A_lcmp (dX6_in 2 rfl) ?_
  refine A_if_lt 17 (dX6_in 3 rfl) (by decide) (fun h3 => ?_) (fun h3 => ?_)
  · refine A_iconst (0) (dX6_in 10 rfl) (by decide +kernel) ?_
    refine A_ri (dX6_in 11 rfl) rfl rfl ?_
    refine ⟨?_, rfl⟩
    subst hv hl hh
    simp only [cmp_neg, cmp_pos, Int64.lt_iff_toInt_lt, Int32.toInt_toInt64] at *
    simp only [inI, Int32.le_iff_toInt_le]
    split <;> first | rfl | omega
  · refine A_lload_n (dX6_in 4 rfl) rfl ?_
    refine A_lload (dX6_in 5 rfl) rfl ?_
    refine A_lcmp (dX6_in 6 rfl) ?_
    refine A_if_gt 17 (dX6_in 7 rfl) (by decide) (fun h10 => ?_) (fun h10 => ?_)
    · refine A_iconst (0) (dX6_in 10 rfl) (by decide +kernel) ?_
      refine A_ri (dX6_in 11 rfl) rfl rfl ?_
      refine ⟨?_, rfl⟩
      subst hv hl hh
      simp only [cmp_neg, cmp_pos, Int64.lt_iff_toInt_lt, Int32.toInt_toInt64] at *
      simp only [inI, Int32.le_iff_toInt_le]
      split <;> first | rfl | omega
    · refine A_iconst (1) (dX6_in 8 rfl) (by decide +kernel) ?_
      refine A_goto 18 (dX6_in 9 rfl) (by decide) ?_
      refine A_ri (dX6_in 11 rfl) rfl rfl ?_
      refine ⟨?_, rfl⟩
      subst hv hl hh
      simp only [cmp_neg, cmp_pos, Int64.lt_iff_toInt_lt, Int32.toInt_toInt64] at *
      simp only [inI, Int32.le_iff_toInt_le]
      split <;> first | rfl | omega

set_option maxRecDepth 100000 in
set_option maxHeartbeats 4000000 in
theorem m_within (E : ag) (ws : va_W) (v l h : Int32) : CT E yX6_within cX6_within 3 mX6_within.2.2.2.1 1 0 0 [.int v, .int l, .int h] (ws) (ri (fun r w => r = wiI v l h ∧ w = ws)) := by
  refine CT.of (M := mX6_within) (ls := [some (.int v), some (.int l), some (.int h)]) (by decide) rfl (by decide) rfl (Nat.le_of_ble_eq_true rfl) ?_
  refine A_iload_n (dX6_within 0 rfl) rfl ?_
  refine A_iload_n (dX6_within 1 rfl) rfl ?_
  refine A_icmp_ge 9 (dX6_within 2 rfl) (by decide) (fun h2 => ?_) (fun h2 => ?_)
  · refine A_iload_n (dX6_within 5 rfl) rfl ?_
    refine A_iload_n (dX6_within 6 rfl) rfl ?_
    refine A_icmp_le 18 (dX6_within 7 rfl) (by decide) (fun h11 => ?_) (fun h11 => ?_)
    · refine A_iload_n (dX6_within 10 rfl) rfl ?_
      refine A_ri (dX6_within 11 rfl) rfl rfl ?_
      refine ⟨?_, rfl⟩
      simp only [Int32.lt_iff_toInt_lt, Int32.le_iff_toInt_le] at *
      simp only [wiI, Int32.lt_iff_toInt_lt]
      repeat (first | rfl | omega | split)
    · refine A_iload_n (dX6_within 8 rfl) rfl ?_
      refine A_goto 19 (dX6_within 9 rfl) (by decide) ?_
      refine A_ri (dX6_within 11 rfl) rfl rfl ?_
      refine ⟨?_, rfl⟩
      simp only [Int32.lt_iff_toInt_lt, Int32.le_iff_toInt_le] at *
      simp only [wiI, Int32.lt_iff_toInt_lt]
      repeat (first | rfl | omega | split)
  · refine A_iload_n (dX6_within 3 rfl) rfl ?_
    refine A_goto 19 (dX6_within 4 rfl) (by decide) ?_
    refine A_ri (dX6_within 11 rfl) rfl rfl ?_
    refine ⟨?_, rfl⟩
    simp only [Int32.lt_iff_toInt_lt, Int32.le_iff_toInt_le] at *
    simp only [wiI, Int32.lt_iff_toInt_lt]
    repeat (first | rfl | omega | split)

set_option maxRecDepth 100000 in
set_option maxHeartbeats 4000000 in
theorem m_isMan (E : ag) (q : Nat → Nat) (g : Nat → Int32) (tw : Int64) (a : Nat → Nat → Int32) (i : Int32) : CT E yX6_isMan cX6_isMan 2 mX6_isMan.2.2.2.1 2 0 0 [.ref (q 0), .int i] (MW E q g tw a) (ri (fun r w => r = inI i 0 (g 13 - 1) ∧ w = MW E q g tw a)) := by
  refine CT.of (M := mX6_isMan) (ls := [some (.ref (q 0)), some (.int i)]) (by decide) rfl (by decide) rfl (Nat.le_of_ble_eq_true rfl) ?_
  refine A_iload_n (dX6_isMan 0 rfl) rfl ?_
  refine A_i2l (dX6_isMan 1 rfl) ?_
  refine A_lconst (0) (dX6_isMan 2 rfl) (by decide +kernel) ?_
  refine A_aload_n (dX6_isMan 3 rfl) rfl ?_
  refine A_get (dX6_isMan 4 rfl) fwX6_100 MW_0 MF_13 ?_
  refine A_iconst (1) (dX6_isMan 5 rfl) (by decide +kernel) ?_
  refine A_isub (dX6_isMan 6 rfl) ?_
  refine A_i2l (dX6_isMan 7 rfl) ?_
  refine AW.pcq (pc2 := 10) rfl ?_
  refine A_callSWi 3 (dX6_isMan 8 rfl) cbX6_in cwX6_103 (m_in E _ i 0 (g 13 - 1) _ _ _ rfl (by decide) rfl) rfl rfl (Nat.le_of_ble_eq_true rfl) (Nat.le_of_ble_eq_true rfl) (Nat.le_of_ble_eq_true rfl) (Nat.le_of_ble_eq_true rfl) (Nat.le_of_ble_eq_true rfl) ?_
  rintro r10 w1 ⟨rfl, rfl⟩
  refine AW.pcq (pc2 := 13) rfl ?_
  refine A_ri (dX6_isMan 9 rfl) rfl inI_nar ?_
  exact ⟨rfl, rfl⟩

/-- Java's remainder, and a remainder that is 0 or more -/
def mo (x b : Int32) : Int32 := if x - x / b * b < 0 then x - x / b * b + b else x - x / b * b
def p_str (k f n r : Int32) : Int32 := if (if k = 5 then (10 * f - r) / 2 else if k = 2 ∨ k = 3 then 10 * f - r else if k = 1 ∨ k = 4 then 10 * f + 5 * n else 10 * f) < 0 then 0 else (if k = 5 then (10 * f - r) / 2 else if k = 2 ∨ k = 3 then 10 * f - r else if k = 1 ∨ k = 4 then 10 * f + 5 * n else 10 * f)
def p_mnd (k n e : Int32) : Int32 := if k = 0 then e / 2 else if k = 1 then e / 2 / 2 else if k = 4 then e - e / 2 / 2 else if k = 2 then e / 2 / 3 else e / 2 / 3 - n
def p_gap (men bar : Int32) (beats : Nat → Int32) (i : Int32) : Int32 := if men = 1 then bar else mo (beats i.toNatClampNeg - beats (if i = 0 then men - 1 else i - 1).toNatClampNeg) bar
theorem nlt_ge {x : Int32} (h : 0 ≤ x) : ¬ x < 0 := fun z => absurd (Int32.lt_iff_toInt_lt.mp z) (by have := Int32.le_iff_toInt_le.mp h; omega)
theorem lt_nge {x : Int32} (h : ¬ 0 ≤ x) : x < 0 := Int32.not_le.mp h

set_option maxRecDepth 100000 in
set_option maxHeartbeats 4000000 in
theorem m_isCell (E : ag) (ws : va_W) (i : Int32) : CT E yX6_isCell cX6_isCell 1 mX6_isCell.2.2.2.1 2 0 0 [.int i] (ws) (ri (fun r w => r = inI i 0 11 ∧ w = ws)) := by
  refine CT.of (M := mX6_isCell) (ls := [some (.int i)]) (by decide) rfl (by decide) rfl (Nat.le_of_ble_eq_true rfl) ?_
  refine A_iload_n (dX6_isCell 0 rfl) rfl ?_
  refine A_i2l (dX6_isCell 1 rfl) ?_
  refine A_lconst (0) (dX6_isCell 2 rfl) (by decide +kernel) ?_
  refine A_ldc2 (dX6_isCell 3 rfl) kcX6_107 ?_
  refine A_callSWi 3 (dX6_isCell 4 rfl) cbX6_in cwX6_103 (m_in E _ i 0 11 _ _ _ rfl (by decide) (by decide)) rfl rfl (Nat.le_of_ble_eq_true rfl) (Nat.le_of_ble_eq_true rfl) (Nat.le_of_ble_eq_true rfl) (Nat.le_of_ble_eq_true rfl) (Nat.le_of_ble_eq_true rfl) ?_
  rintro r6 w1 ⟨rfl, rfl⟩
  refine AW.pcq (pc2 := 9) rfl ?_
  refine A_ri (dX6_isCell 5 rfl) rfl inI_nar ?_
  exact ⟨rfl, rfl⟩

set_option maxRecDepth 100000 in
set_option maxHeartbeats 4000000 in
theorem m_isSheet (E : ag) (ws : va_W) (i : Int32) : CT E yX6_isSheet cX6_isSheet 1 mX6_isSheet.2.2.2.1 2 0 0 [.int i] (ws) (ri (fun r w => r = inI i 0 3 ∧ w = ws)) := by
  refine CT.of (M := mX6_isSheet) (ls := [some (.int i)]) (by decide) rfl (by decide) rfl (Nat.le_of_ble_eq_true rfl) ?_
  refine A_iload_n (dX6_isSheet 0 rfl) rfl ?_
  refine A_i2l (dX6_isSheet 1 rfl) ?_
  refine A_lconst (0) (dX6_isSheet 2 rfl) (by decide +kernel) ?_
  refine A_ldc2 (dX6_isSheet 3 rfl) kcX6_332 ?_
  refine A_callSWi 3 (dX6_isSheet 4 rfl) cbX6_in cwX6_103 (m_in E _ i 0 3 _ _ _ rfl (by decide) (by decide)) rfl rfl (Nat.le_of_ble_eq_true rfl) (Nat.le_of_ble_eq_true rfl) (Nat.le_of_ble_eq_true rfl) (Nat.le_of_ble_eq_true rfl) (Nat.le_of_ble_eq_true rfl) ?_
  rintro r6 w1 ⟨rfl, rfl⟩
  refine AW.pcq (pc2 := 9) rfl ?_
  refine A_ri (dX6_isSheet 5 rfl) rfl inI_nar ?_
  exact ⟨rfl, rfl⟩

set_option maxRecDepth 100000 in
set_option maxHeartbeats 4000000 in
theorem m_strikes (E : ag) (q : Nat → Nat) (g : Nat → Int32) (tw : Int64) (a : Nat → Nat → Int32) (i : Int32) (hi : vp_in i 5) : CT E yX6_strikes cX6_strikes 5 mX6_strikes.2.2.2.1 1 0 0 [.ref (q 0), .int i] (MW E q g tw a) (ri (fun r w => r = p_str (a 6 i.toNatClampNeg) (a 8 i.toNatClampNeg) (a 9 i.toNatClampNeg) (g 15) ∧ w = MW E q g tw a)) := by
  refine CT.of (M := mX6_strikes) (ls := [some (.ref (q 0)), some (.int i), none, none, none]) (by decide) rfl (by decide) rfl (Nat.le_of_ble_eq_true rfl) ?_
  refine A_aload_n (dX6_strikes 0 rfl) rfl ?_
  refine A_get (dX6_strikes 1 rfl) fwX6_29 MW_0 MF_9 ?_
  refine A_iload_n (dX6_strikes 2 rfl) rfl ?_
  refine A_iald (dX6_strikes 3 rfl) MW_6 (by assumption) ?_
  refine A_istore_n (ls2 := [_, _, _, _, _]) (dX6_strikes 4 rfl) (by decide) rfl rfl ?_
  refine A_bipush (10) (dX6_strikes 5 rfl) (by decide +kernel) ?_
  refine A_aload_n (dX6_strikes 6 rfl) rfl ?_
  refine A_get (dX6_strikes 7 rfl) fwX6_35 MW_0 MF_11 ?_
  refine AW.pcq (pc2 := 13) rfl ?_
  refine A_iload_n (dX6_strikes 8 rfl) rfl ?_
  refine A_iald (dX6_strikes 9 rfl) MW_8 (by assumption) ?_
  refine A_imul (dX6_strikes 10 rfl) ?_
  refine A_istore_n (ls2 := [_, _, _, _, _]) (dX6_strikes 11 rfl) (by decide) rfl rfl ?_
  refine A_iload_n (dX6_strikes 12 rfl) rfl ?_
  refine A_istore (ls2 := [_, _, _, _, _]) (dX6_strikes 13 rfl) (by decide) rfl rfl ?_
  refine A_iload_n (dX6_strikes 14 rfl) rfl ?_
  refine A_iconst (1) (dX6_strikes 15 rfl) (by decide +kernel) ?_
  refine AW.pcq (pc2 := 22) rfl ?_
  refine A_icmp_eq 30 (dX6_strikes 16 rfl) (by decide) (fun h22 => ?_) (fun h22 => ?_)
  · refine A_iload_n (dX6_strikes 20 rfl) rfl ?_
    refine A_iconst (5) (dX6_strikes 21 rfl) (by decide +kernel) ?_
    refine A_aload_n (dX6_strikes 22 rfl) rfl ?_
    refine A_get (dX6_strikes 23 rfl) fwX6_38 MW_0 MF_12 ?_
    refine A_iload_n (dX6_strikes 24 rfl) rfl ?_
    refine A_iald (dX6_strikes 25 rfl) MW_9 (by assumption) ?_
    refine A_imul (dX6_strikes 26 rfl) ?_
    refine A_iadd (dX6_strikes 27 rfl) ?_
    refine AW.pcq (pc2 := 40) rfl ?_
    refine A_istore (ls2 := [_, _, _, _, _]) (dX6_strikes 28 rfl) (by decide) rfl rfl ?_
    refine A_iload_n (dX6_strikes 29 rfl) rfl ?_
    refine A_iconst (2) (dX6_strikes 30 rfl) (by decide +kernel) ?_
    refine A_icmp_eq 52 (dX6_strikes 31 rfl) (by decide) (fun h44 => ?_) (fun h44 => ?_)
    · refine A_iload_n (dX6_strikes 35 rfl) rfl ?_
      refine A_aload_n (dX6_strikes 36 rfl) rfl ?_
      refine A_get (dX6_strikes 37 rfl) fwX6_142 MW_0 MF_15 ?_
      refine A_isub (dX6_strikes 38 rfl) ?_
      refine A_istore (ls2 := [_, _, _, _, _]) (dX6_strikes 39 rfl) (by decide) rfl rfl ?_
      refine A_iload_n (dX6_strikes 40 rfl) rfl ?_
      refine A_iconst (5) (dX6_strikes 41 rfl) (by decide +kernel) ?_
      refine A_icmp_ne 75 (dX6_strikes 42 rfl) (by decide) (fun h62 => ?_) (fun h62 => ?_)
      · refine A_iload (dX6_strikes 50 rfl) rfl ?_
        refine A_if_ge 84 (dX6_strikes 51 rfl) (by decide) (fun h77 => ?_) (fun h77 => ?_)
        · refine A_iload (dX6_strikes 54 rfl) rfl ?_
          refine A_ri (dX6_strikes 55 rfl) rfl rfl ?_
          refine ⟨?_, rfl⟩
          simp_all [p_str, nlt_ge, lt_nge]
        · refine A_iconst (0) (dX6_strikes 52 rfl) (by decide +kernel) ?_
          refine A_goto 86 (dX6_strikes 53 rfl) (by decide) ?_
          refine A_ri (dX6_strikes 55 rfl) rfl rfl ?_
          refine ⟨?_, rfl⟩
          simp_all [p_str, nlt_ge, lt_nge]
      · refine A_iload_n (dX6_strikes 43 rfl) rfl ?_
        refine A_aload_n (dX6_strikes 44 rfl) rfl ?_
        refine A_get (dX6_strikes 45 rfl) fwX6_142 MW_0 MF_15 ?_
        refine A_isub (dX6_strikes 46 rfl) ?_
        refine A_iconst (2) (dX6_strikes 47 rfl) (by decide +kernel) ?_
        refine A_idiv (dX6_strikes 48 rfl) (by decide) ?_
        refine A_istore (ls2 := [_, _, _, _, _]) (dX6_strikes 49 rfl) (by decide) rfl rfl ?_
        refine A_iload (dX6_strikes 50 rfl) rfl ?_
        refine AW.pcq (pc2 := 77) rfl ?_
        refine A_if_ge 84 (dX6_strikes 51 rfl) (by decide) (fun h77 => ?_) (fun h77 => ?_)
        · refine A_iload (dX6_strikes 54 rfl) rfl ?_
          refine A_ri (dX6_strikes 55 rfl) rfl rfl ?_
          refine ⟨?_, rfl⟩
          simp_all [p_str, nlt_ge, lt_nge]
        · refine A_iconst (0) (dX6_strikes 52 rfl) (by decide +kernel) ?_
          refine A_goto 86 (dX6_strikes 53 rfl) (by decide) ?_
          refine A_ri (dX6_strikes 55 rfl) rfl rfl ?_
          refine ⟨?_, rfl⟩
          simp_all [p_str, nlt_ge, lt_nge]
    · refine A_iload_n (dX6_strikes 32 rfl) rfl ?_
      refine A_iconst (3) (dX6_strikes 33 rfl) (by decide +kernel) ?_
      refine A_icmp_ne 60 (dX6_strikes 34 rfl) (by decide) (fun h49 => ?_) (fun h49 => ?_)
      · refine A_iload_n (dX6_strikes 40 rfl) rfl ?_
        refine A_iconst (5) (dX6_strikes 41 rfl) (by decide +kernel) ?_
        refine A_icmp_ne 75 (dX6_strikes 42 rfl) (by decide) (fun h62 => ?_) (fun h62 => ?_)
        · refine A_iload (dX6_strikes 50 rfl) rfl ?_
          refine A_if_ge 84 (dX6_strikes 51 rfl) (by decide) (fun h77 => ?_) (fun h77 => ?_)
          · refine A_iload (dX6_strikes 54 rfl) rfl ?_
            refine A_ri (dX6_strikes 55 rfl) rfl rfl ?_
            refine ⟨?_, rfl⟩
            simp_all [p_str, nlt_ge, lt_nge]
          · refine A_iconst (0) (dX6_strikes 52 rfl) (by decide +kernel) ?_
            refine A_goto 86 (dX6_strikes 53 rfl) (by decide) ?_
            refine A_ri (dX6_strikes 55 rfl) rfl rfl ?_
            refine ⟨?_, rfl⟩
            simp_all [p_str, nlt_ge, lt_nge]
        · refine A_iload_n (dX6_strikes 43 rfl) rfl ?_
          refine A_aload_n (dX6_strikes 44 rfl) rfl ?_
          refine A_get (dX6_strikes 45 rfl) fwX6_142 MW_0 MF_15 ?_
          refine A_isub (dX6_strikes 46 rfl) ?_
          refine A_iconst (2) (dX6_strikes 47 rfl) (by decide +kernel) ?_
          refine A_idiv (dX6_strikes 48 rfl) (by decide) ?_
          refine A_istore (ls2 := [_, _, _, _, _]) (dX6_strikes 49 rfl) (by decide) rfl rfl ?_
          refine A_iload (dX6_strikes 50 rfl) rfl ?_
          refine AW.pcq (pc2 := 77) rfl ?_
          refine A_if_ge 84 (dX6_strikes 51 rfl) (by decide) (fun h77 => ?_) (fun h77 => ?_)
          · refine A_iload (dX6_strikes 54 rfl) rfl ?_
            refine A_ri (dX6_strikes 55 rfl) rfl rfl ?_
            refine ⟨?_, rfl⟩
            simp_all [p_str, nlt_ge, lt_nge]
          · refine A_iconst (0) (dX6_strikes 52 rfl) (by decide +kernel) ?_
            refine A_goto 86 (dX6_strikes 53 rfl) (by decide) ?_
            refine A_ri (dX6_strikes 55 rfl) rfl rfl ?_
            refine ⟨?_, rfl⟩
            simp_all [p_str, nlt_ge, lt_nge]
      · refine A_iload_n (dX6_strikes 35 rfl) rfl ?_
        refine A_aload_n (dX6_strikes 36 rfl) rfl ?_
        refine A_get (dX6_strikes 37 rfl) fwX6_142 MW_0 MF_15 ?_
        refine A_isub (dX6_strikes 38 rfl) ?_
        refine A_istore (ls2 := [_, _, _, _, _]) (dX6_strikes 39 rfl) (by decide) rfl rfl ?_
        refine A_iload_n (dX6_strikes 40 rfl) rfl ?_
        refine A_iconst (5) (dX6_strikes 41 rfl) (by decide +kernel) ?_
        refine A_icmp_ne 75 (dX6_strikes 42 rfl) (by decide) (fun h62 => ?_) (fun h62 => ?_)
        · refine A_iload (dX6_strikes 50 rfl) rfl ?_
          refine A_if_ge 84 (dX6_strikes 51 rfl) (by decide) (fun h77 => ?_) (fun h77 => ?_)
          · refine A_iload (dX6_strikes 54 rfl) rfl ?_
            refine A_ri (dX6_strikes 55 rfl) rfl rfl ?_
            refine ⟨?_, rfl⟩
            simp_all [p_str, nlt_ge, lt_nge]
          · refine A_iconst (0) (dX6_strikes 52 rfl) (by decide +kernel) ?_
            refine A_goto 86 (dX6_strikes 53 rfl) (by decide) ?_
            refine A_ri (dX6_strikes 55 rfl) rfl rfl ?_
            refine ⟨?_, rfl⟩
            simp_all [p_str, nlt_ge, lt_nge]
        · refine A_iload_n (dX6_strikes 43 rfl) rfl ?_
          refine A_aload_n (dX6_strikes 44 rfl) rfl ?_
          refine A_get (dX6_strikes 45 rfl) fwX6_142 MW_0 MF_15 ?_
          refine A_isub (dX6_strikes 46 rfl) ?_
          refine A_iconst (2) (dX6_strikes 47 rfl) (by decide +kernel) ?_
          refine A_idiv (dX6_strikes 48 rfl) (by decide) ?_
          refine A_istore (ls2 := [_, _, _, _, _]) (dX6_strikes 49 rfl) (by decide) rfl rfl ?_
          refine A_iload (dX6_strikes 50 rfl) rfl ?_
          refine AW.pcq (pc2 := 77) rfl ?_
          refine A_if_ge 84 (dX6_strikes 51 rfl) (by decide) (fun h77 => ?_) (fun h77 => ?_)
          · refine A_iload (dX6_strikes 54 rfl) rfl ?_
            refine A_ri (dX6_strikes 55 rfl) rfl rfl ?_
            refine ⟨?_, rfl⟩
            simp_all [p_str, nlt_ge, lt_nge]
          · refine A_iconst (0) (dX6_strikes 52 rfl) (by decide +kernel) ?_
            refine A_goto 86 (dX6_strikes 53 rfl) (by decide) ?_
            refine A_ri (dX6_strikes 55 rfl) rfl rfl ?_
            refine ⟨?_, rfl⟩
            simp_all [p_str, nlt_ge, lt_nge]
  · refine A_iload_n (dX6_strikes 17 rfl) rfl ?_
    refine A_iconst (4) (dX6_strikes 18 rfl) (by decide +kernel) ?_
    refine A_icmp_ne 42 (dX6_strikes 19 rfl) (by decide) (fun h27 => ?_) (fun h27 => ?_)
    · refine A_iload_n (dX6_strikes 29 rfl) rfl ?_
      refine A_iconst (2) (dX6_strikes 30 rfl) (by decide +kernel) ?_
      refine A_icmp_eq 52 (dX6_strikes 31 rfl) (by decide) (fun h44 => ?_) (fun h44 => ?_)
      · refine A_iload_n (dX6_strikes 35 rfl) rfl ?_
        refine A_aload_n (dX6_strikes 36 rfl) rfl ?_
        refine A_get (dX6_strikes 37 rfl) fwX6_142 MW_0 MF_15 ?_
        refine A_isub (dX6_strikes 38 rfl) ?_
        refine A_istore (ls2 := [_, _, _, _, _]) (dX6_strikes 39 rfl) (by decide) rfl rfl ?_
        refine A_iload_n (dX6_strikes 40 rfl) rfl ?_
        refine A_iconst (5) (dX6_strikes 41 rfl) (by decide +kernel) ?_
        refine A_icmp_ne 75 (dX6_strikes 42 rfl) (by decide) (fun h62 => ?_) (fun h62 => ?_)
        · refine A_iload (dX6_strikes 50 rfl) rfl ?_
          refine A_if_ge 84 (dX6_strikes 51 rfl) (by decide) (fun h77 => ?_) (fun h77 => ?_)
          · refine A_iload (dX6_strikes 54 rfl) rfl ?_
            refine A_ri (dX6_strikes 55 rfl) rfl rfl ?_
            refine ⟨?_, rfl⟩
            simp_all [p_str, nlt_ge, lt_nge]
          · refine A_iconst (0) (dX6_strikes 52 rfl) (by decide +kernel) ?_
            refine A_goto 86 (dX6_strikes 53 rfl) (by decide) ?_
            refine A_ri (dX6_strikes 55 rfl) rfl rfl ?_
            refine ⟨?_, rfl⟩
            simp_all [p_str, nlt_ge, lt_nge]
        · refine A_iload_n (dX6_strikes 43 rfl) rfl ?_
          refine A_aload_n (dX6_strikes 44 rfl) rfl ?_
          refine A_get (dX6_strikes 45 rfl) fwX6_142 MW_0 MF_15 ?_
          refine A_isub (dX6_strikes 46 rfl) ?_
          refine A_iconst (2) (dX6_strikes 47 rfl) (by decide +kernel) ?_
          refine A_idiv (dX6_strikes 48 rfl) (by decide) ?_
          refine A_istore (ls2 := [_, _, _, _, _]) (dX6_strikes 49 rfl) (by decide) rfl rfl ?_
          refine A_iload (dX6_strikes 50 rfl) rfl ?_
          refine AW.pcq (pc2 := 77) rfl ?_
          refine A_if_ge 84 (dX6_strikes 51 rfl) (by decide) (fun h77 => ?_) (fun h77 => ?_)
          · refine A_iload (dX6_strikes 54 rfl) rfl ?_
            refine A_ri (dX6_strikes 55 rfl) rfl rfl ?_
            refine ⟨?_, rfl⟩
            simp_all [p_str, nlt_ge, lt_nge]
          · refine A_iconst (0) (dX6_strikes 52 rfl) (by decide +kernel) ?_
            refine A_goto 86 (dX6_strikes 53 rfl) (by decide) ?_
            refine A_ri (dX6_strikes 55 rfl) rfl rfl ?_
            refine ⟨?_, rfl⟩
            simp_all [p_str, nlt_ge, lt_nge]
      · refine A_iload_n (dX6_strikes 32 rfl) rfl ?_
        refine A_iconst (3) (dX6_strikes 33 rfl) (by decide +kernel) ?_
        refine A_icmp_ne 60 (dX6_strikes 34 rfl) (by decide) (fun h49 => ?_) (fun h49 => ?_)
        · refine A_iload_n (dX6_strikes 40 rfl) rfl ?_
          refine A_iconst (5) (dX6_strikes 41 rfl) (by decide +kernel) ?_
          refine A_icmp_ne 75 (dX6_strikes 42 rfl) (by decide) (fun h62 => ?_) (fun h62 => ?_)
          · refine A_iload (dX6_strikes 50 rfl) rfl ?_
            refine A_if_ge 84 (dX6_strikes 51 rfl) (by decide) (fun h77 => ?_) (fun h77 => ?_)
            · refine A_iload (dX6_strikes 54 rfl) rfl ?_
              refine A_ri (dX6_strikes 55 rfl) rfl rfl ?_
              refine ⟨?_, rfl⟩
              simp_all [p_str, nlt_ge, lt_nge]
            · refine A_iconst (0) (dX6_strikes 52 rfl) (by decide +kernel) ?_
              refine A_goto 86 (dX6_strikes 53 rfl) (by decide) ?_
              refine A_ri (dX6_strikes 55 rfl) rfl rfl ?_
              refine ⟨?_, rfl⟩
              simp_all [p_str, nlt_ge, lt_nge]
          · refine A_iload_n (dX6_strikes 43 rfl) rfl ?_
            refine A_aload_n (dX6_strikes 44 rfl) rfl ?_
            refine A_get (dX6_strikes 45 rfl) fwX6_142 MW_0 MF_15 ?_
            refine A_isub (dX6_strikes 46 rfl) ?_
            refine A_iconst (2) (dX6_strikes 47 rfl) (by decide +kernel) ?_
            refine A_idiv (dX6_strikes 48 rfl) (by decide) ?_
            refine A_istore (ls2 := [_, _, _, _, _]) (dX6_strikes 49 rfl) (by decide) rfl rfl ?_
            refine A_iload (dX6_strikes 50 rfl) rfl ?_
            refine AW.pcq (pc2 := 77) rfl ?_
            refine A_if_ge 84 (dX6_strikes 51 rfl) (by decide) (fun h77 => ?_) (fun h77 => ?_)
            · refine A_iload (dX6_strikes 54 rfl) rfl ?_
              refine A_ri (dX6_strikes 55 rfl) rfl rfl ?_
              refine ⟨?_, rfl⟩
              simp_all [p_str, nlt_ge, lt_nge]
            · refine A_iconst (0) (dX6_strikes 52 rfl) (by decide +kernel) ?_
              refine A_goto 86 (dX6_strikes 53 rfl) (by decide) ?_
              refine A_ri (dX6_strikes 55 rfl) rfl rfl ?_
              refine ⟨?_, rfl⟩
              simp_all [p_str, nlt_ge, lt_nge]
        · refine A_iload_n (dX6_strikes 35 rfl) rfl ?_
          refine A_aload_n (dX6_strikes 36 rfl) rfl ?_
          refine A_get (dX6_strikes 37 rfl) fwX6_142 MW_0 MF_15 ?_
          refine A_isub (dX6_strikes 38 rfl) ?_
          refine A_istore (ls2 := [_, _, _, _, _]) (dX6_strikes 39 rfl) (by decide) rfl rfl ?_
          refine A_iload_n (dX6_strikes 40 rfl) rfl ?_
          refine A_iconst (5) (dX6_strikes 41 rfl) (by decide +kernel) ?_
          refine A_icmp_ne 75 (dX6_strikes 42 rfl) (by decide) (fun h62 => ?_) (fun h62 => ?_)
          · refine A_iload (dX6_strikes 50 rfl) rfl ?_
            refine A_if_ge 84 (dX6_strikes 51 rfl) (by decide) (fun h77 => ?_) (fun h77 => ?_)
            · refine A_iload (dX6_strikes 54 rfl) rfl ?_
              refine A_ri (dX6_strikes 55 rfl) rfl rfl ?_
              refine ⟨?_, rfl⟩
              simp_all [p_str, nlt_ge, lt_nge]
            · refine A_iconst (0) (dX6_strikes 52 rfl) (by decide +kernel) ?_
              refine A_goto 86 (dX6_strikes 53 rfl) (by decide) ?_
              refine A_ri (dX6_strikes 55 rfl) rfl rfl ?_
              refine ⟨?_, rfl⟩
              simp_all [p_str, nlt_ge, lt_nge]
          · refine A_iload_n (dX6_strikes 43 rfl) rfl ?_
            refine A_aload_n (dX6_strikes 44 rfl) rfl ?_
            refine A_get (dX6_strikes 45 rfl) fwX6_142 MW_0 MF_15 ?_
            refine A_isub (dX6_strikes 46 rfl) ?_
            refine A_iconst (2) (dX6_strikes 47 rfl) (by decide +kernel) ?_
            refine A_idiv (dX6_strikes 48 rfl) (by decide) ?_
            refine A_istore (ls2 := [_, _, _, _, _]) (dX6_strikes 49 rfl) (by decide) rfl rfl ?_
            refine A_iload (dX6_strikes 50 rfl) rfl ?_
            refine AW.pcq (pc2 := 77) rfl ?_
            refine A_if_ge 84 (dX6_strikes 51 rfl) (by decide) (fun h77 => ?_) (fun h77 => ?_)
            · refine A_iload (dX6_strikes 54 rfl) rfl ?_
              refine A_ri (dX6_strikes 55 rfl) rfl rfl ?_
              refine ⟨?_, rfl⟩
              simp_all [p_str, nlt_ge, lt_nge]
            · refine A_iconst (0) (dX6_strikes 52 rfl) (by decide +kernel) ?_
              refine A_goto 86 (dX6_strikes 53 rfl) (by decide) ?_
              refine A_ri (dX6_strikes 55 rfl) rfl rfl ?_
              refine ⟨?_, rfl⟩
              simp_all [p_str, nlt_ge, lt_nge]
    · refine A_iload_n (dX6_strikes 20 rfl) rfl ?_
      refine A_iconst (5) (dX6_strikes 21 rfl) (by decide +kernel) ?_
      refine A_aload_n (dX6_strikes 22 rfl) rfl ?_
      refine A_get (dX6_strikes 23 rfl) fwX6_38 MW_0 MF_12 ?_
      refine A_iload_n (dX6_strikes 24 rfl) rfl ?_
      refine A_iald (dX6_strikes 25 rfl) MW_9 (by assumption) ?_
      refine A_imul (dX6_strikes 26 rfl) ?_
      refine A_iadd (dX6_strikes 27 rfl) ?_
      refine AW.pcq (pc2 := 40) rfl ?_
      refine A_istore (ls2 := [_, _, _, _, _]) (dX6_strikes 28 rfl) (by decide) rfl rfl ?_
      refine A_iload_n (dX6_strikes 29 rfl) rfl ?_
      refine A_iconst (2) (dX6_strikes 30 rfl) (by decide +kernel) ?_
      refine A_icmp_eq 52 (dX6_strikes 31 rfl) (by decide) (fun h44 => ?_) (fun h44 => ?_)
      · refine A_iload_n (dX6_strikes 35 rfl) rfl ?_
        refine A_aload_n (dX6_strikes 36 rfl) rfl ?_
        refine A_get (dX6_strikes 37 rfl) fwX6_142 MW_0 MF_15 ?_
        refine A_isub (dX6_strikes 38 rfl) ?_
        refine A_istore (ls2 := [_, _, _, _, _]) (dX6_strikes 39 rfl) (by decide) rfl rfl ?_
        refine A_iload_n (dX6_strikes 40 rfl) rfl ?_
        refine A_iconst (5) (dX6_strikes 41 rfl) (by decide +kernel) ?_
        refine A_icmp_ne 75 (dX6_strikes 42 rfl) (by decide) (fun h62 => ?_) (fun h62 => ?_)
        · refine A_iload (dX6_strikes 50 rfl) rfl ?_
          refine A_if_ge 84 (dX6_strikes 51 rfl) (by decide) (fun h77 => ?_) (fun h77 => ?_)
          · refine A_iload (dX6_strikes 54 rfl) rfl ?_
            refine A_ri (dX6_strikes 55 rfl) rfl rfl ?_
            refine ⟨?_, rfl⟩
            simp_all [p_str, nlt_ge, lt_nge]
          · refine A_iconst (0) (dX6_strikes 52 rfl) (by decide +kernel) ?_
            refine A_goto 86 (dX6_strikes 53 rfl) (by decide) ?_
            refine A_ri (dX6_strikes 55 rfl) rfl rfl ?_
            refine ⟨?_, rfl⟩
            simp_all [p_str, nlt_ge, lt_nge]
        · refine A_iload_n (dX6_strikes 43 rfl) rfl ?_
          refine A_aload_n (dX6_strikes 44 rfl) rfl ?_
          refine A_get (dX6_strikes 45 rfl) fwX6_142 MW_0 MF_15 ?_
          refine A_isub (dX6_strikes 46 rfl) ?_
          refine A_iconst (2) (dX6_strikes 47 rfl) (by decide +kernel) ?_
          refine A_idiv (dX6_strikes 48 rfl) (by decide) ?_
          refine A_istore (ls2 := [_, _, _, _, _]) (dX6_strikes 49 rfl) (by decide) rfl rfl ?_
          refine A_iload (dX6_strikes 50 rfl) rfl ?_
          refine AW.pcq (pc2 := 77) rfl ?_
          refine A_if_ge 84 (dX6_strikes 51 rfl) (by decide) (fun h77 => ?_) (fun h77 => ?_)
          · refine A_iload (dX6_strikes 54 rfl) rfl ?_
            refine A_ri (dX6_strikes 55 rfl) rfl rfl ?_
            refine ⟨?_, rfl⟩
            simp_all [p_str, nlt_ge, lt_nge]
          · refine A_iconst (0) (dX6_strikes 52 rfl) (by decide +kernel) ?_
            refine A_goto 86 (dX6_strikes 53 rfl) (by decide) ?_
            refine A_ri (dX6_strikes 55 rfl) rfl rfl ?_
            refine ⟨?_, rfl⟩
            simp_all [p_str, nlt_ge, lt_nge]
      · refine A_iload_n (dX6_strikes 32 rfl) rfl ?_
        refine A_iconst (3) (dX6_strikes 33 rfl) (by decide +kernel) ?_
        refine A_icmp_ne 60 (dX6_strikes 34 rfl) (by decide) (fun h49 => ?_) (fun h49 => ?_)
        · refine A_iload_n (dX6_strikes 40 rfl) rfl ?_
          refine A_iconst (5) (dX6_strikes 41 rfl) (by decide +kernel) ?_
          refine A_icmp_ne 75 (dX6_strikes 42 rfl) (by decide) (fun h62 => ?_) (fun h62 => ?_)
          · refine A_iload (dX6_strikes 50 rfl) rfl ?_
            refine A_if_ge 84 (dX6_strikes 51 rfl) (by decide) (fun h77 => ?_) (fun h77 => ?_)
            · refine A_iload (dX6_strikes 54 rfl) rfl ?_
              refine A_ri (dX6_strikes 55 rfl) rfl rfl ?_
              refine ⟨?_, rfl⟩
              simp_all [p_str, nlt_ge, lt_nge]
            · refine A_iconst (0) (dX6_strikes 52 rfl) (by decide +kernel) ?_
              refine A_goto 86 (dX6_strikes 53 rfl) (by decide) ?_
              refine A_ri (dX6_strikes 55 rfl) rfl rfl ?_
              refine ⟨?_, rfl⟩
              simp_all [p_str, nlt_ge, lt_nge]
          · refine A_iload_n (dX6_strikes 43 rfl) rfl ?_
            refine A_aload_n (dX6_strikes 44 rfl) rfl ?_
            refine A_get (dX6_strikes 45 rfl) fwX6_142 MW_0 MF_15 ?_
            refine A_isub (dX6_strikes 46 rfl) ?_
            refine A_iconst (2) (dX6_strikes 47 rfl) (by decide +kernel) ?_
            refine A_idiv (dX6_strikes 48 rfl) (by decide) ?_
            refine A_istore (ls2 := [_, _, _, _, _]) (dX6_strikes 49 rfl) (by decide) rfl rfl ?_
            refine A_iload (dX6_strikes 50 rfl) rfl ?_
            refine AW.pcq (pc2 := 77) rfl ?_
            refine A_if_ge 84 (dX6_strikes 51 rfl) (by decide) (fun h77 => ?_) (fun h77 => ?_)
            · refine A_iload (dX6_strikes 54 rfl) rfl ?_
              refine A_ri (dX6_strikes 55 rfl) rfl rfl ?_
              refine ⟨?_, rfl⟩
              simp_all [p_str, nlt_ge, lt_nge]
            · refine A_iconst (0) (dX6_strikes 52 rfl) (by decide +kernel) ?_
              refine A_goto 86 (dX6_strikes 53 rfl) (by decide) ?_
              refine A_ri (dX6_strikes 55 rfl) rfl rfl ?_
              refine ⟨?_, rfl⟩
              simp_all [p_str, nlt_ge, lt_nge]
        · refine A_iload_n (dX6_strikes 35 rfl) rfl ?_
          refine A_aload_n (dX6_strikes 36 rfl) rfl ?_
          refine A_get (dX6_strikes 37 rfl) fwX6_142 MW_0 MF_15 ?_
          refine A_isub (dX6_strikes 38 rfl) ?_
          refine A_istore (ls2 := [_, _, _, _, _]) (dX6_strikes 39 rfl) (by decide) rfl rfl ?_
          refine A_iload_n (dX6_strikes 40 rfl) rfl ?_
          refine A_iconst (5) (dX6_strikes 41 rfl) (by decide +kernel) ?_
          refine A_icmp_ne 75 (dX6_strikes 42 rfl) (by decide) (fun h62 => ?_) (fun h62 => ?_)
          · refine A_iload (dX6_strikes 50 rfl) rfl ?_
            refine A_if_ge 84 (dX6_strikes 51 rfl) (by decide) (fun h77 => ?_) (fun h77 => ?_)
            · refine A_iload (dX6_strikes 54 rfl) rfl ?_
              refine A_ri (dX6_strikes 55 rfl) rfl rfl ?_
              refine ⟨?_, rfl⟩
              simp_all [p_str, nlt_ge, lt_nge]
            · refine A_iconst (0) (dX6_strikes 52 rfl) (by decide +kernel) ?_
              refine A_goto 86 (dX6_strikes 53 rfl) (by decide) ?_
              refine A_ri (dX6_strikes 55 rfl) rfl rfl ?_
              refine ⟨?_, rfl⟩
              simp_all [p_str, nlt_ge, lt_nge]
          · refine A_iload_n (dX6_strikes 43 rfl) rfl ?_
            refine A_aload_n (dX6_strikes 44 rfl) rfl ?_
            refine A_get (dX6_strikes 45 rfl) fwX6_142 MW_0 MF_15 ?_
            refine A_isub (dX6_strikes 46 rfl) ?_
            refine A_iconst (2) (dX6_strikes 47 rfl) (by decide +kernel) ?_
            refine A_idiv (dX6_strikes 48 rfl) (by decide) ?_
            refine A_istore (ls2 := [_, _, _, _, _]) (dX6_strikes 49 rfl) (by decide) rfl rfl ?_
            refine A_iload (dX6_strikes 50 rfl) rfl ?_
            refine AW.pcq (pc2 := 77) rfl ?_
            refine A_if_ge 84 (dX6_strikes 51 rfl) (by decide) (fun h77 => ?_) (fun h77 => ?_)
            · refine A_iload (dX6_strikes 54 rfl) rfl ?_
              refine A_ri (dX6_strikes 55 rfl) rfl rfl ?_
              refine ⟨?_, rfl⟩
              simp_all [p_str, nlt_ge, lt_nge]
            · refine A_iconst (0) (dX6_strikes 52 rfl) (by decide +kernel) ?_
              refine A_goto 86 (dX6_strikes 53 rfl) (by decide) ?_
              refine A_ri (dX6_strikes 55 rfl) rfl rfl ?_
              refine ⟨?_, rfl⟩
              simp_all [p_str, nlt_ge, lt_nge]

set_option maxRecDepth 100000 in
set_option maxHeartbeats 4000000 in
theorem m_mended (E : ag) (q : Nat → Nat) (g : Nat → Int32) (tw : Int64) (a : Nat → Nat → Int32) (i x : Int32) (hi : vp_in i 5) : CT E yX6_mended cX6_mended 5 mX6_mended.2.2.2.1 1 0 0 [.ref (q 0), .int i, .int x] (MW E q g tw a) (ri (fun r w => r = p_mnd (a 6 i.toNatClampNeg) (a 9 i.toNatClampNeg) x ∧ w = MW E q g tw a)) := by
  refine CT.of (M := mX6_mended) (ls := [some (.ref (q 0)), some (.int i), some (.int x), none, none]) (by decide) rfl (by decide) rfl (Nat.le_of_ble_eq_true rfl) ?_
  refine A_aload_n (dX6_mended 0 rfl) rfl ?_
  refine A_get (dX6_mended 1 rfl) fwX6_29 MW_0 MF_9 ?_
  refine A_iload_n (dX6_mended 2 rfl) rfl ?_
  refine A_iald (dX6_mended 3 rfl) MW_6 (by assumption) ?_
  refine A_istore_n (ls2 := [_, _, _, _, _]) (dX6_mended 4 rfl) (by decide) rfl rfl ?_
  refine A_iload_n (dX6_mended 5 rfl) rfl ?_
  refine A_iconst (2) (dX6_mended 6 rfl) (by decide +kernel) ?_
  refine A_idiv (dX6_mended 7 rfl) (by decide) ?_
  refine AW.pcq (pc2 := 10) rfl ?_
  refine A_istore (ls2 := [_, _, _, _, _]) (dX6_mended 8 rfl) (by decide) rfl rfl ?_
  refine A_iload_n (dX6_mended 9 rfl) rfl ?_
  refine A_if_ne 19 (dX6_mended 10 rfl) (by decide) (fun h13 => ?_) (fun h13 => ?_)
  · refine A_iload_n (dX6_mended 13 rfl) rfl ?_
    refine A_iconst (1) (dX6_mended 14 rfl) (by decide +kernel) ?_
    refine A_icmp_eq 29 (dX6_mended 15 rfl) (by decide) (fun h21 => ?_) (fun h21 => ?_)
    · refine A_iload_n (dX6_mended 19 rfl) rfl ?_
      refine A_iconst (1) (dX6_mended 20 rfl) (by decide +kernel) ?_
      refine A_icmp_ne 41 (dX6_mended 21 rfl) (by decide) (fun h31 => ?_) (fun h31 => ?_)
      · refine A_iload_n (dX6_mended 26 rfl) rfl ?_
        refine A_iload (dX6_mended 27 rfl) rfl ?_
        refine A_iconst (2) (dX6_mended 28 rfl) (by decide +kernel) ?_
        refine A_idiv (dX6_mended 29 rfl) (by decide) ?_
        refine A_isub (dX6_mended 30 rfl) ?_
        refine A_ri (dX6_mended 31 rfl) rfl rfl ?_
        refine ⟨?_, rfl⟩
        simp_all [p_mnd]
      · refine A_iload (dX6_mended 22 rfl) rfl ?_
        refine A_iconst (2) (dX6_mended 23 rfl) (by decide +kernel) ?_
        refine A_idiv (dX6_mended 24 rfl) (by decide) ?_
        refine A_goto 47 (dX6_mended 25 rfl) (by decide) ?_
        refine A_ri (dX6_mended 31 rfl) rfl rfl ?_
        refine ⟨?_, rfl⟩
        simp_all [p_mnd]
    · refine A_iload_n (dX6_mended 16 rfl) rfl ?_
      refine A_iconst (4) (dX6_mended 17 rfl) (by decide +kernel) ?_
      refine A_icmp_ne 48 (dX6_mended 18 rfl) (by decide) (fun h26 => ?_) (fun h26 => ?_)
      · refine A_iload_n (dX6_mended 32 rfl) rfl ?_
        refine A_iconst (2) (dX6_mended 33 rfl) (by decide +kernel) ?_
        refine A_icmp_ne 60 (dX6_mended 34 rfl) (by decide) (fun h50 => ?_) (fun h50 => ?_)
        · refine A_iload (dX6_mended 39 rfl) rfl ?_
          refine A_iconst (3) (dX6_mended 40 rfl) (by decide +kernel) ?_
          refine A_idiv (dX6_mended 41 rfl) (by decide) ?_
          refine A_aload_n (dX6_mended 42 rfl) rfl ?_
          refine A_get (dX6_mended 43 rfl) fwX6_38 MW_0 MF_12 ?_
          refine A_iload_n (dX6_mended 44 rfl) rfl ?_
          refine A_iald (dX6_mended 45 rfl) MW_9 (by assumption) ?_
          refine A_isub (dX6_mended 46 rfl) ?_
          refine AW.pcq (pc2 := 71) rfl ?_
          refine A_ri (dX6_mended 47 rfl) rfl rfl ?_
          refine ⟨?_, rfl⟩
          simp_all [p_mnd]
        · refine A_iload (dX6_mended 35 rfl) rfl ?_
          refine A_iconst (3) (dX6_mended 36 rfl) (by decide +kernel) ?_
          refine A_idiv (dX6_mended 37 rfl) (by decide) ?_
          refine A_goto 71 (dX6_mended 38 rfl) (by decide) ?_
          refine A_ri (dX6_mended 47 rfl) rfl rfl ?_
          refine ⟨?_, rfl⟩
          simp_all [p_mnd]
      · refine A_iload_n (dX6_mended 19 rfl) rfl ?_
        refine A_iconst (1) (dX6_mended 20 rfl) (by decide +kernel) ?_
        refine A_icmp_ne 41 (dX6_mended 21 rfl) (by decide) (fun h31 => ?_) (fun h31 => ?_)
        · refine A_iload_n (dX6_mended 26 rfl) rfl ?_
          refine A_iload (dX6_mended 27 rfl) rfl ?_
          refine A_iconst (2) (dX6_mended 28 rfl) (by decide +kernel) ?_
          refine A_idiv (dX6_mended 29 rfl) (by decide) ?_
          refine A_isub (dX6_mended 30 rfl) ?_
          refine A_ri (dX6_mended 31 rfl) rfl rfl ?_
          refine ⟨?_, rfl⟩
          simp_all [p_mnd]
        · refine A_iload (dX6_mended 22 rfl) rfl ?_
          refine A_iconst (2) (dX6_mended 23 rfl) (by decide +kernel) ?_
          refine A_idiv (dX6_mended 24 rfl) (by decide) ?_
          refine A_goto 47 (dX6_mended 25 rfl) (by decide) ?_
          refine A_ri (dX6_mended 31 rfl) rfl rfl ?_
          refine ⟨?_, rfl⟩
          simp_all [p_mnd]
  · refine A_iload (dX6_mended 11 rfl) rfl ?_
    refine A_ri (dX6_mended 12 rfl) rfl rfl ?_
    refine ⟨?_, rfl⟩
    simp_all [p_mnd]

set_option maxRecDepth 100000 in
set_option maxHeartbeats 4000000 in
theorem m_gapOf (E : ag) (q : Nat → Nat) (g : Nat → Int32) (tw : Int64) (a : Nat → Nat → Int32) (i : Int32) (hi : vp_in i 5) (hm : vp_in (g 13 - 1) 5) (hj : ¬ i = 0 → vp_in (i - 1) 5) (hb : ¬ g 14 = 0) : CT E yX6_gapOf cX6_gapOf 3 mX6_gapOf.2.2.2.1 1 0 0 [.ref (q 0), .int i] (MW E q g tw a) (ri (fun r w => r = p_gap (g 13) (g 14) (a 7) i ∧ w = MW E q g tw a)) := by
  refine CT.of (M := mX6_gapOf) (ls := [some (.ref (q 0)), some (.int i), none]) (by decide) rfl (by decide) rfl (Nat.le_of_ble_eq_true rfl) ?_
  refine A_aload_n (dX6_gapOf 0 rfl) rfl ?_
  refine A_get (dX6_gapOf 1 rfl) fwX6_100 MW_0 MF_13 ?_
  refine A_iconst (1) (dX6_gapOf 2 rfl) (by decide +kernel) ?_
  refine A_icmp_ne 13 (dX6_gapOf 3 rfl) (by decide) (fun h5 => ?_) (fun h5 => ?_)
  · refine A_aload_n (dX6_gapOf 7 rfl) rfl ?_
    refine A_get (dX6_gapOf 8 rfl) fwX6_32 MW_0 MF_10 ?_
    refine A_iload_n (dX6_gapOf 9 rfl) rfl ?_
    refine A_iald (dX6_gapOf 10 rfl) MW_7 (by assumption) ?_
    refine A_aload_n (dX6_gapOf 11 rfl) rfl ?_
    refine A_get (dX6_gapOf 12 rfl) fwX6_32 MW_0 MF_10 ?_
    refine A_iload_n (dX6_gapOf 13 rfl) rfl ?_
    refine A_if_ne 36 (dX6_gapOf 14 rfl) (by decide) (fun h24 => ?_) (fun h24 => ?_)
    · refine A_iload_n (dX6_gapOf 20 rfl) rfl ?_
      refine A_iconst (1) (dX6_gapOf 21 rfl) (by decide +kernel) ?_
      refine A_isub (dX6_gapOf 22 rfl) ?_
      refine A_iald (dX6_gapOf 23 rfl) MW_7 (by first | assumption | exact hj (by assumption)) ?_
      refine A_isub (dX6_gapOf 24 rfl) ?_
      refine A_aload_n (dX6_gapOf 25 rfl) rfl ?_
      refine A_get (dX6_gapOf 26 rfl) fwX6_41 MW_0 MF_14 ?_
      refine A_irem (dX6_gapOf 27 rfl) hb ?_
      refine AW.pcq (pc2 := 46) rfl ?_
      refine A_istore_n (ls2 := [_, _, _]) (dX6_gapOf 28 rfl) (by decide) rfl rfl ?_
      refine A_iload_n (dX6_gapOf 29 rfl) rfl ?_
      refine A_if_ge 60 (dX6_gapOf 30 rfl) (by decide) (fun h48 => ?_) (fun h48 => ?_)
      · refine A_iload_n (dX6_gapOf 36 rfl) rfl ?_
        refine A_ri (dX6_gapOf 37 rfl) rfl rfl ?_
        refine ⟨?_, rfl⟩
        simp_all [p_gap, mo, nlt_ge, lt_nge]
      · refine A_iload_n (dX6_gapOf 31 rfl) rfl ?_
        refine A_aload_n (dX6_gapOf 32 rfl) rfl ?_
        refine A_get (dX6_gapOf 33 rfl) fwX6_41 MW_0 MF_14 ?_
        refine A_iadd (dX6_gapOf 34 rfl) ?_
        refine A_goto 61 (dX6_gapOf 35 rfl) (by decide) ?_
        refine A_ri (dX6_gapOf 37 rfl) rfl rfl ?_
        refine ⟨?_, rfl⟩
        simp_all [p_gap, mo, nlt_ge, lt_nge]
    · refine A_aload_n (dX6_gapOf 15 rfl) rfl ?_
      refine A_get (dX6_gapOf 16 rfl) fwX6_100 MW_0 MF_13 ?_
      refine A_iconst (1) (dX6_gapOf 17 rfl) (by decide +kernel) ?_
      refine A_isub (dX6_gapOf 18 rfl) ?_
      refine A_goto 39 (dX6_gapOf 19 rfl) (by decide) ?_
      refine A_iald (dX6_gapOf 23 rfl) MW_7 (by first | assumption | exact hj (by assumption)) ?_
      refine A_isub (dX6_gapOf 24 rfl) ?_
      refine A_aload_n (dX6_gapOf 25 rfl) rfl ?_
      refine A_get (dX6_gapOf 26 rfl) fwX6_41 MW_0 MF_14 ?_
      refine A_irem (dX6_gapOf 27 rfl) hb ?_
      refine A_istore_n (ls2 := [_, _, _]) (dX6_gapOf 28 rfl) (by decide) rfl rfl ?_
      refine A_iload_n (dX6_gapOf 29 rfl) rfl ?_
      refine A_if_ge 60 (dX6_gapOf 30 rfl) (by decide) (fun h48 => ?_) (fun h48 => ?_)
      · refine A_iload_n (dX6_gapOf 36 rfl) rfl ?_
        refine A_ri (dX6_gapOf 37 rfl) rfl rfl ?_
        refine ⟨?_, rfl⟩
        simp_all [p_gap, mo, nlt_ge, lt_nge]
      · refine A_iload_n (dX6_gapOf 31 rfl) rfl ?_
        refine A_aload_n (dX6_gapOf 32 rfl) rfl ?_
        refine A_get (dX6_gapOf 33 rfl) fwX6_41 MW_0 MF_14 ?_
        refine A_iadd (dX6_gapOf 34 rfl) ?_
        refine A_goto 61 (dX6_gapOf 35 rfl) (by decide) ?_
        refine A_ri (dX6_gapOf 37 rfl) rfl rfl ?_
        refine ⟨?_, rfl⟩
        simp_all [p_gap, mo, nlt_ge, lt_nge]
  · refine A_aload_n (dX6_gapOf 4 rfl) rfl ?_
    refine A_get (dX6_gapOf 5 rfl) fwX6_41 MW_0 MF_14 ?_
    refine A_ri (dX6_gapOf 6 rfl) rfl rfl ?_
    refine ⟨?_, rfl⟩
    simp_all [p_gap, mo, nlt_ge, lt_nge]

theorem nIm1 : ∀ m, m ≤ 5 → (nI m - 1).toInt = (m : Int) - 1 := by decide +kernel
theorem man_nI {i : Int32} {m : Nat} (hm : m ≤ 5) (h : ¬ inI i 0 (nI m - 1) = 0) : ∃ j, j < m ∧ i = nI j := by
  obtain ⟨h1, h2⟩ := inI_yes h
  rw [nIm1 m hm] at h2
  have h0 : (0 : Int32).toInt = 0 := by decide
  obtain ⟨j, hj, rfl⟩ := nI_of (x := i) (fun z => by have := Int32.lt_iff_toInt_lt.mp z; omega)
  rw [nI_toInt hj] at h2
  exact ⟨j, by omega, rfl⟩
theorem cell_nI {i : Int32} (h : ¬ inI i 0 11 = 0) : ∃ j, j < 12 ∧ i = nI j := by
  obtain ⟨h1, h2⟩ := inI_yes h
  have h0 : (0 : Int32).toInt = 0 := by decide
  have h11 : (11 : Int32).toInt = 11 := by decide
  obtain ⟨j, hj, rfl⟩ := nI_of (x := i) (fun z => by have := Int32.lt_iff_toInt_lt.mp z; omega)
  rw [nI_toInt hj] at h2
  exact ⟨j, by omega, rfl⟩
theorem ix_cell {i : Int32} (h : ¬ inI i 0 11 = 0) : vp_in i 12 := by obtain ⟨j, hj, rfl⟩ := cell_nI h; exact vp_in_nI hj (by decide)
theorem ix_man {i : Int32} {m : Nat} (hm : m ≤ 5) (h : ¬ inI i 0 (nI m - 1) = 0) : vp_in i 5 := by obtain ⟨j, hj, rfl⟩ := man_nI hm h; exact vp_in_nI (by omega) (by decide)
theorem ix_ahead : ∀ m, m ≤ 5 → 0 < m → vp_in (nI m - 1) 5 := by
  intro m h1 h2
  rw [vp_in_iff, nIm1 m h1]
  omega
theorem ix_pred : ∀ j, j < 5 → ¬ nI j = 0 → vp_in (nI j - 1) 5 := by
  intro j hj h0
  have : j ≠ 0 := fun z => h0 (by subst z; rfl)
  rw [vp_in_iff, nIm1 j (by omega)]
  omega
def m_toldR (g : Nat → Int32) (a : Nat → Nat → Int32) (i what : Int32) : Int32 :=
  if inI what 0 7 = 0 ∨ (¬ 2 ≤ what ∧ inI i 0 11 = 0) ∨ (¬ what < 2 ∧ inI i 0 (g 13 - 1) = 0) then -2
  else if what = 0 then a 4 i.toNatClampNeg else if what = 1 then a 5 i.toNatClampNeg else if what = 2 then a 6 i.toNatClampNeg else if what = 3 then a 7 i.toNatClampNeg
  else if what = 4 then a 8 i.toNatClampNeg else if what = 5 then a 9 i.toNatClampNeg else if what = 6 then p_str (a 6 i.toNatClampNeg) (a 8 i.toNatClampNeg) (a 9 i.toNatClampNeg) (g 15) else p_gap (g 13) (g 14) (a 7) i
theorem w03 {w : Int32} (h : ¬ inI w 0 7 = 0) (h4 : ¬ 4 ≤ w) (h0 : ¬ w = 0) (h1 : ¬ w = 1) (h2 : ¬ w = 2) : w = 3 := by
  obtain ⟨a, b⟩ := inI_yes h
  have e0 : (0 : Int32).toInt = 0 := by decide
  have e1 : (1 : Int32).toInt = 1 := by decide
  have e2 : (2 : Int32).toInt = 2 := by decide
  have e3 : (3 : Int32).toInt = 3 := by decide
  have e4 : (4 : Int32).toInt = 4 := by decide
  simp only [Int32.le_iff_toInt_le, ← Int32.toInt_inj] at *
  omega
theorem w_ge2 {w : Int32} (h : ¬ inI w 0 7 = 0) (h0 : ¬ w = 0) (h1 : ¬ w = 1) : ¬ w < 2 := by
  obtain ⟨a, b⟩ := inI_yes h
  have e0 : (0 : Int32).toInt = 0 := by decide
  have e1 : (1 : Int32).toInt = 1 := by decide
  have e2 : (2 : Int32).toInt = 2 := by decide
  simp only [Int32.lt_iff_toInt_lt, ← Int32.toInt_inj] at *
  omega
theorem w_ge4 {w : Int32} (h : 4 ≤ w) : ¬ w < 2 ∧ ¬ w = 0 ∧ ¬ w = 1 ∧ ¬ w = 2 ∧ ¬ w = 3 := by
  have e0 : (0 : Int32).toInt = 0 := by decide
  have e1 : (1 : Int32).toInt = 1 := by decide
  have e2 : (2 : Int32).toInt = 2 := by decide
  have e3 : (3 : Int32).toInt = 3 := by decide
  have e4 : (4 : Int32).toInt = 4 := by decide
  simp only [Int32.lt_iff_toInt_lt, Int32.le_iff_toInt_le, ← Int32.toInt_inj] at *
  omega
set_option maxRecDepth 100000 in
set_option maxHeartbeats 4000000 in
theorem m_told_40 (E : ag) (q : Nat → Nat) (g : Nat → Int32) (tw : Int64) (a : Nat → Nat → Int32) (i what : Int32) (hw : ¬ inI what 0 7 = 0) (h1 : what < 2 → vp_in i 12) (h2 : ¬ what < 2 → vp_in i 5 ∧ vp_in (g 13 - 1) 5 ∧ (¬ i = 0 → vp_in (i - 1) 5)) (hb : ¬ g 14 = 0) (hno : ¬ (inI what 0 7 = 0 ∨ (¬ 2 ≤ what ∧ inI i 0 11 = 0) ∨ (¬ what < 2 ∧ inI i 0 (g 13 - 1) = 0))) : AW E mX6_told 3 0 0 40 [some (.ref (q 0)), some (.int i), some (.int what)] [] (MW E q g tw a) (ri (fun r w => r = m_toldR g a i what ∧ w = MW E q g tw a)) := by
  rw [show m_toldR g a i what = _ from if_neg hno]
  refine A_iload_n (dX6_told 21 rfl) rfl ?_
  refine A_iconst (4) (dX6_told 22 rfl) (by decide +kernel) ?_
  refine A_icmp_ge 93 (dX6_told 23 rfl) (by decide) (fun h42 => ?_) (fun h42 => ?_)
  · obtain ⟨q2, q0, q1, q22, q3⟩ := w_ge4 h42
    obtain ⟨i5, im, ip⟩ := h2 q2
    refine A_iload_n (dX6_told 52 rfl) rfl ?_
    refine A_iconst (4) (dX6_told 53 rfl) (by decide +kernel) ?_
    refine A_icmp_ne 107 (dX6_told 54 rfl) (by decide) (fun h95 => ?_) (fun h95 => ?_)
    · refine A_iload_n (dX6_told 60 rfl) rfl ?_
      refine A_iconst (5) (dX6_told 61 rfl) (by decide +kernel) ?_
      refine A_icmp_ne 121 (dX6_told 62 rfl) (by decide) (fun h109 => ?_) (fun h109 => ?_)
      · refine A_iload_n (dX6_told 68 rfl) rfl ?_
        refine A_bipush (6) (dX6_told 69 rfl) (by decide +kernel) ?_
        refine A_icmp_ne 135 (dX6_told 70 rfl) (by decide) (fun h124 => ?_) (fun h124 => ?_)
        · refine A_aload_n (dX6_told 75 rfl) rfl ?_
          refine A_iload_n (dX6_told 76 rfl) rfl ?_
          refine A_callVWi 1 (dX6_told 77 rfl) cbX6_gapOf cwX6_151 (m_gapOf E q g tw a i i5 im ip hb) rfl rfl MW_0 rfl rfl (Nat.le_of_ble_eq_true rfl) (Nat.le_of_ble_eq_true rfl) (Nat.le_of_ble_eq_true rfl) (Nat.le_of_ble_eq_true rfl) (Nat.le_of_ble_eq_true rfl) ?_
          rintro r137 w1 ⟨rfl, rfl⟩
          refine AW.pcq (pc2 := 140) rfl ?_
          refine A_ri (dX6_told 78 rfl) rfl rfl ?_
          refine ⟨?_, rfl⟩
          simp_all
        · refine A_aload_n (dX6_told 71 rfl) rfl ?_
          refine A_iload_n (dX6_told 72 rfl) rfl ?_
          refine A_callVWi 1 (dX6_told 73 rfl) cbX6_strikes cwX6_147 (m_strikes E q g tw a i i5) rfl rfl MW_0 rfl rfl (Nat.le_of_ble_eq_true rfl) (Nat.le_of_ble_eq_true rfl) (Nat.le_of_ble_eq_true rfl) (Nat.le_of_ble_eq_true rfl) (Nat.le_of_ble_eq_true rfl) ?_
          rintro r129 w1 ⟨rfl, rfl⟩
          refine AW.pcq (pc2 := 132) rfl ?_
          refine A_goto 140 (dX6_told 74 rfl) (by decide) ?_
          refine A_ri (dX6_told 78 rfl) rfl rfl ?_
          refine ⟨?_, rfl⟩
          simp_all
      · refine A_aload_n (dX6_told 63 rfl) rfl ?_
        refine A_get (dX6_told 64 rfl) fwX6_38 MW_0 MF_12 ?_
        refine A_iload_n (dX6_told 65 rfl) rfl ?_
        refine A_iald (dX6_told 66 rfl) MW_9 (by assumption) ?_
        refine A_goto 140 (dX6_told 67 rfl) (by decide) ?_
        refine A_ri (dX6_told 78 rfl) rfl rfl ?_
        refine ⟨?_, rfl⟩
        simp_all
    · refine A_aload_n (dX6_told 55 rfl) rfl ?_
      refine A_get (dX6_told 56 rfl) fwX6_35 MW_0 MF_11 ?_
      refine A_iload_n (dX6_told 57 rfl) rfl ?_
      refine A_iald (dX6_told 58 rfl) MW_8 (by assumption) ?_
      refine A_goto 140 (dX6_told 59 rfl) (by decide) ?_
      refine A_ri (dX6_told 78 rfl) rfl rfl ?_
      refine ⟨?_, rfl⟩
      simp_all
  · refine A_iload_n (dX6_told 24 rfl) rfl ?_
    refine A_if_ne 58 (dX6_told 25 rfl) (by decide) (fun h46 => ?_) (fun h46 => ?_)
    · refine A_iload_n (dX6_told 31 rfl) rfl ?_
      refine A_iconst (1) (dX6_told 32 rfl) (by decide +kernel) ?_
      refine A_icmp_ne 72 (dX6_told 33 rfl) (by decide) (fun h60 => ?_) (fun h60 => ?_)
      · refine A_iload_n (dX6_told 39 rfl) rfl ?_
        refine A_iconst (2) (dX6_told 40 rfl) (by decide +kernel) ?_
        refine A_icmp_ne 86 (dX6_told 41 rfl) (by decide) (fun h74 => ?_) (fun h74 => ?_)
        · refine A_aload_n (dX6_told 47 rfl) rfl ?_
          refine A_get (dX6_told 48 rfl) fwX6_32 MW_0 MF_10 ?_
          refine A_iload_n (dX6_told 49 rfl) rfl ?_
          refine A_iald (dX6_told 50 rfl) MW_7 (h2 (w_ge2 hw h46 h60)).1 ?_
          refine A_ri (dX6_told 51 rfl) rfl rfl ?_
          refine ⟨?_, rfl⟩
          first | (simp_all; done) | (have := w03 hw (by assumption) (by assumption) (by assumption) (by assumption); simp_all)
        · refine A_aload_n (dX6_told 42 rfl) rfl ?_
          refine A_get (dX6_told 43 rfl) fwX6_29 MW_0 MF_9 ?_
          refine A_iload_n (dX6_told 44 rfl) rfl ?_
          refine A_iald (dX6_told 45 rfl) MW_6 (h2 (by rw [h74]; decide)).1 ?_
          refine A_goto 92 (dX6_told 46 rfl) (by decide) ?_
          refine A_ri (dX6_told 51 rfl) rfl rfl ?_
          refine ⟨?_, rfl⟩
          first | (simp_all; done) | (have := w03 hw (by assumption) (by assumption) (by assumption) (by assumption); simp_all)
      · refine A_aload_n (dX6_told 34 rfl) rfl ?_
        refine A_get (dX6_told 35 rfl) fwX6_26 MW_0 MF_8 ?_
        refine A_iload_n (dX6_told 36 rfl) rfl ?_
        refine A_iald (dX6_told 37 rfl) MW_5 (h1 (by rw [h60]; decide)) ?_
        refine A_goto 92 (dX6_told 38 rfl) (by decide) ?_
        refine A_ri (dX6_told 51 rfl) rfl rfl ?_
        refine ⟨?_, rfl⟩
        first | (simp_all; done) | (have := w03 hw (by assumption) (by assumption) (by assumption) (by assumption); simp_all)
    · refine A_aload_n (dX6_told 26 rfl) rfl ?_
      refine A_get (dX6_told 27 rfl) fwX6_23 MW_0 MF_7 ?_
      refine A_iload_n (dX6_told 28 rfl) rfl ?_
      refine A_iald (dX6_told 29 rfl) MW_4 (h1 (by rw [h46]; decide)) ?_
      refine A_goto 92 (dX6_told 30 rfl) (by decide) ?_
      refine A_ri (dX6_told 51 rfl) rfl rfl ?_
      refine ⟨?_, rfl⟩
      first | (simp_all; done) | (have := w03 hw (by assumption) (by assumption) (by assumption) (by assumption); simp_all)

set_option maxRecDepth 100000 in
set_option maxHeartbeats 4000000 in
theorem m_told (E : ag) (q : Nat → Nat) (g : Nat → Int32) (tw : Int64) (a : Nat → Nat → Int32) (i what : Int32) (m : Nat) (hm5 : m ≤ 5) (hgm : g 13 = nI m) (hb : ¬ g 14 = 0) : CT E yX6_told cX6_told 3 mX6_told.2.2.2.1 3 0 0 [.ref (q 0), .int i, .int what] (MW E q g tw a) (ri (fun r w => r = m_toldR g a i what ∧ w = MW E q g tw a)) := by
  refine CT.of (M := mX6_told) (ls := [some (.ref (q 0)), some (.int i), some (.int what)]) (by decide) rfl (by decide) rfl (Nat.le_of_ble_eq_true rfl) ?_
  refine A_iload_n (dX6_told 0 rfl) rfl ?_
  refine A_i2l (dX6_told 1 rfl) ?_
  refine A_lconst (0) (dX6_told 2 rfl) (by decide +kernel) ?_
  refine A_ldc2 (dX6_told 3 rfl) kcX6_145 ?_
  refine A_callSWi 3 (dX6_told 4 rfl) cbX6_in cwX6_103 (m_in E _ what 0 7 _ _ _ rfl (by decide) (by decide)) rfl rfl (Nat.le_of_ble_eq_true rfl) (Nat.le_of_ble_eq_true rfl) (Nat.le_of_ble_eq_true rfl) (Nat.le_of_ble_eq_true rfl) (Nat.le_of_ble_eq_true rfl) ?_
  rintro r6 w1 ⟨rfl, rfl⟩
  refine AW.pcq (pc2 := 9) rfl ?_
  refine A_if_eq 37 (dX6_told 5 rfl) (by decide) (fun h9 => ?_) (fun h9 => ?_)
  · refine A_bipush (-2) (dX6_told 19 rfl) (by decide +kernel) ?_
    refine A_ri (dX6_told 20 rfl) rfl rfl ?_
    refine ⟨?_, rfl⟩
    simp_all [m_toldR]
  · refine A_iload_n (dX6_told 6 rfl) rfl ?_
    refine A_iconst (2) (dX6_told 7 rfl) (by decide +kernel) ?_
    refine A_icmp_ge 24 (dX6_told 8 rfl) (by decide) (fun h14 => ?_) (fun h14 => ?_)
    · refine A_iload_n (dX6_told 12 rfl) rfl ?_
      refine A_iconst (2) (dX6_told 13 rfl) (by decide +kernel) ?_
      refine A_icmp_lt 40 (dX6_told 14 rfl) (by decide) (fun h26 => ?_) (fun h26 => ?_)
      · refine m_told_40 E q g tw a i what h9 (fun z => by first | exact ix_cell (by assumption) | exact absurd z (Int32.not_lt.mpr (by assumption)) | exact absurd z (by assumption)) (fun z => by first | exact absurd (by assumption) z | (obtain ⟨j, hj, rfl⟩ := man_nI hm5 (by rw [← hgm]; assumption); rw [hgm]; exact ⟨vp_in_nI (by omega) (by decide), ix_ahead m hm5 (by omega), ix_pred j (by omega)⟩)) hb ?_
        simp_all [Int32.not_lt, Int32.not_le]
      · refine A_aload_n (dX6_told 15 rfl) rfl ?_
        refine A_iload_n (dX6_told 16 rfl) rfl ?_
        refine A_callVWi 1 (dX6_told 17 rfl) cbX6_isMan cwX6_123 (m_isMan E q g tw a i) rfl rfl MW_0 rfl rfl (Nat.le_of_ble_eq_true rfl) (Nat.le_of_ble_eq_true rfl) (Nat.le_of_ble_eq_true rfl) (Nat.le_of_ble_eq_true rfl) (Nat.le_of_ble_eq_true rfl) ?_
        rintro r31 w1 ⟨rfl, rfl⟩
        refine AW.pcq (pc2 := 34) rfl ?_
        refine A_if_ne 40 (dX6_told 18 rfl) (by decide) (fun h34 => ?_) (fun h34 => ?_)
        · refine m_told_40 E q g tw a i what h9 (fun z => by first | exact ix_cell (by assumption) | exact absurd z (Int32.not_lt.mpr (by assumption)) | exact absurd z (by assumption)) (fun z => by first | exact absurd (by assumption) z | (obtain ⟨j, hj, rfl⟩ := man_nI hm5 (by rw [← hgm]; assumption); rw [hgm]; exact ⟨vp_in_nI (by omega) (by decide), ix_ahead m hm5 (by omega), ix_pred j (by omega)⟩)) hb ?_
          simp_all [Int32.not_lt, Int32.not_le]
        · refine A_bipush (-2) (dX6_told 19 rfl) (by decide +kernel) ?_
          refine A_ri (dX6_told 20 rfl) rfl rfl ?_
          refine ⟨?_, rfl⟩
          simp_all [m_toldR]
    · refine A_iload_n (dX6_told 9 rfl) rfl ?_
      refine A_callSWi 1 (dX6_told 10 rfl) cbX6_isCell cwX6_115 (m_isCell E _ i) rfl rfl (Nat.le_of_ble_eq_true rfl) (Nat.le_of_ble_eq_true rfl) (Nat.le_of_ble_eq_true rfl) (Nat.le_of_ble_eq_true rfl) (Nat.le_of_ble_eq_true rfl) ?_
      rintro r18 w1 ⟨rfl, rfl⟩
      refine AW.pcq (pc2 := 21) rfl ?_
      refine A_if_eq 37 (dX6_told 11 rfl) (by decide) (fun h21 => ?_) (fun h21 => ?_)
      · refine A_bipush (-2) (dX6_told 19 rfl) (by decide +kernel) ?_
        refine A_ri (dX6_told 20 rfl) rfl rfl ?_
        refine ⟨?_, rfl⟩
        simp_all [m_toldR]
      · refine A_iload_n (dX6_told 12 rfl) rfl ?_
        refine A_iconst (2) (dX6_told 13 rfl) (by decide +kernel) ?_
        refine A_icmp_lt 40 (dX6_told 14 rfl) (by decide) (fun h26 => ?_) (fun h26 => ?_)
        · refine m_told_40 E q g tw a i what h9 (fun z => by first | exact ix_cell (by assumption) | exact absurd z (Int32.not_lt.mpr (by assumption)) | exact absurd z (by assumption)) (fun z => by first | exact absurd (by assumption) z | (obtain ⟨j, hj, rfl⟩ := man_nI hm5 (by rw [← hgm]; assumption); rw [hgm]; exact ⟨vp_in_nI (by omega) (by decide), ix_ahead m hm5 (by omega), ix_pred j (by omega)⟩)) hb ?_
          simp_all [Int32.not_lt, Int32.not_le]
        · refine A_aload_n (dX6_told 15 rfl) rfl ?_
          refine A_iload_n (dX6_told 16 rfl) rfl ?_
          refine A_callVWi 1 (dX6_told 17 rfl) cbX6_isMan cwX6_123 (m_isMan E q g tw a i) rfl rfl MW_0 rfl rfl (Nat.le_of_ble_eq_true rfl) (Nat.le_of_ble_eq_true rfl) (Nat.le_of_ble_eq_true rfl) (Nat.le_of_ble_eq_true rfl) (Nat.le_of_ble_eq_true rfl) ?_
          rintro r31 w1 ⟨rfl, rfl⟩
          refine AW.pcq (pc2 := 34) rfl ?_
          refine A_if_ne 40 (dX6_told 18 rfl) (by decide) (fun h34 => ?_) (fun h34 => ?_)
          · refine m_told_40 E q g tw a i what h9 (fun z => by first | exact ix_cell (by assumption) | exact absurd z (Int32.not_lt.mpr (by assumption)) | exact absurd z (by assumption)) (fun z => by first | exact absurd (by assumption) z | (obtain ⟨j, hj, rfl⟩ := man_nI hm5 (by rw [← hgm]; assumption); rw [hgm]; exact ⟨vp_in_nI (by omega) (by decide), ix_ahead m hm5 (by omega), ix_pred j (by omega)⟩)) hb ?_
            simp_all [Int32.not_lt, Int32.not_le]
          · refine A_bipush (-2) (dX6_told 19 rfl) (by decide +kernel) ?_
            refine A_ri (dX6_told 20 rfl) rfl rfl ?_
            refine ⟨?_, rfl⟩
            simp_all [m_toldR]

