/-! PLAIN METHODS OF THE REFERENCE -/
def inI (v l h : Int32) : Int32 := if l ≤ v ∧ v ≤ h then 1 else 0
theorem inI_no {v l h : Int32} (q : inI v l h = 0) : ¬ (l ≤ v ∧ v ≤ h) := fun z => by simp [inI, z] at q
theorem inI_yes {v l h : Int32} (q : ¬ inI v l h = 0) : l.toInt ≤ v.toInt ∧ v.toInt ≤ h.toInt := by
  by_cases z : l ≤ v ∧ v ≤ h
  · exact ⟨Int32.le_iff_toInt_le.mp z.1, Int32.le_iff_toInt_le.mp z.2⟩
  · exact absurd (by simp [inI, z]) q
theorem inI_of {v l h : Int32} (a : l ≤ v) (b : v ≤ h) : inI v l h = 1 := by simp [inI, a, b]
theorem inI_lo {v l h : Int32} (a : ¬ l ≤ v) : inI v l h = 0 := by simp [inI, a]
theorem inI_hi {v l h : Int32} (b : ¬ v ≤ h) : inI v l h = 0 := by simp [inI, b]
theorem wide_le (a b : Int32) : a.toInt64 ≤ b.toInt64 ↔ a ≤ b := by rw [Int64.le_iff_toInt_le, Int32.le_iff_toInt_le, Int32.toInt_toInt64, Int32.toInt_toInt64]
theorem cmp_neg (x y : Int64) : lg_cmp x y < 0 ↔ x < y := by
  unfold lg_cmp
  simp only [GT.gt, Int64.lt_iff_toInt_lt, ← Int64.toInt_inj]
  split
  · exact ⟨fun z => absurd z (by decide), fun z => by omega⟩
  · split
    · exact ⟨fun z => absurd z (by decide), fun z => by omega⟩
    · exact ⟨fun _ => by omega, fun _ => by decide⟩
theorem cmp_pos (x y : Int64) : 0 < lg_cmp x y ↔ y < x := by
  unfold lg_cmp
  simp only [GT.gt, Int64.lt_iff_toInt_lt, ← Int64.toInt_inj]
  split
  · rename_i h
    exact ⟨fun _ => h, fun _ => by decide⟩
  · split
    · exact ⟨fun z => absurd z (by decide), fun z => by omega⟩
    · exact ⟨fun z => absurd z (by decide), fun z => by omega⟩
theorem cmp_z (x y : Int64) : lg_cmp x y = 0 ↔ x = y := by
  unfold lg_cmp
  simp only [GT.gt, Int64.lt_iff_toInt_lt, ← Int64.toInt_inj]
  split
  · exact ⟨fun z => absurd z (by decide), fun z => by omega⟩
  · split
    · rename_i h
      exact ⟨fun _ => h, fun _ => rfl⟩
    · exact ⟨fun z => absurd z (by decide), fun z => by omega⟩
theorem inI_nar {v l h : Int32} : narrow .boolean (.int (inI v l h)) = .int (inI v l h) := by unfold inI; split <;> decide
theorem nnar0 : narrow .boolean (.int 0) = .int 0 := by decide
theorem nnar1 : narrow .boolean (.int 1) = .int 1 := by decide
def wiI (v l h : Int32) : Int32 := if v < l then l else if h < v then h else v

set_option maxRecDepth 100000 in
set_option maxHeartbeats 4000000 in
theorem m_in (E : ag) (ws : va_W) (v l h : Int32) (V L H : Int64) (hv : V = v.toInt64) (hl : L = l.toInt64) (hh : H = h.toInt64) : CT E yX6_in cX6_in 6 mX6_in.2.2.2.1 1 0 0 [.long V, .long L, .long H] (ws) (ri (fun r w => r = inI v l h ∧ w = ws)) := by
  refine CT.of (M := mX6_in) (ls := [some (.long V), none, some (.long L), none, some (.long H), none]) (by decide) rfl (by decide) rfl (Nat.le_of_ble_eq_true rfl) ?_
  refine A_lload_n (dX6_in 0 rfl) rfl ?_
  refine A_lload_n (dX6_in 1 rfl) rfl ?_
  refine A_lcmp (dX6_in 2 rfl) ?_
  refine A_if_lt 17 (dX6_in 3 rfl) (by decide) (fun h3 => ?_) (fun h3 => ?_)
  · refine A_iconst (0) (dX6_in 10 rfl) (by decide +kernel) ?_
    refine A_ri (dX6_in 11 rfl) rfl rfl ?_
    refine ⟨?_, rfl⟩
    subst hv hl hh
    simp only [cmp_neg, cmp_pos, Int64.lt_iff_toInt_lt, Int32.toInt_toInt64] at *
    simp only [inI, Int32.le_iff_toInt_le]
    split <;> first | rfl | omega
  · refine A_lload_n (dX6_in 4 rfl) rfl ?_
    refine A_lload (dX6_in 5 rfl) rfl ?_
    refine A_lcmp (dX6_in 6 rfl) ?_
    refine A_if_gt 17 (dX6_in 7 rfl) (by decide) (fun h10 => ?_) (fun h10 => ?_)
    · refine A_iconst (0) (dX6_in 10 rfl) (by decide +kernel) ?_
      refine A_ri (dX6_in 11 rfl) rfl rfl ?_
      refine ⟨?_, rfl⟩
      subst hv hl hh
      simp only [cmp_neg, cmp_pos, Int64.lt_iff_toInt_lt, Int32.toInt_toInt64] at *
      simp only [inI, Int32.le_iff_toInt_le]
      split <;> first | rfl | omega
    · refine A_iconst (1) (dX6_in 8 rfl) (by decide +kernel) ?_
      refine A_goto 18 (dX6_in 9 rfl) (by decide) ?_
      refine A_ri (dX6_in 11 rfl) rfl rfl ?_
      refine ⟨?_, rfl⟩
      subst hv hl hh
      simp only [cmp_neg, cmp_pos, Int64.lt_iff_toInt_lt, Int32.toInt_toInt64] at *
      simp only [inI, Int32.le_iff_toInt_le]
      split <;> first | rfl | omega

set_option maxRecDepth 100000 in
set_option maxHeartbeats 4000000 in
theorem m_within (E : ag) (ws : va_W) (v l h : Int32) : CT E yX6_within cX6_within 3 mX6_within.2.2.2.1 1 0 0 [.int v, .int l, .int h] (ws) (ri (fun r w => r = wiI v l h ∧ w = ws)) := by
  refine CT.of (M := mX6_within) (ls := [some (.int v), some (.int l), some (.int h)]) (by decide) rfl (by decide) rfl (Nat.le_of_ble_eq_true rfl) ?_
  refine A_iload_n (dX6_within 0 rfl) rfl ?_
  refine A_iload_n (dX6_within 1 rfl) rfl ?_
  refine A_icmp_ge 9 (dX6_within 2 rfl) (by decide) (fun h2 => ?_) (fun h2 => ?_)
  · refine A_iload_n (dX6_within 5 rfl) rfl ?_
    refine A_iload_n (dX6_within 6 rfl) rfl ?_
    refine A_icmp_le 18 (dX6_within 7 rfl) (by decide) (fun h11 => ?_) (fun h11 => ?_)
    · refine A_iload_n (dX6_within 10 rfl) rfl ?_
      refine A_ri (dX6_within 11 rfl) rfl rfl ?_
      refine ⟨?_, rfl⟩
      simp only [Int32.lt_iff_toInt_lt, Int32.le_iff_toInt_le] at *
      simp only [wiI, Int32.lt_iff_toInt_lt]
      repeat (first | rfl | omega | split)
    · refine A_iload_n (dX6_within 8 rfl) rfl ?_
      refine A_goto 19 (dX6_within 9 rfl) (by decide) ?_
      refine A_ri (dX6_within 11 rfl) rfl rfl ?_
      refine ⟨?_, rfl⟩
      simp only [Int32.lt_iff_toInt_lt, Int32.le_iff_toInt_le] at *
      simp only [wiI, Int32.lt_iff_toInt_lt]
      repeat (first | rfl | omega | split)
  · refine A_iload_n (dX6_within 3 rfl) rfl ?_
    refine A_goto 19 (dX6_within 4 rfl) (by decide) ?_
    refine A_ri (dX6_within 11 rfl) rfl rfl ?_
    refine ⟨?_, rfl⟩
    simp only [Int32.lt_iff_toInt_lt, Int32.le_iff_toInt_le] at *
    simp only [wiI, Int32.lt_iff_toInt_lt]
    repeat (first | rfl | omega | split)

set_option maxRecDepth 100000 in
set_option maxHeartbeats 4000000 in
theorem m_isMan (E : ag) (q : Nat → Nat) (g : Nat → Int32) (tw : Int64) (a : Nat → Nat → Int32) (i : Int32) : CT E yX6_isMan cX6_isMan 2 mX6_isMan.2.2.2.1 2 0 0 [.ref (q 0), .int i] (MW E q g tw a) (ri (fun r w => r = inI i 0 (g 13 - 1) ∧ w = MW E q g tw a)) := by
  refine CT.of (M := mX6_isMan) (ls := [some (.ref (q 0)), some (.int i)]) (by decide) rfl (by decide) rfl (Nat.le_of_ble_eq_true rfl) ?_
  refine A_iload_n (dX6_isMan 0 rfl) rfl ?_
  refine A_i2l (dX6_isMan 1 rfl) ?_
  refine A_lconst (0) (dX6_isMan 2 rfl) (by decide +kernel) ?_
  refine A_aload_n (dX6_isMan 3 rfl) rfl ?_
  refine A_get (dX6_isMan 4 rfl) fwX6_100 MW_0 MF_13 ?_
  refine A_iconst (1) (dX6_isMan 5 rfl) (by decide +kernel) ?_
  refine A_isub (dX6_isMan 6 rfl) ?_
  refine A_i2l (dX6_isMan 7 rfl) ?_
  refine AW.pcq (pc2 := 10) rfl ?_
  refine A_callSWi 3 (dX6_isMan 8 rfl) cbX6_in cwX6_103 (m_in E _ i 0 (g 13 - 1) _ _ _ rfl (by decide) rfl) rfl rfl (Nat.le_of_ble_eq_true rfl) (Nat.le_of_ble_eq_true rfl) (Nat.le_of_ble_eq_true rfl) (Nat.le_of_ble_eq_true rfl) (Nat.le_of_ble_eq_true rfl) ?_
  rintro r10 w1 ⟨rfl, rfl⟩
  refine AW.pcq (pc2 := 13) rfl ?_
  refine A_ri (dX6_isMan 9 rfl) rfl inI_nar ?_
  exact ⟨rfl, rfl⟩

