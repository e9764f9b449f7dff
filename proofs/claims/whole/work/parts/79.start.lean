/-! THE START: what the launch holds, out of the Statement's words -/
def tmS (i : Nat) : Term := .string (ag_own i) (ag_idx i)
def tmV (i : Nat) : Term := .field (tmS i) "java/lang/String" "value" "[B"
def tmA : Term := .static "FourFlails" "ABOVE" "[I"
theorem st_ex : ∀ i, i < 13 → Cond.exactly (tmS i) "java/lang/String" ∈ flatC (Jvm.Cond.and given_1 narrow_1) := by decide +kernel
theorem st_co : ∀ i, i < 13 → Cond.eq (.field (tmS i) "java/lang/String" "coder" "B") (.int 0) ∈ flatC (Jvm.Cond.and given_1 narrow_1) := by decide +kernel
theorem st_ar : ∀ i, i < 13 → Cond.arrayOf (tmV i) .byte ∈ flatC (Jvm.Cond.and given_1 narrow_1) := by decide +kernel
theorem st_le : ∀ i, i < 13 → Cond.eq (.length (tmV i)) (.int (Int32.ofNat (ag_len.getD i 0))) ∈ flatC (Jvm.Cond.and given_1 narrow_1) := by decide +kernel
theorem st_el : ∀ i, i < 13 → ∀ j, j < ag_len.getD i 0 → Cond.eq (.elem (tmV i) (.int (Int32.ofNat j))) (.int ((ag_byt.getD i []).getD j 0)) ∈ flatC (Jvm.Cond.and given_1 narrow_1) := by decide +kernel
def neT (i j : Nat) : Nat := ([[0, 93, 104, 115, 124, 135, 147, 162, 176, 191, 208, 227, 247], [0, 0, 105, 116, 125, 136, 148, 163, 177, 192, 209, 228, 248], [0, 0, 0, 117, 126, 137, 149, 164, 178, 193, 210, 229, 249], [0, 0, 0, 0, 127, 138, 150, 165, 179, 194, 211, 230, 250], [0, 0, 0, 0, 0, 139, 151, 166, 180, 195, 212, 231, 251], [0, 0, 0, 0, 0, 0, 152, 167, 181, 196, 213, 232, 252], [0, 0, 0, 0, 0, 0, 0, 168, 182, 197, 214, 233, 253], [0, 0, 0, 0, 0, 0, 0, 0, 183, 198, 215, 234, 254], [0, 0, 0, 0, 0, 0, 0, 0, 0, 199, 216, 235, 255], [0, 0, 0, 0, 0, 0, 0, 0, 0, 0, 217, 236, 256], [0, 0, 0, 0, 0, 0, 0, 0, 0, 0, 0, 237, 257], [0, 0, 0, 0, 0, 0, 0, 0, 0, 0, 0, 0, 258], [0, 0, 0, 0, 0, 0, 0, 0, 0, 0, 0, 0, 0]].getD i []).getD j 0
theorem st_ne0 : ∀ j, j < 13 → 0 < j → (flatC (Jvm.Cond.and given_1 narrow_1))[neT 0 j]? = some (Cond.not (Cond.eq (tmS 0) (tmS j))) := by decide +kernel
theorem st_ne1 : ∀ j, j < 13 → 1 < j → (flatC (Jvm.Cond.and given_1 narrow_1))[neT 1 j]? = some (Cond.not (Cond.eq (tmS 1) (tmS j))) := by decide +kernel
theorem st_ne2 : ∀ j, j < 13 → 2 < j → (flatC (Jvm.Cond.and given_1 narrow_1))[neT 2 j]? = some (Cond.not (Cond.eq (tmS 2) (tmS j))) := by decide +kernel
theorem st_ne3 : ∀ j, j < 13 → 3 < j → (flatC (Jvm.Cond.and given_1 narrow_1))[neT 3 j]? = some (Cond.not (Cond.eq (tmS 3) (tmS j))) := by decide +kernel
theorem st_ne4 : ∀ j, j < 13 → 4 < j → (flatC (Jvm.Cond.and given_1 narrow_1))[neT 4 j]? = some (Cond.not (Cond.eq (tmS 4) (tmS j))) := by decide +kernel
theorem st_ne5 : ∀ j, j < 13 → 5 < j → (flatC (Jvm.Cond.and given_1 narrow_1))[neT 5 j]? = some (Cond.not (Cond.eq (tmS 5) (tmS j))) := by decide +kernel
theorem st_ne6 : ∀ j, j < 13 → 6 < j → (flatC (Jvm.Cond.and given_1 narrow_1))[neT 6 j]? = some (Cond.not (Cond.eq (tmS 6) (tmS j))) := by decide +kernel
theorem st_ne7 : ∀ j, j < 13 → 7 < j → (flatC (Jvm.Cond.and given_1 narrow_1))[neT 7 j]? = some (Cond.not (Cond.eq (tmS 7) (tmS j))) := by decide +kernel
theorem st_ne8 : ∀ j, j < 13 → 8 < j → (flatC (Jvm.Cond.and given_1 narrow_1))[neT 8 j]? = some (Cond.not (Cond.eq (tmS 8) (tmS j))) := by decide +kernel
theorem st_ne9 : ∀ j, j < 13 → 9 < j → (flatC (Jvm.Cond.and given_1 narrow_1))[neT 9 j]? = some (Cond.not (Cond.eq (tmS 9) (tmS j))) := by decide +kernel
theorem st_ne10 : ∀ j, j < 13 → 10 < j → (flatC (Jvm.Cond.and given_1 narrow_1))[neT 10 j]? = some (Cond.not (Cond.eq (tmS 10) (tmS j))) := by decide +kernel
theorem st_ne11 : ∀ j, j < 13 → 11 < j → (flatC (Jvm.Cond.and given_1 narrow_1))[neT 11 j]? = some (Cond.not (Cond.eq (tmS 11) (tmS j))) := by decide +kernel
theorem st_neI (i j : Nat) (hi : i < 13) (hj : j < 13) (h : i < j) : Cond.not (Cond.eq (tmS i) (tmS j)) ∈ flatC (Jvm.Cond.and given_1 narrow_1) := by
  match i with
  | 0 => exact List.mem_of_getElem? (st_ne0 j hj h)
  | 1 => exact List.mem_of_getElem? (st_ne1 j hj h)
  | 2 => exact List.mem_of_getElem? (st_ne2 j hj h)
  | 3 => exact List.mem_of_getElem? (st_ne3 j hj h)
  | 4 => exact List.mem_of_getElem? (st_ne4 j hj h)
  | 5 => exact List.mem_of_getElem? (st_ne5 j hj h)
  | 6 => exact List.mem_of_getElem? (st_ne6 j hj h)
  | 7 => exact List.mem_of_getElem? (st_ne7 j hj h)
  | 8 => exact List.mem_of_getElem? (st_ne8 j hj h)
  | 9 => exact List.mem_of_getElem? (st_ne9 j hj h)
  | 10 => exact List.mem_of_getElem? (st_ne10 j hj h)
  | 11 => exact List.mem_of_getElem? (st_ne11 j hj h)
  | i + 12 => omega
theorem st_ne (i : Nat) (hi : i < 13) (j : Nat) (hj : j < 13) (h : i ≠ j) : Cond.not (Cond.eq (tmS i) (tmS j)) ∈ flatC (Jvm.Cond.and given_1 narrow_1) ∨ Cond.not (Cond.eq (tmS j) (tmS i)) ∈ flatC (Jvm.Cond.and given_1 narrow_1) := by
  rcases Nat.lt_or_ge i j with z | z
  · exact Or.inl (st_neI i j hi hj z)
  · exact Or.inr (st_neI j i hj hi (by omega))
theorem st_ln : ∀ i, i < 13 → ag_len.getD i 0 < 2 ^ 31 := by decide +kernel
theorem st_aa : Cond.arrayOf tmA .int ∈ flatC (Jvm.Cond.and given_1 narrow_1) := by decide +kernel
theorem st_al : Cond.eq (.length tmA) (.int (Int32.ofNat 6)) ∈ flatC (Jvm.Cond.and given_1 narrow_1) := by decide +kernel
theorem st_ae : ∀ j, j < 6 → Cond.eq (.elem tmA (.int (Int32.ofNat j))) (.int (ag_above j)) ∈ flatC (Jvm.Cond.and given_1 narrow_1) := by decide +kernel
theorem st_cs : Cond.eq (.static "java/lang/String" "COMPACT_STRINGS" "Z") (.int 1) ∈ flatC (Jvm.Cond.and given_1 narrow_1) := by decide +kernel
theorem st_sf : Cond.isRef (.static "jdk/internal/util/Preconditions" "SIOOBE_FORMATTER" "Ljava/util/function/BiFunction;") ∈ flatC (Jvm.Cond.and given_1 narrow_1) := by decide +kernel
theorem st_sr : ∀ i, i < 13 → Cond.stringRef (ag_own i) (ag_idx i) (ag_txt i) ∈ lw_tbl := by decide +kernel
theorem st_nn : ∀ q ∈ ag_nest, Cond.methodLinkNest q.1 q.2.1 q.2.2.1 q.2.2.2 ∈ lw_tbl := by decide +kernel
set_option maxRecDepth 100000 in
set_option maxHeartbeats 4000000 in
theorem ac_start {s : State} {args : Array Value} (h0 : ∀ w ∈ lw_tbl, w.before args s = true) (hg : (Jvm.Cond.and given_1 narrow_1).before args s = true) : ∃ E : ag, ac_C E (fun q => s.heap.size ≤ q) s s.heap := by
  have hA : ∀ a : Nat, a < s.heap.size → ¬ (fun q => s.heap.size ≤ q) a := fun a h => Nat.not_le.mpr h
  have hs := flat_of_before _ hg
  have hts : ∀ w ∈ gtbl, w.before args s = true := fun w hw => h0 w (List.mem_filter.mp hw).1
  obtain ⟨c0, i0, k0⟩ := u_known (C := RX0) (T := TX0) (N := 6) (n := 6) hts uwX0 (hts _ (gt_in 137 (by decide +kernel) (by decide +kernel)))
  obtain ⟨c1, i1, k1⟩ := u_known (C := RX1) (T := TX1) (N := 11) (n := 11) hts uwX1 (hts _ (gt_in 78 (by decide +kernel) (by decide +kernel)))
  obtain ⟨c2, i2, k2⟩ := u_known (C := RX2) (T := TX2) (N := 7) (n := 7) hts uwX2 (hts _ (gt_in 164 (by decide +kernel) (by decide +kernel)))
  obtain ⟨c3, i3, k3⟩ := u_known (C := RX3) (T := TX3) (N := 2) (n := 2) hts uwX3 (hts _ (gt_in 661 (by decide +kernel) (by decide +kernel)))
  obtain ⟨c4, i4, k4⟩ := u_known (C := RX4) (T := TX4) (N := 3) (n := 3) hts uwX4 (hts _ (gt_in 170 (by decide +kernel) (by decide +kernel)))
  obtain ⟨c5, i5, k5⟩ := u_known (C := RX5) (T := TX5) (N := 11) (n := 11) hts uwX5 (hts _ (gt_in 70 (by decide +kernel) (by decide +kernel)))
  obtain ⟨c6, i6, k6⟩ := u_known (C := RX6) (T := TX6) (N := 64) (n := 64) hts uwX6 (hts _ (gt_in 706 (by decide +kernel) (by decide +kernel)))
  obtain ⟨aI, kI, pI, a1, a2, a3⟩ := Cond.arrayClass_spec (h0 (Cond.arrayClass FieldType.int) (List.mem_of_getElem? (i := 135) (by decide +kernel)))
  obtain ⟨aZ, kZ, pZ, b1, b2, b3⟩ := Cond.arrayClass_spec (h0 (Cond.arrayClass FieldType.boolean) (List.mem_of_getElem? (i := 907) (by decide +kernel)))
  obtain ⟨pS, aS, kS, d1, d2, d3, d4, d5⟩ := Cond.arrayOver_spec (h0 (Cond.arrayOver (FieldType.object "FourFlails$Sheet")) (List.mem_of_getElem? (i := 212) (by decide +kernel)))
  obtain ⟨pT, aT, kT, e1, e2, e3, e4, e5⟩ := Cond.arrayOver_spec (h0 (Cond.arrayOver (FieldType.object "FourFlails$Text")) (List.mem_of_getElem? (i := 210) (by decide +kernel)))
  obtain ⟨adK, adV, hS, hev⟩ := vk_Sof (args := args) (s := s) (N := 13) (tm := tmS) (len := ag_len) (byt := ag_byt) (A := fun q => s.heap.size ≤ q) st_ln (fun i hi => hs _ (st_ex i hi)) (fun i hi => hs _ (st_co i hi)) (fun i hi => hs _ (st_ar i hi)) (fun i hi => hs _ (st_le i hi)) (fun i hi j hj => hs _ (st_el i hi j hj)) (fun i j hi hj hij => (st_ne i hi j hj hij).imp (hs _) (hs _)) hA
  obtain ⟨tA, htA, hTA⟩ := va_Tof (tm := tmA) (ty := .int) (N := 6) (f := fun j => .int (ag_above j)) (A := fun q => s.heap.size ≤ q) (by decide) (hs _ st_aa) (va_eqt (hs _ st_al)) (fun j hj => va_eqt (hs _ (st_ae j hj))) hA
  refine ⟨((fun k => [c0, c1, c2, c3, c4, c5, c6].getD k c0, fun k => [i0, i1, i2, i3, i4, i5, i6].getD k i0), fun k => [aI, aZ, aS, aT].getD k aI, adK, adV, tA), ⟨fun k q hq => ?_, fun k q hq => ?_⟩, hS, fun i hi => vk_R.of (h0 _ (st_sr i hi)) (hev i hi), hTA, va_Zof (h0 _ (List.mem_of_getElem? (i := 704) (by decide +kernel))) (h0 _ (List.mem_of_getElem? (i := 56) (by decide +kernel))) htA hA, va_Zof (h0 _ (List.mem_of_getElem? (i := 224) (by decide +kernel))) (h0 _ (List.mem_of_getElem? (i := 61) (by decide +kernel))) (va_eqt (hs _ st_cs)) hA, fun q hq => va_Nw.of rfl (h0 _ (st_nn q hq)), va_AO.of (h0 _ (List.mem_of_getElem? (i := 212) (by decide +kernel))), va_AO.of (h0 _ (List.mem_of_getElem? (i := 210) (by decide +kernel))), va_Zqof (h0 _ (List.mem_of_getElem? (i := 240) (by decide +kernel))) (h0 _ (List.mem_of_getElem? (i := 63) (by decide +kernel))) (hs _ st_sf) hA⟩
  · match k, hq with
    | 0, hq => cases hq; exact k0
    | 1, hq => cases hq; exact k1
    | 2, hq => cases hq; exact k2
    | 3, hq => cases hq; exact k3
    | 4, hq => cases hq; exact k4
    | 5, hq => cases hq; exact k5
    | 6, hq => cases hq; exact k6
    | k + 7, hq => simp at hq
  · match k, hq with
    | 0, hq => cases hq; exact ⟨fun n z => ⟨fun k h => (by cases h), kI, a2, pI, a3⟩, a1⟩
    | 1, hq => cases hq; exact ⟨fun n z => ⟨fun k h => (by cases h), kZ, b2, pZ, b3⟩, b1⟩
    | 2, hq => cases hq; exact ⟨fun n z => ⟨fun k h => (by cases h), kS, d3, pS, d4⟩, kS, pS, d3, d4, d1, d5⟩
    | 3, hq => cases hq; exact ⟨fun n z => ⟨fun k h => (by cases h), kT, e3, pT, e4⟩, kT, pT, e3, e4, e1, e5⟩
    | k + 4, hq => simp at hq
