def shB (s k n : Int32) : Prop := inI s 0 3 = 0 ∨ inI k (-1) 2 = 0 ∨ (¬ k < 0 ∧ 40 < n)
def shA (a : Nat → Nat → Int32) (j : Nat) (x k n : Int32) : Nat → Nat → Int32 := va_up (va_up (va_up a 21 (upd (a 21) j x)) 22 (upd (a 22) j k)) 23 (upd (a 23) j n)
def zr (s n : Nat) (f : Nat → Int32) : Nat → Int32 := fun k => if s ≤ k ∧ k < s + n then 0 else f k
theorem zr_0 (s : Nat) (f : Nat → Int32) : zr s 0 f = f := by funext k; simp only [zr]; rw [if_neg (by omega)]
theorem zr_s (s c : Nat) (f : Nat → Int32) : upd (zr s c f) (s + c) 0 = zr s (c + 1) f := by
  funext k
  simp only [upd, zr]
  by_cases e : k = s + c
  · rw [if_pos e, if_pos (by omega)]
  · rw [if_neg e]
    by_cases e2 : s ≤ k ∧ k < s + c
    · rw [if_pos e2, if_pos (by omega)]
    · rw [if_neg e2, if_neg (by omega)]
theorem nb1 : vp_nar .boolean 1 = 1 := by decide
theorem nb0 : vp_nar .boolean 0 = 0 := by decide
theorem mul40 (j k : Nat) : (40 : Int32) * nI j + nI k = nI (40 * j + k) := by rw [show (40 : Int32) * nI j = nI (40 * j) from pk_mul 40 j, nI_add]
theorem up24 {a : Nat → Nat → Int32} {i : Nat} {f h : Nat → Int32} : va_up (va_up a i f) i h = va_up a i h := by funext k; simp only [va_up]; split <;> rfl
set_option maxRecDepth 100000 in
set_option maxHeartbeats 400000 in
theorem m_sheetL (E : ag) (q : Nat → Nat) (g : Nat → Int32) (tw : Int64) (a : Nat → Nat → Int32) (j N : Nat) (hj : j < 4) (hN : N ≤ 40) (k : Int32) (hk : ¬ k < 0) : ∀ (n c : Nat), c + n = N → AW E mX6_sheet 3 0 0 77 [some (.ref (q 0)), some (.int (nI j)), some (.int k), some (.int (nI N)), some (.int (nI c))] [] (MW E q g tw (va_up a 24 (zr (40 * j) c (a 24)))) (ri (fun r w => r = 1 ∧ w = MW E q g tw (va_up a 24 (zr (40 * j) N (a 24))))) := by
  intro n
  induction n with
  | zero =>
    intro c hc
    obtain rfl : N = c := by omega
    refine A_iload (dX6_sheet 43 rfl) rfl ?_
    refine A_iload_n (dX6_sheet 44 rfl) rfl ?_
    refine A_icmp_ge 106 (dX6_sheet 45 rfl) (by decide) (fun h80 => ?_) (fun h80 => absurd (nI_le (a := N) (b := N) (Nat.le_refl _) (by omega)) h80)
    refine A_iconst (1) (dX6_sheet 59 rfl) (by decide +kernel) ?_
    refine A_ri (dX6_sheet 60 rfl) rfl rfl ?_
    exact ⟨rfl, rfl⟩
  | succ n ih =>
    intro c hc
    have hlt : c < N := by omega
    refine A_iload (dX6_sheet 43 rfl) rfl ?_
    refine A_iload_n (dX6_sheet 44 rfl) rfl ?_
    refine A_icmp_ge 106 (dX6_sheet 45 rfl) (by decide) (fun h80 => absurd h80 (nI_ge hlt (by omega))) (fun h80 => ?_)
    refine A_iload_n (dX6_sheet 46 rfl) rfl ?_
    refine A_if_lt 106 (dX6_sheet 47 rfl) (by decide) (fun h84 => absurd h84 hk) (fun h84 => ?_)
    refine A_aload_n (dX6_sheet 48 rfl) rfl ?_
    refine A_get (dX6_sheet 49 rfl) fwX6_90 MW_0 MF_63 ?_
    refine A_bipush (40) (dX6_sheet 50 rfl) (by decide +kernel) ?_
    refine AW.pcq (pc2 := 93) rfl ?_
    refine A_iload_n (dX6_sheet 51 rfl) rfl ?_
    refine A_imul (dX6_sheet 52 rfl) ?_
    refine A_iload (dX6_sheet 53 rfl) rfl ?_
    refine A_iadd (dX6_sheet 54 rfl) ?_
    refine A_iconst (0) (dX6_sheet 55 rfl) (by decide +kernel) ?_
    rw [mul40]
    refine A_iast (dX6_sheet 56 rfl) MW_24 (vp_in_nI (n := 40 * j + c) (by omega) (by decide)) (MS_24 _) ?_
    rw [nI_clamp (n := 40 * j + c) (by omega)]
    refine AW.world (ws2 := MW E q g tw (va_up a 24 (zr (40 * j) (c + 1) (a 24)))) (congrArg (MW E q g tw) (by rw [up24, ← zr_s]; rfl)) ?_
    refine A_iinc (ls2 := [_, _, _, _, _]) (nI (c + 1)) (dX6_sheet 57 rfl) rfl (nI_1 c) (by decide) rfl rfl ?_
    refine A_goto 77 (dX6_sheet 58 rfl) (by decide) ?_
    exact ih (c + 1) (by omega)

set_option maxRecDepth 100000 in
set_option maxHeartbeats 400000 in
theorem m_sheet (E : ag) (q : Nat → Nat) (g : Nat → Int32) (tw : Int64) (a : Nat → Nat → Int32) (s k n : Int32) : CT E yX6_sheet cX6_sheet 5 mX6_sheet.2.2.2.1 3 0 0 [.ref (q 0), .int s, .int k, .int n] (MW E q g tw a) (ri (fun r w => (shB s k n ∧ r = -2 ∧ w = MW E q g tw a) ∨ (¬ shB s k n ∧ ¬ k < 0 ∧ n < 0 ∧ r = -14 ∧ w = MW E q g tw a) ∨ (∃ j, j < 4 ∧ s = nI j ∧ k < 0 ∧ ¬ shB s k n ∧ r = 1 ∧ w = MW E q g tw (shA a j 0 k n)) ∨ (∃ j N, j < 4 ∧ N ≤ 40 ∧ s = nI j ∧ n = nI N ∧ ¬ k < 0 ∧ ¬ shB s k n ∧ r = 1 ∧ w = MW E q g tw (va_up (shA a j 1 k n) 24 (zr (40 * j) N (a 24)))))) := by
  refine CT.of (M := mX6_sheet) (ls := [some (.ref (q 0)), some (.int s), some (.int k), some (.int n), none]) (by decide) rfl (by decide) rfl (Nat.le_of_ble_eq_true rfl) ?_
  refine A_iload_n (dX6_sheet 0 rfl) rfl ?_
  refine A_callSWi 1 (dX6_sheet 1 rfl) cbX6_isSheet cwX6_372 (m_isSheet E _ s) rfl rfl (Nat.le_of_ble_eq_true rfl) (Nat.le_of_ble_eq_true rfl) (Nat.le_of_ble_eq_true rfl) (Nat.le_of_ble_eq_true rfl) (Nat.le_of_ble_eq_true rfl) ?_
  rintro r1 w1 ⟨rfl, rfl⟩
  refine AW.pcq (pc2 := 4) rfl ?_
  refine A_if_eq 31 (dX6_sheet 2 rfl) (by decide) (fun h4 => ?_) (fun h4 => ?_)
  · refine A_bipush (-2) (dX6_sheet 14 rfl) (by decide +kernel) ?_
    refine A_ri (dX6_sheet 15 rfl) rfl rfl ?_
    exact Or.inl ⟨by first | exact Or.inl (by assumption) | exact Or.inr (Or.inl (by assumption)) | exact Or.inr (Or.inr ⟨by assumption, Int32.not_le.mp (by assumption)⟩), rfl, rfl⟩
  · refine A_iload_n (dX6_sheet 3 rfl) rfl ?_
    refine A_i2l (dX6_sheet 4 rfl) ?_
    refine A_ldc2 (dX6_sheet 5 rfl) kcX6_363 ?_
    refine A_ldc2 (dX6_sheet 6 rfl) kcX6_119 ?_
    refine A_callSWi 3 (dX6_sheet 7 rfl) cbX6_in cwX6_103 (m_in E _ k (-1) 2 _ _ _ rfl (by decide) (by decide)) rfl rfl (Nat.le_of_ble_eq_true rfl) (Nat.le_of_ble_eq_true rfl) (Nat.le_of_ble_eq_true rfl) (Nat.le_of_ble_eq_true rfl) (Nat.le_of_ble_eq_true rfl) ?_
    rintro r15 w1 ⟨rfl, rfl⟩
    refine AW.pcq (pc2 := 18) rfl ?_
    refine A_if_eq 31 (dX6_sheet 8 rfl) (by decide) (fun h18 => ?_) (fun h18 => ?_)
    · refine A_bipush (-2) (dX6_sheet 14 rfl) (by decide +kernel) ?_
      refine A_ri (dX6_sheet 15 rfl) rfl rfl ?_
      exact Or.inl ⟨by first | exact Or.inl (by assumption) | exact Or.inr (Or.inl (by assumption)) | exact Or.inr (Or.inr ⟨by assumption, Int32.not_le.mp (by assumption)⟩), rfl, rfl⟩
    · refine A_iload_n (dX6_sheet 9 rfl) rfl ?_
      refine A_if_lt 34 (dX6_sheet 10 rfl) (by decide) (fun h22 => ?_) (fun h22 => ?_)
      · have hB : ¬ shB s k n := by
          rintro (z | z | ⟨z, z2⟩)
          · exact h4 z
          · exact h18 z
          · first | exact z h22 | exact absurd z2 (Int32.not_lt.mpr h28)
        refine A_iload_n (dX6_sheet 16 rfl) rfl ?_
        refine A_if_lt 45 (dX6_sheet 17 rfl) (by decide) (fun h35 => ?_) (fun h35 => ?_)
        · obtain ⟨j, hj, rfl⟩ := sheet_nI h4
          refine A_aload_n (dX6_sheet 22 rfl) rfl ?_
          refine A_get (dX6_sheet 23 rfl) fwX6_80 MW_0 MF_60 ?_
          refine A_iload_n (dX6_sheet 24 rfl) rfl ?_
          refine A_iload_n (dX6_sheet 25 rfl) rfl ?_
          refine A_if_lt 58 (dX6_sheet 26 rfl) (by decide) (fun h51 => ?_) (fun h51 => ?_)
          · refine A_iconst (0) (dX6_sheet 29 rfl) (by decide +kernel) ?_
            refine A_zast (dX6_sheet 30 rfl) MW_21 (vp_in_nI (n := j) (by omega) (by decide)) (MS_21 _) ?_
            rw [nI_clamp (n := j) (by omega)]
            simp only [nb0, nb1]
            refine A_aload_n (dX6_sheet 31 rfl) rfl ?_
            refine A_get (dX6_sheet 32 rfl) fwX6_84 MW_0 MF_61 ?_
            refine A_iload_n (dX6_sheet 33 rfl) rfl ?_
            refine A_iload_n (dX6_sheet 34 rfl) rfl ?_
            refine A_iast (dX6_sheet 35 rfl) MW_22 (vp_in_nI (n := j) (by omega) (by decide)) (MS_22 _) ?_
            rw [nI_clamp (n := j) (by omega)]
            refine A_aload_n (dX6_sheet 36 rfl) rfl ?_
            refine AW.pcq (pc2 := 68) rfl ?_
            refine A_get (dX6_sheet 37 rfl) fwX6_87 MW_0 MF_62 ?_
            refine A_iload_n (dX6_sheet 38 rfl) rfl ?_
            refine A_iload_n (dX6_sheet 39 rfl) rfl ?_
            refine A_iast (dX6_sheet 40 rfl) MW_23 (vp_in_nI (n := j) (by omega) (by decide)) (MS_23 _) ?_
            rw [nI_clamp (n := j) (by omega)]
            refine A_iconst (0) (dX6_sheet 41 rfl) (by decide +kernel) ?_
            refine A_istore (ls2 := [_, _, _, _, _]) (dX6_sheet 42 rfl) (by decide) rfl rfl ?_
            by_cases hkn : k < 0
            · first
              | exact absurd hkn (by assumption)
              | exact absurd hkn (Int32.not_lt.mpr (by assumption))
              | (refine A_iload (dX6_sheet 43 rfl) rfl ?_
                 refine A_iload_n (dX6_sheet 44 rfl) rfl ?_
                 refine A_icmp_ge 106 (dX6_sheet 45 rfl) (by decide) (fun h80 => ?_) (fun h80 => ?_)
                 · refine A_iconst (1) (dX6_sheet 59 rfl) (by decide +kernel) ?_
                   refine A_ri (dX6_sheet 60 rfl) rfl rfl ?_
                   exact Or.inr (Or.inr (Or.inl ⟨j, hj, rfl, hkn, hB, rfl, rfl⟩))
                 · refine A_iload_n (dX6_sheet 46 rfl) rfl ?_
                   refine A_if_lt 106 (dX6_sheet 47 rfl) (by decide) (fun h84 => ?_) (fun h84 => absurd hkn h84)
                   refine A_iconst (1) (dX6_sheet 59 rfl) (by decide +kernel) ?_
                   refine A_ri (dX6_sheet 60 rfl) rfl rfl ?_
                   exact Or.inr (Or.inr (Or.inl ⟨j, hj, rfl, hkn, hB, rfl, rfl⟩)))
            · first
              | exact absurd (by assumption) hkn
              | (have hn0 : ¬ n < 0 := by first | assumption | exact Int32.not_lt.mpr (by assumption)
                 have hn40 : n ≤ 40 := by first | assumption | exact Int32.not_lt.mp (fun z => hB (Or.inr (Or.inr ⟨hkn, z⟩)))
                 obtain ⟨N, hN, rfl⟩ := nI_of2 (M := 40) (n := 40) (by decide) hn0 hn40
                 have h9' := m_sheetL E q g tw (shA a j 1 k (nI N)) j N hj hN k hkn N 0 (by omega)
                 rw [show va_up (shA a j 1 k (nI N)) 24 (zr (40 * j) 0 ((shA a j 1 k (nI N)) 24)) = shA a j 1 k (nI N) by rw [zr_0]; exact up_same _ 24] at h9'
                 refine AW.mono h9' (fun v w hz => ?_)
                 obtain ⟨r, h91, h92, rfl⟩ := hz
                 exact ⟨r, h91, Or.inr (Or.inr (Or.inr ⟨j, N, hj, hN, rfl, rfl, hkn, hB, h92, rfl⟩))⟩)
          · refine A_iconst (1) (dX6_sheet 27 rfl) (by decide +kernel) ?_
            refine A_goto 59 (dX6_sheet 28 rfl) (by decide) ?_
            refine A_zast (dX6_sheet 30 rfl) MW_21 (vp_in_nI (n := j) (by omega) (by decide)) (MS_21 _) ?_
            rw [nI_clamp (n := j) (by omega)]
            simp only [nb0, nb1]
            refine A_aload_n (dX6_sheet 31 rfl) rfl ?_
            refine A_get (dX6_sheet 32 rfl) fwX6_84 MW_0 MF_61 ?_
            refine A_iload_n (dX6_sheet 33 rfl) rfl ?_
            refine A_iload_n (dX6_sheet 34 rfl) rfl ?_
            refine A_iast (dX6_sheet 35 rfl) MW_22 (vp_in_nI (n := j) (by omega) (by decide)) (MS_22 _) ?_
            rw [nI_clamp (n := j) (by omega)]
            refine A_aload_n (dX6_sheet 36 rfl) rfl ?_
            refine A_get (dX6_sheet 37 rfl) fwX6_87 MW_0 MF_62 ?_
            refine AW.pcq (pc2 := 71) rfl ?_
            refine A_iload_n (dX6_sheet 38 rfl) rfl ?_
            refine A_iload_n (dX6_sheet 39 rfl) rfl ?_
            refine A_iast (dX6_sheet 40 rfl) MW_23 (vp_in_nI (n := j) (by omega) (by decide)) (MS_23 _) ?_
            rw [nI_clamp (n := j) (by omega)]
            refine A_iconst (0) (dX6_sheet 41 rfl) (by decide +kernel) ?_
            refine A_istore (ls2 := [_, _, _, _, _]) (dX6_sheet 42 rfl) (by decide) rfl rfl ?_
            by_cases hkn : k < 0
            · first
              | exact absurd hkn (by assumption)
              | exact absurd hkn (Int32.not_lt.mpr (by assumption))
              | (refine A_iload (dX6_sheet 43 rfl) rfl ?_
                 refine A_iload_n (dX6_sheet 44 rfl) rfl ?_
                 refine A_icmp_ge 106 (dX6_sheet 45 rfl) (by decide) (fun h80 => ?_) (fun h80 => ?_)
                 · refine A_iconst (1) (dX6_sheet 59 rfl) (by decide +kernel) ?_
                   refine A_ri (dX6_sheet 60 rfl) rfl rfl ?_
                   exact Or.inr (Or.inr (Or.inl ⟨j, hj, rfl, hkn, hB, rfl, rfl⟩))
                 · refine A_iload_n (dX6_sheet 46 rfl) rfl ?_
                   refine A_if_lt 106 (dX6_sheet 47 rfl) (by decide) (fun h84 => ?_) (fun h84 => absurd hkn h84)
                   refine A_iconst (1) (dX6_sheet 59 rfl) (by decide +kernel) ?_
                   refine A_ri (dX6_sheet 60 rfl) rfl rfl ?_
                   exact Or.inr (Or.inr (Or.inl ⟨j, hj, rfl, hkn, hB, rfl, rfl⟩)))
            · first
              | exact absurd (by assumption) hkn
              | (have hn0 : ¬ n < 0 := by first | assumption | exact Int32.not_lt.mpr (by assumption)
                 have hn40 : n ≤ 40 := by first | assumption | exact Int32.not_lt.mp (fun z => hB (Or.inr (Or.inr ⟨hkn, z⟩)))
                 obtain ⟨N, hN, rfl⟩ := nI_of2 (M := 40) (n := 40) (by decide) hn0 hn40
                 have h9' := m_sheetL E q g tw (shA a j 1 k (nI N)) j N hj hN k hkn N 0 (by omega)
                 rw [show va_up (shA a j 1 k (nI N)) 24 (zr (40 * j) 0 ((shA a j 1 k (nI N)) 24)) = shA a j 1 k (nI N) by rw [zr_0]; exact up_same _ 24] at h9'
                 refine AW.mono h9' (fun v w hz => ?_)
                 obtain ⟨r, h91, h92, rfl⟩ := hz
                 exact ⟨r, h91, Or.inr (Or.inr (Or.inr ⟨j, N, hj, hN, rfl, rfl, hkn, hB, h92, rfl⟩))⟩)
        · refine A_iload_n (dX6_sheet 18 rfl) rfl ?_
          refine A_if_ge 45 (dX6_sheet 19 rfl) (by decide) (fun h39 => ?_) (fun h39 => ?_)
          · obtain ⟨j, hj, rfl⟩ := sheet_nI h4
            refine A_aload_n (dX6_sheet 22 rfl) rfl ?_
            refine A_get (dX6_sheet 23 rfl) fwX6_80 MW_0 MF_60 ?_
            refine A_iload_n (dX6_sheet 24 rfl) rfl ?_
            refine A_iload_n (dX6_sheet 25 rfl) rfl ?_
            refine A_if_lt 58 (dX6_sheet 26 rfl) (by decide) (fun h51 => ?_) (fun h51 => ?_)
            · refine A_iconst (0) (dX6_sheet 29 rfl) (by decide +kernel) ?_
              refine A_zast (dX6_sheet 30 rfl) MW_21 (vp_in_nI (n := j) (by omega) (by decide)) (MS_21 _) ?_
              rw [nI_clamp (n := j) (by omega)]
              simp only [nb0, nb1]
              refine A_aload_n (dX6_sheet 31 rfl) rfl ?_
              refine A_get (dX6_sheet 32 rfl) fwX6_84 MW_0 MF_61 ?_
              refine A_iload_n (dX6_sheet 33 rfl) rfl ?_
              refine A_iload_n (dX6_sheet 34 rfl) rfl ?_
              refine A_iast (dX6_sheet 35 rfl) MW_22 (vp_in_nI (n := j) (by omega) (by decide)) (MS_22 _) ?_
              rw [nI_clamp (n := j) (by omega)]
              refine A_aload_n (dX6_sheet 36 rfl) rfl ?_
              refine AW.pcq (pc2 := 68) rfl ?_
              refine A_get (dX6_sheet 37 rfl) fwX6_87 MW_0 MF_62 ?_
              refine A_iload_n (dX6_sheet 38 rfl) rfl ?_
              refine A_iload_n (dX6_sheet 39 rfl) rfl ?_
              refine A_iast (dX6_sheet 40 rfl) MW_23 (vp_in_nI (n := j) (by omega) (by decide)) (MS_23 _) ?_
              rw [nI_clamp (n := j) (by omega)]
              refine A_iconst (0) (dX6_sheet 41 rfl) (by decide +kernel) ?_
              refine A_istore (ls2 := [_, _, _, _, _]) (dX6_sheet 42 rfl) (by decide) rfl rfl ?_
              by_cases hkn : k < 0
              · first
                | exact absurd hkn (by assumption)
                | exact absurd hkn (Int32.not_lt.mpr (by assumption))
                | (refine A_iload (dX6_sheet 43 rfl) rfl ?_
                   refine A_iload_n (dX6_sheet 44 rfl) rfl ?_
                   refine A_icmp_ge 106 (dX6_sheet 45 rfl) (by decide) (fun h80 => ?_) (fun h80 => ?_)
                   · refine A_iconst (1) (dX6_sheet 59 rfl) (by decide +kernel) ?_
                     refine A_ri (dX6_sheet 60 rfl) rfl rfl ?_
                     exact Or.inr (Or.inr (Or.inl ⟨j, hj, rfl, hkn, hB, rfl, rfl⟩))
                   · refine A_iload_n (dX6_sheet 46 rfl) rfl ?_
                     refine A_if_lt 106 (dX6_sheet 47 rfl) (by decide) (fun h84 => ?_) (fun h84 => absurd hkn h84)
                     refine A_iconst (1) (dX6_sheet 59 rfl) (by decide +kernel) ?_
                     refine A_ri (dX6_sheet 60 rfl) rfl rfl ?_
                     exact Or.inr (Or.inr (Or.inl ⟨j, hj, rfl, hkn, hB, rfl, rfl⟩)))
              · first
                | exact absurd (by assumption) hkn
                | (have hn0 : ¬ n < 0 := by first | assumption | exact Int32.not_lt.mpr (by assumption)
                   have hn40 : n ≤ 40 := by first | assumption | exact Int32.not_lt.mp (fun z => hB (Or.inr (Or.inr ⟨hkn, z⟩)))
                   obtain ⟨N, hN, rfl⟩ := nI_of2 (M := 40) (n := 40) (by decide) hn0 hn40
                   have h9' := m_sheetL E q g tw (shA a j 1 k (nI N)) j N hj hN k hkn N 0 (by omega)
                   rw [show va_up (shA a j 1 k (nI N)) 24 (zr (40 * j) 0 ((shA a j 1 k (nI N)) 24)) = shA a j 1 k (nI N) by rw [zr_0]; exact up_same _ 24] at h9'
                   refine AW.mono h9' (fun v w hz => ?_)
                   obtain ⟨r, h91, h92, rfl⟩ := hz
                   exact ⟨r, h91, Or.inr (Or.inr (Or.inr ⟨j, N, hj, hN, rfl, rfl, hkn, hB, h92, rfl⟩))⟩)
            · refine A_iconst (1) (dX6_sheet 27 rfl) (by decide +kernel) ?_
              refine A_goto 59 (dX6_sheet 28 rfl) (by decide) ?_
              refine A_zast (dX6_sheet 30 rfl) MW_21 (vp_in_nI (n := j) (by omega) (by decide)) (MS_21 _) ?_
              rw [nI_clamp (n := j) (by omega)]
              simp only [nb0, nb1]
              refine A_aload_n (dX6_sheet 31 rfl) rfl ?_
              refine A_get (dX6_sheet 32 rfl) fwX6_84 MW_0 MF_61 ?_
              refine A_iload_n (dX6_sheet 33 rfl) rfl ?_
              refine A_iload_n (dX6_sheet 34 rfl) rfl ?_
              refine A_iast (dX6_sheet 35 rfl) MW_22 (vp_in_nI (n := j) (by omega) (by decide)) (MS_22 _) ?_
              rw [nI_clamp (n := j) (by omega)]
              refine A_aload_n (dX6_sheet 36 rfl) rfl ?_
              refine A_get (dX6_sheet 37 rfl) fwX6_87 MW_0 MF_62 ?_
              refine AW.pcq (pc2 := 71) rfl ?_
              refine A_iload_n (dX6_sheet 38 rfl) rfl ?_
              refine A_iload_n (dX6_sheet 39 rfl) rfl ?_
              refine A_iast (dX6_sheet 40 rfl) MW_23 (vp_in_nI (n := j) (by omega) (by decide)) (MS_23 _) ?_
              rw [nI_clamp (n := j) (by omega)]
              refine A_iconst (0) (dX6_sheet 41 rfl) (by decide +kernel) ?_
              refine A_istore (ls2 := [_, _, _, _, _]) (dX6_sheet 42 rfl) (by decide) rfl rfl ?_
              by_cases hkn : k < 0
              · first
                | exact absurd hkn (by assumption)
                | exact absurd hkn (Int32.not_lt.mpr (by assumption))
                | (refine A_iload (dX6_sheet 43 rfl) rfl ?_
                   refine A_iload_n (dX6_sheet 44 rfl) rfl ?_
                   refine A_icmp_ge 106 (dX6_sheet 45 rfl) (by decide) (fun h80 => ?_) (fun h80 => ?_)
                   · refine A_iconst (1) (dX6_sheet 59 rfl) (by decide +kernel) ?_
                     refine A_ri (dX6_sheet 60 rfl) rfl rfl ?_
                     exact Or.inr (Or.inr (Or.inl ⟨j, hj, rfl, hkn, hB, rfl, rfl⟩))
                   · refine A_iload_n (dX6_sheet 46 rfl) rfl ?_
                     refine A_if_lt 106 (dX6_sheet 47 rfl) (by decide) (fun h84 => ?_) (fun h84 => absurd hkn h84)
                     refine A_iconst (1) (dX6_sheet 59 rfl) (by decide +kernel) ?_
                     refine A_ri (dX6_sheet 60 rfl) rfl rfl ?_
                     exact Or.inr (Or.inr (Or.inl ⟨j, hj, rfl, hkn, hB, rfl, rfl⟩)))
              · first
                | exact absurd (by assumption) hkn
                | (have hn0 : ¬ n < 0 := by first | assumption | exact Int32.not_lt.mpr (by assumption)
                   have hn40 : n ≤ 40 := by first | assumption | exact Int32.not_lt.mp (fun z => hB (Or.inr (Or.inr ⟨hkn, z⟩)))
                   obtain ⟨N, hN, rfl⟩ := nI_of2 (M := 40) (n := 40) (by decide) hn0 hn40
                   have h9' := m_sheetL E q g tw (shA a j 1 k (nI N)) j N hj hN k hkn N 0 (by omega)
                   rw [show va_up (shA a j 1 k (nI N)) 24 (zr (40 * j) 0 ((shA a j 1 k (nI N)) 24)) = shA a j 1 k (nI N) by rw [zr_0]; exact up_same _ 24] at h9'
                   refine AW.mono h9' (fun v w hz => ?_)
                   obtain ⟨r, h91, h92, rfl⟩ := hz
                   exact ⟨r, h91, Or.inr (Or.inr (Or.inr ⟨j, N, hj, hN, rfl, rfl, hkn, hB, h92, rfl⟩))⟩)
          · refine A_bipush (-14) (dX6_sheet 20 rfl) (by decide +kernel) ?_
            refine A_ri (dX6_sheet 21 rfl) rfl rfl ?_
            exact Or.inr (Or.inl ⟨hB, by first | assumption | exact Int32.not_lt.mpr (by assumption), Int32.not_le.mp h39, rfl, rfl⟩)
      · refine A_iload_n (dX6_sheet 11 rfl) rfl ?_
        refine A_bipush (40) (dX6_sheet 12 rfl) (by decide +kernel) ?_
        refine A_icmp_le 34 (dX6_sheet 13 rfl) (by decide) (fun h28 => ?_) (fun h28 => ?_)
        · have hB : ¬ shB s k n := by
            rintro (z | z | ⟨z, z2⟩)
            · exact h4 z
            · exact h18 z
            · first | exact z h22 | exact absurd z2 (Int32.not_lt.mpr h28)
          refine A_iload_n (dX6_sheet 16 rfl) rfl ?_
          refine A_if_lt 45 (dX6_sheet 17 rfl) (by decide) (fun h35 => ?_) (fun h35 => ?_)
          · obtain ⟨j, hj, rfl⟩ := sheet_nI h4
            refine A_aload_n (dX6_sheet 22 rfl) rfl ?_
            refine A_get (dX6_sheet 23 rfl) fwX6_80 MW_0 MF_60 ?_
            refine A_iload_n (dX6_sheet 24 rfl) rfl ?_
            refine A_iload_n (dX6_sheet 25 rfl) rfl ?_
            refine A_if_lt 58 (dX6_sheet 26 rfl) (by decide) (fun h51 => ?_) (fun h51 => ?_)
            · refine A_iconst (0) (dX6_sheet 29 rfl) (by decide +kernel) ?_
              refine A_zast (dX6_sheet 30 rfl) MW_21 (vp_in_nI (n := j) (by omega) (by decide)) (MS_21 _) ?_
              rw [nI_clamp (n := j) (by omega)]
              simp only [nb0, nb1]
              refine A_aload_n (dX6_sheet 31 rfl) rfl ?_
              refine A_get (dX6_sheet 32 rfl) fwX6_84 MW_0 MF_61 ?_
              refine A_iload_n (dX6_sheet 33 rfl) rfl ?_
              refine A_iload_n (dX6_sheet 34 rfl) rfl ?_
              refine A_iast (dX6_sheet 35 rfl) MW_22 (vp_in_nI (n := j) (by omega) (by decide)) (MS_22 _) ?_
              rw [nI_clamp (n := j) (by omega)]
              refine A_aload_n (dX6_sheet 36 rfl) rfl ?_
              refine AW.pcq (pc2 := 68) rfl ?_
              refine A_get (dX6_sheet 37 rfl) fwX6_87 MW_0 MF_62 ?_
              refine A_iload_n (dX6_sheet 38 rfl) rfl ?_
              refine A_iload_n (dX6_sheet 39 rfl) rfl ?_
              refine A_iast (dX6_sheet 40 rfl) MW_23 (vp_in_nI (n := j) (by omega) (by decide)) (MS_23 _) ?_
              rw [nI_clamp (n := j) (by omega)]
              refine A_iconst (0) (dX6_sheet 41 rfl) (by decide +kernel) ?_
              refine A_istore (ls2 := [_, _, _, _, _]) (dX6_sheet 42 rfl) (by decide) rfl rfl ?_
              by_cases hkn : k < 0
              · first
                | exact absurd hkn (by assumption)
                | exact absurd hkn (Int32.not_lt.mpr (by assumption))
                | (refine A_iload (dX6_sheet 43 rfl) rfl ?_
                   refine A_iload_n (dX6_sheet 44 rfl) rfl ?_
                   refine A_icmp_ge 106 (dX6_sheet 45 rfl) (by decide) (fun h80 => ?_) (fun h80 => ?_)
                   · refine A_iconst (1) (dX6_sheet 59 rfl) (by decide +kernel) ?_
                     refine A_ri (dX6_sheet 60 rfl) rfl rfl ?_
                     exact Or.inr (Or.inr (Or.inl ⟨j, hj, rfl, hkn, hB, rfl, rfl⟩))
                   · refine A_iload_n (dX6_sheet 46 rfl) rfl ?_
                     refine A_if_lt 106 (dX6_sheet 47 rfl) (by decide) (fun h84 => ?_) (fun h84 => absurd hkn h84)
                     refine A_iconst (1) (dX6_sheet 59 rfl) (by decide +kernel) ?_
                     refine A_ri (dX6_sheet 60 rfl) rfl rfl ?_
                     exact Or.inr (Or.inr (Or.inl ⟨j, hj, rfl, hkn, hB, rfl, rfl⟩)))
              · first
                | exact absurd (by assumption) hkn
                | (have hn0 : ¬ n < 0 := by first | assumption | exact Int32.not_lt.mpr (by assumption)
                   have hn40 : n ≤ 40 := by first | assumption | exact Int32.not_lt.mp (fun z => hB (Or.inr (Or.inr ⟨hkn, z⟩)))
                   obtain ⟨N, hN, rfl⟩ := nI_of2 (M := 40) (n := 40) (by decide) hn0 hn40
                   have h9' := m_sheetL E q g tw (shA a j 1 k (nI N)) j N hj hN k hkn N 0 (by omega)
                   rw [show va_up (shA a j 1 k (nI N)) 24 (zr (40 * j) 0 ((shA a j 1 k (nI N)) 24)) = shA a j 1 k (nI N) by rw [zr_0]; exact up_same _ 24] at h9'
                   refine AW.mono h9' (fun v w hz => ?_)
                   obtain ⟨r, h91, h92, rfl⟩ := hz
                   exact ⟨r, h91, Or.inr (Or.inr (Or.inr ⟨j, N, hj, hN, rfl, rfl, hkn, hB, h92, rfl⟩))⟩)
            · refine A_iconst (1) (dX6_sheet 27 rfl) (by decide +kernel) ?_
              refine A_goto 59 (dX6_sheet 28 rfl) (by decide) ?_
              refine A_zast (dX6_sheet 30 rfl) MW_21 (vp_in_nI (n := j) (by omega) (by decide)) (MS_21 _) ?_
              rw [nI_clamp (n := j) (by omega)]
              simp only [nb0, nb1]
              refine A_aload_n (dX6_sheet 31 rfl) rfl ?_
              refine A_get (dX6_sheet 32 rfl) fwX6_84 MW_0 MF_61 ?_
              refine A_iload_n (dX6_sheet 33 rfl) rfl ?_
              refine A_iload_n (dX6_sheet 34 rfl) rfl ?_
              refine A_iast (dX6_sheet 35 rfl) MW_22 (vp_in_nI (n := j) (by omega) (by decide)) (MS_22 _) ?_
              rw [nI_clamp (n := j) (by omega)]
              refine A_aload_n (dX6_sheet 36 rfl) rfl ?_
              refine A_get (dX6_sheet 37 rfl) fwX6_87 MW_0 MF_62 ?_
              refine AW.pcq (pc2 := 71) rfl ?_
              refine A_iload_n (dX6_sheet 38 rfl) rfl ?_
              refine A_iload_n (dX6_sheet 39 rfl) rfl ?_
              refine A_iast (dX6_sheet 40 rfl) MW_23 (vp_in_nI (n := j) (by omega) (by decide)) (MS_23 _) ?_
              rw [nI_clamp (n := j) (by omega)]
              refine A_iconst (0) (dX6_sheet 41 rfl) (by decide +kernel) ?_
              refine A_istore (ls2 := [_, _, _, _, _]) (dX6_sheet 42 rfl) (by decide) rfl rfl ?_
              by_cases hkn : k < 0
              · first
                | exact absurd hkn (by assumption)
                | exact absurd hkn (Int32.not_lt.mpr (by assumption))
                | (refine A_iload (dX6_sheet 43 rfl) rfl ?_
                   refine A_iload_n (dX6_sheet 44 rfl) rfl ?_
                   refine A_icmp_ge 106 (dX6_sheet 45 rfl) (by decide) (fun h80 => ?_) (fun h80 => ?_)
                   · refine A_iconst (1) (dX6_sheet 59 rfl) (by decide +kernel) ?_
                     refine A_ri (dX6_sheet 60 rfl) rfl rfl ?_
                     exact Or.inr (Or.inr (Or.inl ⟨j, hj, rfl, hkn, hB, rfl, rfl⟩))
                   · refine A_iload_n (dX6_sheet 46 rfl) rfl ?_
                     refine A_if_lt 106 (dX6_sheet 47 rfl) (by decide) (fun h84 => ?_) (fun h84 => absurd hkn h84)
                     refine A_iconst (1) (dX6_sheet 59 rfl) (by decide +kernel) ?_
                     refine A_ri (dX6_sheet 60 rfl) rfl rfl ?_
                     exact Or.inr (Or.inr (Or.inl ⟨j, hj, rfl, hkn, hB, rfl, rfl⟩)))
              · first
                | exact absurd (by assumption) hkn
                | (have hn0 : ¬ n < 0 := by first | assumption | exact Int32.not_lt.mpr (by assumption)
                   have hn40 : n ≤ 40 := by first | assumption | exact Int32.not_lt.mp (fun z => hB (Or.inr (Or.inr ⟨hkn, z⟩)))
                   obtain ⟨N, hN, rfl⟩ := nI_of2 (M := 40) (n := 40) (by decide) hn0 hn40
                   have h9' := m_sheetL E q g tw (shA a j 1 k (nI N)) j N hj hN k hkn N 0 (by omega)
                   rw [show va_up (shA a j 1 k (nI N)) 24 (zr (40 * j) 0 ((shA a j 1 k (nI N)) 24)) = shA a j 1 k (nI N) by rw [zr_0]; exact up_same _ 24] at h9'
                   refine AW.mono h9' (fun v w hz => ?_)
                   obtain ⟨r, h91, h92, rfl⟩ := hz
                   exact ⟨r, h91, Or.inr (Or.inr (Or.inr ⟨j, N, hj, hN, rfl, rfl, hkn, hB, h92, rfl⟩))⟩)
          · refine A_iload_n (dX6_sheet 18 rfl) rfl ?_
            refine A_if_ge 45 (dX6_sheet 19 rfl) (by decide) (fun h39 => ?_) (fun h39 => ?_)
            · obtain ⟨j, hj, rfl⟩ := sheet_nI h4
              refine A_aload_n (dX6_sheet 22 rfl) rfl ?_
              refine A_get (dX6_sheet 23 rfl) fwX6_80 MW_0 MF_60 ?_
              refine A_iload_n (dX6_sheet 24 rfl) rfl ?_
              refine A_iload_n (dX6_sheet 25 rfl) rfl ?_
              refine A_if_lt 58 (dX6_sheet 26 rfl) (by decide) (fun h51 => ?_) (fun h51 => ?_)
              · refine A_iconst (0) (dX6_sheet 29 rfl) (by decide +kernel) ?_
                refine A_zast (dX6_sheet 30 rfl) MW_21 (vp_in_nI (n := j) (by omega) (by decide)) (MS_21 _) ?_
                rw [nI_clamp (n := j) (by omega)]
                simp only [nb0, nb1]
                refine A_aload_n (dX6_sheet 31 rfl) rfl ?_
                refine A_get (dX6_sheet 32 rfl) fwX6_84 MW_0 MF_61 ?_
                refine A_iload_n (dX6_sheet 33 rfl) rfl ?_
                refine A_iload_n (dX6_sheet 34 rfl) rfl ?_
                refine A_iast (dX6_sheet 35 rfl) MW_22 (vp_in_nI (n := j) (by omega) (by decide)) (MS_22 _) ?_
                rw [nI_clamp (n := j) (by omega)]
                refine A_aload_n (dX6_sheet 36 rfl) rfl ?_
                refine AW.pcq (pc2 := 68) rfl ?_
                refine A_get (dX6_sheet 37 rfl) fwX6_87 MW_0 MF_62 ?_
                refine A_iload_n (dX6_sheet 38 rfl) rfl ?_
                refine A_iload_n (dX6_sheet 39 rfl) rfl ?_
                refine A_iast (dX6_sheet 40 rfl) MW_23 (vp_in_nI (n := j) (by omega) (by decide)) (MS_23 _) ?_
                rw [nI_clamp (n := j) (by omega)]
                refine A_iconst (0) (dX6_sheet 41 rfl) (by decide +kernel) ?_
                refine A_istore (ls2 := [_, _, _, _, _]) (dX6_sheet 42 rfl) (by decide) rfl rfl ?_
                by_cases hkn : k < 0
                · first
                  | exact absurd hkn (by assumption)
                  | exact absurd hkn (Int32.not_lt.mpr (by assumption))
                  | (refine A_iload (dX6_sheet 43 rfl) rfl ?_
                     refine A_iload_n (dX6_sheet 44 rfl) rfl ?_
                     refine A_icmp_ge 106 (dX6_sheet 45 rfl) (by decide) (fun h80 => ?_) (fun h80 => ?_)
                     · refine A_iconst (1) (dX6_sheet 59 rfl) (by decide +kernel) ?_
                       refine A_ri (dX6_sheet 60 rfl) rfl rfl ?_
                       exact Or.inr (Or.inr (Or.inl ⟨j, hj, rfl, hkn, hB, rfl, rfl⟩))
                     · refine A_iload_n (dX6_sheet 46 rfl) rfl ?_
                       refine A_if_lt 106 (dX6_sheet 47 rfl) (by decide) (fun h84 => ?_) (fun h84 => absurd hkn h84)
                       refine A_iconst (1) (dX6_sheet 59 rfl) (by decide +kernel) ?_
                       refine A_ri (dX6_sheet 60 rfl) rfl rfl ?_
                       exact Or.inr (Or.inr (Or.inl ⟨j, hj, rfl, hkn, hB, rfl, rfl⟩)))
                · first
                  | exact absurd (by assumption) hkn
                  | (have hn0 : ¬ n < 0 := by first | assumption | exact Int32.not_lt.mpr (by assumption)
                     have hn40 : n ≤ 40 := by first | assumption | exact Int32.not_lt.mp (fun z => hB (Or.inr (Or.inr ⟨hkn, z⟩)))
                     obtain ⟨N, hN, rfl⟩ := nI_of2 (M := 40) (n := 40) (by decide) hn0 hn40
                     have h9' := m_sheetL E q g tw (shA a j 1 k (nI N)) j N hj hN k hkn N 0 (by omega)
                     rw [show va_up (shA a j 1 k (nI N)) 24 (zr (40 * j) 0 ((shA a j 1 k (nI N)) 24)) = shA a j 1 k (nI N) by rw [zr_0]; exact up_same _ 24] at h9'
                     refine AW.mono h9' (fun v w hz => ?_)
                     obtain ⟨r, h91, h92, rfl⟩ := hz
                     exact ⟨r, h91, Or.inr (Or.inr (Or.inr ⟨j, N, hj, hN, rfl, rfl, hkn, hB, h92, rfl⟩))⟩)
              · refine A_iconst (1) (dX6_sheet 27 rfl) (by decide +kernel) ?_
                refine A_goto 59 (dX6_sheet 28 rfl) (by decide) ?_
                refine A_zast (dX6_sheet 30 rfl) MW_21 (vp_in_nI (n := j) (by omega) (by decide)) (MS_21 _) ?_
                rw [nI_clamp (n := j) (by omega)]
                simp only [nb0, nb1]
                refine A_aload_n (dX6_sheet 31 rfl) rfl ?_
                refine A_get (dX6_sheet 32 rfl) fwX6_84 MW_0 MF_61 ?_
                refine A_iload_n (dX6_sheet 33 rfl) rfl ?_
                refine A_iload_n (dX6_sheet 34 rfl) rfl ?_
                refine A_iast (dX6_sheet 35 rfl) MW_22 (vp_in_nI (n := j) (by omega) (by decide)) (MS_22 _) ?_
                rw [nI_clamp (n := j) (by omega)]
                refine A_aload_n (dX6_sheet 36 rfl) rfl ?_
                refine A_get (dX6_sheet 37 rfl) fwX6_87 MW_0 MF_62 ?_
                refine AW.pcq (pc2 := 71) rfl ?_
                refine A_iload_n (dX6_sheet 38 rfl) rfl ?_
                refine A_iload_n (dX6_sheet 39 rfl) rfl ?_
                refine A_iast (dX6_sheet 40 rfl) MW_23 (vp_in_nI (n := j) (by omega) (by decide)) (MS_23 _) ?_
                rw [nI_clamp (n := j) (by omega)]
                refine A_iconst (0) (dX6_sheet 41 rfl) (by decide +kernel) ?_
                refine A_istore (ls2 := [_, _, _, _, _]) (dX6_sheet 42 rfl) (by decide) rfl rfl ?_
                by_cases hkn : k < 0
                · first
                  | exact absurd hkn (by assumption)
                  | exact absurd hkn (Int32.not_lt.mpr (by assumption))
                  | (refine A_iload (dX6_sheet 43 rfl) rfl ?_
                     refine A_iload_n (dX6_sheet 44 rfl) rfl ?_
                     refine A_icmp_ge 106 (dX6_sheet 45 rfl) (by decide) (fun h80 => ?_) (fun h80 => ?_)
                     · refine A_iconst (1) (dX6_sheet 59 rfl) (by decide +kernel) ?_
                       refine A_ri (dX6_sheet 60 rfl) rfl rfl ?_
                       exact Or.inr (Or.inr (Or.inl ⟨j, hj, rfl, hkn, hB, rfl, rfl⟩))
                     · refine A_iload_n (dX6_sheet 46 rfl) rfl ?_
                       refine A_if_lt 106 (dX6_sheet 47 rfl) (by decide) (fun h84 => ?_) (fun h84 => absurd hkn h84)
                       refine A_iconst (1) (dX6_sheet 59 rfl) (by decide +kernel) ?_
                       refine A_ri (dX6_sheet 60 rfl) rfl rfl ?_
                       exact Or.inr (Or.inr (Or.inl ⟨j, hj, rfl, hkn, hB, rfl, rfl⟩)))
                · first
                  | exact absurd (by assumption) hkn
                  | (have hn0 : ¬ n < 0 := by first | assumption | exact Int32.not_lt.mpr (by assumption)
                     have hn40 : n ≤ 40 := by first | assumption | exact Int32.not_lt.mp (fun z => hB (Or.inr (Or.inr ⟨hkn, z⟩)))
                     obtain ⟨N, hN, rfl⟩ := nI_of2 (M := 40) (n := 40) (by decide) hn0 hn40
                     have h9' := m_sheetL E q g tw (shA a j 1 k (nI N)) j N hj hN k hkn N 0 (by omega)
                     rw [show va_up (shA a j 1 k (nI N)) 24 (zr (40 * j) 0 ((shA a j 1 k (nI N)) 24)) = shA a j 1 k (nI N) by rw [zr_0]; exact up_same _ 24] at h9'
                     refine AW.mono h9' (fun v w hz => ?_)
                     obtain ⟨r, h91, h92, rfl⟩ := hz
                     exact ⟨r, h91, Or.inr (Or.inr (Or.inr ⟨j, N, hj, hN, rfl, rfl, hkn, hB, h92, rfl⟩))⟩)
            · refine A_bipush (-14) (dX6_sheet 20 rfl) (by decide +kernel) ?_
              refine A_ri (dX6_sheet 21 rfl) rfl rfl ?_
              exact Or.inr (Or.inl ⟨hB, by first | assumption | exact Int32.not_lt.mpr (by assumption), Int32.not_le.mp h39, rfl, rfl⟩)
        · refine A_bipush (-2) (dX6_sheet 14 rfl) (by decide +kernel) ?_
          refine A_ri (dX6_sheet 15 rfl) rfl rfl ?_
          exact Or.inl ⟨by first | exact Or.inl (by assumption) | exact Or.inr (Or.inl (by assumption)) | exact Or.inr (Or.inr ⟨by assumption, Int32.not_le.mp (by assumption)⟩), rfl, rfl⟩

def narS (k v : Int32) : Int32 := if k = 0 then v.toInt8.toInt32 else if k = 1 then v.toInt16.toInt32 else v
theorem item_nI {i : Int32} {N : Nat} (hN : N ≤ 40) (h : ¬ inI i 0 (nI N - 1) = 0) : ∃ k, k < N ∧ i = nI k := by
  obtain ⟨h1, h2⟩ := inI_yes h
  have e : ∀ N, N ≤ 40 → (nI N - 1).toInt = (N : Int) - 1 := by decide +kernel
  rw [e N hN] at h2
  have h0 : (0 : Int32).toInt = 0 := by decide
  obtain ⟨j, hj, rfl⟩ := nI_of (x := i) (fun z => by have := Int32.lt_iff_toInt_lt.mp z; omega)
  rw [nI_toInt hj] at h2
  exact ⟨j, by omega, rfl⟩
theorem narS0 {k v : Int32} (h : k = 0) : narS k v = v.toInt8.toInt32 := if_pos h
theorem narS1 {k v : Int32} (h0 : ¬ k = 0) (h : k = 1) : narS k v = v.toInt16.toInt32 := by unfold narS; rw [if_neg h0, if_pos h]
theorem narS2 {k v : Int32} (h0 : ¬ k = 0) (h : ¬ k = 1) : narS k v = v := by unfold narS; rw [if_neg h0, if_neg h]
set_option maxRecDepth 100000 in
set_option maxHeartbeats 400000 in
theorem m_cell (E : ag) (q : Nat → Nat) (g : Nat → Int32) (tw : Int64) (a : Nat → Nat → Int32) (s i v : Int32) (hsh : SHI a) : CT E yX6_cell cX6_cell 4 mX6_cell.2.2.2.1 3 0 0 [.ref (q 0), .int s, .int i, .int v] (MW E q g tw a) (ri (fun r w => (inI s 0 3 = 0 ∧ r = -2 ∧ w = MW E q g tw a) ∨ (∃ j, j < 4 ∧ s = nI j ∧ ((a 21 j = 0 ∧ r = -11 ∧ w = MW E q g tw a) ∨ (¬ a 21 j = 0 ∧ ∃ N, N ≤ 40 ∧ a 23 j = nI N ∧ ((inI i 0 (nI N - 1) = 0 ∧ r = -12 ∧ w = MW E q g tw a) ∨ (∃ k, k < N ∧ i = nI k ∧ r = 1 ∧ w = MW E q g tw (va_up a 24 (upd (a 24) (40 * j + k) (narS (a 22 j) v)))))))))) := by
  refine CT.of (M := mX6_cell) (ls := [some (.ref (q 0)), some (.int s), some (.int i), some (.int v)]) (by decide) rfl (by decide) rfl (Nat.le_of_ble_eq_true rfl) ?_
  refine A_iload_n (dX6_cell 0 rfl) rfl ?_
  refine A_callSWi 1 (dX6_cell 1 rfl) cbX6_isSheet cwX6_372 (m_isSheet E _ s) rfl rfl (Nat.le_of_ble_eq_true rfl) (Nat.le_of_ble_eq_true rfl) (Nat.le_of_ble_eq_true rfl) (Nat.le_of_ble_eq_true rfl) (Nat.le_of_ble_eq_true rfl) ?_
  rintro r1 w1 ⟨rfl, rfl⟩
  refine AW.pcq (pc2 := 4) rfl ?_
  refine A_if_ne 10 (dX6_cell 2 rfl) (by decide) (fun h4 => ?_) (fun h4 => ?_)
  · obtain ⟨j, hj, rfl⟩ := sheet_nI h4
    refine A_aload_n (dX6_cell 5 rfl) rfl ?_
    refine A_get (dX6_cell 6 rfl) fwX6_80 MW_0 MF_60 ?_
    refine A_iload_n (dX6_cell 7 rfl) rfl ?_
    refine A_zald (dX6_cell 8 rfl) MW_21 (vp_in_nI (n := j) (by omega) (by decide)) ?_
    rw [nI_clamp (n := j) (by omega)]
    refine A_if_ne 22 (dX6_cell 9 rfl) (by decide) (fun h16 => ?_) (fun h16 => ?_)
    · obtain ⟨N, hN, h23⟩ := hsh j hj h16
      refine A_iload_n (dX6_cell 12 rfl) rfl ?_
      refine A_i2l (dX6_cell 13 rfl) ?_
      refine A_lconst (0) (dX6_cell 14 rfl) (by decide +kernel) ?_
      refine A_aload_n (dX6_cell 15 rfl) rfl ?_
      refine A_get (dX6_cell 16 rfl) fwX6_87 MW_0 MF_62 ?_
      refine A_iload_n (dX6_cell 17 rfl) rfl ?_
      refine A_iald (dX6_cell 18 rfl) MW_23 (vp_in_nI (n := j) (by omega) (by decide)) ?_
      rw [nI_clamp (n := j) (by omega)]
      rw [h23]
      refine A_iconst (1) (dX6_cell 19 rfl) (by decide +kernel) ?_
      refine AW.pcq (pc2 := 32) rfl ?_
      refine A_isub (dX6_cell 20 rfl) ?_
      refine A_i2l (dX6_cell 21 rfl) ?_
      refine A_callSWi 3 (dX6_cell 22 rfl) cbX6_in cwX6_103 (m_in E _ i 0 (nI N - 1) _ _ _ rfl (by decide) rfl) rfl rfl (Nat.le_of_ble_eq_true rfl) (Nat.le_of_ble_eq_true rfl) (Nat.le_of_ble_eq_true rfl) (Nat.le_of_ble_eq_true rfl) (Nat.le_of_ble_eq_true rfl) ?_
      rintro r34 w1 ⟨rfl, rfl⟩
      refine AW.pcq (pc2 := 37) rfl ?_
      refine A_if_ne 43 (dX6_cell 23 rfl) (by decide) (fun h37 => ?_) (fun h37 => ?_)
      · obtain ⟨k, hk, rfl⟩ := item_nI hN h37
        refine A_aload_n (dX6_cell 26 rfl) rfl ?_
        refine A_get (dX6_cell 27 rfl) fwX6_90 MW_0 MF_63 ?_
        refine A_bipush (40) (dX6_cell 28 rfl) (by decide +kernel) ?_
        refine A_iload_n (dX6_cell 29 rfl) rfl ?_
        refine A_imul (dX6_cell 30 rfl) ?_
        refine A_iload_n (dX6_cell 31 rfl) rfl ?_
        refine A_iadd (dX6_cell 32 rfl) ?_
        refine A_aload_n (dX6_cell 33 rfl) rfl ?_
        refine AW.pcq (pc2 := 54) rfl ?_
        refine A_get (dX6_cell 34 rfl) fwX6_84 MW_0 MF_61 ?_
        refine A_iload_n (dX6_cell 35 rfl) rfl ?_
        refine A_iald (dX6_cell 36 rfl) MW_22 (vp_in_nI (n := j) (by omega) (by decide)) ?_
        rw [nI_clamp (n := j) (by omega)]
        refine A_if_ne 67 (dX6_cell 37 rfl) (by decide) (fun h59 => ?_) (fun h59 => ?_)
        · refine A_aload_n (dX6_cell 41 rfl) rfl ?_
          refine A_get (dX6_cell 42 rfl) fwX6_84 MW_0 MF_61 ?_
          refine A_iload_n (dX6_cell 43 rfl) rfl ?_
          refine A_iald (dX6_cell 44 rfl) MW_22 (vp_in_nI (n := j) (by omega) (by decide)) ?_
          rw [nI_clamp (n := j) (by omega)]
          refine A_iconst (1) (dX6_cell 45 rfl) (by decide +kernel) ?_
          refine A_icmp_ne 82 (dX6_cell 46 rfl) (by decide) (fun h74 => ?_) (fun h74 => ?_)
          · refine A_iload_n (dX6_cell 50 rfl) rfl ?_
            refine A_iast (dX6_cell 51 rfl) MW_24 (by rw [mul40]; exact vp_in_nI (n := 40 * j + k) (by omega) (by decide)) (MS_24 _) ?_
            rw [mul40, nI_clamp (n := 40 * j + k) (by omega)]
            refine A_iconst (1) (dX6_cell 52 rfl) (by decide +kernel) ?_
            refine A_ri (dX6_cell 53 rfl) rfl rfl ?_
            refine Or.inr ⟨j, hj, rfl, Or.inr ⟨h16, N, hN, h23, Or.inr ⟨k, hk, rfl, rfl, ?_⟩⟩⟩
            first | rw [narS0 (by assumption)] | rw [narS1 (by assumption) (by assumption)] | rw [narS2 (by assumption) (by assumption)]
          · refine A_iload_n (dX6_cell 47 rfl) rfl ?_
            refine A_i2s (dX6_cell 48 rfl) ?_
            refine A_goto 83 (dX6_cell 49 rfl) (by decide) ?_
            refine A_iast (dX6_cell 51 rfl) MW_24 (by rw [mul40]; exact vp_in_nI (n := 40 * j + k) (by omega) (by decide)) (MS_24 _) ?_
            rw [mul40, nI_clamp (n := 40 * j + k) (by omega)]
            refine A_iconst (1) (dX6_cell 52 rfl) (by decide +kernel) ?_
            refine A_ri (dX6_cell 53 rfl) rfl rfl ?_
            refine Or.inr ⟨j, hj, rfl, Or.inr ⟨h16, N, hN, h23, Or.inr ⟨k, hk, rfl, rfl, ?_⟩⟩⟩
            first | rw [narS0 (by assumption)] | rw [narS1 (by assumption) (by assumption)] | rw [narS2 (by assumption) (by assumption)]
        · refine A_iload_n (dX6_cell 38 rfl) rfl ?_
          refine A_i2b (dX6_cell 39 rfl) ?_
          refine A_goto 83 (dX6_cell 40 rfl) (by decide) ?_
          refine A_iast (dX6_cell 51 rfl) MW_24 (by rw [mul40]; exact vp_in_nI (n := 40 * j + k) (by omega) (by decide)) (MS_24 _) ?_
          rw [mul40, nI_clamp (n := 40 * j + k) (by omega)]
          refine A_iconst (1) (dX6_cell 52 rfl) (by decide +kernel) ?_
          refine A_ri (dX6_cell 53 rfl) rfl rfl ?_
          refine Or.inr ⟨j, hj, rfl, Or.inr ⟨h16, N, hN, h23, Or.inr ⟨k, hk, rfl, rfl, ?_⟩⟩⟩
          first | rw [narS0 (by assumption)] | rw [narS1 (by assumption) (by assumption)] | rw [narS2 (by assumption) (by assumption)]
      · refine A_bipush (-12) (dX6_cell 24 rfl) (by decide +kernel) ?_
        refine A_ri (dX6_cell 25 rfl) rfl rfl ?_
        exact Or.inr ⟨j, hj, rfl, Or.inr ⟨h16, N, hN, h23, Or.inl ⟨h37, rfl, rfl⟩⟩⟩
    · refine A_bipush (-11) (dX6_cell 10 rfl) (by decide +kernel) ?_
      refine A_ri (dX6_cell 11 rfl) rfl rfl ?_
      exact Or.inr ⟨j, hj, rfl, Or.inl ⟨h16, rfl, rfl⟩⟩
  · refine A_bipush (-2) (dX6_cell 3 rfl) (by decide +kernel) ?_
    refine A_ri (dX6_cell 4 rfl) rfl rfl ?_
    exact Or.inl ⟨h4, rfl, rfl⟩

