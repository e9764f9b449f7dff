theorem subN {N L : Nat} (hN : N ≤ 40) (hL : L < 2 ^ 31) : (nI N - nI L).toInt = (N : Int) - L := by
  rw [Int32.toInt_sub, nI_toInt (by omega), nI_toInt hL]
  exact Int.bmod_eq_of_le (by omega) (by omega)
def cpB (i j n : Int32) (N1 N2 : Nat) : Prop := n < 0 ∨ i < 0 ∨ j < 0 ∨ nI N1 - n < i ∨ nI N2 - n < j
theorem cp_ok {i j n : Int32} {N1 N2 : Nat} (h1 : N1 ≤ 40) (h2 : N2 ≤ 40) (h : ¬ cpB i j n N1 N2) : ∃ I J L : Nat, i = nI I ∧ j = nI J ∧ n = nI L ∧ I + L ≤ N1 ∧ J + L ≤ N2 := by
  obtain ⟨L, hL, rfl⟩ := nI_of (x := n) (fun z => h (Or.inl z))
  obtain ⟨I, hI, rfl⟩ := nI_of (x := i) (fun z => h (Or.inr (Or.inl z)))
  obtain ⟨J, hJ, rfl⟩ := nI_of (x := j) (fun z => h (Or.inr (Or.inr (Or.inl z))))
  have e1 : ¬ nI N1 - nI L < nI I := fun z => h (Or.inr (Or.inr (Or.inr (Or.inl z))))
  have e2 : ¬ nI N2 - nI L < nI J := fun z => h (Or.inr (Or.inr (Or.inr (Or.inr z))))
  rw [Int32.lt_iff_toInt_lt, subN h1 hL, nI_toInt hI] at e1
  rw [Int32.lt_iff_toInt_lt, subN h2 hL, nI_toInt hJ] at e2
  exact ⟨I, J, L, rfl, rfl, rfl, by omega, by omega⟩
def cpU (f : Nat → Int32) (sp dp L c : Nat) : Nat → Int32 := fun k => if dp + (L - c) ≤ k ∧ k < dp + L then f (sp + (k - dp)) else f k
theorem cpy_0 (f : Nat → Int32) (sp dp : Nat) : va_cpy f f sp dp 0 = f := by funext k; unfold va_cpy; rw [if_neg (by omega)]
theorem cpy_s (f : Nat → Int32) (sp dp c : Nat) : upd (va_cpy f f sp dp c) (dp + c) (f (sp + c)) = va_cpy f f sp dp (c + 1) := by
  funext k
  simp only [upd, va_cpy]
  by_cases e : k = dp + c
  · rw [if_pos e, if_pos (by omega), show sp + (k - dp) = sp + c by omega]
  · rw [if_neg e]
    by_cases e2 : dp ≤ k ∧ k < dp + c
    · rw [if_pos e2, if_pos (by omega)]
    · rw [if_neg e2, if_neg (by omega)]
theorem cpU_0 (f : Nat → Int32) (sp dp L : Nat) : cpU f sp dp L 0 = f := by funext k; unfold cpU; rw [if_neg (by omega)]
theorem cpU_L (f : Nat → Int32) (sp dp L : Nat) : cpU f sp dp L L = va_cpy f f sp dp L := by funext k; unfold cpU va_cpy; rw [show dp + (L - L) = dp by omega]
theorem cpU_s {L c : Nat} (hc : c < L) (f : Nat → Int32) (sp dp : Nat) : upd (cpU f sp dp L c) (dp + (L - 1 - c)) (f (sp + (L - 1 - c))) = cpU f sp dp L (c + 1) := by
  funext k
  simp only [upd, cpU]
  by_cases e : k = dp + (L - 1 - c)
  · rw [if_pos e, if_pos (by omega), show sp + (k - dp) = sp + (L - 1 - c) by omega]
  · rw [if_neg e]
    by_cases e2 : dp + (L - c) ≤ k ∧ k < dp + L
    · rw [if_pos e2, if_pos (by omega)]
    · rw [if_neg e2, if_neg (by omega)]
theorem q_up {L c : Nat} (hc : c < L) : nI L - 1 - nI c = nI (L - 1 - c) := by
  obtain ⟨j, rfl⟩ : ∃ j, L = j + 1 := ⟨L - 1, by omega⟩
  rw [nI_pred, pk_sub (by omega)]
  rfl
set_option maxRecDepth 100000 in
set_option maxHeartbeats 400000 in
theorem m_copyL0 (E : ag) (q : Nat → Nat) (g : Nat → Int32) (tw : Int64) (a : Nat → Nat → Int32) (S O I J L : Nat) (hS : S < 4) (hO : O < 4) (hI : I + L ≤ 40) (hJ : J + L ≤ 40) (hno : S ≠ O ∨ J ≤ I) : ∀ (n c : Nat), c + n = L → ∀ (x8 : Option Value), noL [x8] = true → AW E mX6_copy 3 0 0 121 [some (.ref (q 0)), some (.int (nI S)), some (.int (nI I)), some (.int (nI O)), some (.int (nI J)), some (.int (nI L)), some (.int 0), some (.int (nI c)), x8] [] (MW E q g tw (va_up a 24 (va_cpy (a 24) (a 24) (40 * S + I) (40 * O + J) c))) (ri (fun r w => r = nI L ∧ w = MW E q g tw (va_up a 24 (va_cpy (a 24) (a 24) (40 * S + I) (40 * O + J) L)))) := by
  intro n
  induction n with
  | zero =>
    intro c hc
    intro x8 hx
    obtain rfl : L = c := by omega
    refine A_iload (dX6_copy 67 rfl) rfl ?_
    refine A_iload (dX6_copy 68 rfl) rfl ?_
    refine A_icmp_ge 182 (dX6_copy 69 rfl) (by decide) (fun h125 => ?_) (fun h125 => absurd (nI_le (a := L) (b := L) (Nat.le_refl _) (by omega)) h125)
    refine A_iload (dX6_copy 102 rfl) rfl ?_
    refine A_ri (dX6_copy 103 rfl) rfl rfl ?_
    exact ⟨rfl, rfl⟩
  | succ n ih =>
    intro c hc
    have hlt : c < L := by omega
    intro x8 hx
    refine A_iload (dX6_copy 67 rfl) rfl ?_
    refine A_iload (dX6_copy 68 rfl) rfl ?_
    refine A_icmp_ge 182 (dX6_copy 69 rfl) (by decide) (fun h125 => absurd h125 (nI_ge hlt (by omega))) (fun h125 => ?_)
    refine A_iload (dX6_copy 70 rfl) rfl ?_
    refine A_if_eq 143 (dX6_copy 71 rfl) (by decide) (fun h130 => ?_) (fun h130 => absurd rfl h130)
    refine A_iload (dX6_copy 78 rfl) rfl ?_
    refine A_istore (ls2 := [_, _, _, _, _, _, _, _, _]) (dX6_copy 79 rfl) (by decide) (by have := hx; simp_all [noL, Value.category]) rfl ?_
    refine A_aload_n (dX6_copy 80 rfl) rfl ?_
    refine A_get (dX6_copy 81 rfl) fwX6_90 MW_0 MF_63 ?_
    refine A_bipush (40) (dX6_copy 82 rfl) (by decide +kernel) ?_
    refine A_iload_n (dX6_copy 83 rfl) rfl ?_
    refine A_imul (dX6_copy 84 rfl) ?_
    refine A_iload (dX6_copy 85 rfl) rfl ?_
    refine AW.pcq (pc2 := 157) rfl ?_
    refine A_iadd (dX6_copy 86 rfl) ?_
    refine A_iload (dX6_copy 87 rfl) rfl ?_
    refine A_iadd (dX6_copy 88 rfl) ?_
    rw [mul40, nI_add]
    refine A_aload_n (dX6_copy 89 rfl) rfl ?_
    refine A_get (dX6_copy 90 rfl) fwX6_90 MW_0 MF_63 ?_
    refine A_bipush (40) (dX6_copy 91 rfl) (by decide +kernel) ?_
    refine A_iload_n (dX6_copy 92 rfl) rfl ?_
    refine A_imul (dX6_copy 93 rfl) ?_
    refine AW.pcq (pc2 := 169) rfl ?_
    refine A_iload_n (dX6_copy 94 rfl) rfl ?_
    refine A_iadd (dX6_copy 95 rfl) ?_
    refine A_iload (dX6_copy 96 rfl) rfl ?_
    refine A_iadd (dX6_copy 97 rfl) ?_
    rw [mul40, nI_add]
    refine A_iald (dX6_copy 98 rfl) MW_24 (vp_in_nI (n := 40 * S + I + c) (by omega) (by decide)) ?_
    rw [nI_clamp (n := 40 * S + I + c) (by omega)]
    have hrd : (va_cpy (a 24) (a 24) (40 * S + I) (40 * O + J) c) (40 * S + I + c) = a 24 (40 * S + I + c) := by
      unfold va_cpy
      rw [if_neg (by omega)]
    refine AW.stack (st2 := [.int (a 24 (40 * S + I + c)), .int (nI (40 * O + J + c)), .ref (q 24)]) (by rw [← hrd]; rfl) ?_
    refine A_iast (dX6_copy 99 rfl) MW_24 (vp_in_nI (n := 40 * O + J + c) (by omega) (by decide)) (MS_24 _) ?_
    rw [nI_clamp (n := 40 * O + J + c) (by omega)]
    refine AW.world (ws2 := MW E q g tw (va_up a 24 (va_cpy (a 24) (a 24) (40 * S + I) (40 * O + J) (c + 1)))) (congrArg (MW E q g tw) (by rw [up24, ← cpy_s]; rfl)) ?_
    refine A_iinc (ls2 := [_, _, _, _, _, _, _, _, _]) (nI (c + 1)) (dX6_copy 100 rfl) rfl (nI_1 c) (by decide) (by have := hx; simp_all [noL, Value.category]) rfl ?_
    refine A_goto 121 (dX6_copy 101 rfl) (by decide) ?_
    exact ih (c + 1) (by omega) _ (by rfl)

set_option maxRecDepth 100000 in
set_option maxHeartbeats 400000 in
theorem m_copyL1 (E : ag) (q : Nat → Nat) (g : Nat → Int32) (tw : Int64) (a : Nat → Nat → Int32) (S O I J L : Nat) (hS : S < 4) (hO : O < 4) (hI : I + L ≤ 40) (hJ : J + L ≤ 40) (hno : S = O ∧ I < J) : ∀ (n c : Nat), c + n = L → ∀ (x8 : Option Value), noL [x8] = true → AW E mX6_copy 3 0 0 121 [some (.ref (q 0)), some (.int (nI S)), some (.int (nI I)), some (.int (nI O)), some (.int (nI J)), some (.int (nI L)), some (.int 1), some (.int (nI c)), x8] [] (MW E q g tw (va_up a 24 (cpU (a 24) (40 * S + I) (40 * O + J) L c))) (ri (fun r w => r = nI L ∧ w = MW E q g tw (va_up a 24 (va_cpy (a 24) (a 24) (40 * S + I) (40 * O + J) L)))) := by
  intro n
  induction n with
  | zero =>
    intro c hc
    intro x8 hx
    obtain rfl : L = c := by omega
    refine A_iload (dX6_copy 67 rfl) rfl ?_
    refine A_iload (dX6_copy 68 rfl) rfl ?_
    refine A_icmp_ge 182 (dX6_copy 69 rfl) (by decide) (fun h125 => ?_) (fun h125 => absurd (nI_le (a := L) (b := L) (Nat.le_refl _) (by omega)) h125)
    refine A_iload (dX6_copy 102 rfl) rfl ?_
    refine A_ri (dX6_copy 103 rfl) rfl rfl ?_
    exact ⟨rfl, by rw [cpU_L]⟩
  | succ n ih =>
    intro c hc
    have hlt : c < L := by omega
    intro x8 hx
    refine A_iload (dX6_copy 67 rfl) rfl ?_
    refine A_iload (dX6_copy 68 rfl) rfl ?_
    refine A_icmp_ge 182 (dX6_copy 69 rfl) (by decide) (fun h125 => absurd h125 (nI_ge hlt (by omega))) (fun h125 => ?_)
    refine A_iload (dX6_copy 70 rfl) rfl ?_
    refine A_if_eq 143 (dX6_copy 71 rfl) (by decide) (fun h130 => absurd h130 (by decide)) (fun h130 => ?_)
    refine A_iload (dX6_copy 72 rfl) rfl ?_
    refine A_iconst (1) (dX6_copy 73 rfl) (by decide +kernel) ?_
    refine A_isub (dX6_copy 74 rfl) ?_
    refine AW.pcq (pc2 := 137) rfl ?_
    refine A_iload (dX6_copy 75 rfl) rfl ?_
    refine A_isub (dX6_copy 76 rfl) ?_
    refine A_goto 145 (dX6_copy 77 rfl) (by decide) ?_
    rw [q_up hlt]
    refine A_istore (ls2 := [_, _, _, _, _, _, _, _, _]) (dX6_copy 79 rfl) (by decide) (by have := hx; simp_all [noL, Value.category]) rfl ?_
    refine A_aload_n (dX6_copy 80 rfl) rfl ?_
    refine A_get (dX6_copy 81 rfl) fwX6_90 MW_0 MF_63 ?_
    refine A_bipush (40) (dX6_copy 82 rfl) (by decide +kernel) ?_
    refine A_iload_n (dX6_copy 83 rfl) rfl ?_
    refine A_imul (dX6_copy 84 rfl) ?_
    refine A_iload (dX6_copy 85 rfl) rfl ?_
    refine A_iadd (dX6_copy 86 rfl) ?_
    refine AW.pcq (pc2 := 158) rfl ?_
    refine A_iload (dX6_copy 87 rfl) rfl ?_
    refine A_iadd (dX6_copy 88 rfl) ?_
    rw [mul40, nI_add]
    refine A_aload_n (dX6_copy 89 rfl) rfl ?_
    refine A_get (dX6_copy 90 rfl) fwX6_90 MW_0 MF_63 ?_
    refine A_bipush (40) (dX6_copy 91 rfl) (by decide +kernel) ?_
    refine A_iload_n (dX6_copy 92 rfl) rfl ?_
    refine A_imul (dX6_copy 93 rfl) ?_
    refine A_iload_n (dX6_copy 94 rfl) rfl ?_
    refine AW.pcq (pc2 := 170) rfl ?_
    refine A_iadd (dX6_copy 95 rfl) ?_
    refine A_iload (dX6_copy 96 rfl) rfl ?_
    refine A_iadd (dX6_copy 97 rfl) ?_
    rw [mul40, nI_add]
    refine A_iald (dX6_copy 98 rfl) MW_24 (vp_in_nI (n := 40 * S + I + (L - 1 - c)) (by omega) (by decide)) ?_
    rw [nI_clamp (n := 40 * S + I + (L - 1 - c)) (by omega)]
    have hrd : (cpU (a 24) (40 * S + I) (40 * O + J) L c) (40 * S + I + (L - 1 - c)) = a 24 (40 * S + I + (L - 1 - c)) := by
      unfold cpU
      rw [if_neg (by omega)]
    refine AW.stack (st2 := [.int (a 24 (40 * S + I + (L - 1 - c))), .int (nI (40 * O + J + (L - 1 - c))), .ref (q 24)]) (by rw [← hrd]; rfl) ?_
    refine A_iast (dX6_copy 99 rfl) MW_24 (vp_in_nI (n := 40 * O + J + (L - 1 - c)) (by omega) (by decide)) (MS_24 _) ?_
    rw [nI_clamp (n := 40 * O + J + (L - 1 - c)) (by omega)]
    refine AW.world (ws2 := MW E q g tw (va_up a 24 (cpU (a 24) (40 * S + I) (40 * O + J) L (c + 1)))) (congrArg (MW E q g tw) (by rw [up24, ← cpU_s hlt]; rfl)) ?_
    refine A_iinc (ls2 := [_, _, _, _, _, _, _, _, _]) (nI (c + 1)) (dX6_copy 100 rfl) rfl (nI_1 c) (by decide) (by have := hx; simp_all [noL, Value.category]) rfl ?_
    refine A_goto 121 (dX6_copy 101 rfl) (by decide) ?_
    exact ih (c + 1) (by omega) _ (by rfl)

set_option maxRecDepth 100000 in
set_option maxHeartbeats 400000 in
theorem m_copy (E : ag) (q : Nat → Nat) (g : Nat → Int32) (tw : Int64) (a : Nat → Nat → Int32) (s i o j n : Int32) (hsh : SHI a) : CT E yX6_copy cX6_copy 9 mX6_copy.2.2.2.1 3 0 0 [.ref (q 0), .int s, .int i, .int o, .int j, .int n] (MW E q g tw a) (ri (fun r w => ((inI s 0 3 = 0 ∨ inI o 0 3 = 0) ∧ r = -2 ∧ w = MW E q g tw a) ∨ (∃ S O, S < 4 ∧ O < 4 ∧ s = nI S ∧ o = nI O ∧ (((a 21 S = 0 ∨ a 21 O = 0) ∧ r = -11 ∧ w = MW E q g tw a) ∨ (¬ a 21 S = 0 ∧ ¬ a 21 O = 0 ∧ ∃ N1 N2, N1 ≤ 40 ∧ N2 ≤ 40 ∧ a 23 S = nI N1 ∧ a 23 O = nI N2 ∧ ((¬ a 22 S = a 22 O ∧ r = -13 ∧ w = MW E q g tw a) ∨ (a 22 S = a 22 O ∧ cpB i j n N1 N2 ∧ r = -12 ∧ w = MW E q g tw a) ∨ (a 22 S = a 22 O ∧ ¬ cpB i j n N1 N2 ∧ ∃ I J L, i = nI I ∧ j = nI J ∧ n = nI L ∧ I + L ≤ N1 ∧ J + L ≤ N2 ∧ r = nI L ∧ w = MW E q g tw (va_up a 24 (va_cpy (a 24) (a 24) (40 * S + I) (40 * O + J) L))))))))) := by
  refine CT.of (M := mX6_copy) (ls := [some (.ref (q 0)), some (.int s), some (.int i), some (.int o), some (.int j), some (.int n), none, none, none]) (by decide) rfl (by decide) rfl (Nat.le_of_ble_eq_true rfl) ?_
  refine A_iload_n (dX6_copy 0 rfl) rfl ?_
  refine A_callSWi 1 (dX6_copy 1 rfl) cbX6_isSheet cwX6_372 (m_isSheet E _ s) rfl rfl (Nat.le_of_ble_eq_true rfl) (Nat.le_of_ble_eq_true rfl) (Nat.le_of_ble_eq_true rfl) (Nat.le_of_ble_eq_true rfl) (Nat.le_of_ble_eq_true rfl) ?_
  rintro r1 w1 ⟨rfl, rfl⟩
  refine AW.pcq (pc2 := 4) rfl ?_
  refine A_if_eq 14 (dX6_copy 2 rfl) (by decide) (fun h4 => ?_) (fun h4 => ?_)
  · refine A_bipush (-2) (dX6_copy 6 rfl) (by decide +kernel) ?_
    refine A_ri (dX6_copy 7 rfl) rfl rfl ?_
    exact Or.inl ⟨by first | exact Or.inl (by assumption) | exact Or.inr (by assumption), rfl, rfl⟩
  · refine A_iload_n (dX6_copy 3 rfl) rfl ?_
    refine A_callSWi 1 (dX6_copy 4 rfl) cbX6_isSheet cwX6_372 (m_isSheet E _ o) rfl rfl (Nat.le_of_ble_eq_true rfl) (Nat.le_of_ble_eq_true rfl) (Nat.le_of_ble_eq_true rfl) (Nat.le_of_ble_eq_true rfl) (Nat.le_of_ble_eq_true rfl) ?_
    rintro r8 w1 ⟨rfl, rfl⟩
    refine AW.pcq (pc2 := 11) rfl ?_
    refine A_if_ne 17 (dX6_copy 5 rfl) (by decide) (fun h11 => ?_) (fun h11 => ?_)
    · obtain ⟨S, hS, rfl⟩ := sheet_nI h4
      obtain ⟨O, hO, rfl⟩ := sheet_nI h11
      refine AW.mono (post := ri (fun r w => _)) ?_ (fun v w hz => by obtain ⟨r, h91, h92⟩ := hz; exact ⟨r, h91, Or.inr ⟨S, O, hS, hO, rfl, rfl, h92⟩⟩)
      refine A_aload_n (dX6_copy 8 rfl) rfl ?_
      refine A_get (dX6_copy 9 rfl) fwX6_80 MW_0 MF_60 ?_
      refine A_iload_n (dX6_copy 10 rfl) rfl ?_
      refine A_zald (dX6_copy 11 rfl) MW_21 (vp_in_nI (n := S) (by omega) (by decide)) ?_
      rw [nI_clamp (n := S) (by omega)]
      refine A_if_eq 35 (dX6_copy 12 rfl) (by decide) (fun h23 => ?_) (fun h23 => ?_)
      · refine A_bipush (-11) (dX6_copy 18 rfl) (by decide +kernel) ?_
        refine A_ri (dX6_copy 19 rfl) rfl rfl ?_
        exact Or.inl ⟨by first | exact Or.inl (by assumption) | exact Or.inr (by assumption), rfl, rfl⟩
      · refine A_aload_n (dX6_copy 13 rfl) rfl ?_
        refine A_get (dX6_copy 14 rfl) fwX6_80 MW_0 MF_60 ?_
        refine A_iload_n (dX6_copy 15 rfl) rfl ?_
        refine A_zald (dX6_copy 16 rfl) MW_21 (vp_in_nI (n := O) (by omega) (by decide)) ?_
        rw [nI_clamp (n := O) (by omega)]
        refine A_if_ne 38 (dX6_copy 17 rfl) (by decide) (fun h32 => ?_) (fun h32 => ?_)
        · obtain ⟨N1, hN1, h231⟩ := hsh S hS h23
          obtain ⟨N2, hN2, h232⟩ := hsh O hO h32
          refine AW.mono (post := ri (fun r w => _)) ?_ (fun v w hz => by obtain ⟨r, h91, h92⟩ := hz; exact ⟨r, h91, Or.inr ⟨h23, h32, N1, N2, hN1, hN2, h231, h232, h92⟩⟩)
          refine A_aload_n (dX6_copy 20 rfl) rfl ?_
          refine A_get (dX6_copy 21 rfl) fwX6_84 MW_0 MF_61 ?_
          refine A_iload_n (dX6_copy 22 rfl) rfl ?_
          refine A_iald (dX6_copy 23 rfl) MW_22 (vp_in_nI (n := S) (by omega) (by decide)) ?_
          rw [nI_clamp (n := S) (by omega)]
          refine A_aload_n (dX6_copy 24 rfl) rfl ?_
          refine A_get (dX6_copy 25 rfl) fwX6_84 MW_0 MF_61 ?_
          refine A_iload_n (dX6_copy 26 rfl) rfl ?_
          refine A_iald (dX6_copy 27 rfl) MW_22 (vp_in_nI (n := O) (by omega) (by decide)) ?_
          rw [nI_clamp (n := O) (by omega)]
          refine AW.pcq (pc2 := 50) rfl ?_
          refine A_icmp_eq 56 (dX6_copy 28 rfl) (by decide) (fun h50 => ?_) (fun h50 => ?_)
          · refine A_iload (dX6_copy 31 rfl) rfl ?_
            refine A_if_lt 97 (dX6_copy 32 rfl) (by decide) (fun h58 => ?_) (fun h58 => ?_)
            · refine A_bipush (-12) (dX6_copy 53 rfl) (by decide +kernel) ?_
              refine A_ri (dX6_copy 54 rfl) rfl rfl ?_
              exact Or.inr (Or.inl ⟨h50, by first | exact Or.inl (by assumption) | exact Or.inr (Or.inl (by assumption)) | exact Or.inr (Or.inr (Or.inl (by assumption))) | exact Or.inr (Or.inr (Or.inr (Or.inl h80))) | exact Or.inr (Or.inr (Or.inr (Or.inr (Int32.not_le.mp h94)))), rfl, rfl⟩)
            · refine A_iload_n (dX6_copy 33 rfl) rfl ?_
              refine A_if_lt 97 (dX6_copy 34 rfl) (by decide) (fun h62 => ?_) (fun h62 => ?_)
              · refine A_bipush (-12) (dX6_copy 53 rfl) (by decide +kernel) ?_
                refine A_ri (dX6_copy 54 rfl) rfl rfl ?_
                exact Or.inr (Or.inl ⟨h50, by first | exact Or.inl (by assumption) | exact Or.inr (Or.inl (by assumption)) | exact Or.inr (Or.inr (Or.inl (by assumption))) | exact Or.inr (Or.inr (Or.inr (Or.inl h80))) | exact Or.inr (Or.inr (Or.inr (Or.inr (Int32.not_le.mp h94)))), rfl, rfl⟩)
              · refine A_iload (dX6_copy 35 rfl) rfl ?_
                refine A_if_lt 97 (dX6_copy 36 rfl) (by decide) (fun h67 => ?_) (fun h67 => ?_)
                · refine A_bipush (-12) (dX6_copy 53 rfl) (by decide +kernel) ?_
                  refine A_ri (dX6_copy 54 rfl) rfl rfl ?_
                  exact Or.inr (Or.inl ⟨h50, by first | exact Or.inl (by assumption) | exact Or.inr (Or.inl (by assumption)) | exact Or.inr (Or.inr (Or.inl (by assumption))) | exact Or.inr (Or.inr (Or.inr (Or.inl h80))) | exact Or.inr (Or.inr (Or.inr (Or.inr (Int32.not_le.mp h94)))), rfl, rfl⟩)
                · refine A_iload_n (dX6_copy 37 rfl) rfl ?_
                  refine A_aload_n (dX6_copy 38 rfl) rfl ?_
                  refine A_get (dX6_copy 39 rfl) fwX6_87 MW_0 MF_62 ?_
                  refine A_iload_n (dX6_copy 40 rfl) rfl ?_
                  refine A_iald (dX6_copy 41 rfl) MW_23 (vp_in_nI (n := S) (by omega) (by decide)) ?_
                  rw [nI_clamp (n := S) (by omega)]
                  rw [h231]
                  refine A_iload (dX6_copy 42 rfl) rfl ?_
                  refine A_isub (dX6_copy 43 rfl) ?_
                  refine A_icmp_gt 97 (dX6_copy 44 rfl) (by decide) (fun h80 => ?_) (fun h80 => ?_)
                  · refine A_bipush (-12) (dX6_copy 53 rfl) (by decide +kernel) ?_
                    refine A_ri (dX6_copy 54 rfl) rfl rfl ?_
                    exact Or.inr (Or.inl ⟨h50, by first | exact Or.inl (by assumption) | exact Or.inr (Or.inl (by assumption)) | exact Or.inr (Or.inr (Or.inl (by assumption))) | exact Or.inr (Or.inr (Or.inr (Or.inl h80))) | exact Or.inr (Or.inr (Or.inr (Or.inr (Int32.not_le.mp h94)))), rfl, rfl⟩)
                  · refine A_iload (dX6_copy 45 rfl) rfl ?_
                    refine A_aload_n (dX6_copy 46 rfl) rfl ?_
                    refine A_get (dX6_copy 47 rfl) fwX6_87 MW_0 MF_62 ?_
                    refine A_iload_n (dX6_copy 48 rfl) rfl ?_
                    refine A_iald (dX6_copy 49 rfl) MW_23 (vp_in_nI (n := O) (by omega) (by decide)) ?_
                    rw [nI_clamp (n := O) (by omega)]
                    rw [h232]
                    refine A_iload (dX6_copy 50 rfl) rfl ?_
                    refine A_isub (dX6_copy 51 rfl) ?_
                    refine A_icmp_le 100 (dX6_copy 52 rfl) (by decide) (fun h94 => ?_) (fun h94 => ?_)
                    · have hB : ¬ cpB i j n N1 N2 := by
                        rintro (z | z | z | z | z)
                        · exact h58 z
                        · exact h62 z
                        · exact h67 z
                        · exact h80 z
                        · exact absurd z (Int32.not_lt.mpr h94)
                      obtain ⟨I, J, L, rfl, rfl, rfl, hI, hJ⟩ := cp_ok hN1 hN2 hB
                      refine A_iload_n (dX6_copy 55 rfl) rfl ?_
                      refine A_iload_n (dX6_copy 56 rfl) rfl ?_
                      refine A_icmp_ne 115 (dX6_copy 57 rfl) (by decide) (fun h102 => ?_) (fun h102 => ?_)
                      · refine A_iconst (0) (dX6_copy 63 rfl) (by decide +kernel) ?_
                        refine A_istore (ls2 := [_, _, _, _, _, _, _, _, _]) (dX6_copy 64 rfl) (by decide) rfl rfl ?_
                        refine A_iconst (0) (dX6_copy 65 rfl) (by decide +kernel) ?_
                        refine A_istore (ls2 := [_, _, _, _, _, _, _, _, _]) (dX6_copy 66 rfl) (by decide) rfl rfl ?_
                        first
                          | (have hno : S ≠ O ∨ J ≤ I := by
                               first
                                 | exact Or.inl (fun z => h102 (by rw [z]))
                                 | exact Or.inr ((nI_leI (a := J) (b := I) (by omega) (by omega)).mp h108)
                             have h9' := m_copyL0 E q g tw a S O I J L hS hO (by omega) (by omega) hno L 0 (by omega) none rfl
                             rw [cpy_0, up_same] at h9'
                             refine AW.mono h9' (fun v w hz => ?_)
                             obtain ⟨r, h91, h92, h93⟩ := hz
                             exact ⟨r, h91, Or.inr (Or.inr ⟨h50, hB, I, J, L, rfl, rfl, rfl, hI, hJ, h92, h93⟩)⟩)
                          | (have hno : S = O ∧ I < J := ⟨(nI_eq (by omega) (by omega)).mp h102, (nI_ltI (a := I) (b := J) (by omega) (by omega)).mp (Int32.not_le.mp h108)⟩
                             have h9' := m_copyL1 E q g tw a S O I J L hS hO (by omega) (by omega) hno L 0 (by omega) none rfl
                             rw [cpU_0, up_same] at h9'
                             refine AW.mono h9' (fun v w hz => ?_)
                             obtain ⟨r, h91, h92, h93⟩ := hz
                             exact ⟨r, h91, Or.inr (Or.inr ⟨h50, hB, I, J, L, rfl, rfl, rfl, hI, hJ, h92, h93⟩)⟩)
                      · refine A_iload_n (dX6_copy 58 rfl) rfl ?_
                        refine A_iload (dX6_copy 59 rfl) rfl ?_
                        refine A_icmp_ge 115 (dX6_copy 60 rfl) (by decide) (fun h108 => ?_) (fun h108 => ?_)
                        · refine A_iconst (0) (dX6_copy 63 rfl) (by decide +kernel) ?_
                          refine A_istore (ls2 := [_, _, _, _, _, _, _, _, _]) (dX6_copy 64 rfl) (by decide) rfl rfl ?_
                          refine A_iconst (0) (dX6_copy 65 rfl) (by decide +kernel) ?_
                          refine A_istore (ls2 := [_, _, _, _, _, _, _, _, _]) (dX6_copy 66 rfl) (by decide) rfl rfl ?_
                          first
                            | (have hno : S ≠ O ∨ J ≤ I := by
                                 first
                                   | exact Or.inl (fun z => h102 (by rw [z]))
                                   | exact Or.inr ((nI_leI (a := J) (b := I) (by omega) (by omega)).mp h108)
                               have h9' := m_copyL0 E q g tw a S O I J L hS hO (by omega) (by omega) hno L 0 (by omega) none rfl
                               rw [cpy_0, up_same] at h9'
                               refine AW.mono h9' (fun v w hz => ?_)
                               obtain ⟨r, h91, h92, h93⟩ := hz
                               exact ⟨r, h91, Or.inr (Or.inr ⟨h50, hB, I, J, L, rfl, rfl, rfl, hI, hJ, h92, h93⟩)⟩)
                            | (have hno : S = O ∧ I < J := ⟨(nI_eq (by omega) (by omega)).mp h102, (nI_ltI (a := I) (b := J) (by omega) (by omega)).mp (Int32.not_le.mp h108)⟩
                               have h9' := m_copyL1 E q g tw a S O I J L hS hO (by omega) (by omega) hno L 0 (by omega) none rfl
                               rw [cpU_0, up_same] at h9'
                               refine AW.mono h9' (fun v w hz => ?_)
                               obtain ⟨r, h91, h92, h93⟩ := hz
                               exact ⟨r, h91, Or.inr (Or.inr ⟨h50, hB, I, J, L, rfl, rfl, rfl, hI, hJ, h92, h93⟩)⟩)
                        · refine A_iconst (1) (dX6_copy 61 rfl) (by decide +kernel) ?_
                          refine A_goto 116 (dX6_copy 62 rfl) (by decide) ?_
                          refine A_istore (ls2 := [_, _, _, _, _, _, _, _, _]) (dX6_copy 64 rfl) (by decide) rfl rfl ?_
                          refine A_iconst (0) (dX6_copy 65 rfl) (by decide +kernel) ?_
                          refine A_istore (ls2 := [_, _, _, _, _, _, _, _, _]) (dX6_copy 66 rfl) (by decide) rfl rfl ?_
                          first
                            | (have hno : S ≠ O ∨ J ≤ I := by
                                 first
                                   | exact Or.inl (fun z => h102 (by rw [z]))
                                   | exact Or.inr ((nI_leI (a := J) (b := I) (by omega) (by omega)).mp h108)
                               have h9' := m_copyL0 E q g tw a S O I J L hS hO (by omega) (by omega) hno L 0 (by omega) none rfl
                               rw [cpy_0, up_same] at h9'
                               refine AW.mono h9' (fun v w hz => ?_)
                               obtain ⟨r, h91, h92, h93⟩ := hz
                               exact ⟨r, h91, Or.inr (Or.inr ⟨h50, hB, I, J, L, rfl, rfl, rfl, hI, hJ, h92, h93⟩)⟩)
                            | (have hno : S = O ∧ I < J := ⟨(nI_eq (by omega) (by omega)).mp h102, (nI_ltI (a := I) (b := J) (by omega) (by omega)).mp (Int32.not_le.mp h108)⟩
                               have h9' := m_copyL1 E q g tw a S O I J L hS hO (by omega) (by omega) hno L 0 (by omega) none rfl
                               rw [cpU_0, up_same] at h9'
                               refine AW.mono h9' (fun v w hz => ?_)
                               obtain ⟨r, h91, h92, h93⟩ := hz
                               exact ⟨r, h91, Or.inr (Or.inr ⟨h50, hB, I, J, L, rfl, rfl, rfl, hI, hJ, h92, h93⟩)⟩)
                    · refine A_bipush (-12) (dX6_copy 53 rfl) (by decide +kernel) ?_
                      refine A_ri (dX6_copy 54 rfl) rfl rfl ?_
                      exact Or.inr (Or.inl ⟨h50, by first | exact Or.inl (by assumption) | exact Or.inr (Or.inl (by assumption)) | exact Or.inr (Or.inr (Or.inl (by assumption))) | exact Or.inr (Or.inr (Or.inr (Or.inl h80))) | exact Or.inr (Or.inr (Or.inr (Or.inr (Int32.not_le.mp h94)))), rfl, rfl⟩)
          · refine A_bipush (-13) (dX6_copy 29 rfl) (by decide +kernel) ?_
            refine A_ri (dX6_copy 30 rfl) rfl rfl ?_
            exact Or.inl ⟨h50, rfl, rfl⟩
        · refine A_bipush (-11) (dX6_copy 18 rfl) (by decide +kernel) ?_
          refine A_ri (dX6_copy 19 rfl) rfl rfl ?_
          exact Or.inl ⟨by first | exact Or.inl (by assumption) | exact Or.inr (by assumption), rfl, rfl⟩
    · refine A_bipush (-2) (dX6_copy 6 rfl) (by decide +kernel) ?_
      refine A_ri (dX6_copy 7 rfl) rfl rfl ?_
      exact Or.inl ⟨by first | exact Or.inl (by assumption) | exact Or.inr (by assumption), rfl, rfl⟩

