theorem cpG_0 (f h : Nat → Int32) (sp dp : Nat) : va_cpy f h sp dp 0 = h := by funext k; unfold va_cpy; rw [if_neg (by omega)]
theorem cpG_s (f h : Nat → Int32) (sp dp c : Nat) : upd (va_cpy f h sp dp c) (dp + c) (f (sp + c)) = va_cpy f h sp dp (c + 1) := by
  funext k
  simp only [upd, va_cpy]
  by_cases e : k = dp + c
  · rw [if_pos e, if_pos (by omega), show sp + (k - dp) = sp + c by omega]
  · rw [if_neg e]
    by_cases e2 : dp ≤ k ∧ k < dp + c
    · rw [if_pos e2, if_pos (by omega)]
    · rw [if_neg e2, if_neg (by omega)]
def txA (a : Nat → Nat → Int32) (t n : Nat) : Nat → Nat → Int32 := va_up (va_up a 1 (va_cpy (a 3) (a 1) 0 (160 * t) n)) 2 (upd (a 2) t (nI n))
theorem txA_1 {a : Nat → Nat → Int32} {t n k : Nat} (h : k < n) : txA a t n 1 (160 * t + k) = a 3 k := by
  show va_cpy (a 3) (a 1) 0 (160 * t) n (160 * t + k) = a 3 k
  rw [pk_cpy_in (by omega) (by omega)]
  congr 1
  omega
theorem txA_B {a : Nat → Nat → Int32} {t n : Nat} : Bof (txA a t n 1) (160 * t) n = Bof (a 3) 0 n := by
  funext k
  simp only [Bof]
  by_cases h : k < n
  · rw [if_pos h, if_pos h, txA_1 h, Nat.zero_add]
  · rw [if_neg h, if_neg h]
theorem txA_2 {a : Nat → Nat → Int32} {t n : Nat} : txA a t n 2 t = nI n := by show upd (a 2) t (nI n) t = nI n; exact pk_us
theorem mul160 (j k : Nat) : (160 : Int32) * nI j + nI k = nI (160 * j + k) := by rw [show (160 : Int32) * nI j = nI (160 * j) from pk_mul 160 j, nI_add]
set_option maxRecDepth 100000 in
set_option maxHeartbeats 400000 in
theorem m_textF (E : ag) (q : Nat → Nat) (g : Nat → Int32) (tw : Int64) (a : Nat → Nat → Int32) (h3 : g 3 = 6) : CT E yX6_text cX6_text 2 mX6_text.2.2.2.1 44 0 0 [.ref (q 0)] (MW E q g tw a) (ri (fun r w => r = -4 ∧ w = MW E q g tw a)) := by
  refine CT.of (M := mX6_text) (ls := [some (.ref (q 0)), none]) (by decide) rfl (by decide) rfl (Nat.le_of_ble_eq_true rfl) ?_
  refine A_aload_n (dX6_text 0 rfl) rfl ?_
  refine A_get (dX6_text 1 rfl) fwX6_97 MW_0 MF_3 ?_
  refine A_bipush (6) (dX6_text 2 rfl) (by decide +kernel) ?_
  refine A_icmp_ne 12 (dX6_text 3 rfl) (by decide) (fun h6 => absurd h3 h6) (fun h6 => ?_)
  refine A_bipush (-4) (dX6_text 4 rfl) (by decide +kernel) ?_
  refine A_ri (dX6_text 5 rfl) rfl rfl ?_
  exact ⟨rfl, rfl⟩

set_option maxRecDepth 100000 in
set_option maxHeartbeats 400000 in
theorem m_textL (E : ag) (q : Nat → Nat) (g : Nat → Int32) (tw : Int64) (a : Nat → Nat → Int32) (t sz f : Nat) (ht : t < 6) (hn : sz ≤ 160) (h3 : g 3 = nI t) (h6 : g 6 = nI sz) (hby : ∀ k, k < sz → ¬ a 3 k < 0) (res : Bool × Nat × List Int32 × List Int32 × List Int32) (hpp : txt (Bof (a 3) 0 sz) f = some res) : ∀ (n c : Nat), c + n = sz → AW E mX6_text 44 0 0 14 [some (.ref (q 0)), some (.int (nI c))] [] (MW E q g tw (va_up a 1 (va_cpy (a 3) (a 1) 0 (160 * t) c))) (ri (fun r w => ∃ (g2 : Nat → Int32) (tw2 : Int64), w = MW E q g2 tw2 (txA a t sz) ∧ (∀ k, k ≠ 3 → k ≠ 6 → ¬ (23 ≤ k ∧ k ≤ 34) → g2 k = g k) ∧ g2 6 = 0 ∧ ((res.1 = true ∧ r = nI t ∧ g2 3 = nI (t + 1)) ∨ (res.1 = false ∧ r = -100 - nI (lst (Bof (a 3) 0 sz) res.2.1) ∧ g2 3 = nI t)))) := by
  intro n
  induction n with
  | zero =>
    intro c hc
    obtain rfl : sz = c := by omega
    refine A_iload_n (dX6_text 8 rfl) rfl ?_
    refine A_aload_n (dX6_text 9 rfl) rfl ?_
    refine A_get (dX6_text 10 rfl) fwX6_162 MW_0 MF_6 ?_
    refine A_icmp_ge 49 (dX6_text 11 rfl) (by decide) (fun h19 => ?_) (fun h19 => absurd (show g 6 ≤ nI sz by rw [h6]; exact nI_le (Nat.le_refl _) (by omega)) h19)
    refine A_aload_n (dX6_text 27 rfl) rfl ?_
    refine A_get (dX6_text 28 rfl) fwX6_17 MW_0 MF_2 ?_
    refine A_aload_n (dX6_text 29 rfl) rfl ?_
    refine A_get (dX6_text 30 rfl) fwX6_97 MW_0 MF_3 ?_
    refine A_aload_n (dX6_text 31 rfl) rfl ?_
    refine A_get (dX6_text 32 rfl) fwX6_162 MW_0 MF_6 ?_
    refine A_iast (dX6_text 33 rfl) MW_2 (by rw [h3]; exact vp_in_nI (by omega) (by decide)) (MS_2 _) ?_
    rw [h3, nI_clamp (n := t) (by omega), h6]
    refine AW.world (ws2 := MW E q g tw (txA a t sz)) rfl ?_
    refine A_aload_n (dX6_text 34 rfl) rfl ?_
    refine AW.pcq (pc2 := 63) rfl ?_
    refine A_iconst (0) (dX6_text 35 rfl) (by decide +kernel) ?_
    refine A_put (dX6_text 36 rfl) fwX6_162 fcX6 ftX6_6 MW_0 rfl rfl ML_0 (MP_6 _) ?_
    refine A_aload_n (dX6_text 37 rfl) rfl ?_
    refine A_aload_n (dX6_text 38 rfl) rfl ?_
    refine A_get (dX6_text 39 rfl) fwX6_97 MW_0 MF_3 ?_
    refine A_iconst (0) (dX6_text 40 rfl) (by decide +kernel) ?_
    refine AW.stack (st2 := [.int 0, .int (nI t), .ref (q 0)]) (by show [Value.int 0, .int (g 3), _] = _; rw [h3]) ?_
    refine A_callVWi 2 (dX6_text 41 rfl) cbX6_read cwX6_285 (m_read E q (upd g 6 0) tw (txA a t sz) (160 * t) sz t f (Bof (txA a t sz 1) (160 * t) sz) 0 res ht txA_2 (TXC_of ht hn (fun k hk => by rw [txA_1 hk]; exact hby k hk) rfl rfl) (by rw [txA_B]; exact hpp)) rfl rfl MW_0 rfl rfl (Nat.le_of_ble_eq_true rfl) (Nat.le_of_ble_eq_true rfl) (Nat.le_of_ble_eq_true rfl) (Nat.le_of_ble_eq_true rfl) (Nat.le_of_ble_eq_true rfl) ?_
    rintro r73 w1 ⟨rfl, g2, tw2, rfl, hk, hok, hbad⟩
    refine AW.pcq (pc2 := 76) rfl ?_
    refine A_istore_n (ls2 := [_, _]) (dX6_text 42 rfl) (by decide) rfl rfl ?_
    by_cases hb : res.1 = true
    · obtain ⟨h30, -, -, -⟩ := hok hb
      refine A_aload_n (dX6_text 43 rfl) rfl ?_
      refine A_get (dX6_text 44 rfl) fwX6_197 MW_0 MF_30 ?_
      refine A_if_eq 92 (dX6_text 45 rfl) (by decide) (fun h81 => ?_) (fun h81 => absurd h30 h81)
      refine A_aload_n (dX6_text 51 rfl) rfl ?_
      refine A_dup (dX6_text 52 rfl) rfl ?_
      refine A_get (dX6_text 53 rfl) fwX6_97 MW_0 MF_3 ?_
      refine A_iconst (1) (dX6_text 54 rfl) (by decide +kernel) ?_
      refine A_iadd (dX6_text 55 rfl) ?_
      refine A_put (dX6_text 56 rfl) fwX6_97 fcX6 ftX6_3 MW_0 rfl rfl ML_0 (MP_3 _) ?_
      refine A_aload_n (dX6_text 57 rfl) rfl ?_
      refine A_get (dX6_text 58 rfl) fwX6_97 MW_0 MF_3 ?_
      refine AW.pcq (pc2 := 106) rfl ?_
      refine A_iconst (1) (dX6_text 59 rfl) (by decide +kernel) ?_
      refine A_isub (dX6_text 60 rfl) ?_
      refine A_ri (dX6_text 61 rfl) rfl rfl ?_
      refine ⟨_, tw2, rfl, fun k z3 z6 zk => ?_, ?_, Or.inl ⟨hb, ?_, ?_⟩⟩
      · simp only [upd]
        rw [if_neg z3, hk k zk]
        simp only [upd]
        rw [if_neg z6]
      · show g2 6 = 0
        rw [hk 6 (by decide)]
        rfl
      · show g2 3 + 1 - 1 = nI t
        rw [add1_sub1, hk 3 (by decide)]
        exact h3
      · show g2 3 + 1 = nI (t + 1)
        rw [hk 3 (by decide), show upd g 6 0 3 = g 3 from rfl, h3, nI_1]
    · obtain ⟨h30, h31⟩ := hbad (by simpa using hb)
      rw [txA_B] at h31
      refine A_aload_n (dX6_text 43 rfl) rfl ?_
      refine A_get (dX6_text 44 rfl) fwX6_197 MW_0 MF_30 ?_
      refine A_if_eq 92 (dX6_text 45 rfl) (by decide) (fun h81 => absurd h81 h30) (fun h81 => ?_)
      refine A_bipush (-100) (dX6_text 46 rfl) (by decide +kernel) ?_
      refine A_aload_n (dX6_text 47 rfl) rfl ?_
      refine A_get (dX6_text 48 rfl) fwX6_201 MW_0 MF_31 ?_
      refine A_isub (dX6_text 49 rfl) ?_
      refine A_ri (dX6_text 50 rfl) rfl rfl ?_
      refine ⟨g2, tw2, rfl, fun k z3 z6 zk => ?_, ?_, Or.inr ⟨by simpa using hb, by rw [h31], ?_⟩⟩
      · rw [hk k zk]
        simp only [upd]
        rw [if_neg z6]
      · rw [hk 6 (by decide)]
        rfl
      · rw [hk 3 (by decide)]
        exact h3
  | succ n ih =>
    intro c hc
    have hlt : c < sz := by omega
    refine A_iload_n (dX6_text 8 rfl) rfl ?_
    refine A_aload_n (dX6_text 9 rfl) rfl ?_
    refine A_get (dX6_text 10 rfl) fwX6_162 MW_0 MF_6 ?_
    refine A_icmp_ge 49 (dX6_text 11 rfl) (by decide) (fun h19 => absurd h19 (show ¬ g 6 ≤ nI c by rw [h6]; exact nI_ge hlt (by omega))) (fun h19 => ?_)
    refine A_aload_n (dX6_text 12 rfl) rfl ?_
    refine A_get (dX6_text 13 rfl) fwX6_13 MW_0 MF_1 ?_
    refine A_sipush (160) (dX6_text 14 rfl) (by decide +kernel) ?_
    refine A_aload_n (dX6_text 15 rfl) rfl ?_
    refine AW.pcq (pc2 := 30) rfl ?_
    refine A_get (dX6_text 16 rfl) fwX6_97 MW_0 MF_3 ?_
    refine A_imul (dX6_text 17 rfl) ?_
    refine A_iload_n (dX6_text 18 rfl) rfl ?_
    refine A_iadd (dX6_text 19 rfl) ?_
    refine A_aload_n (dX6_text 20 rfl) rfl ?_
    refine A_get (dX6_text 21 rfl) fwX6_20 MW_0 MF_5 ?_
    refine A_iload_n (dX6_text 22 rfl) rfl ?_
    refine A_iald (dX6_text 23 rfl) MW_3 (vp_in_nI (n := c) (by omega) (by decide)) ?_
    rw [nI_clamp (n := c) (by omega), h3, mul160]
    refine AW.pcq (pc2 := 42) rfl ?_
    refine A_iast (dX6_text 24 rfl) MW_1 (vp_in_nI (n := 160 * t + c) (by omega) (by decide)) (MS_1 _) ?_
    rw [nI_clamp (n := 160 * t + c) (by omega)]
    refine AW.world (ws2 := MW E q g tw (va_up a 1 (va_cpy (a 3) (a 1) 0 (160 * t) (c + 1)))) (congrArg (MW E q g tw) (by rw [up24, ← cpG_s, Nat.zero_add]; rfl)) ?_
    refine A_iinc (ls2 := [_, _]) (nI (c + 1)) (dX6_text 25 rfl) rfl (nI_1 c) (by decide) rfl rfl ?_
    refine A_goto 14 (dX6_text 26 rfl) (by decide) ?_
    exact ih (c + 1) (by omega)

set_option maxRecDepth 100000 in
set_option maxHeartbeats 400000 in
theorem m_text (E : ag) (q : Nat → Nat) (g : Nat → Int32) (tw : Int64) (a : Nat → Nat → Int32) (t sz f : Nat) (ht : t < 6) (hn : sz ≤ 160) (h3 : g 3 = nI t) (h6 : g 6 = nI sz) (hby : ∀ k, k < sz → ¬ a 3 k < 0) (res : Bool × Nat × List Int32 × List Int32 × List Int32) (hpp : txt (Bof (a 3) 0 sz) f = some res) : CT E yX6_text cX6_text 2 mX6_text.2.2.2.1 44 0 0 [.ref (q 0)] (MW E q g tw a) (ri (fun r w => ∃ (g2 : Nat → Int32) (tw2 : Int64), w = MW E q g2 tw2 (txA a t sz) ∧ (∀ k, k ≠ 3 → k ≠ 6 → ¬ (23 ≤ k ∧ k ≤ 34) → g2 k = g k) ∧ g2 6 = 0 ∧ ((res.1 = true ∧ r = nI t ∧ g2 3 = nI (t + 1)) ∨ (res.1 = false ∧ r = -100 - nI (lst (Bof (a 3) 0 sz) res.2.1) ∧ g2 3 = nI t)))) := by
  refine CT.of (M := mX6_text) (ls := [some (.ref (q 0)), none]) (by decide) rfl (by decide) rfl (Nat.le_of_ble_eq_true rfl) ?_
  refine A_aload_n (dX6_text 0 rfl) rfl ?_
  refine A_get (dX6_text 1 rfl) fwX6_97 MW_0 MF_3 ?_
  refine A_bipush (6) (dX6_text 2 rfl) (by decide +kernel) ?_
  refine A_icmp_ne 12 (dX6_text 3 rfl) (by decide) (fun h6' => ?_) (fun h6' => absurd h6' (fun z => absurd ((nI_eq (a := t) (b := 6) (by omega) (by decide)).mp (h3.symm.trans z)) (by omega)))
  refine A_iconst (0) (dX6_text 6 rfl) (by decide +kernel) ?_
  refine A_istore_n (ls2 := [_, _]) (dX6_text 7 rfl) (by decide) rfl rfl ?_
  have h9 := m_textL E q g tw a t sz f ht hn h3 h6 hby res hpp sz 0 (by omega)
  rw [cpG_0, up_same] at h9
  exact h9

