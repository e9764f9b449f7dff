/-! THE LEXER: B is a text's bytes by place, -1 behind its end -/
abbrev isLo (b : Int32) : Prop := 97 ≤ b ∧ b ≤ 122
abbrev isDi (b : Int32) : Prop := 48 ≤ b ∧ b ≤ 57
abbrev isSg (b : Int32) : Prop := b = 40 ∨ b = 41 ∨ b = 59 ∨ b = 43 ∨ b = 45 ∨ b = 42 ∨ b = 60 ∨ b = 61
abbrev isWs (b : Int32) : Prop := b = 32 ∨ b = 10
theorem isLo_i (b : Int32) : (¬ inI b 97 122 = 0) ↔ isLo b := by unfold inI isLo; split <;> simp_all
theorem isDi_i (b : Int32) : (¬ inI b 48 57 = 0) ↔ isDi b := by unfold inI isDi; split <;> simp_all
def skp (B : Nat → Int32) : Nat → Nat → Nat
  | 0, i => i
  | f + 1, i => if B i = 32 ∨ B i = 10 then skp B f (i + 1) else i
def wdp (B : Nat → Int32) : Nat → Nat → Nat
  | 0, i => i
  | f + 1, i => if inI (B i) 97 122 = 0 then i else wdp B f (i + 1)
def dgp (B : Nat → Int32) : Nat → Nat → Nat
  | 0, i => i
  | f + 1, i => if inI (B i) 48 57 = 0 then i else dgp B f (i + 1)
/-- the number that k digits from s on tell (the first four of them) -/
def dv64 (B : Nat → Int32) (s : Nat) : Nat → Int64
  | 0 => 0
  | k + 1 => if k < 4 then 10 * dv64 B s k + (B (s + k)).toInt64 - 48 else dv64 B s k
/-- a token that is looked for from place i on: where it stands, its kind to the reference, its end -/
def lst (B : Nat → Int32) (i : Nat) : Nat := skp B 161 i
def mkd (B : Nat → Int32) (i : Nat) : Int32 := if B (lst B i) < 0 then 0 else if ¬ inI (B (lst B i)) 97 122 = 0 then 1 else if ¬ inI (B (lst B i)) 48 57 = 0 then (if 4 < dgp B 161 (lst B i) - lst B i then 4 else 2) else if isSg (B (lst B i)) then 3 else 4
def men (B : Nat → Int32) (i : Nat) : Nat := if B (lst B i) < 0 then lst B i else if ¬ inI (B (lst B i)) 97 122 = 0 then wdp B 161 (lst B i) else if ¬ inI (B (lst B i)) 48 57 = 0 then dgp B 161 (lst B i) else if isSg (B (lst B i)) then lst B i + 1 else lst B i
def mtw (B : Nat → Int32) (tw : Int64) (i : Nat) : Int64 := if B (lst B i) < 0 then tw else if ¬ inI (B (lst B i)) 97 122 = 0 then tw else if ¬ inI (B (lst B i)) 48 57 = 0 then dv64 B (lst B i) (dgp B 161 (lst B i) - lst B i) else if isSg (B (lst B i)) then (B (lst B i)).toInt64 else tw
def nxg (B : Nat → Int32) (g : Nat → Int32) (i : Nat) : Nat → Int32 := upd (upd (upd g 25 (nI (men B i))) 26 (mkd B i)) 27 (nI (lst B i))
/-- the text that is read: from, size, its bytes -/
def TXC (g : Nat → Int32) (a : Nat → Nat → Int32) (fr n : Nat) (B : Nat → Int32) : Prop := g 23 = nI fr ∧ g 24 = nI n ∧ fr + 160 ≤ 960 ∧ n ≤ 160 ∧ (∀ k, k < n → B k = a 1 (fr + k)) ∧ (∀ k, n ≤ k → B k = -1) ∧ (∀ k, k < n → ¬ B k < 0)
theorem skp_le {B : Nat → Int32} {n : Nat} (hB : ∀ k, n ≤ k → B k = -1) : ∀ f i, i ≤ n → i ≤ skp B f i ∧ skp B f i ≤ n := by
  intro f
  induction f with
  | zero => intro i hi; exact ⟨Nat.le_refl _, hi⟩
  | succ f ih =>
    intro i hi
    simp only [skp]
    split
    · rename_i h
      have hlt : i < n := by
        rcases Nat.lt_or_ge i n with q | q
        · exact q
        · rw [hB i q] at h; exact absurd h (by decide)
      have := ih (i + 1) hlt
      omega
    · exact ⟨Nat.le_refl _, hi⟩
theorem skp_end {B : Nat → Int32} {n : Nat} (hB : ∀ k, n ≤ k → B k = -1) : ∀ f i, i ≤ n → n < i + f → ¬ (B (skp B f i) = 32 ∨ B (skp B f i) = 10) := by
  intro f
  induction f with
  | zero => intro i hi hf; omega
  | succ f ih =>
    intro i hi hf
    simp only [skp]
    split
    · rename_i h
      have hlt : i < n := by
        rcases Nat.lt_or_ge i n with q | q
        · exact q
        · rw [hB i q] at h; exact absurd h (by decide)
      exact ih (i + 1) hlt (by omega)
    · rename_i h; exact h
theorem wdp_le {B : Nat → Int32} {n : Nat} (hB : ∀ k, n ≤ k → B k = -1) : ∀ f i, i ≤ n → i ≤ wdp B f i ∧ wdp B f i ≤ n := by
  intro f
  induction f with
  | zero => intro i hi; exact ⟨Nat.le_refl _, hi⟩
  | succ f ih =>
    intro i hi
    simp only [wdp]
    split
    · exact ⟨Nat.le_refl _, hi⟩
    · rename_i h
      have hlt : i < n := by
        rcases Nat.lt_or_ge i n with q | q
        · exact q
        · rw [hB i q] at h; exact absurd (by decide) h
      have := ih (i + 1) hlt
      omega
theorem dgp_le {B : Nat → Int32} {n : Nat} (hB : ∀ k, n ≤ k → B k = -1) : ∀ f i, i ≤ n → i ≤ dgp B f i ∧ dgp B f i ≤ n := by
  intro f
  induction f with
  | zero => intro i hi; exact ⟨Nat.le_refl _, hi⟩
  | succ f ih =>
    intro i hi
    simp only [dgp]
    split
    · exact ⟨Nat.le_refl _, hi⟩
    · rename_i h
      have hlt : i < n := by
        rcases Nat.lt_or_ge i n with q | q
        · exact q
        · rw [hB i q] at h; exact absurd (by decide) h
      have := ih (i + 1) hlt
      omega
theorem upd_upd (f : Nat → Int32) (k : Nat) (x y : Int32) : upd (upd f k x) k y = upd f k y := by funext j; simp only [upd]; split <;> rfl
set_option maxRecDepth 100000 in
set_option maxHeartbeats 400000 in
theorem m_byteAt (E : ag) (q : Nat → Nat) (g : Nat → Int32) (tw : Int64) (a : Nat → Nat → Int32) (fr n k : Nat) (B : Nat → Int32) (hT : TXC g a fr n B) (hk : k ≤ n) : CT E yX6_byteAt cX6_byteAt 2 mX6_byteAt.2.2.2.1 1 0 0 [.ref (q 0), .int (nI k)] (MW E q g tw a) (ri (fun r w => r = B k ∧ w = MW E q g tw a)) := by
  refine CT.of (M := mX6_byteAt) (ls := [some (.ref (q 0)), some (.int (nI k))]) (by decide) rfl (by decide) rfl (Nat.le_of_ble_eq_true rfl) ?_
  refine A_iload_n (dX6_byteAt 0 rfl) rfl ?_
  refine A_aload_n (dX6_byteAt 1 rfl) rfl ?_
  refine A_get (dX6_byteAt 2 rfl) fwX6_165 MW_0 MF_24 ?_
  refine A_icmp_ge 22 (dX6_byteAt 3 rfl) (by decide) (fun h5 => ?_) (fun h5 => ?_)
  · have hkn : n ≤ k := by
      rcases Nat.lt_or_ge k n with z | z
      · rw [hT.2.1] at h5; exact absurd h5 (nI_ge z (by have := hT.2.2.2.1; omega))
      · exact z
    refine A_iconst (-1) (dX6_byteAt 12 rfl) (by decide +kernel) ?_
    refine A_ri (dX6_byteAt 13 rfl) rfl rfl ?_
    refine ⟨?_, rfl⟩
    first | (rw [nI_clamp (by omega)]; exact (hT.2.2.2.2.1 k hkn).symm) | exact (hT.2.2.2.2.2.1 k hkn).symm
  · have hkn : k < n := by
      rcases Nat.lt_or_ge k n with z | z
      · exact z
      · rw [hT.2.1] at h5; exact absurd (nI_le z (by have := hT.2.2.2.1; omega)) h5
    have e1 : g 23 + nI k = nI (fr + k) := by rw [hT.1]; exact nI_add fr k
    have h960 := hT.2.2.1
    have h160 := hT.2.2.2.1
    refine A_aload_n (dX6_byteAt 4 rfl) rfl ?_
    refine A_get (dX6_byteAt 5 rfl) fwX6_13 MW_0 MF_1 ?_
    refine A_aload_n (dX6_byteAt 6 rfl) rfl ?_
    refine A_get (dX6_byteAt 7 rfl) fwX6_168 MW_0 MF_23 ?_
    refine A_iload_n (dX6_byteAt 8 rfl) rfl ?_
    refine A_iadd (dX6_byteAt 9 rfl) ?_
    rw [e1]
    refine A_iald (dX6_byteAt 10 rfl) MW_1 (vp_in_nI (by omega) (by decide)) ?_
    refine A_goto 23 (dX6_byteAt 11 rfl) (by decide) ?_
    refine A_ri (dX6_byteAt 13 rfl) rfl rfl ?_
    refine ⟨?_, rfl⟩
    first | (rw [nI_clamp (by omega)]; exact (hT.2.2.2.2.1 k hkn).symm) | exact (hT.2.2.2.2.2.1 k hkn).symm

theorem TXC.put {g : Nat → Int32} {a : Nat → Nat → Int32} {fr n : Nat} {B : Nat → Int32} (h : TXC g a fr n B) (k : Nat) (h1 : k ≠ 23) (h2 : k ≠ 24) {v : Int32} : TXC (upd g k v) a fr n B := by
  obtain ⟨e1, e2, r⟩ := h
  exact ⟨by simp only [upd]; rw [if_neg (fun z => h1 z.symm)]; exact e1, by simp only [upd]; rw [if_neg (fun z => h2 z.symm)]; exact e2, r⟩
set_option maxRecDepth 100000 in
set_option maxHeartbeats 400000 in
theorem m_nxW (E : ag) (q : Nat → Nat) (g : Nat → Int32) (tw : Int64) (a : Nat → Nat → Int32) (fr n : Nat) (B : Nat → Int32) (hT : TXC g a fr n B) (post : Option Value → va_W → Prop) : ∀ (f j : Nat), j ≤ n → n < j + f → AW E mX6_next 3 0 0 39 [some (.ref (q 0)), none, none] [] (MW E q (upd g 25 (nI (skp B f j))) tw a) post → AW E mX6_next 3 0 0 0 [some (.ref (q 0)), none, none] [] (MW E q (upd g 25 (nI j)) tw a) post := by
  intro f
  induction f with
  | zero => intro j h1 h2; omega
  | succ f ih =>
    intro j hj hf K
    refine A_aload_n (dX6_next 0 rfl) rfl ?_
    refine A_aload_n (dX6_next 1 rfl) rfl ?_
    refine A_get (dX6_next 2 rfl) fwX6_171 MW_0 MF_25 ?_
    refine A_callVWi 1 (dX6_next 3 rfl) cbX6_byteAt cwX6_174 (m_byteAt E q (upd g 25 (nI j)) tw a fr n j B (TXC.put hT 25 (by decide) (by decide)) hj) rfl rfl MW_0 rfl rfl (Nat.le_of_ble_eq_true rfl) (Nat.le_of_ble_eq_true rfl) (Nat.le_of_ble_eq_true rfl) (Nat.le_of_ble_eq_true rfl) (Nat.le_of_ble_eq_true rfl) ?_
    rintro r5 w1 ⟨rfl, rfl⟩
    refine AW.pcq (pc2 := 8) rfl ?_
    refine A_bipush (32) (dX6_next 4 rfl) (by decide +kernel) ?_
    refine A_icmp_eq 26 (dX6_next 5 rfl) (by decide) (fun h10 => ?_) (fun h10 => ?_)
    · refine A_aload_n (dX6_next 12 rfl) rfl ?_
      refine A_dup (dX6_next 13 rfl) rfl ?_
      refine A_get (dX6_next 14 rfl) fwX6_171 MW_0 MF_25 ?_
      refine A_iconst (1) (dX6_next 15 rfl) (by decide +kernel) ?_
      refine A_iadd (dX6_next 16 rfl) ?_
      refine AW.stack (st2 := [.int (nI (j + 1)), .ref (q 0)]) (by show [Value.int (nI j + 1), _] = _; rw [nI_1]) ?_
      refine A_put (dX6_next 17 rfl) fwX6_171 fcX6 ftX6_25 MW_0 rfl rfl ML_0 (MP_25 _) ?_
      refine A_goto 0 (dX6_next 18 rfl) (by decide) ?_
      rw [upd_upd]
      have hw : B j = 32 ∨ B j = 10 := by first | exact Or.inl (by assumption) | exact Or.inr (by assumption)
      have hlt : j < n := by
        rcases Nat.lt_or_ge j n with z | z
        · exact z
        · rw [hT.2.2.2.2.2.1 j z] at hw; exact absurd hw (by decide)
      refine ih (j + 1) hlt (by omega) ?_
      rw [skp, if_pos hw] at K
      exact K
    · refine A_aload_n (dX6_next 6 rfl) rfl ?_
      refine A_aload_n (dX6_next 7 rfl) rfl ?_
      refine A_get (dX6_next 8 rfl) fwX6_171 MW_0 MF_25 ?_
      refine A_callVWi 1 (dX6_next 9 rfl) cbX6_byteAt cwX6_174 (m_byteAt E q (upd g 25 (nI j)) tw a fr n j B (TXC.put hT 25 (by decide) (by decide)) hj) rfl rfl MW_0 rfl rfl (Nat.le_of_ble_eq_true rfl) (Nat.le_of_ble_eq_true rfl) (Nat.le_of_ble_eq_true rfl) (Nat.le_of_ble_eq_true rfl) (Nat.le_of_ble_eq_true rfl) ?_
      rintro r18 w1 ⟨rfl, rfl⟩
      refine AW.pcq (pc2 := 21) rfl ?_
      refine A_bipush (10) (dX6_next 10 rfl) (by decide +kernel) ?_
      refine A_icmp_ne 39 (dX6_next 11 rfl) (by decide) (fun h23 => ?_) (fun h23 => ?_)
      · have hw : ¬ (B j = 32 ∨ B j = 10) := by simp_all
        rw [skp, if_neg hw] at K
        exact K
      · refine A_aload_n (dX6_next 12 rfl) rfl ?_
        refine A_dup (dX6_next 13 rfl) rfl ?_
        refine A_get (dX6_next 14 rfl) fwX6_171 MW_0 MF_25 ?_
        refine A_iconst (1) (dX6_next 15 rfl) (by decide +kernel) ?_
        refine A_iadd (dX6_next 16 rfl) ?_
        refine AW.stack (st2 := [.int (nI (j + 1)), .ref (q 0)]) (by show [Value.int (nI j + 1), _] = _; rw [nI_1]) ?_
        refine A_put (dX6_next 17 rfl) fwX6_171 fcX6 ftX6_25 MW_0 rfl rfl ML_0 (MP_25 _) ?_
        refine A_goto 0 (dX6_next 18 rfl) (by decide) ?_
        rw [upd_upd]
        have hw : B j = 32 ∨ B j = 10 := by first | exact Or.inl (by assumption) | exact Or.inr (by assumption)
        have hlt : j < n := by
          rcases Nat.lt_or_ge j n with z | z
          · exact z
          · rw [hT.2.2.2.2.2.1 j z] at hw; exact absurd hw (by decide)
        refine ih (j + 1) hlt (by omega) ?_
        rw [skp, if_pos hw] at K
        exact K
set_option maxRecDepth 100000 in
set_option maxHeartbeats 400000 in
theorem m_nxL (E : ag) (q : Nat → Nat) (g : Nat → Int32) (tw : Int64) (a : Nat → Nat → Int32) (fr n : Nat) (B : Nat → Int32) (hT : TXC g a fr n B) (b : Int32) : ∀ (f j : Nat), j ≤ n → n < j + f → AW E mX6_next 3 0 0 100 [some (.ref (q 0)), some (.int b), none] [] (MW E q (upd g 25 (nI j)) tw a) (rv (fun w => w = MW E q (upd g 25 (nI (wdp B f j))) tw a)) := by
  intro f
  induction f with
  | zero => intro j h1 h2; omega
  | succ f ih =>
    intro j hj hf
    refine A_aload_n (dX6_next 50 rfl) rfl ?_
    refine A_aload_n (dX6_next 51 rfl) rfl ?_
    refine A_get (dX6_next 52 rfl) fwX6_171 MW_0 MF_25 ?_
    refine A_callVWi 1 (dX6_next 53 rfl) cbX6_byteAt cwX6_174 (m_byteAt E q (upd g 25 (nI j)) tw a fr n j B (TXC.put hT 25 (by decide) (by decide)) hj) rfl rfl MW_0 rfl rfl (Nat.le_of_ble_eq_true rfl) (Nat.le_of_ble_eq_true rfl) (Nat.le_of_ble_eq_true rfl) (Nat.le_of_ble_eq_true rfl) (Nat.le_of_ble_eq_true rfl) ?_
    rintro r105 w1 ⟨rfl, rfl⟩
    refine AW.pcq (pc2 := 108) rfl ?_
    refine A_i2l (dX6_next 54 rfl) ?_
    refine A_ldc2 (dX6_next 55 rfl) kcX6_183 ?_
    refine A_ldc2 (dX6_next 56 rfl) kcX6_185 ?_
    refine A_callSWi 3 (dX6_next 57 rfl) cbX6_in cwX6_103 (m_in E _ (B j) 97 122 _ _ _ rfl (by decide) (by decide)) rfl rfl (Nat.le_of_ble_eq_true rfl) (Nat.le_of_ble_eq_true rfl) (Nat.le_of_ble_eq_true rfl) (Nat.le_of_ble_eq_true rfl) (Nat.le_of_ble_eq_true rfl) ?_
    rintro r115 w1 ⟨rfl, rfl⟩
    refine AW.pcq (pc2 := 118) rfl ?_
    refine A_if_eq 321 (dX6_next 58 rfl) (by decide) (fun h118 => ?_) (fun h118 => ?_)
    · refine A_rv (dX6_next 163 rfl) rfl ?_
      rw [wdp, if_pos (by assumption)]
    · refine A_aload_n (dX6_next 59 rfl) rfl ?_
      refine A_dup (dX6_next 60 rfl) rfl ?_
      refine A_get (dX6_next 61 rfl) fwX6_171 MW_0 MF_25 ?_
      refine A_iconst (1) (dX6_next 62 rfl) (by decide +kernel) ?_
      refine A_iadd (dX6_next 63 rfl) ?_
      refine AW.stack (st2 := [.int (nI (j + 1)), .ref (q 0)]) (by show [Value.int (nI j + 1), _] = _; rw [nI_1]) ?_
      refine A_put (dX6_next 64 rfl) fwX6_171 fcX6 ftX6_25 MW_0 rfl rfl ML_0 (MP_25 _) ?_
      refine A_goto 100 (dX6_next 65 rfl) (by decide) ?_
      rw [upd_upd]
      have hlt : j < n := by
        rcases Nat.lt_or_ge j n with z | z
        · exact z
        · rw [hT.2.2.2.2.2.1 j z] at h118; exact absurd (by decide) h118
      rw [wdp, if_neg (by assumption)]
      exact ih (j + 1) hlt (by omega)
set_option maxRecDepth 100000 in
set_option maxHeartbeats 400000 in
theorem m_nxD (E : ag) (q : Nat → Nat) (g : Nat → Int32) (tw : Int64) (a : Nat → Nat → Int32) (fr n : Nat) (B : Nat → Int32) (hT : TXC g a fr n B) (b : Int32) (s : Nat) : ∀ (f c : Nat), s + c ≤ n → n < s + c + f → AW E mX6_next 3 0 0 160 [some (.ref (q 0)), some (.int b), some (.int (nI c))] [] (MW E q (upd g 25 (nI (s + c))) (dv64 B s c) a) (rv (fun w => w = MW E q (upd (upd g 25 (nI (dgp B f (s + c)))) 26 (if 4 < dgp B f (s + c) - s then 4 else 2)) (dv64 B s (dgp B f (s + c) - s)) a)) := by
  intro f
  induction f with
  | zero => intro c h1 h2; omega
  | succ f ih =>
    intro c hj hf
    refine A_aload_n (dX6_next 80 rfl) rfl ?_
    refine A_aload_n (dX6_next 81 rfl) rfl ?_
    refine A_get (dX6_next 82 rfl) fwX6_171 MW_0 MF_25 ?_
    refine A_callVWi 1 (dX6_next 83 rfl) cbX6_byteAt cwX6_174 (m_byteAt E q (upd g 25 (nI (s + c))) (dv64 B s c) a fr n (s + c) B (TXC.put hT 25 (by decide) (by decide)) hj) rfl rfl MW_0 rfl rfl (Nat.le_of_ble_eq_true rfl) (Nat.le_of_ble_eq_true rfl) (Nat.le_of_ble_eq_true rfl) (Nat.le_of_ble_eq_true rfl) (Nat.le_of_ble_eq_true rfl) ?_
    rintro r165 w1 ⟨rfl, rfl⟩
    refine AW.pcq (pc2 := 168) rfl ?_
    refine A_i2l (dX6_next 84 rfl) ?_
    refine A_ldc2 (dX6_next 85 rfl) kcX6_187 ?_
    refine A_ldc2 (dX6_next 86 rfl) kcX6_189 ?_
    refine A_callSWi 3 (dX6_next 87 rfl) cbX6_in cwX6_103 (m_in E _ (B (s + c)) 48 57 _ _ _ rfl (by decide) (by decide)) rfl rfl (Nat.le_of_ble_eq_true rfl) (Nat.le_of_ble_eq_true rfl) (Nat.le_of_ble_eq_true rfl) (Nat.le_of_ble_eq_true rfl) (Nat.le_of_ble_eq_true rfl) ?_
    rintro r175 w1 ⟨rfl, rfl⟩
    refine AW.pcq (pc2 := 178) rfl ?_
    refine A_if_eq 235 (dX6_next 88 rfl) (by decide) (fun h178 => ?_) (fun h178 => ?_)
    · refine A_aload_n (dX6_next 117 rfl) rfl ?_
      refine A_iload_n (dX6_next 118 rfl) rfl ?_
      refine A_iconst (4) (dX6_next 119 rfl) (by decide +kernel) ?_
      refine A_icmp_le 245 (dX6_next 120 rfl) (by decide) (fun h238 => ?_) (fun h238 => ?_)
      · refine A_iconst (2) (dX6_next 123 rfl) (by decide +kernel) ?_
        refine A_put (dX6_next 124 rfl) fwX6_180 fcX6 ftX6_26 MW_0 rfl rfl ML_0 (MP_26 _) ?_
        refine A_goto 321 (dX6_next 125 rfl) (by decide) ?_
        refine A_rv (dX6_next 163 rfl) rfl ?_
        have hd : inI (B (s + c)) 48 57 = 0 := by assumption
        rw [dgp, if_pos hd, Nat.add_sub_cancel_left]
        first | (rw [if_neg (fun z => absurd h238 (nI_ge (a := 4) (b := c) z (by have := hT.2.2.2.1; omega)))]) | (rw [if_pos (by rcases Nat.lt_or_ge 4 c with z | z; exact z; exact absurd (show nI c ≤ (4 : Int32) from nI_le z (by decide)) h238)])
      · refine A_iconst (4) (dX6_next 121 rfl) (by decide +kernel) ?_
        refine A_goto 246 (dX6_next 122 rfl) (by decide) ?_
        refine A_put (dX6_next 124 rfl) fwX6_180 fcX6 ftX6_26 MW_0 rfl rfl ML_0 (MP_26 _) ?_
        refine A_goto 321 (dX6_next 125 rfl) (by decide) ?_
        refine A_rv (dX6_next 163 rfl) rfl ?_
        have hd : inI (B (s + c)) 48 57 = 0 := by assumption
        rw [dgp, if_pos hd, Nat.add_sub_cancel_left]
        first | (rw [if_neg (fun z => absurd h238 (nI_ge (a := 4) (b := c) z (by have := hT.2.2.2.1; omega)))]) | (rw [if_pos (by rcases Nat.lt_or_ge 4 c with z | z; exact z; exact absurd (show nI c ≤ (4 : Int32) from nI_le z (by decide)) h238)])
    · refine A_aload_n (dX6_next 89 rfl) rfl ?_
      refine A_iload_n (dX6_next 90 rfl) rfl ?_
      refine A_iconst (4) (dX6_next 91 rfl) (by decide +kernel) ?_
      refine A_icmp_ge 212 (dX6_next 92 rfl) (by decide) (fun h184 => ?_) (fun h184 => ?_)
      · have h4 : ¬ c < 4 := fun z => absurd h184 (nI_ge (a := c) (b := 4) z (by decide))
        refine A_aload_n (dX6_next 106 rfl) rfl ?_
        refine A_get (dX6_next 107 rfl) fwX6_191 MW_0 MF_28 ?_
        refine A_put (dX6_next 108 rfl) fwX6_191 fcX6 ftX6_28 MW_0 rfl rfl ML_0 (MP_28 _) ?_
        refine A_iinc (ls2 := [_, _, _]) (nI (c + 1)) (dX6_next 109 rfl) rfl (nI_1 c) (by decide) rfl rfl ?_
        refine A_aload_n (dX6_next 110 rfl) rfl ?_
        refine A_dup (dX6_next 111 rfl) rfl ?_
        refine A_get (dX6_next 112 rfl) fwX6_171 MW_0 MF_25 ?_
        refine A_iconst (1) (dX6_next 113 rfl) (by decide +kernel) ?_
        refine AW.pcq (pc2 := 228) rfl ?_
        refine A_iadd (dX6_next 114 rfl) ?_
        refine AW.stack (st2 := [.int (nI (s + (c + 1))), .ref (q 0)]) (by show [Value.int (nI (s + c) + 1), _] = _; rw [nI_1]; rfl) ?_
        refine A_put (dX6_next 115 rfl) fwX6_171 fcX6 ftX6_25 MW_0 rfl rfl ML_0 (MP_25 _) ?_
        refine A_goto 160 (dX6_next 116 rfl) (by decide) ?_
        rw [upd_upd]
        have hd : ¬ inI (B (s + c)) 48 57 = 0 := by assumption
        have hlt : s + c < n := by
          rcases Nat.lt_or_ge (s + c) n with z | z
          · exact z
          · rw [hT.2.2.2.2.2.1 (s + c) z] at hd; exact absurd (by decide) hd
        rw [dgp, if_neg hd]
        have h9 := ih (c + 1) (by omega) (by omega)
        first | (rw [show dv64 B s (c + 1) = 10 * dv64 B s c + (B (s + c)).toInt64 - 48 from if_pos (by assumption)] at h9; exact h9) | (rw [show dv64 B s (c + 1) = dv64 B s c from if_neg (by assumption)] at h9; exact h9)
      · have h4 : c < 4 := by
          rcases Nat.lt_or_ge c 4 with z | z
          · exact z
          · exact absurd (show (4 : Int32) ≤ nI c from nI_le z (by have := hT.2.2.2.1; omega)) h184
        refine A_ldc2 (dX6_next 93 rfl) kcX6_195 ?_
        refine A_aload_n (dX6_next 94 rfl) rfl ?_
        refine A_get (dX6_next 95 rfl) fwX6_191 MW_0 MF_28 ?_
        refine A_lmul (dX6_next 96 rfl) ?_
        refine A_aload_n (dX6_next 97 rfl) rfl ?_
        refine A_aload_n (dX6_next 98 rfl) rfl ?_
        refine A_get (dX6_next 99 rfl) fwX6_171 MW_0 MF_25 ?_
        refine A_callVWi 1 (dX6_next 100 rfl) cbX6_byteAt cwX6_174 (m_byteAt E q (upd g 25 (nI (s + c))) (dv64 B s c) a fr n (s + c) B (TXC.put hT 25 (by decide) (by decide)) hj) rfl rfl MW_0 rfl rfl (Nat.le_of_ble_eq_true rfl) (Nat.le_of_ble_eq_true rfl) (Nat.le_of_ble_eq_true rfl) (Nat.le_of_ble_eq_true rfl) (Nat.le_of_ble_eq_true rfl) ?_
        rintro r200 w1 ⟨rfl, rfl⟩
        refine AW.pcq (pc2 := 203) rfl ?_
        refine A_i2l (dX6_next 101 rfl) ?_
        refine A_ladd (dX6_next 102 rfl) ?_
        refine A_ldc2 (dX6_next 103 rfl) kcX6_187 ?_
        refine A_lsub (dX6_next 104 rfl) ?_
        refine A_goto 216 (dX6_next 105 rfl) (by decide) ?_
        refine A_put (dX6_next 108 rfl) fwX6_191 fcX6 ftX6_28 MW_0 rfl rfl ML_0 (MP_28 _) ?_
        refine A_iinc (ls2 := [_, _, _]) (nI (c + 1)) (dX6_next 109 rfl) rfl (nI_1 c) (by decide) rfl rfl ?_
        refine A_aload_n (dX6_next 110 rfl) rfl ?_
        refine A_dup (dX6_next 111 rfl) rfl ?_
        refine A_get (dX6_next 112 rfl) fwX6_171 MW_0 MF_25 ?_
        refine A_iconst (1) (dX6_next 113 rfl) (by decide +kernel) ?_
        refine A_iadd (dX6_next 114 rfl) ?_
        refine AW.stack (st2 := [.int (nI (s + (c + 1))), .ref (q 0)]) (by show [Value.int (nI (s + c) + 1), _] = _; rw [nI_1]; rfl) ?_
        refine A_put (dX6_next 115 rfl) fwX6_171 fcX6 ftX6_25 MW_0 rfl rfl ML_0 (MP_25 _) ?_
        refine AW.pcq (pc2 := 232) rfl ?_
        refine A_goto 160 (dX6_next 116 rfl) (by decide) ?_
        rw [upd_upd]
        have hd : ¬ inI (B (s + c)) 48 57 = 0 := by assumption
        have hlt : s + c < n := by
          rcases Nat.lt_or_ge (s + c) n with z | z
          · exact z
          · rw [hT.2.2.2.2.2.1 (s + c) z] at hd; exact absurd (by decide) hd
        rw [dgp, if_neg hd]
        have h9 := ih (c + 1) (by omega) (by omega)
        first | (rw [show dv64 B s (c + 1) = 10 * dv64 B s c + (B (s + c)).toInt64 - 48 from if_pos (by assumption)] at h9; exact h9) | (rw [show dv64 B s (c + 1) = dv64 B s c from if_neg (by assumption)] at h9; exact h9)
