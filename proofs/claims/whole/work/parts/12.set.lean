set_option maxRecDepth 100000 in
set_option maxHeartbeats 400000 in
theorem m_mends (E : ag) (q : Nat → Nat) (g : Nat → Int32) (tw : Int64) (a : Nat → Nat → Int32) (i x : Int32) (m : Nat) (hm5 : m ≤ 5) (hgm : g 13 = nI m) : CT E yX6_mends cX6_mends 3 mX6_mends.2.2.2.1 3 0 0 [.ref (q 0), .int i, .int x] (MW E q g tw a) (ri (fun r w => r = (if inI i 0 (g 13 - 1) = 0 ∨ inI x (-240) 240 = 0 then -100000 else p_mnd (a 6 i.toNatClampNeg) (a 9 i.toNatClampNeg) x) ∧ w = MW E q g tw a)) := by
  refine CT.of (M := mX6_mends) (ls := [some (.ref (q 0)), some (.int i), some (.int x)]) (by decide) rfl (by decide) rfl (Nat.le_of_ble_eq_true rfl) ?_
  refine A_aload_n (dX6_mends 0 rfl) rfl ?_
  refine A_iload_n (dX6_mends 1 rfl) rfl ?_
  refine A_callVWi 1 (dX6_mends 2 rfl) cbX6_isMan cwX6_123 (m_isMan E q g tw a i) rfl rfl MW_0 rfl rfl (Nat.le_of_ble_eq_true rfl) (Nat.le_of_ble_eq_true rfl) (Nat.le_of_ble_eq_true rfl) (Nat.le_of_ble_eq_true rfl) (Nat.le_of_ble_eq_true rfl) ?_
  rintro r2 w1 ⟨rfl, rfl⟩
  refine AW.pcq (pc2 := 5) rfl ?_
  refine A_if_eq 31 (dX6_mends 3 rfl) (by decide) (fun h5 => ?_) (fun h5 => ?_)
  · refine A_ldc (dX6_mends 15 rfl) kcX6_159 ?_
    refine A_ri (dX6_mends 16 rfl) rfl rfl ?_
    refine ⟨?_, rfl⟩
    simp_all
  · refine A_iload_n (dX6_mends 4 rfl) rfl ?_
    refine A_i2l (dX6_mends 5 rfl) ?_
    refine A_ldc2 (dX6_mends 6 rfl) kcX6_154 ?_
    refine A_ldc2 (dX6_mends 7 rfl) kcX6_130 ?_
    refine A_callSWi 3 (dX6_mends 8 rfl) cbX6_in cwX6_103 (m_in E _ x (-240) 240 _ _ _ rfl (by decide) (by decide)) rfl rfl (Nat.le_of_ble_eq_true rfl) (Nat.le_of_ble_eq_true rfl) (Nat.le_of_ble_eq_true rfl) (Nat.le_of_ble_eq_true rfl) (Nat.le_of_ble_eq_true rfl) ?_
    rintro r16 w1 ⟨rfl, rfl⟩
    refine AW.pcq (pc2 := 19) rfl ?_
    refine A_if_eq 31 (dX6_mends 9 rfl) (by decide) (fun h19 => ?_) (fun h19 => ?_)
    · refine A_ldc (dX6_mends 15 rfl) kcX6_159 ?_
      refine A_ri (dX6_mends 16 rfl) rfl rfl ?_
      refine ⟨?_, rfl⟩
      simp_all
    · refine A_aload_n (dX6_mends 10 rfl) rfl ?_
      refine A_iload_n (dX6_mends 11 rfl) rfl ?_
      refine A_iload_n (dX6_mends 12 rfl) rfl ?_
      refine A_callVWi 2 (dX6_mends 13 rfl) cbX6_mended cwX6_156 (m_mended E q g tw a i x (ix_man hm5 (by rw [← hgm]; assumption))) rfl rfl MW_0 rfl rfl (Nat.le_of_ble_eq_true rfl) (Nat.le_of_ble_eq_true rfl) (Nat.le_of_ble_eq_true rfl) (Nat.le_of_ble_eq_true rfl) (Nat.le_of_ble_eq_true rfl) ?_
      rintro r25 w1 ⟨rfl, rfl⟩
      refine AW.pcq (pc2 := 28) rfl ?_
      refine A_goto 33 (dX6_mends 14 rfl) (by decide) ?_
      refine A_ri (dX6_mends 16 rfl) rfl rfl ?_
      refine ⟨?_, rfl⟩
      simp_all

theorem told_c0 {g : Nat → Int32} {a : Nat → Nat → Int32} {i : Int32} (h : ¬ inI i 0 11 = 0) : m_toldR g a i 0 = a 4 i.toNatClampNeg := by
  have d1 : ¬ inI 0 0 7 = 0 := by decide
  have d3 : (0 : Int32) < 2 := by decide
  simp [m_toldR, d1, d3, h]
theorem told_c1 {g : Nat → Int32} {a : Nat → Nat → Int32} {i : Int32} (h : ¬ inI i 0 11 = 0) : m_toldR g a i 1 = a 5 i.toNatClampNeg := by
  have d1 : ¬ inI 1 0 7 = 0 := by decide
  have d3 : (1 : Int32) < 2 := by decide
  simp [m_toldR, d1, d3, h]
theorem told_m3 {g : Nat → Int32} {a : Nat → Nat → Int32} {i : Int32} (h : ¬ inI i 0 (g 13 - 1) = 0) : m_toldR g a i 3 = a 7 i.toNatClampNeg := by
  have d1 : ¬ inI 3 0 7 = 0 := by decide
  have d3 : (2 : Int32) ≤ 3 := by decide
  simp [m_toldR, d1, d3, h]
theorem told_m4 {g : Nat → Int32} {a : Nat → Nat → Int32} {i : Int32} (h : ¬ inI i 0 (g 13 - 1) = 0) : m_toldR g a i 4 = a 8 i.toNatClampNeg := by
  have d1 : ¬ inI 4 0 7 = 0 := by decide
  have d3 : (2 : Int32) ≤ 4 := by decide
  simp [m_toldR, d1, d3, h]
theorem told_m5 {g : Nat → Int32} {a : Nat → Nat → Int32} {i : Int32} (h : ¬ inI i 0 (g 13 - 1) = 0) : m_toldR g a i 5 = a 9 i.toNatClampNeg := by
  have d1 : ¬ inI 5 0 7 = 0 := by decide
  have d3 : (2 : Int32) ≤ 5 := by decide
  simp [m_toldR, d1, d3, h]
set_option maxRecDepth 100000 in
set_option maxHeartbeats 400000 in
theorem m_set0 (E : ag) (q : Nat → Nat) (g : Nat → Int32) (tw : Int64) (a : Nat → Nat → Int32) (i v : Int32) (m : Nat) (hm5 : m ≤ 5) (hgm : g 13 = nI m) (hb : ¬ g 14 = 0) : CT E yX6_set cX6_set 5 mX6_set.2.2.2.1 4 0 0 [.ref (q 0), .int 0, .int i, .int v] (MW E q g tw a) (ri (fun r w => ((inI i 0 11 = 0 ∨ inI v 0 9999 = 0) ∧ r = -2 ∧ w = MW E q g tw a) ∨ (¬ (inI i 0 11 = 0 ∨ inI v 0 9999 = 0) ∧ r = a 4 i.toNatClampNeg ∧ w = MW E q g tw (va_up a 4 (upd (a 4) i.toNatClampNeg v))))) := by
  refine CT.of (M := mX6_set) (ls := [some (.ref (q 0)), some (.int 0), some (.int i), some (.int v), none]) (by decide) rfl (by decide) rfl (Nat.le_of_ble_eq_true rfl) ?_
  refine A_iload_n (dX6_set 0 rfl) rfl ?_
  refine A_i2l (dX6_set 1 rfl) ?_
  refine A_lconst (0) (dX6_set 2 rfl) (by decide +kernel) ?_
  refine A_ldc2 (dX6_set 3 rfl) kcX6_109 ?_
  refine A_callSWi 3 (dX6_set 4 rfl) cbX6_in cwX6_103 (m_in E _ 0 0 5 _ _ _ (by decide) (by decide) (by decide)) rfl rfl (Nat.le_of_ble_eq_true rfl) (Nat.le_of_ble_eq_true rfl) (Nat.le_of_ble_eq_true rfl) (Nat.le_of_ble_eq_true rfl) (Nat.le_of_ble_eq_true rfl) ?_
  rintro r6 w1 ⟨rfl, rfl⟩
  refine AW.pcq (pc2 := 9) rfl ?_
  refine A_if_eq 46 (dX6_set 5 rfl) (by decide) (fun h9 => absurd h9 (by decide)) (fun h9 => ?_)
  refine A_iload_n (dX6_set 6 rfl) rfl ?_
  refine A_iconst (2) (dX6_set 7 rfl) (by decide +kernel) ?_
  refine A_icmp_ge 24 (dX6_set 8 rfl) (by decide) (fun h14 => absurd h14 (by decide)) (fun h14 => ?_)
  refine A_iload_n (dX6_set 9 rfl) rfl ?_
  refine A_callSWi 1 (dX6_set 10 rfl) cbX6_isCell cwX6_115 (m_isCell E _ i) rfl rfl (Nat.le_of_ble_eq_true rfl) (Nat.le_of_ble_eq_true rfl) (Nat.le_of_ble_eq_true rfl) (Nat.le_of_ble_eq_true rfl) (Nat.le_of_ble_eq_true rfl) ?_
  rintro r18 w1 ⟨rfl, rfl⟩
  refine AW.pcq (pc2 := 21) rfl ?_
  refine A_if_eq 46 (dX6_set 11 rfl) (by decide) (fun h21 => ?_) (fun h21 => ?_)
  · refine A_bipush (-2) (dX6_set 22 rfl) (by decide +kernel) ?_
    refine A_ri (dX6_set 23 rfl) rfl rfl ?_
    exact Or.inl ⟨by simp_all, rfl, rfl⟩
  · refine A_iload_n (dX6_set 12 rfl) rfl ?_
    refine A_i2l (dX6_set 13 rfl) ?_
    refine A_ldc2 (dX6_set 14 rfl) kcX6_119 ?_
    refine A_ldc2 (dX6_set 15 rfl) kcX6_121 ?_
    refine A_callSWi 3 (dX6_set 16 rfl) cbX6_in cwX6_103 (m_in E _ 0 2 4 _ _ _ (by decide) (by decide) (by decide)) rfl rfl (Nat.le_of_ble_eq_true rfl) (Nat.le_of_ble_eq_true rfl) (Nat.le_of_ble_eq_true rfl) (Nat.le_of_ble_eq_true rfl) (Nat.le_of_ble_eq_true rfl) ?_
    rintro r32 w1 ⟨rfl, rfl⟩
    refine AW.pcq (pc2 := 35) rfl ?_
    refine A_if_eq 49 (dX6_set 17 rfl) (by decide) (fun h35 => ?_) (fun h35 => absurd (by decide) h35)
    refine A_iload_n (dX6_set 24 rfl) rfl ?_
    refine A_i2l (dX6_set 25 rfl) ?_
    refine A_iload_n (dX6_set 26 rfl) rfl ?_
    refine A_iconst (5) (dX6_set 27 rfl) (by decide +kernel) ?_
    refine A_icmp_ne 62 (dX6_set 28 rfl) (by decide) (fun h53 => ?_) (fun h53 => absurd h53 (by decide))
    refine A_lconst (0) (dX6_set 31 rfl) (by decide +kernel) ?_
    refine A_iload_n (dX6_set 32 rfl) rfl ?_
    refine A_if_ne 73 (dX6_set 33 rfl) (by decide) (fun h64 => absurd (by decide) h64) (fun h64 => ?_)
    refine A_ldc2 (dX6_set 34 rfl) kcX6_128 ?_
    refine A_goto 98 (dX6_set 35 rfl) (by decide) ?_
    refine A_callSWi 3 (dX6_set 47 rfl) cbX6_in cwX6_103 (m_in E _ v 0 9999 _ _ _ rfl (by decide) (by decide)) rfl rfl (Nat.le_of_ble_eq_true rfl) (Nat.le_of_ble_eq_true rfl) (Nat.le_of_ble_eq_true rfl) (Nat.le_of_ble_eq_true rfl) (Nat.le_of_ble_eq_true rfl) ?_
    rintro r98 w1 ⟨rfl, rfl⟩
    refine AW.pcq (pc2 := 101) rfl ?_
    refine A_if_ne 107 (dX6_set 48 rfl) (by decide) (fun h101 => ?_) (fun h101 => ?_)
    · refine A_iload_n (dX6_set 51 rfl) rfl ?_
      refine A_iconst (5) (dX6_set 52 rfl) (by decide +kernel) ?_
      refine A_icmp_ne 119 (dX6_set 53 rfl) (by decide) (fun h109 => ?_) (fun h109 => absurd h109 (by decide))
      refine A_aload_n (dX6_set 57 rfl) rfl ?_
      refine A_iload_n (dX6_set 58 rfl) rfl ?_
      refine A_iload_n (dX6_set 59 rfl) rfl ?_
      refine A_iconst (2) (dX6_set 60 rfl) (by decide +kernel) ?_
      refine A_icmp_ge 130 (dX6_set 61 rfl) (by decide) (fun h123 => absurd h123 (by decide)) (fun h123 => ?_)
      refine A_iload_n (dX6_set 62 rfl) rfl ?_
      refine A_goto 133 (dX6_set 63 rfl) (by decide) ?_
      refine A_callVWi 2 (dX6_set 67 rfl) cbX6_told cwX6_134 (m_told E q g tw a i 0 m hm5 hgm hb) rfl rfl MW_0 rfl rfl (Nat.le_of_ble_eq_true rfl) (Nat.le_of_ble_eq_true rfl) (Nat.le_of_ble_eq_true rfl) (Nat.le_of_ble_eq_true rfl) (Nat.le_of_ble_eq_true rfl) ?_
      rintro r133 w1 ⟨rfl, rfl⟩
      refine AW.pcq (pc2 := 136) rfl ?_
      refine A_istore (ls2 := [_, _, _, _, _]) (dX6_set 68 rfl) (by decide) rfl rfl ?_
      refine A_iload_n (dX6_set 69 rfl) rfl ?_
      refine A_if_ne 152 (dX6_set 70 rfl) (by decide) (fun h139 => absurd (by decide) h139) (fun h139 => ?_)
      refine A_aload_n (dX6_set 71 rfl) rfl ?_
      refine A_get (dX6_set 72 rfl) fwX6_23 MW_0 MF_7 ?_
      refine A_iload_n (dX6_set 73 rfl) rfl ?_
      refine A_iload_n (dX6_set 74 rfl) rfl ?_
      refine A_iast (dX6_set 75 rfl) MW_4 (ix_cell (by assumption)) (MS_4 _) ?_
      refine AW.pcq (pc2 := 149) rfl ?_
      refine A_goto 222 (dX6_set 76 rfl) (by decide) ?_
      refine A_iload (dX6_set 119 rfl) rfl ?_
      refine A_ri (dX6_set 120 rfl) rfl rfl ?_
      exact Or.inr ⟨by simp_all, told_c0 (by assumption), rfl⟩
    · refine A_bipush (-2) (dX6_set 49 rfl) (by decide +kernel) ?_
      refine A_ri (dX6_set 50 rfl) rfl rfl ?_
      exact Or.inl ⟨by simp_all, rfl, rfl⟩

set_option maxRecDepth 100000 in
set_option maxHeartbeats 400000 in
theorem m_set1 (E : ag) (q : Nat → Nat) (g : Nat → Int32) (tw : Int64) (a : Nat → Nat → Int32) (i v : Int32) (m : Nat) (hm5 : m ≤ 5) (hgm : g 13 = nI m) (hb : ¬ g 14 = 0) : CT E yX6_set cX6_set 5 mX6_set.2.2.2.1 4 0 0 [.ref (q 0), .int 1, .int i, .int v] (MW E q g tw a) (ri (fun r w => ((inI i 0 11 = 0 ∨ inI v 0 9 = 0) ∧ r = -2 ∧ w = MW E q g tw a) ∨ (¬ (inI i 0 11 = 0 ∨ inI v 0 9 = 0) ∧ r = a 5 i.toNatClampNeg ∧ w = MW E q g tw (va_up a 5 (upd (a 5) i.toNatClampNeg v))))) := by
  refine CT.of (M := mX6_set) (ls := [some (.ref (q 0)), some (.int 1), some (.int i), some (.int v), none]) (by decide) rfl (by decide) rfl (Nat.le_of_ble_eq_true rfl) ?_
  refine A_iload_n (dX6_set 0 rfl) rfl ?_
  refine A_i2l (dX6_set 1 rfl) ?_
  refine A_lconst (0) (dX6_set 2 rfl) (by decide +kernel) ?_
  refine A_ldc2 (dX6_set 3 rfl) kcX6_109 ?_
  refine A_callSWi 3 (dX6_set 4 rfl) cbX6_in cwX6_103 (m_in E _ 1 0 5 _ _ _ (by decide) (by decide) (by decide)) rfl rfl (Nat.le_of_ble_eq_true rfl) (Nat.le_of_ble_eq_true rfl) (Nat.le_of_ble_eq_true rfl) (Nat.le_of_ble_eq_true rfl) (Nat.le_of_ble_eq_true rfl) ?_
  rintro r6 w1 ⟨rfl, rfl⟩
  refine AW.pcq (pc2 := 9) rfl ?_
  refine A_if_eq 46 (dX6_set 5 rfl) (by decide) (fun h9 => absurd h9 (by decide)) (fun h9 => ?_)
  refine A_iload_n (dX6_set 6 rfl) rfl ?_
  refine A_iconst (2) (dX6_set 7 rfl) (by decide +kernel) ?_
  refine A_icmp_ge 24 (dX6_set 8 rfl) (by decide) (fun h14 => absurd h14 (by decide)) (fun h14 => ?_)
  refine A_iload_n (dX6_set 9 rfl) rfl ?_
  refine A_callSWi 1 (dX6_set 10 rfl) cbX6_isCell cwX6_115 (m_isCell E _ i) rfl rfl (Nat.le_of_ble_eq_true rfl) (Nat.le_of_ble_eq_true rfl) (Nat.le_of_ble_eq_true rfl) (Nat.le_of_ble_eq_true rfl) (Nat.le_of_ble_eq_true rfl) ?_
  rintro r18 w1 ⟨rfl, rfl⟩
  refine AW.pcq (pc2 := 21) rfl ?_
  refine A_if_eq 46 (dX6_set 11 rfl) (by decide) (fun h21 => ?_) (fun h21 => ?_)
  · refine A_bipush (-2) (dX6_set 22 rfl) (by decide +kernel) ?_
    refine A_ri (dX6_set 23 rfl) rfl rfl ?_
    exact Or.inl ⟨by simp_all, rfl, rfl⟩
  · refine A_iload_n (dX6_set 12 rfl) rfl ?_
    refine A_i2l (dX6_set 13 rfl) ?_
    refine A_ldc2 (dX6_set 14 rfl) kcX6_119 ?_
    refine A_ldc2 (dX6_set 15 rfl) kcX6_121 ?_
    refine A_callSWi 3 (dX6_set 16 rfl) cbX6_in cwX6_103 (m_in E _ 1 2 4 _ _ _ (by decide) (by decide) (by decide)) rfl rfl (Nat.le_of_ble_eq_true rfl) (Nat.le_of_ble_eq_true rfl) (Nat.le_of_ble_eq_true rfl) (Nat.le_of_ble_eq_true rfl) (Nat.le_of_ble_eq_true rfl) ?_
    rintro r32 w1 ⟨rfl, rfl⟩
    refine AW.pcq (pc2 := 35) rfl ?_
    refine A_if_eq 49 (dX6_set 17 rfl) (by decide) (fun h35 => ?_) (fun h35 => absurd (by decide) h35)
    refine A_iload_n (dX6_set 24 rfl) rfl ?_
    refine A_i2l (dX6_set 25 rfl) ?_
    refine A_iload_n (dX6_set 26 rfl) rfl ?_
    refine A_iconst (5) (dX6_set 27 rfl) (by decide +kernel) ?_
    refine A_icmp_ne 62 (dX6_set 28 rfl) (by decide) (fun h53 => ?_) (fun h53 => absurd h53 (by decide))
    refine A_lconst (0) (dX6_set 31 rfl) (by decide +kernel) ?_
    refine A_iload_n (dX6_set 32 rfl) rfl ?_
    refine A_if_ne 73 (dX6_set 33 rfl) (by decide) (fun h64 => ?_) (fun h64 => absurd h64 (by decide))
    refine A_iload_n (dX6_set 36 rfl) rfl ?_
    refine A_iconst (2) (dX6_set 37 rfl) (by decide +kernel) ?_
    refine A_icmp_ne 84 (dX6_set 38 rfl) (by decide) (fun h75 => ?_) (fun h75 => absurd h75 (by decide))
    refine A_iload_n (dX6_set 41 rfl) rfl ?_
    refine A_iconst (5) (dX6_set 42 rfl) (by decide +kernel) ?_
    refine A_icmp_ne 95 (dX6_set 43 rfl) (by decide) (fun h86 => ?_) (fun h86 => absurd h86 (by decide))
    refine A_ldc2 (dX6_set 46 rfl) kcX6_132 ?_
    refine A_callSWi 3 (dX6_set 47 rfl) cbX6_in cwX6_103 (m_in E _ v 0 9 _ _ _ rfl (by decide) (by decide)) rfl rfl (Nat.le_of_ble_eq_true rfl) (Nat.le_of_ble_eq_true rfl) (Nat.le_of_ble_eq_true rfl) (Nat.le_of_ble_eq_true rfl) (Nat.le_of_ble_eq_true rfl) ?_
    rintro r98 w1 ⟨rfl, rfl⟩
    refine AW.pcq (pc2 := 101) rfl ?_
    refine A_if_ne 107 (dX6_set 48 rfl) (by decide) (fun h101 => ?_) (fun h101 => ?_)
    · refine A_iload_n (dX6_set 51 rfl) rfl ?_
      refine A_iconst (5) (dX6_set 52 rfl) (by decide +kernel) ?_
      refine A_icmp_ne 119 (dX6_set 53 rfl) (by decide) (fun h109 => ?_) (fun h109 => absurd h109 (by decide))
      refine A_aload_n (dX6_set 57 rfl) rfl ?_
      refine A_iload_n (dX6_set 58 rfl) rfl ?_
      refine A_iload_n (dX6_set 59 rfl) rfl ?_
      refine A_iconst (2) (dX6_set 60 rfl) (by decide +kernel) ?_
      refine A_icmp_ge 130 (dX6_set 61 rfl) (by decide) (fun h123 => absurd h123 (by decide)) (fun h123 => ?_)
      refine A_iload_n (dX6_set 62 rfl) rfl ?_
      refine A_goto 133 (dX6_set 63 rfl) (by decide) ?_
      refine A_callVWi 2 (dX6_set 67 rfl) cbX6_told cwX6_134 (m_told E q g tw a i 1 m hm5 hgm hb) rfl rfl MW_0 rfl rfl (Nat.le_of_ble_eq_true rfl) (Nat.le_of_ble_eq_true rfl) (Nat.le_of_ble_eq_true rfl) (Nat.le_of_ble_eq_true rfl) (Nat.le_of_ble_eq_true rfl) ?_
      rintro r133 w1 ⟨rfl, rfl⟩
      refine AW.pcq (pc2 := 136) rfl ?_
      refine A_istore (ls2 := [_, _, _, _, _]) (dX6_set 68 rfl) (by decide) rfl rfl ?_
      refine A_iload_n (dX6_set 69 rfl) rfl ?_
      refine A_if_ne 152 (dX6_set 70 rfl) (by decide) (fun h139 => ?_) (fun h139 => absurd h139 (by decide))
      refine A_iload_n (dX6_set 77 rfl) rfl ?_
      refine A_iconst (1) (dX6_set 78 rfl) (by decide +kernel) ?_
      refine A_icmp_ne 167 (dX6_set 79 rfl) (by decide) (fun h154 => absurd (by decide) h154) (fun h154 => ?_)
      refine A_aload_n (dX6_set 80 rfl) rfl ?_
      refine A_get (dX6_set 81 rfl) fwX6_26 MW_0 MF_8 ?_
      refine A_iload_n (dX6_set 82 rfl) rfl ?_
      refine A_iload_n (dX6_set 83 rfl) rfl ?_
      refine A_iast (dX6_set 84 rfl) MW_5 (ix_cell (by assumption)) (MS_5 _) ?_
      refine AW.pcq (pc2 := 164) rfl ?_
      refine A_goto 222 (dX6_set 85 rfl) (by decide) ?_
      refine A_iload (dX6_set 119 rfl) rfl ?_
      refine A_ri (dX6_set 120 rfl) rfl rfl ?_
      exact Or.inr ⟨by simp_all, told_c1 (by assumption), rfl⟩
    · refine A_bipush (-2) (dX6_set 49 rfl) (by decide +kernel) ?_
      refine A_ri (dX6_set 50 rfl) rfl rfl ?_
      exact Or.inl ⟨by simp_all, rfl, rfl⟩

set_option maxRecDepth 100000 in
set_option maxHeartbeats 400000 in
theorem m_set2 (E : ag) (q : Nat → Nat) (g : Nat → Int32) (tw : Int64) (a : Nat → Nat → Int32) (i v : Int32) (m : Nat) (hm5 : m ≤ 5) (hgm : g 13 = nI m) (hb : ¬ g 14 = 0) : CT E yX6_set cX6_set 5 mX6_set.2.2.2.1 4 0 0 [.ref (q 0), .int 2, .int i, .int v] (MW E q g tw a) (ri (fun r w => ((inI i 0 (g 13 - 1) = 0 ∨ inI v 0 239 = 0) ∧ r = -2 ∧ w = MW E q g tw a) ∨ (¬ (inI i 0 (g 13 - 1) = 0 ∨ inI v 0 239 = 0) ∧ r = a 7 i.toNatClampNeg ∧ w = MW E q g tw (va_up a 7 (upd (a 7) i.toNatClampNeg (v - v / g 14 * g 14)))))) := by
  refine CT.of (M := mX6_set) (ls := [some (.ref (q 0)), some (.int 2), some (.int i), some (.int v), none]) (by decide) rfl (by decide) rfl (Nat.le_of_ble_eq_true rfl) ?_
  refine A_iload_n (dX6_set 0 rfl) rfl ?_
  refine A_i2l (dX6_set 1 rfl) ?_
  refine A_lconst (0) (dX6_set 2 rfl) (by decide +kernel) ?_
  refine A_ldc2 (dX6_set 3 rfl) kcX6_109 ?_
  refine A_callSWi 3 (dX6_set 4 rfl) cbX6_in cwX6_103 (m_in E _ 2 0 5 _ _ _ (by decide) (by decide) (by decide)) rfl rfl (Nat.le_of_ble_eq_true rfl) (Nat.le_of_ble_eq_true rfl) (Nat.le_of_ble_eq_true rfl) (Nat.le_of_ble_eq_true rfl) (Nat.le_of_ble_eq_true rfl) ?_
  rintro r6 w1 ⟨rfl, rfl⟩
  refine AW.pcq (pc2 := 9) rfl ?_
  refine A_if_eq 46 (dX6_set 5 rfl) (by decide) (fun h9 => absurd h9 (by decide)) (fun h9 => ?_)
  refine A_iload_n (dX6_set 6 rfl) rfl ?_
  refine A_iconst (2) (dX6_set 7 rfl) (by decide +kernel) ?_
  refine A_icmp_ge 24 (dX6_set 8 rfl) (by decide) (fun h14 => ?_) (fun h14 => absurd (by decide) h14)
  refine A_iload_n (dX6_set 12 rfl) rfl ?_
  refine A_i2l (dX6_set 13 rfl) ?_
  refine A_ldc2 (dX6_set 14 rfl) kcX6_119 ?_
  refine A_ldc2 (dX6_set 15 rfl) kcX6_121 ?_
  refine A_callSWi 3 (dX6_set 16 rfl) cbX6_in cwX6_103 (m_in E _ 2 2 4 _ _ _ (by decide) (by decide) (by decide)) rfl rfl (Nat.le_of_ble_eq_true rfl) (Nat.le_of_ble_eq_true rfl) (Nat.le_of_ble_eq_true rfl) (Nat.le_of_ble_eq_true rfl) (Nat.le_of_ble_eq_true rfl) ?_
  rintro r32 w1 ⟨rfl, rfl⟩
  refine AW.pcq (pc2 := 35) rfl ?_
  refine A_if_eq 49 (dX6_set 17 rfl) (by decide) (fun h35 => absurd h35 (by decide)) (fun h35 => ?_)
  refine A_aload_n (dX6_set 18 rfl) rfl ?_
  refine A_iload_n (dX6_set 19 rfl) rfl ?_
  refine A_callVWi 1 (dX6_set 20 rfl) cbX6_isMan cwX6_123 (m_isMan E q g tw a i) rfl rfl MW_0 rfl rfl (Nat.le_of_ble_eq_true rfl) (Nat.le_of_ble_eq_true rfl) (Nat.le_of_ble_eq_true rfl) (Nat.le_of_ble_eq_true rfl) (Nat.le_of_ble_eq_true rfl) ?_
  rintro r40 w1 ⟨rfl, rfl⟩
  refine AW.pcq (pc2 := 43) rfl ?_
  refine A_if_ne 49 (dX6_set 21 rfl) (by decide) (fun h43 => ?_) (fun h43 => ?_)
  · refine A_iload_n (dX6_set 24 rfl) rfl ?_
    refine A_i2l (dX6_set 25 rfl) ?_
    refine A_iload_n (dX6_set 26 rfl) rfl ?_
    refine A_iconst (5) (dX6_set 27 rfl) (by decide +kernel) ?_
    refine A_icmp_ne 62 (dX6_set 28 rfl) (by decide) (fun h53 => ?_) (fun h53 => absurd h53 (by decide))
    refine A_lconst (0) (dX6_set 31 rfl) (by decide +kernel) ?_
    refine A_iload_n (dX6_set 32 rfl) rfl ?_
    refine A_if_ne 73 (dX6_set 33 rfl) (by decide) (fun h64 => ?_) (fun h64 => absurd h64 (by decide))
    refine A_iload_n (dX6_set 36 rfl) rfl ?_
    refine A_iconst (2) (dX6_set 37 rfl) (by decide +kernel) ?_
    refine A_icmp_ne 84 (dX6_set 38 rfl) (by decide) (fun h75 => absurd (by decide) h75) (fun h75 => ?_)
    refine A_ldc2 (dX6_set 39 rfl) kcX6_111 ?_
    refine A_goto 98 (dX6_set 40 rfl) (by decide) ?_
    refine A_callSWi 3 (dX6_set 47 rfl) cbX6_in cwX6_103 (m_in E _ v 0 239 _ _ _ rfl (by decide) (by decide)) rfl rfl (Nat.le_of_ble_eq_true rfl) (Nat.le_of_ble_eq_true rfl) (Nat.le_of_ble_eq_true rfl) (Nat.le_of_ble_eq_true rfl) (Nat.le_of_ble_eq_true rfl) ?_
    rintro r98 w1 ⟨rfl, rfl⟩
    refine AW.pcq (pc2 := 101) rfl ?_
    refine A_if_ne 107 (dX6_set 48 rfl) (by decide) (fun h101 => ?_) (fun h101 => ?_)
    · refine A_iload_n (dX6_set 51 rfl) rfl ?_
      refine A_iconst (5) (dX6_set 52 rfl) (by decide +kernel) ?_
      refine A_icmp_ne 119 (dX6_set 53 rfl) (by decide) (fun h109 => ?_) (fun h109 => absurd h109 (by decide))
      refine A_aload_n (dX6_set 57 rfl) rfl ?_
      refine A_iload_n (dX6_set 58 rfl) rfl ?_
      refine A_iload_n (dX6_set 59 rfl) rfl ?_
      refine A_iconst (2) (dX6_set 60 rfl) (by decide +kernel) ?_
      refine A_icmp_ge 130 (dX6_set 61 rfl) (by decide) (fun h123 => ?_) (fun h123 => absurd (by decide) h123)
      refine A_iload_n (dX6_set 64 rfl) rfl ?_
      refine A_iconst (1) (dX6_set 65 rfl) (by decide +kernel) ?_
      refine A_iadd (dX6_set 66 rfl) ?_
      refine A_callVWi 2 (dX6_set 67 rfl) cbX6_told cwX6_134 (m_told E q g tw a i (2 + 1) m hm5 hgm hb) rfl rfl MW_0 rfl rfl (Nat.le_of_ble_eq_true rfl) (Nat.le_of_ble_eq_true rfl) (Nat.le_of_ble_eq_true rfl) (Nat.le_of_ble_eq_true rfl) (Nat.le_of_ble_eq_true rfl) ?_
      rintro r133 w1 ⟨rfl, rfl⟩
      refine AW.pcq (pc2 := 136) rfl ?_
      refine A_istore (ls2 := [_, _, _, _, _]) (dX6_set 68 rfl) (by decide) rfl rfl ?_
      refine A_iload_n (dX6_set 69 rfl) rfl ?_
      refine A_if_ne 152 (dX6_set 70 rfl) (by decide) (fun h139 => ?_) (fun h139 => absurd h139 (by decide))
      refine A_iload_n (dX6_set 77 rfl) rfl ?_
      refine A_iconst (1) (dX6_set 78 rfl) (by decide +kernel) ?_
      refine A_icmp_ne 167 (dX6_set 79 rfl) (by decide) (fun h154 => ?_) (fun h154 => absurd h154 (by decide))
      refine A_iload_n (dX6_set 86 rfl) rfl ?_
      refine A_iconst (2) (dX6_set 87 rfl) (by decide +kernel) ?_
      refine A_icmp_ne 187 (dX6_set 88 rfl) (by decide) (fun h169 => absurd (by decide) h169) (fun h169 => ?_)
      refine A_aload_n (dX6_set 89 rfl) rfl ?_
      refine A_get (dX6_set 90 rfl) fwX6_32 MW_0 MF_10 ?_
      refine A_iload_n (dX6_set 91 rfl) rfl ?_
      refine A_iload_n (dX6_set 92 rfl) rfl ?_
      refine A_aload_n (dX6_set 93 rfl) rfl ?_
      refine AW.pcq (pc2 := 179) rfl ?_
      refine A_get (dX6_set 94 rfl) fwX6_41 MW_0 MF_14 ?_
      refine A_irem (dX6_set 95 rfl) hb ?_
      refine A_iast (dX6_set 96 rfl) MW_7 (ix_man hm5 (by rw [← hgm]; assumption)) (MS_7 _) ?_
      refine A_goto 222 (dX6_set 97 rfl) (by decide) ?_
      refine A_iload (dX6_set 119 rfl) rfl ?_
      refine A_ri (dX6_set 120 rfl) rfl rfl ?_
      exact Or.inr ⟨by simp_all, told_m3 (by assumption), rfl⟩
    · refine A_bipush (-2) (dX6_set 49 rfl) (by decide +kernel) ?_
      refine A_ri (dX6_set 50 rfl) rfl rfl ?_
      exact Or.inl ⟨by simp_all, rfl, rfl⟩
  · refine A_bipush (-2) (dX6_set 22 rfl) (by decide +kernel) ?_
    refine A_ri (dX6_set 23 rfl) rfl rfl ?_
    exact Or.inl ⟨by simp_all, rfl, rfl⟩

set_option maxRecDepth 100000 in
set_option maxHeartbeats 400000 in
theorem m_set3 (E : ag) (q : Nat → Nat) (g : Nat → Int32) (tw : Int64) (a : Nat → Nat → Int32) (i v : Int32) (m : Nat) (hm5 : m ≤ 5) (hgm : g 13 = nI m) (hb : ¬ g 14 = 0) : CT E yX6_set cX6_set 5 mX6_set.2.2.2.1 4 0 0 [.ref (q 0), .int 3, .int i, .int v] (MW E q g tw a) (ri (fun r w => ((inI i 0 (g 13 - 1) = 0 ∨ inI v 0 9 = 0) ∧ r = -2 ∧ w = MW E q g tw a) ∨ (¬ (inI i 0 (g 13 - 1) = 0 ∨ inI v 0 9 = 0) ∧ r = a 8 i.toNatClampNeg ∧ w = MW E q g tw (va_up a 8 (upd (a 8) i.toNatClampNeg v))))) := by
  refine CT.of (M := mX6_set) (ls := [some (.ref (q 0)), some (.int 3), some (.int i), some (.int v), none]) (by decide) rfl (by decide) rfl (Nat.le_of_ble_eq_true rfl) ?_
  refine A_iload_n (dX6_set 0 rfl) rfl ?_
  refine A_i2l (dX6_set 1 rfl) ?_
  refine A_lconst (0) (dX6_set 2 rfl) (by decide +kernel) ?_
  refine A_ldc2 (dX6_set 3 rfl) kcX6_109 ?_
  refine A_callSWi 3 (dX6_set 4 rfl) cbX6_in cwX6_103 (m_in E _ 3 0 5 _ _ _ (by decide) (by decide) (by decide)) rfl rfl (Nat.le_of_ble_eq_true rfl) (Nat.le_of_ble_eq_true rfl) (Nat.le_of_ble_eq_true rfl) (Nat.le_of_ble_eq_true rfl) (Nat.le_of_ble_eq_true rfl) ?_
  rintro r6 w1 ⟨rfl, rfl⟩
  refine AW.pcq (pc2 := 9) rfl ?_
  refine A_if_eq 46 (dX6_set 5 rfl) (by decide) (fun h9 => absurd h9 (by decide)) (fun h9 => ?_)
  refine A_iload_n (dX6_set 6 rfl) rfl ?_
  refine A_iconst (2) (dX6_set 7 rfl) (by decide +kernel) ?_
  refine A_icmp_ge 24 (dX6_set 8 rfl) (by decide) (fun h14 => ?_) (fun h14 => absurd (by decide) h14)
  refine A_iload_n (dX6_set 12 rfl) rfl ?_
  refine A_i2l (dX6_set 13 rfl) ?_
  refine A_ldc2 (dX6_set 14 rfl) kcX6_119 ?_
  refine A_ldc2 (dX6_set 15 rfl) kcX6_121 ?_
  refine A_callSWi 3 (dX6_set 16 rfl) cbX6_in cwX6_103 (m_in E _ 3 2 4 _ _ _ (by decide) (by decide) (by decide)) rfl rfl (Nat.le_of_ble_eq_true rfl) (Nat.le_of_ble_eq_true rfl) (Nat.le_of_ble_eq_true rfl) (Nat.le_of_ble_eq_true rfl) (Nat.le_of_ble_eq_true rfl) ?_
  rintro r32 w1 ⟨rfl, rfl⟩
  refine AW.pcq (pc2 := 35) rfl ?_
  refine A_if_eq 49 (dX6_set 17 rfl) (by decide) (fun h35 => absurd h35 (by decide)) (fun h35 => ?_)
  refine A_aload_n (dX6_set 18 rfl) rfl ?_
  refine A_iload_n (dX6_set 19 rfl) rfl ?_
  refine A_callVWi 1 (dX6_set 20 rfl) cbX6_isMan cwX6_123 (m_isMan E q g tw a i) rfl rfl MW_0 rfl rfl (Nat.le_of_ble_eq_true rfl) (Nat.le_of_ble_eq_true rfl) (Nat.le_of_ble_eq_true rfl) (Nat.le_of_ble_eq_true rfl) (Nat.le_of_ble_eq_true rfl) ?_
  rintro r40 w1 ⟨rfl, rfl⟩
  refine AW.pcq (pc2 := 43) rfl ?_
  refine A_if_ne 49 (dX6_set 21 rfl) (by decide) (fun h43 => ?_) (fun h43 => ?_)
  · refine A_iload_n (dX6_set 24 rfl) rfl ?_
    refine A_i2l (dX6_set 25 rfl) ?_
    refine A_iload_n (dX6_set 26 rfl) rfl ?_
    refine A_iconst (5) (dX6_set 27 rfl) (by decide +kernel) ?_
    refine A_icmp_ne 62 (dX6_set 28 rfl) (by decide) (fun h53 => ?_) (fun h53 => absurd h53 (by decide))
    refine A_lconst (0) (dX6_set 31 rfl) (by decide +kernel) ?_
    refine A_iload_n (dX6_set 32 rfl) rfl ?_
    refine A_if_ne 73 (dX6_set 33 rfl) (by decide) (fun h64 => ?_) (fun h64 => absurd h64 (by decide))
    refine A_iload_n (dX6_set 36 rfl) rfl ?_
    refine A_iconst (2) (dX6_set 37 rfl) (by decide +kernel) ?_
    refine A_icmp_ne 84 (dX6_set 38 rfl) (by decide) (fun h75 => ?_) (fun h75 => absurd h75 (by decide))
    refine A_iload_n (dX6_set 41 rfl) rfl ?_
    refine A_iconst (5) (dX6_set 42 rfl) (by decide +kernel) ?_
    refine A_icmp_ne 95 (dX6_set 43 rfl) (by decide) (fun h86 => ?_) (fun h86 => absurd h86 (by decide))
    refine A_ldc2 (dX6_set 46 rfl) kcX6_132 ?_
    refine A_callSWi 3 (dX6_set 47 rfl) cbX6_in cwX6_103 (m_in E _ v 0 9 _ _ _ rfl (by decide) (by decide)) rfl rfl (Nat.le_of_ble_eq_true rfl) (Nat.le_of_ble_eq_true rfl) (Nat.le_of_ble_eq_true rfl) (Nat.le_of_ble_eq_true rfl) (Nat.le_of_ble_eq_true rfl) ?_
    rintro r98 w1 ⟨rfl, rfl⟩
    refine AW.pcq (pc2 := 101) rfl ?_
    refine A_if_ne 107 (dX6_set 48 rfl) (by decide) (fun h101 => ?_) (fun h101 => ?_)
    · refine A_iload_n (dX6_set 51 rfl) rfl ?_
      refine A_iconst (5) (dX6_set 52 rfl) (by decide +kernel) ?_
      refine A_icmp_ne 119 (dX6_set 53 rfl) (by decide) (fun h109 => ?_) (fun h109 => absurd h109 (by decide))
      refine A_aload_n (dX6_set 57 rfl) rfl ?_
      refine A_iload_n (dX6_set 58 rfl) rfl ?_
      refine A_iload_n (dX6_set 59 rfl) rfl ?_
      refine A_iconst (2) (dX6_set 60 rfl) (by decide +kernel) ?_
      refine A_icmp_ge 130 (dX6_set 61 rfl) (by decide) (fun h123 => ?_) (fun h123 => absurd (by decide) h123)
      refine A_iload_n (dX6_set 64 rfl) rfl ?_
      refine A_iconst (1) (dX6_set 65 rfl) (by decide +kernel) ?_
      refine A_iadd (dX6_set 66 rfl) ?_
      refine A_callVWi 2 (dX6_set 67 rfl) cbX6_told cwX6_134 (m_told E q g tw a i (3 + 1) m hm5 hgm hb) rfl rfl MW_0 rfl rfl (Nat.le_of_ble_eq_true rfl) (Nat.le_of_ble_eq_true rfl) (Nat.le_of_ble_eq_true rfl) (Nat.le_of_ble_eq_true rfl) (Nat.le_of_ble_eq_true rfl) ?_
      rintro r133 w1 ⟨rfl, rfl⟩
      refine AW.pcq (pc2 := 136) rfl ?_
      refine A_istore (ls2 := [_, _, _, _, _]) (dX6_set 68 rfl) (by decide) rfl rfl ?_
      refine A_iload_n (dX6_set 69 rfl) rfl ?_
      refine A_if_ne 152 (dX6_set 70 rfl) (by decide) (fun h139 => ?_) (fun h139 => absurd h139 (by decide))
      refine A_iload_n (dX6_set 77 rfl) rfl ?_
      refine A_iconst (1) (dX6_set 78 rfl) (by decide +kernel) ?_
      refine A_icmp_ne 167 (dX6_set 79 rfl) (by decide) (fun h154 => ?_) (fun h154 => absurd h154 (by decide))
      refine A_iload_n (dX6_set 86 rfl) rfl ?_
      refine A_iconst (2) (dX6_set 87 rfl) (by decide +kernel) ?_
      refine A_icmp_ne 187 (dX6_set 88 rfl) (by decide) (fun h169 => ?_) (fun h169 => absurd h169 (by decide))
      refine A_iload_n (dX6_set 98 rfl) rfl ?_
      refine A_iconst (3) (dX6_set 99 rfl) (by decide +kernel) ?_
      refine A_icmp_ne 202 (dX6_set 100 rfl) (by decide) (fun h189 => absurd (by decide) h189) (fun h189 => ?_)
      refine A_aload_n (dX6_set 101 rfl) rfl ?_
      refine A_get (dX6_set 102 rfl) fwX6_35 MW_0 MF_11 ?_
      refine A_iload_n (dX6_set 103 rfl) rfl ?_
      refine A_iload_n (dX6_set 104 rfl) rfl ?_
      refine A_iast (dX6_set 105 rfl) MW_8 (ix_man hm5 (by rw [← hgm]; assumption)) (MS_8 _) ?_
      refine AW.pcq (pc2 := 199) rfl ?_
      refine A_goto 222 (dX6_set 106 rfl) (by decide) ?_
      refine A_iload (dX6_set 119 rfl) rfl ?_
      refine A_ri (dX6_set 120 rfl) rfl rfl ?_
      exact Or.inr ⟨by simp_all, told_m4 (by assumption), rfl⟩
    · refine A_bipush (-2) (dX6_set 49 rfl) (by decide +kernel) ?_
      refine A_ri (dX6_set 50 rfl) rfl rfl ?_
      exact Or.inl ⟨by simp_all, rfl, rfl⟩
  · refine A_bipush (-2) (dX6_set 22 rfl) (by decide +kernel) ?_
    refine A_ri (dX6_set 23 rfl) rfl rfl ?_
    exact Or.inl ⟨by simp_all, rfl, rfl⟩

set_option maxRecDepth 100000 in
set_option maxHeartbeats 400000 in
theorem m_set4 (E : ag) (q : Nat → Nat) (g : Nat → Int32) (tw : Int64) (a : Nat → Nat → Int32) (i v : Int32) (m : Nat) (hm5 : m ≤ 5) (hgm : g 13 = nI m) (hb : ¬ g 14 = 0) : CT E yX6_set cX6_set 5 mX6_set.2.2.2.1 4 0 0 [.ref (q 0), .int 4, .int i, .int v] (MW E q g tw a) (ri (fun r w => ((inI i 0 (g 13 - 1) = 0 ∨ inI v 0 9 = 0) ∧ r = -2 ∧ w = MW E q g tw a) ∨ (¬ (inI i 0 (g 13 - 1) = 0 ∨ inI v 0 9 = 0) ∧ r = a 9 i.toNatClampNeg ∧ w = MW E q g tw (va_up a 9 (upd (a 9) i.toNatClampNeg v))))) := by
  refine CT.of (M := mX6_set) (ls := [some (.ref (q 0)), some (.int 4), some (.int i), some (.int v), none]) (by decide) rfl (by decide) rfl (Nat.le_of_ble_eq_true rfl) ?_
  refine A_iload_n (dX6_set 0 rfl) rfl ?_
  refine A_i2l (dX6_set 1 rfl) ?_
  refine A_lconst (0) (dX6_set 2 rfl) (by decide +kernel) ?_
  refine A_ldc2 (dX6_set 3 rfl) kcX6_109 ?_
  refine A_callSWi 3 (dX6_set 4 rfl) cbX6_in cwX6_103 (m_in E _ 4 0 5 _ _ _ (by decide) (by decide) (by decide)) rfl rfl (Nat.le_of_ble_eq_true rfl) (Nat.le_of_ble_eq_true rfl) (Nat.le_of_ble_eq_true rfl) (Nat.le_of_ble_eq_true rfl) (Nat.le_of_ble_eq_true rfl) ?_
  rintro r6 w1 ⟨rfl, rfl⟩
  refine AW.pcq (pc2 := 9) rfl ?_
  refine A_if_eq 46 (dX6_set 5 rfl) (by decide) (fun h9 => absurd h9 (by decide)) (fun h9 => ?_)
  refine A_iload_n (dX6_set 6 rfl) rfl ?_
  refine A_iconst (2) (dX6_set 7 rfl) (by decide +kernel) ?_
  refine A_icmp_ge 24 (dX6_set 8 rfl) (by decide) (fun h14 => ?_) (fun h14 => absurd (by decide) h14)
  refine A_iload_n (dX6_set 12 rfl) rfl ?_
  refine A_i2l (dX6_set 13 rfl) ?_
  refine A_ldc2 (dX6_set 14 rfl) kcX6_119 ?_
  refine A_ldc2 (dX6_set 15 rfl) kcX6_121 ?_
  refine A_callSWi 3 (dX6_set 16 rfl) cbX6_in cwX6_103 (m_in E _ 4 2 4 _ _ _ (by decide) (by decide) (by decide)) rfl rfl (Nat.le_of_ble_eq_true rfl) (Nat.le_of_ble_eq_true rfl) (Nat.le_of_ble_eq_true rfl) (Nat.le_of_ble_eq_true rfl) (Nat.le_of_ble_eq_true rfl) ?_
  rintro r32 w1 ⟨rfl, rfl⟩
  refine AW.pcq (pc2 := 35) rfl ?_
  refine A_if_eq 49 (dX6_set 17 rfl) (by decide) (fun h35 => absurd h35 (by decide)) (fun h35 => ?_)
  refine A_aload_n (dX6_set 18 rfl) rfl ?_
  refine A_iload_n (dX6_set 19 rfl) rfl ?_
  refine A_callVWi 1 (dX6_set 20 rfl) cbX6_isMan cwX6_123 (m_isMan E q g tw a i) rfl rfl MW_0 rfl rfl (Nat.le_of_ble_eq_true rfl) (Nat.le_of_ble_eq_true rfl) (Nat.le_of_ble_eq_true rfl) (Nat.le_of_ble_eq_true rfl) (Nat.le_of_ble_eq_true rfl) ?_
  rintro r40 w1 ⟨rfl, rfl⟩
  refine AW.pcq (pc2 := 43) rfl ?_
  refine A_if_ne 49 (dX6_set 21 rfl) (by decide) (fun h43 => ?_) (fun h43 => ?_)
  · refine A_iload_n (dX6_set 24 rfl) rfl ?_
    refine A_i2l (dX6_set 25 rfl) ?_
    refine A_iload_n (dX6_set 26 rfl) rfl ?_
    refine A_iconst (5) (dX6_set 27 rfl) (by decide +kernel) ?_
    refine A_icmp_ne 62 (dX6_set 28 rfl) (by decide) (fun h53 => ?_) (fun h53 => absurd h53 (by decide))
    refine A_lconst (0) (dX6_set 31 rfl) (by decide +kernel) ?_
    refine A_iload_n (dX6_set 32 rfl) rfl ?_
    refine A_if_ne 73 (dX6_set 33 rfl) (by decide) (fun h64 => ?_) (fun h64 => absurd h64 (by decide))
    refine A_iload_n (dX6_set 36 rfl) rfl ?_
    refine A_iconst (2) (dX6_set 37 rfl) (by decide +kernel) ?_
    refine A_icmp_ne 84 (dX6_set 38 rfl) (by decide) (fun h75 => ?_) (fun h75 => absurd h75 (by decide))
    refine A_iload_n (dX6_set 41 rfl) rfl ?_
    refine A_iconst (5) (dX6_set 42 rfl) (by decide +kernel) ?_
    refine A_icmp_ne 95 (dX6_set 43 rfl) (by decide) (fun h86 => ?_) (fun h86 => absurd h86 (by decide))
    refine A_ldc2 (dX6_set 46 rfl) kcX6_132 ?_
    refine A_callSWi 3 (dX6_set 47 rfl) cbX6_in cwX6_103 (m_in E _ v 0 9 _ _ _ rfl (by decide) (by decide)) rfl rfl (Nat.le_of_ble_eq_true rfl) (Nat.le_of_ble_eq_true rfl) (Nat.le_of_ble_eq_true rfl) (Nat.le_of_ble_eq_true rfl) (Nat.le_of_ble_eq_true rfl) ?_
    rintro r98 w1 ⟨rfl, rfl⟩
    refine AW.pcq (pc2 := 101) rfl ?_
    refine A_if_ne 107 (dX6_set 48 rfl) (by decide) (fun h101 => ?_) (fun h101 => ?_)
    · refine A_iload_n (dX6_set 51 rfl) rfl ?_
      refine A_iconst (5) (dX6_set 52 rfl) (by decide +kernel) ?_
      refine A_icmp_ne 119 (dX6_set 53 rfl) (by decide) (fun h109 => ?_) (fun h109 => absurd h109 (by decide))
      refine A_aload_n (dX6_set 57 rfl) rfl ?_
      refine A_iload_n (dX6_set 58 rfl) rfl ?_
      refine A_iload_n (dX6_set 59 rfl) rfl ?_
      refine A_iconst (2) (dX6_set 60 rfl) (by decide +kernel) ?_
      refine A_icmp_ge 130 (dX6_set 61 rfl) (by decide) (fun h123 => ?_) (fun h123 => absurd (by decide) h123)
      refine A_iload_n (dX6_set 64 rfl) rfl ?_
      refine A_iconst (1) (dX6_set 65 rfl) (by decide +kernel) ?_
      refine A_iadd (dX6_set 66 rfl) ?_
      refine A_callVWi 2 (dX6_set 67 rfl) cbX6_told cwX6_134 (m_told E q g tw a i (4 + 1) m hm5 hgm hb) rfl rfl MW_0 rfl rfl (Nat.le_of_ble_eq_true rfl) (Nat.le_of_ble_eq_true rfl) (Nat.le_of_ble_eq_true rfl) (Nat.le_of_ble_eq_true rfl) (Nat.le_of_ble_eq_true rfl) ?_
      rintro r133 w1 ⟨rfl, rfl⟩
      refine AW.pcq (pc2 := 136) rfl ?_
      refine A_istore (ls2 := [_, _, _, _, _]) (dX6_set 68 rfl) (by decide) rfl rfl ?_
      refine A_iload_n (dX6_set 69 rfl) rfl ?_
      refine A_if_ne 152 (dX6_set 70 rfl) (by decide) (fun h139 => ?_) (fun h139 => absurd h139 (by decide))
      refine A_iload_n (dX6_set 77 rfl) rfl ?_
      refine A_iconst (1) (dX6_set 78 rfl) (by decide +kernel) ?_
      refine A_icmp_ne 167 (dX6_set 79 rfl) (by decide) (fun h154 => ?_) (fun h154 => absurd h154 (by decide))
      refine A_iload_n (dX6_set 86 rfl) rfl ?_
      refine A_iconst (2) (dX6_set 87 rfl) (by decide +kernel) ?_
      refine A_icmp_ne 187 (dX6_set 88 rfl) (by decide) (fun h169 => ?_) (fun h169 => absurd h169 (by decide))
      refine A_iload_n (dX6_set 98 rfl) rfl ?_
      refine A_iconst (3) (dX6_set 99 rfl) (by decide +kernel) ?_
      refine A_icmp_ne 202 (dX6_set 100 rfl) (by decide) (fun h189 => ?_) (fun h189 => absurd h189 (by decide))
      refine A_iload_n (dX6_set 107 rfl) rfl ?_
      refine A_iconst (4) (dX6_set 108 rfl) (by decide +kernel) ?_
      refine A_icmp_ne 217 (dX6_set 109 rfl) (by decide) (fun h204 => absurd (by decide) h204) (fun h204 => ?_)
      refine A_aload_n (dX6_set 110 rfl) rfl ?_
      refine A_get (dX6_set 111 rfl) fwX6_38 MW_0 MF_12 ?_
      refine A_iload_n (dX6_set 112 rfl) rfl ?_
      refine A_iload_n (dX6_set 113 rfl) rfl ?_
      refine A_iast (dX6_set 114 rfl) MW_9 (ix_man hm5 (by rw [← hgm]; assumption)) (MS_9 _) ?_
      refine AW.pcq (pc2 := 214) rfl ?_
      refine A_goto 222 (dX6_set 115 rfl) (by decide) ?_
      refine A_iload (dX6_set 119 rfl) rfl ?_
      refine A_ri (dX6_set 120 rfl) rfl rfl ?_
      exact Or.inr ⟨by simp_all, told_m5 (by assumption), rfl⟩
    · refine A_bipush (-2) (dX6_set 49 rfl) (by decide +kernel) ?_
      refine A_ri (dX6_set 50 rfl) rfl rfl ?_
      exact Or.inl ⟨by simp_all, rfl, rfl⟩
  · refine A_bipush (-2) (dX6_set 22 rfl) (by decide +kernel) ?_
    refine A_ri (dX6_set 23 rfl) rfl rfl ?_
    exact Or.inl ⟨by simp_all, rfl, rfl⟩

set_option maxRecDepth 100000 in
set_option maxHeartbeats 400000 in
theorem m_set5 (E : ag) (q : Nat → Nat) (g : Nat → Int32) (tw : Int64) (a : Nat → Nat → Int32) (i v : Int32) (m : Nat) (hm5 : m ≤ 5) (hgm : g 13 = nI m) (hb : ¬ g 14 = 0) : CT E yX6_set cX6_set 5 mX6_set.2.2.2.1 4 0 0 [.ref (q 0), .int 5, .int i, .int v] (MW E q g tw a) (ri (fun r w => ((inI v 12 240 = 0) ∧ r = -2 ∧ w = MW E q g tw a) ∨ (¬ (inI v 12 240 = 0) ∧ r = g 14 ∧ w = MW E q (upd g 14 v) tw (va_up a 7 (cp m (rmf v (a 7)) (a 7)))))) := by
  refine CT.of (M := mX6_set) (ls := [some (.ref (q 0)), some (.int 5), some (.int i), some (.int v), none]) (by decide) rfl (by decide) rfl (Nat.le_of_ble_eq_true rfl) ?_
  refine A_iload_n (dX6_set 0 rfl) rfl ?_
  refine A_i2l (dX6_set 1 rfl) ?_
  refine A_lconst (0) (dX6_set 2 rfl) (by decide +kernel) ?_
  refine A_ldc2 (dX6_set 3 rfl) kcX6_109 ?_
  refine A_callSWi 3 (dX6_set 4 rfl) cbX6_in cwX6_103 (m_in E _ 5 0 5 _ _ _ (by decide) (by decide) (by decide)) rfl rfl (Nat.le_of_ble_eq_true rfl) (Nat.le_of_ble_eq_true rfl) (Nat.le_of_ble_eq_true rfl) (Nat.le_of_ble_eq_true rfl) (Nat.le_of_ble_eq_true rfl) ?_
  rintro r6 w1 ⟨rfl, rfl⟩
  refine AW.pcq (pc2 := 9) rfl ?_
  refine A_if_eq 46 (dX6_set 5 rfl) (by decide) (fun h9 => absurd h9 (by decide)) (fun h9 => ?_)
  refine A_iload_n (dX6_set 6 rfl) rfl ?_
  refine A_iconst (2) (dX6_set 7 rfl) (by decide +kernel) ?_
  refine A_icmp_ge 24 (dX6_set 8 rfl) (by decide) (fun h14 => ?_) (fun h14 => absurd (by decide) h14)
  refine A_iload_n (dX6_set 12 rfl) rfl ?_
  refine A_i2l (dX6_set 13 rfl) ?_
  refine A_ldc2 (dX6_set 14 rfl) kcX6_119 ?_
  refine A_ldc2 (dX6_set 15 rfl) kcX6_121 ?_
  refine A_callSWi 3 (dX6_set 16 rfl) cbX6_in cwX6_103 (m_in E _ 5 2 4 _ _ _ (by decide) (by decide) (by decide)) rfl rfl (Nat.le_of_ble_eq_true rfl) (Nat.le_of_ble_eq_true rfl) (Nat.le_of_ble_eq_true rfl) (Nat.le_of_ble_eq_true rfl) (Nat.le_of_ble_eq_true rfl) ?_
  rintro r32 w1 ⟨rfl, rfl⟩
  refine AW.pcq (pc2 := 35) rfl ?_
  refine A_if_eq 49 (dX6_set 17 rfl) (by decide) (fun h35 => ?_) (fun h35 => absurd (by decide) h35)
  refine A_iload_n (dX6_set 24 rfl) rfl ?_
  refine A_i2l (dX6_set 25 rfl) ?_
  refine A_iload_n (dX6_set 26 rfl) rfl ?_
  refine A_iconst (5) (dX6_set 27 rfl) (by decide +kernel) ?_
  refine A_icmp_ne 62 (dX6_set 28 rfl) (by decide) (fun h53 => absurd (by decide) h53) (fun h53 => ?_)
  refine A_ldc2 (dX6_set 29 rfl) kcX6_126 ?_
  refine A_goto 63 (dX6_set 30 rfl) (by decide) ?_
  refine A_iload_n (dX6_set 32 rfl) rfl ?_
  refine A_if_ne 73 (dX6_set 33 rfl) (by decide) (fun h64 => ?_) (fun h64 => absurd h64 (by decide))
  refine A_iload_n (dX6_set 36 rfl) rfl ?_
  refine A_iconst (2) (dX6_set 37 rfl) (by decide +kernel) ?_
  refine A_icmp_ne 84 (dX6_set 38 rfl) (by decide) (fun h75 => ?_) (fun h75 => absurd h75 (by decide))
  refine A_iload_n (dX6_set 41 rfl) rfl ?_
  refine A_iconst (5) (dX6_set 42 rfl) (by decide +kernel) ?_
  refine A_icmp_ne 95 (dX6_set 43 rfl) (by decide) (fun h86 => absurd (by decide) h86) (fun h86 => ?_)
  refine A_ldc2 (dX6_set 44 rfl) kcX6_130 ?_
  refine A_goto 98 (dX6_set 45 rfl) (by decide) ?_
  refine A_callSWi 3 (dX6_set 47 rfl) cbX6_in cwX6_103 (m_in E _ v 12 240 _ _ _ rfl (by decide) (by decide)) rfl rfl (Nat.le_of_ble_eq_true rfl) (Nat.le_of_ble_eq_true rfl) (Nat.le_of_ble_eq_true rfl) (Nat.le_of_ble_eq_true rfl) (Nat.le_of_ble_eq_true rfl) ?_
  rintro r98 w1 ⟨rfl, rfl⟩
  refine AW.pcq (pc2 := 101) rfl ?_
  refine A_if_ne 107 (dX6_set 48 rfl) (by decide) (fun h101 => ?_) (fun h101 => ?_)
  · refine A_iload_n (dX6_set 51 rfl) rfl ?_
    refine A_iconst (5) (dX6_set 52 rfl) (by decide +kernel) ?_
    refine A_icmp_ne 119 (dX6_set 53 rfl) (by decide) (fun h109 => absurd (by decide) h109) (fun h109 => ?_)
    refine A_aload_n (dX6_set 54 rfl) rfl ?_
    refine A_get (dX6_set 55 rfl) fwX6_41 MW_0 MF_14 ?_
    refine A_goto 136 (dX6_set 56 rfl) (by decide) ?_
    refine A_istore (ls2 := [_, _, _, _, _]) (dX6_set 68 rfl) (by decide) rfl rfl ?_
    refine A_iload_n (dX6_set 69 rfl) rfl ?_
    refine A_if_ne 152 (dX6_set 70 rfl) (by decide) (fun h139 => ?_) (fun h139 => absurd h139 (by decide))
    refine A_iload_n (dX6_set 77 rfl) rfl ?_
    refine A_iconst (1) (dX6_set 78 rfl) (by decide +kernel) ?_
    refine A_icmp_ne 167 (dX6_set 79 rfl) (by decide) (fun h154 => ?_) (fun h154 => absurd h154 (by decide))
    refine A_iload_n (dX6_set 86 rfl) rfl ?_
    refine A_iconst (2) (dX6_set 87 rfl) (by decide +kernel) ?_
    refine A_icmp_ne 187 (dX6_set 88 rfl) (by decide) (fun h169 => ?_) (fun h169 => absurd h169 (by decide))
    refine A_iload_n (dX6_set 98 rfl) rfl ?_
    refine A_iconst (3) (dX6_set 99 rfl) (by decide +kernel) ?_
    refine A_icmp_ne 202 (dX6_set 100 rfl) (by decide) (fun h189 => ?_) (fun h189 => absurd h189 (by decide))
    refine A_iload_n (dX6_set 107 rfl) rfl ?_
    refine A_iconst (4) (dX6_set 108 rfl) (by decide +kernel) ?_
    refine A_icmp_ne 217 (dX6_set 109 rfl) (by decide) (fun h204 => ?_) (fun h204 => absurd h204 (by decide))
    refine A_aload_n (dX6_set 116 rfl) rfl ?_
    refine A_iload_n (dX6_set 117 rfl) rfl ?_
    refine A_callVWv 1 (dX6_set 118 rfl) cbX6_bars cwX6_138 (m_bars E q g tw a v m hm5 hgm (fun z => by subst z; exact absurd (by decide) h101)) rfl rfl MW_0 rfl rfl (Nat.le_of_ble_eq_true rfl) (Nat.le_of_ble_eq_true rfl) (Nat.le_of_ble_eq_true rfl) (Nat.le_of_ble_eq_true rfl) (Nat.le_of_ble_eq_true rfl) ?_
    rintro w1 rfl
    refine AW.pcq (pc2 := 222) rfl ?_
    refine A_iload (dX6_set 119 rfl) rfl ?_
    refine A_ri (dX6_set 120 rfl) rfl rfl ?_
    exact Or.inr ⟨by simp_all, rfl, rfl⟩
  · refine A_bipush (-2) (dX6_set 49 rfl) (by decide +kernel) ?_
    refine A_ri (dX6_set 50 rfl) rfl rfl ?_
    exact Or.inl ⟨by simp_all, rfl, rfl⟩

set_option maxRecDepth 100000 in
set_option maxHeartbeats 400000 in
theorem m_setN (E : ag) (q : Nat → Nat) (g : Nat → Int32) (tw : Int64) (a : Nat → Nat → Int32) (k i v : Int32) (hk : inI k 0 5 = 0) : CT E yX6_set cX6_set 5 mX6_set.2.2.2.1 4 0 0 [.ref (q 0), .int k, .int i, .int v] (MW E q g tw a) (ri (fun r w => r = -2 ∧ w = MW E q g tw a)) := by
  refine CT.of (M := mX6_set) (ls := [some (.ref (q 0)), some (.int k), some (.int i), some (.int v), none]) (by decide) rfl (by decide) rfl (Nat.le_of_ble_eq_true rfl) ?_
  refine A_iload_n (dX6_set 0 rfl) rfl ?_
  refine A_i2l (dX6_set 1 rfl) ?_
  refine A_lconst (0) (dX6_set 2 rfl) (by decide +kernel) ?_
  refine A_ldc2 (dX6_set 3 rfl) kcX6_109 ?_
  refine A_callSWi 3 (dX6_set 4 rfl) cbX6_in cwX6_103 (m_in E _ k 0 5 _ _ _ rfl (by decide) (by decide)) rfl rfl (Nat.le_of_ble_eq_true rfl) (Nat.le_of_ble_eq_true rfl) (Nat.le_of_ble_eq_true rfl) (Nat.le_of_ble_eq_true rfl) (Nat.le_of_ble_eq_true rfl) ?_
  rintro r6 w1 ⟨rfl, rfl⟩
  refine AW.pcq (pc2 := 9) rfl ?_
  refine A_if_eq 46 (dX6_set 5 rfl) (by decide) (fun h9 => ?_) (fun h9 => absurd hk h9)
  refine A_bipush (-2) (dX6_set 22 rfl) (by decide +kernel) ?_
  refine A_ri (dX6_set 23 rfl) rfl rfl ?_
  exact ⟨rfl, rfl⟩

def ovr (x : Int32) : Int32 := if x = 0 then -1 else if x = 1 ∨ x = 2 then 0 else if x = 3 then 2 else if x = 4 then 1 else 3
set_option maxRecDepth 100000 in
set_option maxHeartbeats 400000 in
theorem m_over (E : ag) (ws : va_W) (x : Int32) : CT E yX6_over cX6_over 1 mX6_over.2.2.2.1 1 0 0 [.int x] (ws) (ri (fun r w => r = ovr x ∧ w = ws)) := by
  refine CT.of (M := mX6_over) (ls := [some (.int x)]) (by decide) rfl (by decide) rfl (Nat.le_of_ble_eq_true rfl) ?_
  refine A_iload_n (dX6_over 0 rfl) rfl ?_
  refine A_if_ne 8 (dX6_over 1 rfl) (by decide) (fun h1 => ?_) (fun h1 => ?_)
  · refine A_iload_n (dX6_over 4 rfl) rfl ?_
    refine A_iconst (1) (dX6_over 5 rfl) (by decide +kernel) ?_
    refine A_icmp_eq 18 (dX6_over 6 rfl) (by decide) (fun h10 => ?_) (fun h10 => ?_)
    · refine A_iconst (0) (dX6_over 10 rfl) (by decide +kernel) ?_
      refine A_goto 41 (dX6_over 11 rfl) (by decide) ?_
      refine A_ri (dX6_over 23 rfl) rfl rfl ?_
      refine ⟨?_, rfl⟩
      simp_all [ovr]
    · refine A_iload_n (dX6_over 7 rfl) rfl ?_
      refine A_iconst (2) (dX6_over 8 rfl) (by decide +kernel) ?_
      refine A_icmp_ne 22 (dX6_over 9 rfl) (by decide) (fun h15 => ?_) (fun h15 => ?_)
      · refine A_iload_n (dX6_over 12 rfl) rfl ?_
        refine A_iconst (3) (dX6_over 13 rfl) (by decide +kernel) ?_
        refine A_icmp_ne 31 (dX6_over 14 rfl) (by decide) (fun h24 => ?_) (fun h24 => ?_)
        · refine A_iload_n (dX6_over 17 rfl) rfl ?_
          refine A_iconst (4) (dX6_over 18 rfl) (by decide +kernel) ?_
          refine A_icmp_ne 40 (dX6_over 19 rfl) (by decide) (fun h33 => ?_) (fun h33 => ?_)
          · refine A_iconst (3) (dX6_over 22 rfl) (by decide +kernel) ?_
            refine A_ri (dX6_over 23 rfl) rfl rfl ?_
            refine ⟨?_, rfl⟩
            simp_all [ovr]
          · refine A_iconst (1) (dX6_over 20 rfl) (by decide +kernel) ?_
            refine A_goto 41 (dX6_over 21 rfl) (by decide) ?_
            refine A_ri (dX6_over 23 rfl) rfl rfl ?_
            refine ⟨?_, rfl⟩
            simp_all [ovr]
        · refine A_iconst (2) (dX6_over 15 rfl) (by decide +kernel) ?_
          refine A_goto 41 (dX6_over 16 rfl) (by decide) ?_
          refine A_ri (dX6_over 23 rfl) rfl rfl ?_
          refine ⟨?_, rfl⟩
          simp_all [ovr]
      · refine A_iconst (0) (dX6_over 10 rfl) (by decide +kernel) ?_
        refine A_goto 41 (dX6_over 11 rfl) (by decide) ?_
        refine A_ri (dX6_over 23 rfl) rfl rfl ?_
        refine ⟨?_, rfl⟩
        simp_all [ovr]
  · refine A_iconst (-1) (dX6_over 2 rfl) (by decide +kernel) ?_
    refine A_goto 41 (dX6_over 3 rfl) (by decide) ?_
    refine A_ri (dX6_over 23 rfl) rfl rfl ?_
    refine ⟨?_, rfl⟩
    simp_all [ovr]

def und (x k : Int32) : Prop := k = x ∨ (x = 1 ∧ k = 0) ∨ (x = 2 ∧ k = 0) ∨ (x = 3 ∧ (k = 2 ∨ k = 0)) ∨ (x = 4 ∧ (k = 1 ∨ k = 0)) ∨ (x = 5 ∧ (k = 3 ∨ k = 2 ∨ k = 0))
set_option maxRecDepth 100000 in
set_option maxHeartbeats 400000 in
theorem m_taken0 (E : ag) (q : Nat → Nat) (g : Nat → Int32) (tw : Int64) (a : Nat → Nat → Int32) (i k : Int32) (hi : vp_in i 5) (hk : ¬ k = -1) : AW E mX6_taken 3 0 0 33 [some (.ref (q 0)), some (.int i), some (.int k), some (.int 0)] [] (MW E q g tw a) (ri (fun r w => ((und 0 k ∧ r = a 8 i.toNatClampNeg) ∨ (¬ und 0 k ∧ r = -13)) ∧ w = MW E q g tw a)) := by
  refine A_iload_n (dX6_taken 19 rfl) rfl ?_
  refine A_iconst (-1) (dX6_taken 20 rfl) (by decide +kernel) ?_
  refine A_icmp_eq 51 (dX6_taken 21 rfl) (by decide) (fun h35 => absurd h35 (by decide)) (fun h35 => ?_)
  refine A_iload_n (dX6_taken 22 rfl) rfl ?_
  refine A_iload_n (dX6_taken 23 rfl) rfl ?_
  refine A_icmp_eq 51 (dX6_taken 24 rfl) (by decide) (fun e0 => ?_) (fun e0 => ?_)
  · refine A_iload_n (dX6_taken 29 rfl) rfl ?_
    refine A_iload_n (dX6_taken 30 rfl) rfl ?_
    refine A_icmp_ne 65 (dX6_taken 31 rfl) (by decide) (fun h53 => ?_) (fun h53 => ?_)
    · refine A_bipush (-13) (dX6_taken 37 rfl) (by decide +kernel) ?_
      refine A_ri (dX6_taken 38 rfl) rfl rfl ?_
      first | (refine ⟨Or.inl ⟨?_, rfl⟩, rfl⟩; subst_vars; unfold und; decide) | (refine ⟨Or.inr ⟨?_, rfl⟩, rfl⟩; unfold und; intro z; rcases z with z | ⟨z0, z⟩ | ⟨z0, z⟩ | ⟨z0, z | z⟩ | ⟨z0, z | z⟩ | ⟨z0, z | z | z⟩ <;> subst_vars <;> first | contradiction | (revert z0; decide) | simp_all [ovr])
    · refine A_aload_n (dX6_taken 32 rfl) rfl ?_
      refine A_get (dX6_taken 33 rfl) fwX6_35 MW_0 MF_11 ?_
      refine A_iload_n (dX6_taken 34 rfl) rfl ?_
      refine A_iald (dX6_taken 35 rfl) MW_8 hi ?_
      refine A_goto 67 (dX6_taken 36 rfl) (by decide) ?_
      refine A_ri (dX6_taken 38 rfl) rfl rfl ?_
      first | (refine ⟨Or.inl ⟨?_, rfl⟩, rfl⟩; subst_vars; unfold und; decide) | (refine ⟨Or.inr ⟨?_, rfl⟩, rfl⟩; unfold und; intro z; rcases z with z | ⟨z0, z⟩ | ⟨z0, z⟩ | ⟨z0, z | z⟩ | ⟨z0, z | z⟩ | ⟨z0, z | z | z⟩ <;> subst_vars <;> first | contradiction | (revert z0; decide) | simp_all [ovr])
  · refine A_iload_n (dX6_taken 25 rfl) rfl ?_
    refine A_callSWi 1 (dX6_taken 26 rfl) cbX6_over cwX6_395 (m_over E _ (0)) rfl rfl (Nat.le_of_ble_eq_true rfl) (Nat.le_of_ble_eq_true rfl) (Nat.le_of_ble_eq_true rfl) (Nat.le_of_ble_eq_true rfl) (Nat.le_of_ble_eq_true rfl) ?_
    rintro r44 w1 ⟨rfl, rfl⟩
    refine AW.pcq (pc2 := 47) rfl ?_
    refine A_istore_n (ls2 := [_, _, _, _]) (dX6_taken 27 rfl) (by decide) rfl rfl ?_
    refine A_goto 33 (dX6_taken 28 rfl) (by decide) ?_
    refine A_iload_n (dX6_taken 19 rfl) rfl ?_
    refine A_iconst (-1) (dX6_taken 20 rfl) (by decide +kernel) ?_
    refine A_icmp_eq 51 (dX6_taken 21 rfl) (by decide) (fun h35 => ?_) (fun h35 => absurd (by decide) h35)
    refine A_iload_n (dX6_taken 29 rfl) rfl ?_
    refine A_iload_n (dX6_taken 30 rfl) rfl ?_
    refine A_icmp_ne 65 (dX6_taken 31 rfl) (by decide) (fun e53 => ?_) (fun e53 => absurd e53 (fun z => hk (by rw [← z]; decide)))
    refine A_bipush (-13) (dX6_taken 37 rfl) (by decide +kernel) ?_
    refine A_ri (dX6_taken 38 rfl) rfl rfl ?_
    first | (refine ⟨Or.inl ⟨?_, rfl⟩, rfl⟩; subst_vars; unfold und; decide) | (refine ⟨Or.inr ⟨?_, rfl⟩, rfl⟩; unfold und; intro z; rcases z with z | ⟨z0, z⟩ | ⟨z0, z⟩ | ⟨z0, z | z⟩ | ⟨z0, z | z⟩ | ⟨z0, z | z | z⟩ <;> subst_vars <;> first | contradiction | (revert z0; decide) | simp_all [ovr])

set_option maxRecDepth 100000 in
set_option maxHeartbeats 400000 in
theorem m_taken1 (E : ag) (q : Nat → Nat) (g : Nat → Int32) (tw : Int64) (a : Nat → Nat → Int32) (i k : Int32) (hi : vp_in i 5) (hk : ¬ k = -1) : AW E mX6_taken 3 0 0 33 [some (.ref (q 0)), some (.int i), some (.int k), some (.int 1)] [] (MW E q g tw a) (ri (fun r w => ((und 1 k ∧ r = a 8 i.toNatClampNeg) ∨ (¬ und 1 k ∧ r = -13)) ∧ w = MW E q g tw a)) := by
  refine A_iload_n (dX6_taken 19 rfl) rfl ?_
  refine A_iconst (-1) (dX6_taken 20 rfl) (by decide +kernel) ?_
  refine A_icmp_eq 51 (dX6_taken 21 rfl) (by decide) (fun h35 => absurd h35 (by decide)) (fun h35 => ?_)
  refine A_iload_n (dX6_taken 22 rfl) rfl ?_
  refine A_iload_n (dX6_taken 23 rfl) rfl ?_
  refine A_icmp_eq 51 (dX6_taken 24 rfl) (by decide) (fun e0 => ?_) (fun e0 => ?_)
  · refine A_iload_n (dX6_taken 29 rfl) rfl ?_
    refine A_iload_n (dX6_taken 30 rfl) rfl ?_
    refine A_icmp_ne 65 (dX6_taken 31 rfl) (by decide) (fun h53 => ?_) (fun h53 => ?_)
    · refine A_bipush (-13) (dX6_taken 37 rfl) (by decide +kernel) ?_
      refine A_ri (dX6_taken 38 rfl) rfl rfl ?_
      first | (refine ⟨Or.inl ⟨?_, rfl⟩, rfl⟩; subst_vars; unfold und; decide) | (refine ⟨Or.inr ⟨?_, rfl⟩, rfl⟩; unfold und; intro z; rcases z with z | ⟨z0, z⟩ | ⟨z0, z⟩ | ⟨z0, z | z⟩ | ⟨z0, z | z⟩ | ⟨z0, z | z | z⟩ <;> subst_vars <;> first | contradiction | (revert z0; decide) | simp_all [ovr])
    · refine A_aload_n (dX6_taken 32 rfl) rfl ?_
      refine A_get (dX6_taken 33 rfl) fwX6_35 MW_0 MF_11 ?_
      refine A_iload_n (dX6_taken 34 rfl) rfl ?_
      refine A_iald (dX6_taken 35 rfl) MW_8 hi ?_
      refine A_goto 67 (dX6_taken 36 rfl) (by decide) ?_
      refine A_ri (dX6_taken 38 rfl) rfl rfl ?_
      first | (refine ⟨Or.inl ⟨?_, rfl⟩, rfl⟩; subst_vars; unfold und; decide) | (refine ⟨Or.inr ⟨?_, rfl⟩, rfl⟩; unfold und; intro z; rcases z with z | ⟨z0, z⟩ | ⟨z0, z⟩ | ⟨z0, z | z⟩ | ⟨z0, z | z⟩ | ⟨z0, z | z | z⟩ <;> subst_vars <;> first | contradiction | (revert z0; decide) | simp_all [ovr])
  · refine A_iload_n (dX6_taken 25 rfl) rfl ?_
    refine A_callSWi 1 (dX6_taken 26 rfl) cbX6_over cwX6_395 (m_over E _ (1)) rfl rfl (Nat.le_of_ble_eq_true rfl) (Nat.le_of_ble_eq_true rfl) (Nat.le_of_ble_eq_true rfl) (Nat.le_of_ble_eq_true rfl) (Nat.le_of_ble_eq_true rfl) ?_
    rintro r44 w1 ⟨rfl, rfl⟩
    refine AW.pcq (pc2 := 47) rfl ?_
    refine A_istore_n (ls2 := [_, _, _, _]) (dX6_taken 27 rfl) (by decide) rfl rfl ?_
    refine A_goto 33 (dX6_taken 28 rfl) (by decide) ?_
    refine A_iload_n (dX6_taken 19 rfl) rfl ?_
    refine A_iconst (-1) (dX6_taken 20 rfl) (by decide +kernel) ?_
    refine A_icmp_eq 51 (dX6_taken 21 rfl) (by decide) (fun h35 => absurd h35 (by decide)) (fun h35 => ?_)
    refine A_iload_n (dX6_taken 22 rfl) rfl ?_
    refine A_iload_n (dX6_taken 23 rfl) rfl ?_
    refine A_icmp_eq 51 (dX6_taken 24 rfl) (by decide) (fun e1 => ?_) (fun e1 => ?_)
    · refine A_iload_n (dX6_taken 29 rfl) rfl ?_
      refine A_iload_n (dX6_taken 30 rfl) rfl ?_
      refine A_icmp_ne 65 (dX6_taken 31 rfl) (by decide) (fun h53 => ?_) (fun h53 => ?_)
      · refine A_bipush (-13) (dX6_taken 37 rfl) (by decide +kernel) ?_
        refine A_ri (dX6_taken 38 rfl) rfl rfl ?_
        first | (refine ⟨Or.inl ⟨?_, rfl⟩, rfl⟩; subst_vars; unfold und; decide) | (refine ⟨Or.inr ⟨?_, rfl⟩, rfl⟩; unfold und; intro z; rcases z with z | ⟨z0, z⟩ | ⟨z0, z⟩ | ⟨z0, z | z⟩ | ⟨z0, z | z⟩ | ⟨z0, z | z | z⟩ <;> subst_vars <;> first | contradiction | (revert z0; decide) | simp_all [ovr])
      · refine A_aload_n (dX6_taken 32 rfl) rfl ?_
        refine A_get (dX6_taken 33 rfl) fwX6_35 MW_0 MF_11 ?_
        refine A_iload_n (dX6_taken 34 rfl) rfl ?_
        refine A_iald (dX6_taken 35 rfl) MW_8 hi ?_
        refine A_goto 67 (dX6_taken 36 rfl) (by decide) ?_
        refine A_ri (dX6_taken 38 rfl) rfl rfl ?_
        first | (refine ⟨Or.inl ⟨?_, rfl⟩, rfl⟩; subst_vars; unfold und; decide) | (refine ⟨Or.inr ⟨?_, rfl⟩, rfl⟩; unfold und; intro z; rcases z with z | ⟨z0, z⟩ | ⟨z0, z⟩ | ⟨z0, z | z⟩ | ⟨z0, z | z⟩ | ⟨z0, z | z | z⟩ <;> subst_vars <;> first | contradiction | (revert z0; decide) | simp_all [ovr])
    · refine A_iload_n (dX6_taken 25 rfl) rfl ?_
      refine A_callSWi 1 (dX6_taken 26 rfl) cbX6_over cwX6_395 (m_over E _ (ovr 1)) rfl rfl (Nat.le_of_ble_eq_true rfl) (Nat.le_of_ble_eq_true rfl) (Nat.le_of_ble_eq_true rfl) (Nat.le_of_ble_eq_true rfl) (Nat.le_of_ble_eq_true rfl) ?_
      rintro r44 w1 ⟨rfl, rfl⟩
      refine AW.pcq (pc2 := 47) rfl ?_
      refine A_istore_n (ls2 := [_, _, _, _]) (dX6_taken 27 rfl) (by decide) rfl rfl ?_
      refine A_goto 33 (dX6_taken 28 rfl) (by decide) ?_
      refine A_iload_n (dX6_taken 19 rfl) rfl ?_
      refine A_iconst (-1) (dX6_taken 20 rfl) (by decide +kernel) ?_
      refine A_icmp_eq 51 (dX6_taken 21 rfl) (by decide) (fun h35 => ?_) (fun h35 => absurd (by decide) h35)
      refine A_iload_n (dX6_taken 29 rfl) rfl ?_
      refine A_iload_n (dX6_taken 30 rfl) rfl ?_
      refine A_icmp_ne 65 (dX6_taken 31 rfl) (by decide) (fun e53 => ?_) (fun e53 => absurd e53 (fun z => hk (by rw [← z]; decide)))
      refine A_bipush (-13) (dX6_taken 37 rfl) (by decide +kernel) ?_
      refine A_ri (dX6_taken 38 rfl) rfl rfl ?_
      first | (refine ⟨Or.inl ⟨?_, rfl⟩, rfl⟩; subst_vars; unfold und; decide) | (refine ⟨Or.inr ⟨?_, rfl⟩, rfl⟩; unfold und; intro z; rcases z with z | ⟨z0, z⟩ | ⟨z0, z⟩ | ⟨z0, z | z⟩ | ⟨z0, z | z⟩ | ⟨z0, z | z | z⟩ <;> subst_vars <;> first | contradiction | (revert z0; decide) | simp_all [ovr])

set_option maxRecDepth 100000 in
set_option maxHeartbeats 400000 in
theorem m_taken2 (E : ag) (q : Nat → Nat) (g : Nat → Int32) (tw : Int64) (a : Nat → Nat → Int32) (i k : Int32) (hi : vp_in i 5) (hk : ¬ k = -1) : AW E mX6_taken 3 0 0 33 [some (.ref (q 0)), some (.int i), some (.int k), some (.int 2)] [] (MW E q g tw a) (ri (fun r w => ((und 2 k ∧ r = a 8 i.toNatClampNeg) ∨ (¬ und 2 k ∧ r = -13)) ∧ w = MW E q g tw a)) := by
  refine A_iload_n (dX6_taken 19 rfl) rfl ?_
  refine A_iconst (-1) (dX6_taken 20 rfl) (by decide +kernel) ?_
  refine A_icmp_eq 51 (dX6_taken 21 rfl) (by decide) (fun h35 => absurd h35 (by decide)) (fun h35 => ?_)
  refine A_iload_n (dX6_taken 22 rfl) rfl ?_
  refine A_iload_n (dX6_taken 23 rfl) rfl ?_
  refine A_icmp_eq 51 (dX6_taken 24 rfl) (by decide) (fun e0 => ?_) (fun e0 => ?_)
  · refine A_iload_n (dX6_taken 29 rfl) rfl ?_
    refine A_iload_n (dX6_taken 30 rfl) rfl ?_
    refine A_icmp_ne 65 (dX6_taken 31 rfl) (by decide) (fun h53 => ?_) (fun h53 => ?_)
    · refine A_bipush (-13) (dX6_taken 37 rfl) (by decide +kernel) ?_
      refine A_ri (dX6_taken 38 rfl) rfl rfl ?_
      first | (refine ⟨Or.inl ⟨?_, rfl⟩, rfl⟩; subst_vars; unfold und; decide) | (refine ⟨Or.inr ⟨?_, rfl⟩, rfl⟩; unfold und; intro z; rcases z with z | ⟨z0, z⟩ | ⟨z0, z⟩ | ⟨z0, z | z⟩ | ⟨z0, z | z⟩ | ⟨z0, z | z | z⟩ <;> subst_vars <;> first | contradiction | (revert z0; decide) | simp_all [ovr])
    · refine A_aload_n (dX6_taken 32 rfl) rfl ?_
      refine A_get (dX6_taken 33 rfl) fwX6_35 MW_0 MF_11 ?_
      refine A_iload_n (dX6_taken 34 rfl) rfl ?_
      refine A_iald (dX6_taken 35 rfl) MW_8 hi ?_
      refine A_goto 67 (dX6_taken 36 rfl) (by decide) ?_
      refine A_ri (dX6_taken 38 rfl) rfl rfl ?_
      first | (refine ⟨Or.inl ⟨?_, rfl⟩, rfl⟩; subst_vars; unfold und; decide) | (refine ⟨Or.inr ⟨?_, rfl⟩, rfl⟩; unfold und; intro z; rcases z with z | ⟨z0, z⟩ | ⟨z0, z⟩ | ⟨z0, z | z⟩ | ⟨z0, z | z⟩ | ⟨z0, z | z | z⟩ <;> subst_vars <;> first | contradiction | (revert z0; decide) | simp_all [ovr])
  · refine A_iload_n (dX6_taken 25 rfl) rfl ?_
    refine A_callSWi 1 (dX6_taken 26 rfl) cbX6_over cwX6_395 (m_over E _ (2)) rfl rfl (Nat.le_of_ble_eq_true rfl) (Nat.le_of_ble_eq_true rfl) (Nat.le_of_ble_eq_true rfl) (Nat.le_of_ble_eq_true rfl) (Nat.le_of_ble_eq_true rfl) ?_
    rintro r44 w1 ⟨rfl, rfl⟩
    refine AW.pcq (pc2 := 47) rfl ?_
    refine A_istore_n (ls2 := [_, _, _, _]) (dX6_taken 27 rfl) (by decide) rfl rfl ?_
    refine A_goto 33 (dX6_taken 28 rfl) (by decide) ?_
    refine A_iload_n (dX6_taken 19 rfl) rfl ?_
    refine A_iconst (-1) (dX6_taken 20 rfl) (by decide +kernel) ?_
    refine A_icmp_eq 51 (dX6_taken 21 rfl) (by decide) (fun h35 => absurd h35 (by decide)) (fun h35 => ?_)
    refine A_iload_n (dX6_taken 22 rfl) rfl ?_
    refine A_iload_n (dX6_taken 23 rfl) rfl ?_
    refine A_icmp_eq 51 (dX6_taken 24 rfl) (by decide) (fun e1 => ?_) (fun e1 => ?_)
    · refine A_iload_n (dX6_taken 29 rfl) rfl ?_
      refine A_iload_n (dX6_taken 30 rfl) rfl ?_
      refine A_icmp_ne 65 (dX6_taken 31 rfl) (by decide) (fun h53 => ?_) (fun h53 => ?_)
      · refine A_bipush (-13) (dX6_taken 37 rfl) (by decide +kernel) ?_
        refine A_ri (dX6_taken 38 rfl) rfl rfl ?_
        first | (refine ⟨Or.inl ⟨?_, rfl⟩, rfl⟩; subst_vars; unfold und; decide) | (refine ⟨Or.inr ⟨?_, rfl⟩, rfl⟩; unfold und; intro z; rcases z with z | ⟨z0, z⟩ | ⟨z0, z⟩ | ⟨z0, z | z⟩ | ⟨z0, z | z⟩ | ⟨z0, z | z | z⟩ <;> subst_vars <;> first | contradiction | (revert z0; decide) | simp_all [ovr])
      · refine A_aload_n (dX6_taken 32 rfl) rfl ?_
        refine A_get (dX6_taken 33 rfl) fwX6_35 MW_0 MF_11 ?_
        refine A_iload_n (dX6_taken 34 rfl) rfl ?_
        refine A_iald (dX6_taken 35 rfl) MW_8 hi ?_
        refine A_goto 67 (dX6_taken 36 rfl) (by decide) ?_
        refine A_ri (dX6_taken 38 rfl) rfl rfl ?_
        first | (refine ⟨Or.inl ⟨?_, rfl⟩, rfl⟩; subst_vars; unfold und; decide) | (refine ⟨Or.inr ⟨?_, rfl⟩, rfl⟩; unfold und; intro z; rcases z with z | ⟨z0, z⟩ | ⟨z0, z⟩ | ⟨z0, z | z⟩ | ⟨z0, z | z⟩ | ⟨z0, z | z | z⟩ <;> subst_vars <;> first | contradiction | (revert z0; decide) | simp_all [ovr])
    · refine A_iload_n (dX6_taken 25 rfl) rfl ?_
      refine A_callSWi 1 (dX6_taken 26 rfl) cbX6_over cwX6_395 (m_over E _ (ovr 2)) rfl rfl (Nat.le_of_ble_eq_true rfl) (Nat.le_of_ble_eq_true rfl) (Nat.le_of_ble_eq_true rfl) (Nat.le_of_ble_eq_true rfl) (Nat.le_of_ble_eq_true rfl) ?_
      rintro r44 w1 ⟨rfl, rfl⟩
      refine AW.pcq (pc2 := 47) rfl ?_
      refine A_istore_n (ls2 := [_, _, _, _]) (dX6_taken 27 rfl) (by decide) rfl rfl ?_
      refine A_goto 33 (dX6_taken 28 rfl) (by decide) ?_
      refine A_iload_n (dX6_taken 19 rfl) rfl ?_
      refine A_iconst (-1) (dX6_taken 20 rfl) (by decide +kernel) ?_
      refine A_icmp_eq 51 (dX6_taken 21 rfl) (by decide) (fun h35 => ?_) (fun h35 => absurd (by decide) h35)
      refine A_iload_n (dX6_taken 29 rfl) rfl ?_
      refine A_iload_n (dX6_taken 30 rfl) rfl ?_
      refine A_icmp_ne 65 (dX6_taken 31 rfl) (by decide) (fun e53 => ?_) (fun e53 => absurd e53 (fun z => hk (by rw [← z]; decide)))
      refine A_bipush (-13) (dX6_taken 37 rfl) (by decide +kernel) ?_
      refine A_ri (dX6_taken 38 rfl) rfl rfl ?_
      first | (refine ⟨Or.inl ⟨?_, rfl⟩, rfl⟩; subst_vars; unfold und; decide) | (refine ⟨Or.inr ⟨?_, rfl⟩, rfl⟩; unfold und; intro z; rcases z with z | ⟨z0, z⟩ | ⟨z0, z⟩ | ⟨z0, z | z⟩ | ⟨z0, z | z⟩ | ⟨z0, z | z | z⟩ <;> subst_vars <;> first | contradiction | (revert z0; decide) | simp_all [ovr])

set_option maxRecDepth 100000 in
set_option maxHeartbeats 400000 in
theorem m_taken3 (E : ag) (q : Nat → Nat) (g : Nat → Int32) (tw : Int64) (a : Nat → Nat → Int32) (i k : Int32) (hi : vp_in i 5) (hk : ¬ k = -1) : AW E mX6_taken 3 0 0 33 [some (.ref (q 0)), some (.int i), some (.int k), some (.int 3)] [] (MW E q g tw a) (ri (fun r w => ((und 3 k ∧ r = a 8 i.toNatClampNeg) ∨ (¬ und 3 k ∧ r = -13)) ∧ w = MW E q g tw a)) := by
  refine A_iload_n (dX6_taken 19 rfl) rfl ?_
  refine A_iconst (-1) (dX6_taken 20 rfl) (by decide +kernel) ?_
  refine A_icmp_eq 51 (dX6_taken 21 rfl) (by decide) (fun h35 => absurd h35 (by decide)) (fun h35 => ?_)
  refine A_iload_n (dX6_taken 22 rfl) rfl ?_
  refine A_iload_n (dX6_taken 23 rfl) rfl ?_
  refine A_icmp_eq 51 (dX6_taken 24 rfl) (by decide) (fun e0 => ?_) (fun e0 => ?_)
  · refine A_iload_n (dX6_taken 29 rfl) rfl ?_
    refine A_iload_n (dX6_taken 30 rfl) rfl ?_
    refine A_icmp_ne 65 (dX6_taken 31 rfl) (by decide) (fun h53 => ?_) (fun h53 => ?_)
    · refine A_bipush (-13) (dX6_taken 37 rfl) (by decide +kernel) ?_
      refine A_ri (dX6_taken 38 rfl) rfl rfl ?_
      first | (refine ⟨Or.inl ⟨?_, rfl⟩, rfl⟩; subst_vars; unfold und; decide) | (refine ⟨Or.inr ⟨?_, rfl⟩, rfl⟩; unfold und; intro z; rcases z with z | ⟨z0, z⟩ | ⟨z0, z⟩ | ⟨z0, z | z⟩ | ⟨z0, z | z⟩ | ⟨z0, z | z | z⟩ <;> subst_vars <;> first | contradiction | (revert z0; decide) | simp_all [ovr])
    · refine A_aload_n (dX6_taken 32 rfl) rfl ?_
      refine A_get (dX6_taken 33 rfl) fwX6_35 MW_0 MF_11 ?_
      refine A_iload_n (dX6_taken 34 rfl) rfl ?_
      refine A_iald (dX6_taken 35 rfl) MW_8 hi ?_
      refine A_goto 67 (dX6_taken 36 rfl) (by decide) ?_
      refine A_ri (dX6_taken 38 rfl) rfl rfl ?_
      first | (refine ⟨Or.inl ⟨?_, rfl⟩, rfl⟩; subst_vars; unfold und; decide) | (refine ⟨Or.inr ⟨?_, rfl⟩, rfl⟩; unfold und; intro z; rcases z with z | ⟨z0, z⟩ | ⟨z0, z⟩ | ⟨z0, z | z⟩ | ⟨z0, z | z⟩ | ⟨z0, z | z | z⟩ <;> subst_vars <;> first | contradiction | (revert z0; decide) | simp_all [ovr])
  · refine A_iload_n (dX6_taken 25 rfl) rfl ?_
    refine A_callSWi 1 (dX6_taken 26 rfl) cbX6_over cwX6_395 (m_over E _ (3)) rfl rfl (Nat.le_of_ble_eq_true rfl) (Nat.le_of_ble_eq_true rfl) (Nat.le_of_ble_eq_true rfl) (Nat.le_of_ble_eq_true rfl) (Nat.le_of_ble_eq_true rfl) ?_
    rintro r44 w1 ⟨rfl, rfl⟩
    refine AW.pcq (pc2 := 47) rfl ?_
    refine A_istore_n (ls2 := [_, _, _, _]) (dX6_taken 27 rfl) (by decide) rfl rfl ?_
    refine A_goto 33 (dX6_taken 28 rfl) (by decide) ?_
    refine A_iload_n (dX6_taken 19 rfl) rfl ?_
    refine A_iconst (-1) (dX6_taken 20 rfl) (by decide +kernel) ?_
    refine A_icmp_eq 51 (dX6_taken 21 rfl) (by decide) (fun h35 => absurd h35 (by decide)) (fun h35 => ?_)
    refine A_iload_n (dX6_taken 22 rfl) rfl ?_
    refine A_iload_n (dX6_taken 23 rfl) rfl ?_
    refine A_icmp_eq 51 (dX6_taken 24 rfl) (by decide) (fun e1 => ?_) (fun e1 => ?_)
    · refine A_iload_n (dX6_taken 29 rfl) rfl ?_
      refine A_iload_n (dX6_taken 30 rfl) rfl ?_
      refine A_icmp_ne 65 (dX6_taken 31 rfl) (by decide) (fun h53 => ?_) (fun h53 => ?_)
      · refine A_bipush (-13) (dX6_taken 37 rfl) (by decide +kernel) ?_
        refine A_ri (dX6_taken 38 rfl) rfl rfl ?_
        first | (refine ⟨Or.inl ⟨?_, rfl⟩, rfl⟩; subst_vars; unfold und; decide) | (refine ⟨Or.inr ⟨?_, rfl⟩, rfl⟩; unfold und; intro z; rcases z with z | ⟨z0, z⟩ | ⟨z0, z⟩ | ⟨z0, z | z⟩ | ⟨z0, z | z⟩ | ⟨z0, z | z | z⟩ <;> subst_vars <;> first | contradiction | (revert z0; decide) | simp_all [ovr])
      · refine A_aload_n (dX6_taken 32 rfl) rfl ?_
        refine A_get (dX6_taken 33 rfl) fwX6_35 MW_0 MF_11 ?_
        refine A_iload_n (dX6_taken 34 rfl) rfl ?_
        refine A_iald (dX6_taken 35 rfl) MW_8 hi ?_
        refine A_goto 67 (dX6_taken 36 rfl) (by decide) ?_
        refine A_ri (dX6_taken 38 rfl) rfl rfl ?_
        first | (refine ⟨Or.inl ⟨?_, rfl⟩, rfl⟩; subst_vars; unfold und; decide) | (refine ⟨Or.inr ⟨?_, rfl⟩, rfl⟩; unfold und; intro z; rcases z with z | ⟨z0, z⟩ | ⟨z0, z⟩ | ⟨z0, z | z⟩ | ⟨z0, z | z⟩ | ⟨z0, z | z | z⟩ <;> subst_vars <;> first | contradiction | (revert z0; decide) | simp_all [ovr])
    · refine A_iload_n (dX6_taken 25 rfl) rfl ?_
      refine A_callSWi 1 (dX6_taken 26 rfl) cbX6_over cwX6_395 (m_over E _ (ovr 3)) rfl rfl (Nat.le_of_ble_eq_true rfl) (Nat.le_of_ble_eq_true rfl) (Nat.le_of_ble_eq_true rfl) (Nat.le_of_ble_eq_true rfl) (Nat.le_of_ble_eq_true rfl) ?_
      rintro r44 w1 ⟨rfl, rfl⟩
      refine AW.pcq (pc2 := 47) rfl ?_
      refine A_istore_n (ls2 := [_, _, _, _]) (dX6_taken 27 rfl) (by decide) rfl rfl ?_
      refine A_goto 33 (dX6_taken 28 rfl) (by decide) ?_
      refine A_iload_n (dX6_taken 19 rfl) rfl ?_
      refine A_iconst (-1) (dX6_taken 20 rfl) (by decide +kernel) ?_
      refine A_icmp_eq 51 (dX6_taken 21 rfl) (by decide) (fun h35 => absurd h35 (by decide)) (fun h35 => ?_)
      refine A_iload_n (dX6_taken 22 rfl) rfl ?_
      refine A_iload_n (dX6_taken 23 rfl) rfl ?_
      refine A_icmp_eq 51 (dX6_taken 24 rfl) (by decide) (fun e2 => ?_) (fun e2 => ?_)
      · refine A_iload_n (dX6_taken 29 rfl) rfl ?_
        refine A_iload_n (dX6_taken 30 rfl) rfl ?_
        refine A_icmp_ne 65 (dX6_taken 31 rfl) (by decide) (fun h53 => ?_) (fun h53 => ?_)
        · refine A_bipush (-13) (dX6_taken 37 rfl) (by decide +kernel) ?_
          refine A_ri (dX6_taken 38 rfl) rfl rfl ?_
          first | (refine ⟨Or.inl ⟨?_, rfl⟩, rfl⟩; subst_vars; unfold und; decide) | (refine ⟨Or.inr ⟨?_, rfl⟩, rfl⟩; unfold und; intro z; rcases z with z | ⟨z0, z⟩ | ⟨z0, z⟩ | ⟨z0, z | z⟩ | ⟨z0, z | z⟩ | ⟨z0, z | z | z⟩ <;> subst_vars <;> first | contradiction | (revert z0; decide) | simp_all [ovr])
        · refine A_aload_n (dX6_taken 32 rfl) rfl ?_
          refine A_get (dX6_taken 33 rfl) fwX6_35 MW_0 MF_11 ?_
          refine A_iload_n (dX6_taken 34 rfl) rfl ?_
          refine A_iald (dX6_taken 35 rfl) MW_8 hi ?_
          refine A_goto 67 (dX6_taken 36 rfl) (by decide) ?_
          refine A_ri (dX6_taken 38 rfl) rfl rfl ?_
          first | (refine ⟨Or.inl ⟨?_, rfl⟩, rfl⟩; subst_vars; unfold und; decide) | (refine ⟨Or.inr ⟨?_, rfl⟩, rfl⟩; unfold und; intro z; rcases z with z | ⟨z0, z⟩ | ⟨z0, z⟩ | ⟨z0, z | z⟩ | ⟨z0, z | z⟩ | ⟨z0, z | z | z⟩ <;> subst_vars <;> first | contradiction | (revert z0; decide) | simp_all [ovr])
      · refine A_iload_n (dX6_taken 25 rfl) rfl ?_
        refine A_callSWi 1 (dX6_taken 26 rfl) cbX6_over cwX6_395 (m_over E _ (ovr (ovr 3))) rfl rfl (Nat.le_of_ble_eq_true rfl) (Nat.le_of_ble_eq_true rfl) (Nat.le_of_ble_eq_true rfl) (Nat.le_of_ble_eq_true rfl) (Nat.le_of_ble_eq_true rfl) ?_
        rintro r44 w1 ⟨rfl, rfl⟩
        refine AW.pcq (pc2 := 47) rfl ?_
        refine A_istore_n (ls2 := [_, _, _, _]) (dX6_taken 27 rfl) (by decide) rfl rfl ?_
        refine A_goto 33 (dX6_taken 28 rfl) (by decide) ?_
        refine A_iload_n (dX6_taken 19 rfl) rfl ?_
        refine A_iconst (-1) (dX6_taken 20 rfl) (by decide +kernel) ?_
        refine A_icmp_eq 51 (dX6_taken 21 rfl) (by decide) (fun h35 => ?_) (fun h35 => absurd (by decide) h35)
        refine A_iload_n (dX6_taken 29 rfl) rfl ?_
        refine A_iload_n (dX6_taken 30 rfl) rfl ?_
        refine A_icmp_ne 65 (dX6_taken 31 rfl) (by decide) (fun e53 => ?_) (fun e53 => absurd e53 (fun z => hk (by rw [← z]; decide)))
        refine A_bipush (-13) (dX6_taken 37 rfl) (by decide +kernel) ?_
        refine A_ri (dX6_taken 38 rfl) rfl rfl ?_
        first | (refine ⟨Or.inl ⟨?_, rfl⟩, rfl⟩; subst_vars; unfold und; decide) | (refine ⟨Or.inr ⟨?_, rfl⟩, rfl⟩; unfold und; intro z; rcases z with z | ⟨z0, z⟩ | ⟨z0, z⟩ | ⟨z0, z | z⟩ | ⟨z0, z | z⟩ | ⟨z0, z | z | z⟩ <;> subst_vars <;> first | contradiction | (revert z0; decide) | simp_all [ovr])

set_option maxRecDepth 100000 in
set_option maxHeartbeats 400000 in
theorem m_taken4 (E : ag) (q : Nat → Nat) (g : Nat → Int32) (tw : Int64) (a : Nat → Nat → Int32) (i k : Int32) (hi : vp_in i 5) (hk : ¬ k = -1) : AW E mX6_taken 3 0 0 33 [some (.ref (q 0)), some (.int i), some (.int k), some (.int 4)] [] (MW E q g tw a) (ri (fun r w => ((und 4 k ∧ r = a 8 i.toNatClampNeg) ∨ (¬ und 4 k ∧ r = -13)) ∧ w = MW E q g tw a)) := by
  refine A_iload_n (dX6_taken 19 rfl) rfl ?_
  refine A_iconst (-1) (dX6_taken 20 rfl) (by decide +kernel) ?_
  refine A_icmp_eq 51 (dX6_taken 21 rfl) (by decide) (fun h35 => absurd h35 (by decide)) (fun h35 => ?_)
  refine A_iload_n (dX6_taken 22 rfl) rfl ?_
  refine A_iload_n (dX6_taken 23 rfl) rfl ?_
  refine A_icmp_eq 51 (dX6_taken 24 rfl) (by decide) (fun e0 => ?_) (fun e0 => ?_)
  · refine A_iload_n (dX6_taken 29 rfl) rfl ?_
    refine A_iload_n (dX6_taken 30 rfl) rfl ?_
    refine A_icmp_ne 65 (dX6_taken 31 rfl) (by decide) (fun h53 => ?_) (fun h53 => ?_)
    · refine A_bipush (-13) (dX6_taken 37 rfl) (by decide +kernel) ?_
      refine A_ri (dX6_taken 38 rfl) rfl rfl ?_
      first | (refine ⟨Or.inl ⟨?_, rfl⟩, rfl⟩; subst_vars; unfold und; decide) | (refine ⟨Or.inr ⟨?_, rfl⟩, rfl⟩; unfold und; intro z; rcases z with z | ⟨z0, z⟩ | ⟨z0, z⟩ | ⟨z0, z | z⟩ | ⟨z0, z | z⟩ | ⟨z0, z | z | z⟩ <;> subst_vars <;> first | contradiction | (revert z0; decide) | simp_all [ovr])
    · refine A_aload_n (dX6_taken 32 rfl) rfl ?_
      refine A_get (dX6_taken 33 rfl) fwX6_35 MW_0 MF_11 ?_
      refine A_iload_n (dX6_taken 34 rfl) rfl ?_
      refine A_iald (dX6_taken 35 rfl) MW_8 hi ?_
      refine A_goto 67 (dX6_taken 36 rfl) (by decide) ?_
      refine A_ri (dX6_taken 38 rfl) rfl rfl ?_
      first | (refine ⟨Or.inl ⟨?_, rfl⟩, rfl⟩; subst_vars; unfold und; decide) | (refine ⟨Or.inr ⟨?_, rfl⟩, rfl⟩; unfold und; intro z; rcases z with z | ⟨z0, z⟩ | ⟨z0, z⟩ | ⟨z0, z | z⟩ | ⟨z0, z | z⟩ | ⟨z0, z | z | z⟩ <;> subst_vars <;> first | contradiction | (revert z0; decide) | simp_all [ovr])
  · refine A_iload_n (dX6_taken 25 rfl) rfl ?_
    refine A_callSWi 1 (dX6_taken 26 rfl) cbX6_over cwX6_395 (m_over E _ (4)) rfl rfl (Nat.le_of_ble_eq_true rfl) (Nat.le_of_ble_eq_true rfl) (Nat.le_of_ble_eq_true rfl) (Nat.le_of_ble_eq_true rfl) (Nat.le_of_ble_eq_true rfl) ?_
    rintro r44 w1 ⟨rfl, rfl⟩
    refine AW.pcq (pc2 := 47) rfl ?_
    refine A_istore_n (ls2 := [_, _, _, _]) (dX6_taken 27 rfl) (by decide) rfl rfl ?_
    refine A_goto 33 (dX6_taken 28 rfl) (by decide) ?_
    refine A_iload_n (dX6_taken 19 rfl) rfl ?_
    refine A_iconst (-1) (dX6_taken 20 rfl) (by decide +kernel) ?_
    refine A_icmp_eq 51 (dX6_taken 21 rfl) (by decide) (fun h35 => absurd h35 (by decide)) (fun h35 => ?_)
    refine A_iload_n (dX6_taken 22 rfl) rfl ?_
    refine A_iload_n (dX6_taken 23 rfl) rfl ?_
    refine A_icmp_eq 51 (dX6_taken 24 rfl) (by decide) (fun e1 => ?_) (fun e1 => ?_)
    · refine A_iload_n (dX6_taken 29 rfl) rfl ?_
      refine A_iload_n (dX6_taken 30 rfl) rfl ?_
      refine A_icmp_ne 65 (dX6_taken 31 rfl) (by decide) (fun h53 => ?_) (fun h53 => ?_)
      · refine A_bipush (-13) (dX6_taken 37 rfl) (by decide +kernel) ?_
        refine A_ri (dX6_taken 38 rfl) rfl rfl ?_
        first | (refine ⟨Or.inl ⟨?_, rfl⟩, rfl⟩; subst_vars; unfold und; decide) | (refine ⟨Or.inr ⟨?_, rfl⟩, rfl⟩; unfold und; intro z; rcases z with z | ⟨z0, z⟩ | ⟨z0, z⟩ | ⟨z0, z | z⟩ | ⟨z0, z | z⟩ | ⟨z0, z | z | z⟩ <;> subst_vars <;> first | contradiction | (revert z0; decide) | simp_all [ovr])
      · refine A_aload_n (dX6_taken 32 rfl) rfl ?_
        refine A_get (dX6_taken 33 rfl) fwX6_35 MW_0 MF_11 ?_
        refine A_iload_n (dX6_taken 34 rfl) rfl ?_
        refine A_iald (dX6_taken 35 rfl) MW_8 hi ?_
        refine A_goto 67 (dX6_taken 36 rfl) (by decide) ?_
        refine A_ri (dX6_taken 38 rfl) rfl rfl ?_
        first | (refine ⟨Or.inl ⟨?_, rfl⟩, rfl⟩; subst_vars; unfold und; decide) | (refine ⟨Or.inr ⟨?_, rfl⟩, rfl⟩; unfold und; intro z; rcases z with z | ⟨z0, z⟩ | ⟨z0, z⟩ | ⟨z0, z | z⟩ | ⟨z0, z | z⟩ | ⟨z0, z | z | z⟩ <;> subst_vars <;> first | contradiction | (revert z0; decide) | simp_all [ovr])
    · refine A_iload_n (dX6_taken 25 rfl) rfl ?_
      refine A_callSWi 1 (dX6_taken 26 rfl) cbX6_over cwX6_395 (m_over E _ (ovr 4)) rfl rfl (Nat.le_of_ble_eq_true rfl) (Nat.le_of_ble_eq_true rfl) (Nat.le_of_ble_eq_true rfl) (Nat.le_of_ble_eq_true rfl) (Nat.le_of_ble_eq_true rfl) ?_
      rintro r44 w1 ⟨rfl, rfl⟩
      refine AW.pcq (pc2 := 47) rfl ?_
      refine A_istore_n (ls2 := [_, _, _, _]) (dX6_taken 27 rfl) (by decide) rfl rfl ?_
      refine A_goto 33 (dX6_taken 28 rfl) (by decide) ?_
      refine A_iload_n (dX6_taken 19 rfl) rfl ?_
      refine A_iconst (-1) (dX6_taken 20 rfl) (by decide +kernel) ?_
      refine A_icmp_eq 51 (dX6_taken 21 rfl) (by decide) (fun h35 => absurd h35 (by decide)) (fun h35 => ?_)
      refine A_iload_n (dX6_taken 22 rfl) rfl ?_
      refine A_iload_n (dX6_taken 23 rfl) rfl ?_
      refine A_icmp_eq 51 (dX6_taken 24 rfl) (by decide) (fun e2 => ?_) (fun e2 => ?_)
      · refine A_iload_n (dX6_taken 29 rfl) rfl ?_
        refine A_iload_n (dX6_taken 30 rfl) rfl ?_
        refine A_icmp_ne 65 (dX6_taken 31 rfl) (by decide) (fun h53 => ?_) (fun h53 => ?_)
        · refine A_bipush (-13) (dX6_taken 37 rfl) (by decide +kernel) ?_
          refine A_ri (dX6_taken 38 rfl) rfl rfl ?_
          first | (refine ⟨Or.inl ⟨?_, rfl⟩, rfl⟩; subst_vars; unfold und; decide) | (refine ⟨Or.inr ⟨?_, rfl⟩, rfl⟩; unfold und; intro z; rcases z with z | ⟨z0, z⟩ | ⟨z0, z⟩ | ⟨z0, z | z⟩ | ⟨z0, z | z⟩ | ⟨z0, z | z | z⟩ <;> subst_vars <;> first | contradiction | (revert z0; decide) | simp_all [ovr])
        · refine A_aload_n (dX6_taken 32 rfl) rfl ?_
          refine A_get (dX6_taken 33 rfl) fwX6_35 MW_0 MF_11 ?_
          refine A_iload_n (dX6_taken 34 rfl) rfl ?_
          refine A_iald (dX6_taken 35 rfl) MW_8 hi ?_
          refine A_goto 67 (dX6_taken 36 rfl) (by decide) ?_
          refine A_ri (dX6_taken 38 rfl) rfl rfl ?_
          first | (refine ⟨Or.inl ⟨?_, rfl⟩, rfl⟩; subst_vars; unfold und; decide) | (refine ⟨Or.inr ⟨?_, rfl⟩, rfl⟩; unfold und; intro z; rcases z with z | ⟨z0, z⟩ | ⟨z0, z⟩ | ⟨z0, z | z⟩ | ⟨z0, z | z⟩ | ⟨z0, z | z | z⟩ <;> subst_vars <;> first | contradiction | (revert z0; decide) | simp_all [ovr])
      · refine A_iload_n (dX6_taken 25 rfl) rfl ?_
        refine A_callSWi 1 (dX6_taken 26 rfl) cbX6_over cwX6_395 (m_over E _ (ovr (ovr 4))) rfl rfl (Nat.le_of_ble_eq_true rfl) (Nat.le_of_ble_eq_true rfl) (Nat.le_of_ble_eq_true rfl) (Nat.le_of_ble_eq_true rfl) (Nat.le_of_ble_eq_true rfl) ?_
        rintro r44 w1 ⟨rfl, rfl⟩
        refine AW.pcq (pc2 := 47) rfl ?_
        refine A_istore_n (ls2 := [_, _, _, _]) (dX6_taken 27 rfl) (by decide) rfl rfl ?_
        refine A_goto 33 (dX6_taken 28 rfl) (by decide) ?_
        refine A_iload_n (dX6_taken 19 rfl) rfl ?_
        refine A_iconst (-1) (dX6_taken 20 rfl) (by decide +kernel) ?_
        refine A_icmp_eq 51 (dX6_taken 21 rfl) (by decide) (fun h35 => ?_) (fun h35 => absurd (by decide) h35)
        refine A_iload_n (dX6_taken 29 rfl) rfl ?_
        refine A_iload_n (dX6_taken 30 rfl) rfl ?_
        refine A_icmp_ne 65 (dX6_taken 31 rfl) (by decide) (fun e53 => ?_) (fun e53 => absurd e53 (fun z => hk (by rw [← z]; decide)))
        refine A_bipush (-13) (dX6_taken 37 rfl) (by decide +kernel) ?_
        refine A_ri (dX6_taken 38 rfl) rfl rfl ?_
        first | (refine ⟨Or.inl ⟨?_, rfl⟩, rfl⟩; subst_vars; unfold und; decide) | (refine ⟨Or.inr ⟨?_, rfl⟩, rfl⟩; unfold und; intro z; rcases z with z | ⟨z0, z⟩ | ⟨z0, z⟩ | ⟨z0, z | z⟩ | ⟨z0, z | z⟩ | ⟨z0, z | z | z⟩ <;> subst_vars <;> first | contradiction | (revert z0; decide) | simp_all [ovr])

set_option maxRecDepth 100000 in
set_option maxHeartbeats 400000 in
theorem m_taken5 (E : ag) (q : Nat → Nat) (g : Nat → Int32) (tw : Int64) (a : Nat → Nat → Int32) (i k : Int32) (hi : vp_in i 5) (hk : ¬ k = -1) : AW E mX6_taken 3 0 0 33 [some (.ref (q 0)), some (.int i), some (.int k), some (.int 5)] [] (MW E q g tw a) (ri (fun r w => ((und 5 k ∧ r = a 8 i.toNatClampNeg) ∨ (¬ und 5 k ∧ r = -13)) ∧ w = MW E q g tw a)) := by
  refine A_iload_n (dX6_taken 19 rfl) rfl ?_
  refine A_iconst (-1) (dX6_taken 20 rfl) (by decide +kernel) ?_
  refine A_icmp_eq 51 (dX6_taken 21 rfl) (by decide) (fun h35 => absurd h35 (by decide)) (fun h35 => ?_)
  refine A_iload_n (dX6_taken 22 rfl) rfl ?_
  refine A_iload_n (dX6_taken 23 rfl) rfl ?_
  refine A_icmp_eq 51 (dX6_taken 24 rfl) (by decide) (fun e0 => ?_) (fun e0 => ?_)
  · refine A_iload_n (dX6_taken 29 rfl) rfl ?_
    refine A_iload_n (dX6_taken 30 rfl) rfl ?_
    refine A_icmp_ne 65 (dX6_taken 31 rfl) (by decide) (fun h53 => ?_) (fun h53 => ?_)
    · refine A_bipush (-13) (dX6_taken 37 rfl) (by decide +kernel) ?_
      refine A_ri (dX6_taken 38 rfl) rfl rfl ?_
      first | (refine ⟨Or.inl ⟨?_, rfl⟩, rfl⟩; subst_vars; unfold und; decide) | (refine ⟨Or.inr ⟨?_, rfl⟩, rfl⟩; unfold und; intro z; rcases z with z | ⟨z0, z⟩ | ⟨z0, z⟩ | ⟨z0, z | z⟩ | ⟨z0, z | z⟩ | ⟨z0, z | z | z⟩ <;> subst_vars <;> first | contradiction | (revert z0; decide) | simp_all [ovr])
    · refine A_aload_n (dX6_taken 32 rfl) rfl ?_
      refine A_get (dX6_taken 33 rfl) fwX6_35 MW_0 MF_11 ?_
      refine A_iload_n (dX6_taken 34 rfl) rfl ?_
      refine A_iald (dX6_taken 35 rfl) MW_8 hi ?_
      refine A_goto 67 (dX6_taken 36 rfl) (by decide) ?_
      refine A_ri (dX6_taken 38 rfl) rfl rfl ?_
      first | (refine ⟨Or.inl ⟨?_, rfl⟩, rfl⟩; subst_vars; unfold und; decide) | (refine ⟨Or.inr ⟨?_, rfl⟩, rfl⟩; unfold und; intro z; rcases z with z | ⟨z0, z⟩ | ⟨z0, z⟩ | ⟨z0, z | z⟩ | ⟨z0, z | z⟩ | ⟨z0, z | z | z⟩ <;> subst_vars <;> first | contradiction | (revert z0; decide) | simp_all [ovr])
  · refine A_iload_n (dX6_taken 25 rfl) rfl ?_
    refine A_callSWi 1 (dX6_taken 26 rfl) cbX6_over cwX6_395 (m_over E _ (5)) rfl rfl (Nat.le_of_ble_eq_true rfl) (Nat.le_of_ble_eq_true rfl) (Nat.le_of_ble_eq_true rfl) (Nat.le_of_ble_eq_true rfl) (Nat.le_of_ble_eq_true rfl) ?_
    rintro r44 w1 ⟨rfl, rfl⟩
    refine AW.pcq (pc2 := 47) rfl ?_
    refine A_istore_n (ls2 := [_, _, _, _]) (dX6_taken 27 rfl) (by decide) rfl rfl ?_
    refine A_goto 33 (dX6_taken 28 rfl) (by decide) ?_
    refine A_iload_n (dX6_taken 19 rfl) rfl ?_
    refine A_iconst (-1) (dX6_taken 20 rfl) (by decide +kernel) ?_
    refine A_icmp_eq 51 (dX6_taken 21 rfl) (by decide) (fun h35 => absurd h35 (by decide)) (fun h35 => ?_)
    refine A_iload_n (dX6_taken 22 rfl) rfl ?_
    refine A_iload_n (dX6_taken 23 rfl) rfl ?_
    refine A_icmp_eq 51 (dX6_taken 24 rfl) (by decide) (fun e1 => ?_) (fun e1 => ?_)
    · refine A_iload_n (dX6_taken 29 rfl) rfl ?_
      refine A_iload_n (dX6_taken 30 rfl) rfl ?_
      refine A_icmp_ne 65 (dX6_taken 31 rfl) (by decide) (fun h53 => ?_) (fun h53 => ?_)
      · refine A_bipush (-13) (dX6_taken 37 rfl) (by decide +kernel) ?_
        refine A_ri (dX6_taken 38 rfl) rfl rfl ?_
        first | (refine ⟨Or.inl ⟨?_, rfl⟩, rfl⟩; subst_vars; unfold und; decide) | (refine ⟨Or.inr ⟨?_, rfl⟩, rfl⟩; unfold und; intro z; rcases z with z | ⟨z0, z⟩ | ⟨z0, z⟩ | ⟨z0, z | z⟩ | ⟨z0, z | z⟩ | ⟨z0, z | z | z⟩ <;> subst_vars <;> first | contradiction | (revert z0; decide) | simp_all [ovr])
      · refine A_aload_n (dX6_taken 32 rfl) rfl ?_
        refine A_get (dX6_taken 33 rfl) fwX6_35 MW_0 MF_11 ?_
        refine A_iload_n (dX6_taken 34 rfl) rfl ?_
        refine A_iald (dX6_taken 35 rfl) MW_8 hi ?_
        refine A_goto 67 (dX6_taken 36 rfl) (by decide) ?_
        refine A_ri (dX6_taken 38 rfl) rfl rfl ?_
        first | (refine ⟨Or.inl ⟨?_, rfl⟩, rfl⟩; subst_vars; unfold und; decide) | (refine ⟨Or.inr ⟨?_, rfl⟩, rfl⟩; unfold und; intro z; rcases z with z | ⟨z0, z⟩ | ⟨z0, z⟩ | ⟨z0, z | z⟩ | ⟨z0, z | z⟩ | ⟨z0, z | z | z⟩ <;> subst_vars <;> first | contradiction | (revert z0; decide) | simp_all [ovr])
    · refine A_iload_n (dX6_taken 25 rfl) rfl ?_
      refine A_callSWi 1 (dX6_taken 26 rfl) cbX6_over cwX6_395 (m_over E _ (ovr 5)) rfl rfl (Nat.le_of_ble_eq_true rfl) (Nat.le_of_ble_eq_true rfl) (Nat.le_of_ble_eq_true rfl) (Nat.le_of_ble_eq_true rfl) (Nat.le_of_ble_eq_true rfl) ?_
      rintro r44 w1 ⟨rfl, rfl⟩
      refine AW.pcq (pc2 := 47) rfl ?_
      refine A_istore_n (ls2 := [_, _, _, _]) (dX6_taken 27 rfl) (by decide) rfl rfl ?_
      refine A_goto 33 (dX6_taken 28 rfl) (by decide) ?_
      refine A_iload_n (dX6_taken 19 rfl) rfl ?_
      refine A_iconst (-1) (dX6_taken 20 rfl) (by decide +kernel) ?_
      refine A_icmp_eq 51 (dX6_taken 21 rfl) (by decide) (fun h35 => absurd h35 (by decide)) (fun h35 => ?_)
      refine A_iload_n (dX6_taken 22 rfl) rfl ?_
      refine A_iload_n (dX6_taken 23 rfl) rfl ?_
      refine A_icmp_eq 51 (dX6_taken 24 rfl) (by decide) (fun e2 => ?_) (fun e2 => ?_)
      · refine A_iload_n (dX6_taken 29 rfl) rfl ?_
        refine A_iload_n (dX6_taken 30 rfl) rfl ?_
        refine A_icmp_ne 65 (dX6_taken 31 rfl) (by decide) (fun h53 => ?_) (fun h53 => ?_)
        · refine A_bipush (-13) (dX6_taken 37 rfl) (by decide +kernel) ?_
          refine A_ri (dX6_taken 38 rfl) rfl rfl ?_
          first | (refine ⟨Or.inl ⟨?_, rfl⟩, rfl⟩; subst_vars; unfold und; decide) | (refine ⟨Or.inr ⟨?_, rfl⟩, rfl⟩; unfold und; intro z; rcases z with z | ⟨z0, z⟩ | ⟨z0, z⟩ | ⟨z0, z | z⟩ | ⟨z0, z | z⟩ | ⟨z0, z | z | z⟩ <;> subst_vars <;> first | contradiction | (revert z0; decide) | simp_all [ovr])
        · refine A_aload_n (dX6_taken 32 rfl) rfl ?_
          refine A_get (dX6_taken 33 rfl) fwX6_35 MW_0 MF_11 ?_
          refine A_iload_n (dX6_taken 34 rfl) rfl ?_
          refine A_iald (dX6_taken 35 rfl) MW_8 hi ?_
          refine A_goto 67 (dX6_taken 36 rfl) (by decide) ?_
          refine A_ri (dX6_taken 38 rfl) rfl rfl ?_
          first | (refine ⟨Or.inl ⟨?_, rfl⟩, rfl⟩; subst_vars; unfold und; decide) | (refine ⟨Or.inr ⟨?_, rfl⟩, rfl⟩; unfold und; intro z; rcases z with z | ⟨z0, z⟩ | ⟨z0, z⟩ | ⟨z0, z | z⟩ | ⟨z0, z | z⟩ | ⟨z0, z | z | z⟩ <;> subst_vars <;> first | contradiction | (revert z0; decide) | simp_all [ovr])
      · refine A_iload_n (dX6_taken 25 rfl) rfl ?_
        refine A_callSWi 1 (dX6_taken 26 rfl) cbX6_over cwX6_395 (m_over E _ (ovr (ovr 5))) rfl rfl (Nat.le_of_ble_eq_true rfl) (Nat.le_of_ble_eq_true rfl) (Nat.le_of_ble_eq_true rfl) (Nat.le_of_ble_eq_true rfl) (Nat.le_of_ble_eq_true rfl) ?_
        rintro r44 w1 ⟨rfl, rfl⟩
        refine AW.pcq (pc2 := 47) rfl ?_
        refine A_istore_n (ls2 := [_, _, _, _]) (dX6_taken 27 rfl) (by decide) rfl rfl ?_
        refine A_goto 33 (dX6_taken 28 rfl) (by decide) ?_
        refine A_iload_n (dX6_taken 19 rfl) rfl ?_
        refine A_iconst (-1) (dX6_taken 20 rfl) (by decide +kernel) ?_
        refine A_icmp_eq 51 (dX6_taken 21 rfl) (by decide) (fun h35 => absurd h35 (by decide)) (fun h35 => ?_)
        refine A_iload_n (dX6_taken 22 rfl) rfl ?_
        refine A_iload_n (dX6_taken 23 rfl) rfl ?_
        refine A_icmp_eq 51 (dX6_taken 24 rfl) (by decide) (fun e3 => ?_) (fun e3 => ?_)
        · refine A_iload_n (dX6_taken 29 rfl) rfl ?_
          refine A_iload_n (dX6_taken 30 rfl) rfl ?_
          refine A_icmp_ne 65 (dX6_taken 31 rfl) (by decide) (fun h53 => ?_) (fun h53 => ?_)
          · refine A_bipush (-13) (dX6_taken 37 rfl) (by decide +kernel) ?_
            refine A_ri (dX6_taken 38 rfl) rfl rfl ?_
            first | (refine ⟨Or.inl ⟨?_, rfl⟩, rfl⟩; subst_vars; unfold und; decide) | (refine ⟨Or.inr ⟨?_, rfl⟩, rfl⟩; unfold und; intro z; rcases z with z | ⟨z0, z⟩ | ⟨z0, z⟩ | ⟨z0, z | z⟩ | ⟨z0, z | z⟩ | ⟨z0, z | z | z⟩ <;> subst_vars <;> first | contradiction | (revert z0; decide) | simp_all [ovr])
          · refine A_aload_n (dX6_taken 32 rfl) rfl ?_
            refine A_get (dX6_taken 33 rfl) fwX6_35 MW_0 MF_11 ?_
            refine A_iload_n (dX6_taken 34 rfl) rfl ?_
            refine A_iald (dX6_taken 35 rfl) MW_8 hi ?_
            refine A_goto 67 (dX6_taken 36 rfl) (by decide) ?_
            refine A_ri (dX6_taken 38 rfl) rfl rfl ?_
            first | (refine ⟨Or.inl ⟨?_, rfl⟩, rfl⟩; subst_vars; unfold und; decide) | (refine ⟨Or.inr ⟨?_, rfl⟩, rfl⟩; unfold und; intro z; rcases z with z | ⟨z0, z⟩ | ⟨z0, z⟩ | ⟨z0, z | z⟩ | ⟨z0, z | z⟩ | ⟨z0, z | z | z⟩ <;> subst_vars <;> first | contradiction | (revert z0; decide) | simp_all [ovr])
        · refine A_iload_n (dX6_taken 25 rfl) rfl ?_
          refine A_callSWi 1 (dX6_taken 26 rfl) cbX6_over cwX6_395 (m_over E _ (ovr (ovr (ovr 5)))) rfl rfl (Nat.le_of_ble_eq_true rfl) (Nat.le_of_ble_eq_true rfl) (Nat.le_of_ble_eq_true rfl) (Nat.le_of_ble_eq_true rfl) (Nat.le_of_ble_eq_true rfl) ?_
          rintro r44 w1 ⟨rfl, rfl⟩
          refine AW.pcq (pc2 := 47) rfl ?_
          refine A_istore_n (ls2 := [_, _, _, _]) (dX6_taken 27 rfl) (by decide) rfl rfl ?_
          refine A_goto 33 (dX6_taken 28 rfl) (by decide) ?_
          refine A_iload_n (dX6_taken 19 rfl) rfl ?_
          refine A_iconst (-1) (dX6_taken 20 rfl) (by decide +kernel) ?_
          refine A_icmp_eq 51 (dX6_taken 21 rfl) (by decide) (fun h35 => ?_) (fun h35 => absurd (by decide) h35)
          refine A_iload_n (dX6_taken 29 rfl) rfl ?_
          refine A_iload_n (dX6_taken 30 rfl) rfl ?_
          refine A_icmp_ne 65 (dX6_taken 31 rfl) (by decide) (fun e53 => ?_) (fun e53 => absurd e53 (fun z => hk (by rw [← z]; decide)))
          refine A_bipush (-13) (dX6_taken 37 rfl) (by decide +kernel) ?_
          refine A_ri (dX6_taken 38 rfl) rfl rfl ?_
          first | (refine ⟨Or.inl ⟨?_, rfl⟩, rfl⟩; subst_vars; unfold und; decide) | (refine ⟨Or.inr ⟨?_, rfl⟩, rfl⟩; unfold und; intro z; rcases z with z | ⟨z0, z⟩ | ⟨z0, z⟩ | ⟨z0, z | z⟩ | ⟨z0, z | z⟩ | ⟨z0, z | z | z⟩ <;> subst_vars <;> first | contradiction | (revert z0; decide) | simp_all [ovr])

set_option maxRecDepth 100000 in
set_option maxHeartbeats 400000 in
theorem m_taken (E : ag) (q : Nat → Nat) (g : Nat → Int32) (tw : Int64) (a : Nat → Nat → Int32) (i k : Int32) (m : Nat) (hm5 : m ≤ 5) (hgm : g 13 = nI m) (hkx : ¬ inI i 0 (g 13 - 1) = 0 → (a 6 i.toNatClampNeg = 0 ∨ a 6 i.toNatClampNeg = 1 ∨ a 6 i.toNatClampNeg = 2 ∨ a 6 i.toNatClampNeg = 3 ∨ a 6 i.toNatClampNeg = 4 ∨ a 6 i.toNatClampNeg = 5)) : CT E yX6_taken cX6_taken 4 mX6_taken.2.2.2.1 3 0 0 [.ref (q 0), .int i, .int k] (MW E q g tw a) (ri (fun r w => ((inI k 0 5 = 0 ∧ r = -2) ∨ (¬ inI k 0 5 = 0 ∧ inI i 0 (g 13 - 1) = 0 ∧ r = -11) ∨ (¬ inI k 0 5 = 0 ∧ ¬ inI i 0 (g 13 - 1) = 0 ∧ ((und (a 6 i.toNatClampNeg) k ∧ r = a 8 i.toNatClampNeg) ∨ (¬ und (a 6 i.toNatClampNeg) k ∧ r = -13)))) ∧ w = MW E q g tw a)) := by
  refine CT.of (M := mX6_taken) (ls := [some (.ref (q 0)), some (.int i), some (.int k), none]) (by decide) rfl (by decide) rfl (Nat.le_of_ble_eq_true rfl) ?_
  refine A_iload_n (dX6_taken 0 rfl) rfl ?_
  refine A_i2l (dX6_taken 1 rfl) ?_
  refine A_lconst (0) (dX6_taken 2 rfl) (by decide +kernel) ?_
  refine A_ldc2 (dX6_taken 3 rfl) kcX6_109 ?_
  refine A_callSWi 3 (dX6_taken 4 rfl) cbX6_in cwX6_103 (m_in E _ k 0 5 _ _ _ rfl (by decide) (by decide)) rfl rfl (Nat.le_of_ble_eq_true rfl) (Nat.le_of_ble_eq_true rfl) (Nat.le_of_ble_eq_true rfl) (Nat.le_of_ble_eq_true rfl) (Nat.le_of_ble_eq_true rfl) ?_
  rintro r6 w1 ⟨rfl, rfl⟩
  refine AW.pcq (pc2 := 9) rfl ?_
  refine A_if_ne 15 (dX6_taken 5 rfl) (by decide) (fun h9 => ?_) (fun h9 => ?_)
  · refine A_aload_n (dX6_taken 8 rfl) rfl ?_
    refine A_iload_n (dX6_taken 9 rfl) rfl ?_
    refine A_callVWi 1 (dX6_taken 10 rfl) cbX6_isMan cwX6_123 (m_isMan E q g tw a i) rfl rfl MW_0 rfl rfl (Nat.le_of_ble_eq_true rfl) (Nat.le_of_ble_eq_true rfl) (Nat.le_of_ble_eq_true rfl) (Nat.le_of_ble_eq_true rfl) (Nat.le_of_ble_eq_true rfl) ?_
    rintro r17 w1 ⟨rfl, rfl⟩
    refine AW.pcq (pc2 := 20) rfl ?_
    refine A_if_ne 26 (dX6_taken 11 rfl) (by decide) (fun h20 => ?_) (fun h20 => ?_)
    · refine A_aload_n (dX6_taken 14 rfl) rfl ?_
      refine A_get (dX6_taken 15 rfl) fwX6_29 MW_0 MF_9 ?_
      refine A_iload_n (dX6_taken 16 rfl) rfl ?_
      refine A_iald (dX6_taken 17 rfl) MW_6 (ix_man hm5 (by rw [← hgm]; assumption)) ?_
      refine A_istore_n (ls2 := [_, _, _, _]) (dX6_taken 18 rfl) (by decide) rfl rfl ?_
      have hi5 : vp_in i 5 := ix_man hm5 (by rw [← hgm]; assumption)
      have hk1 : ¬ k = -1 := fun z => h9 (by subst z; decide)
      rcases hkx h20 with e | e | e | e | e | e <;> rw [e] <;>
        first
        | exact (m_taken0 E q g tw a i k hi5 hk1).mono (fun v w h => by obtain ⟨r, h1, h2, h3⟩ := h; exact ⟨r, h1, Or.inr (Or.inr ⟨h9, h20, h2⟩), h3⟩)
        | exact (m_taken1 E q g tw a i k hi5 hk1).mono (fun v w h => by obtain ⟨r, h1, h2, h3⟩ := h; exact ⟨r, h1, Or.inr (Or.inr ⟨h9, h20, h2⟩), h3⟩)
        | exact (m_taken2 E q g tw a i k hi5 hk1).mono (fun v w h => by obtain ⟨r, h1, h2, h3⟩ := h; exact ⟨r, h1, Or.inr (Or.inr ⟨h9, h20, h2⟩), h3⟩)
        | exact (m_taken3 E q g tw a i k hi5 hk1).mono (fun v w h => by obtain ⟨r, h1, h2, h3⟩ := h; exact ⟨r, h1, Or.inr (Or.inr ⟨h9, h20, h2⟩), h3⟩)
        | exact (m_taken4 E q g tw a i k hi5 hk1).mono (fun v w h => by obtain ⟨r, h1, h2, h3⟩ := h; exact ⟨r, h1, Or.inr (Or.inr ⟨h9, h20, h2⟩), h3⟩)
        | exact (m_taken5 E q g tw a i k hi5 hk1).mono (fun v w h => by obtain ⟨r, h1, h2, h3⟩ := h; exact ⟨r, h1, Or.inr (Or.inr ⟨h9, h20, h2⟩), h3⟩)
    · refine A_bipush (-11) (dX6_taken 12 rfl) (by decide +kernel) ?_
      refine A_ri (dX6_taken 13 rfl) rfl rfl ?_
      exact ⟨Or.inr (Or.inl ⟨by assumption, by assumption, rfl⟩), rfl⟩
  · refine A_bipush (-2) (dX6_taken 6 rfl) (by decide +kernel) ?_
    refine A_ri (dX6_taken 7 rfl) rfl rfl ?_
    exact ⟨Or.inl ⟨by assumption, rfl⟩, rfl⟩

def spl (f : Nat → Int32) (n : Nat) (l : List Int32) : Nat → Int32 := match l with
  | [] => f
  | y :: r => spl (upd f n y) (n + 1) r
