theorem nIne : ∀ m, m ≤ 5 → ¬ nI m = -1 := by decide +kernel
theorem c67 {t : Int32} (h : ¬ inI t 0 6 = 0) : ¬ inI t 0 7 = 0 := fun z => by
  have h1 := inI_no z
  obtain ⟨h2, h3⟩ := inI_yes h
  have e6 : (6 : Int32).toInt = 6 := by decide
  have e7 : (7 : Int32).toInt = 7 := by decide
  exact h1 ⟨Int32.le_iff_toInt_le.mpr h2, Int32.le_iff_toInt_le.mpr (by omega)⟩
set_option maxRecDepth 100000 in
set_option maxHeartbeats 400000 in
theorem m_turnL (E : ag) (q : Nat → Nat) (g : Nat → Int32) (tw : Int64) (a : Nat → Nat → Int32) : ∀ (n c : Nat), c + n = 12 → AW E mX6_turn 2 0 0 8 [some (.ref (q 0)), some (.int (sm (a 5) c)), some (.int (nI c))] [] (MW E q g tw a) (ri (fun r w => r = sm (a 5) 12 ∧ w = MW E q g tw a)) := by
  intro n
  induction n with
  | zero =>
    intro c hc
    obtain rfl : c = 12 := by omega
    refine A_iload_n (dX6_turn 6 rfl) rfl ?_
    refine A_bipush (12) (dX6_turn 7 rfl) (by decide +kernel) ?_
    refine A_icmp_ge 29 (dX6_turn 8 rfl) (by decide) (fun h11 => ?_) (fun h11 => absurd (show (12 : Int32) ≤ nI 12 by decide) h11)
    refine A_iload_n (dX6_turn 18 rfl) rfl ?_
    refine A_ri (dX6_turn 19 rfl) rfl rfl ?_
    exact ⟨rfl, rfl⟩
  | succ n ih =>
    intro c hc
    have hlt : c < 12 := by omega
    refine A_iload_n (dX6_turn 6 rfl) rfl ?_
    refine A_bipush (12) (dX6_turn 7 rfl) (by decide +kernel) ?_
    refine A_icmp_ge 29 (dX6_turn 8 rfl) (by decide) (fun h11 => absurd h11 (nI_ge (a := c) (b := 12) hlt (by decide))) (fun h11 => ?_)
    refine A_iload_n (dX6_turn 9 rfl) rfl ?_
    refine A_aload_n (dX6_turn 10 rfl) rfl ?_
    refine A_get (dX6_turn 11 rfl) fwX6_26 MW_0 MF_8 ?_
    refine A_iload_n (dX6_turn 12 rfl) rfl ?_
    refine A_iald (dX6_turn 13 rfl) MW_5 (vp_in_nI hlt (by decide)) ?_
    refine AW.pcq (pc2 := 21) rfl ?_
    refine A_iadd (dX6_turn 14 rfl) ?_
    refine A_istore_n (ls2 := [_, _, _]) (dX6_turn 15 rfl) (by decide) rfl rfl ?_
    refine A_iinc (ls2 := [_, _, _]) (nI (c + 1)) (dX6_turn 16 rfl) rfl (nI_1 c) (by decide) rfl rfl ?_
    refine A_goto 8 (dX6_turn 17 rfl) (by decide) ?_
    rw [nI_clamp (by omega)]
    exact ih (c + 1) (by omega)

set_option maxRecDepth 100000 in
set_option maxHeartbeats 400000 in
theorem m_turn (E : ag) (q : Nat → Nat) (g : Nat → Int32) (tw : Int64) (a : Nat → Nat → Int32) : CT E yX6_turn cX6_turn 3 mX6_turn.2.2.2.1 2 0 0 [.ref (q 0)] (MW E q g tw a) (ri (fun r w => r = sm (fun k => dw (a 5 k)) 12 ∧ w = MW E q g tw (turnA a))) := by
  refine CT.of (M := mX6_turn) (ls := [some (.ref (q 0)), none, none]) (by decide) rfl (by decide) rfl (Nat.le_of_ble_eq_true rfl) ?_
  refine A_aload_n (dX6_turn 0 rfl) rfl ?_
  refine A_callVWv 0 (dX6_turn 1 rfl) cbX6_turns cwX6_365 (m_turns E q g tw a) rfl rfl MW_0 rfl rfl (Nat.le_of_ble_eq_true rfl) (Nat.le_of_ble_eq_true rfl) (Nat.le_of_ble_eq_true rfl) (Nat.le_of_ble_eq_true rfl) (Nat.le_of_ble_eq_true rfl) ?_
  rintro w1 rfl
  refine AW.pcq (pc2 := 4) rfl ?_
  refine A_iconst (0) (dX6_turn 2 rfl) (by decide +kernel) ?_
  refine A_istore_n (ls2 := [_, _, _]) (dX6_turn 3 rfl) (by decide) rfl rfl ?_
  refine A_iconst (0) (dX6_turn 4 rfl) (by decide +kernel) ?_
  refine A_istore_n (ls2 := [_, _, _]) (dX6_turn 5 rfl) (by decide) rfl rfl ?_
  exact m_turnL E q g tw (turnA a) 12 0 rfl

set_option maxRecDepth 100000 in
set_option maxHeartbeats 400000 in
theorem m_image2 (E : ag) (q : Nat → Nat) (g : Nat → Int32) (tw : Int64) (a : Nat → Nat → Int32) : ∀ (n c : Nat), c + n = 5 → AW E mX6_image 1 0 0 40 [some (.ref (q 0)), some (.int (nI c))] [] (MW E q g tw (va_up (va_up (va_up a 18 (cp c (a 7) (a 18))) 19 (cp c (a 8) (a 19))) 20 (cp c (a 9) (a 20)))) (ri (fun r w => r = g 15 ∧ w = MW E q (upd (upd (upd (upd (upd g 55 (g 13)) 56 (g 14)) 57 (g 15)) 58 (g 16)) 59 (g 4)) tw (va_up (va_up (va_up a 18 (a 7)) 19 (a 8)) 20 (a 9)))) := by
  intro n
  induction n with
  | zero =>
    intro c hc
    obtain rfl : c = 5 := by omega
    refine A_iload_n (dX6_image 25 rfl) rfl ?_
    refine A_iconst (5) (dX6_image 26 rfl) (by decide +kernel) ?_
    refine A_icmp_ge 87 (dX6_image 27 rfl) (by decide) (fun h42 => ?_) (fun h42 => absurd (show (5 : Int32) ≤ nI 5 by decide) h42)
    refine AW.ext (MW_q (a2 := (va_up (va_up (va_up a 18 (a 7)) 19 (a 8)) 20 (a 9))) (up_q (up_q (up_q (fun _ _ _ => rfl) (fun k hk => cp_in (n := 5) hk)) (fun k hk => cp_in (n := 5) hk)) (fun k hk => cp_in (n := 5) hk))) ?_
    refine A_aload_n (dX6_image 54 rfl) rfl ?_
    refine A_aload_n (dX6_image 55 rfl) rfl ?_
    refine A_get (dX6_image 56 rfl) fwX6_100 MW_0 MF_13 ?_
    refine A_put (dX6_image 57 rfl) fwX6_77 fcX6 ftX6_55 MW_0 rfl rfl ML_0 (MP_55 _) ?_
    refine A_aload_n (dX6_image 58 rfl) rfl ?_
    refine A_aload_n (dX6_image 59 rfl) rfl ?_
    refine A_get (dX6_image 60 rfl) fwX6_41 MW_0 MF_14 ?_
    refine A_put (dX6_image 61 rfl) fwX6_378 fcX6 ftX6_56 MW_0 rfl rfl ML_0 (MP_56 _) ?_
    refine AW.pcq (pc2 := 103) rfl ?_
    refine A_aload_n (dX6_image 62 rfl) rfl ?_
    refine A_aload_n (dX6_image 63 rfl) rfl ?_
    refine A_get (dX6_image 64 rfl) fwX6_142 MW_0 MF_15 ?_
    refine A_put (dX6_image 65 rfl) fwX6_381 fcX6 ftX6_57 MW_0 rfl rfl ML_0 (MP_57 _) ?_
    refine A_aload_n (dX6_image 66 rfl) rfl ?_
    refine A_aload_n (dX6_image 67 rfl) rfl ?_
    refine A_get (dX6_image 68 rfl) fwX6_305 MW_0 MF_16 ?_
    refine A_put (dX6_image 69 rfl) fwX6_384 fcX6 ftX6_58 MW_0 rfl rfl ML_0 (MP_58 _) ?_
    refine AW.pcq (pc2 := 119) rfl ?_
    refine A_aload_n (dX6_image 70 rfl) rfl ?_
    refine A_aload_n (dX6_image 71 rfl) rfl ?_
    refine A_get (dX6_image 72 rfl) fwX6_288 MW_0 MF_4 ?_
    refine A_put (dX6_image 73 rfl) fwX6_387 fcX6 ftX6_59 MW_0 rfl rfl ML_0 (MP_59 _) ?_
    refine A_aload_n (dX6_image 74 rfl) rfl ?_
    refine A_get (dX6_image 75 rfl) fwX6_142 MW_0 MF_15 ?_
    refine A_ri (dX6_image 76 rfl) rfl rfl ?_
    exact ⟨rfl, rfl⟩
  | succ n ih =>
    intro c hc
    have hlt : c < 5 := by omega
    refine A_iload_n (dX6_image 25 rfl) rfl ?_
    refine A_iconst (5) (dX6_image 26 rfl) (by decide +kernel) ?_
    refine A_icmp_ge 87 (dX6_image 27 rfl) (by decide) (fun h42 => absurd h42 (nI_ge (a := c) (b := 5) hlt (by decide))) (fun h42 => ?_)
    refine A_aload_n (dX6_image 28 rfl) rfl ?_
    refine A_get (dX6_image 29 rfl) fwX6_68 MW_0 MF_52 ?_
    refine A_iload_n (dX6_image 30 rfl) rfl ?_
    refine A_aload_n (dX6_image 31 rfl) rfl ?_
    refine A_get (dX6_image 32 rfl) fwX6_32 MW_0 MF_10 ?_
    refine AW.pcq (pc2 := 54) rfl ?_
    refine A_iload_n (dX6_image 33 rfl) rfl ?_
    refine A_iald (dX6_image 34 rfl) MW_7 (vp_in_nI hlt (by decide)) ?_
    refine A_iast (dX6_image 35 rfl) MW_18 (vp_in_nI hlt (by decide)) (MS_18 _) ?_
    refine A_aload_n (dX6_image 36 rfl) rfl ?_
    refine A_get (dX6_image 37 rfl) fwX6_71 MW_0 MF_53 ?_
    refine A_iload_n (dX6_image 38 rfl) rfl ?_
    refine A_aload_n (dX6_image 39 rfl) rfl ?_
    refine A_get (dX6_image 40 rfl) fwX6_35 MW_0 MF_11 ?_
    refine AW.pcq (pc2 := 66) rfl ?_
    refine A_iload_n (dX6_image 41 rfl) rfl ?_
    refine A_iald (dX6_image 42 rfl) MW_8 (vp_in_nI hlt (by decide)) ?_
    refine A_iast (dX6_image 43 rfl) MW_19 (vp_in_nI hlt (by decide)) (MS_19 _) ?_
    refine A_aload_n (dX6_image 44 rfl) rfl ?_
    refine A_get (dX6_image 45 rfl) fwX6_74 MW_0 MF_54 ?_
    refine A_iload_n (dX6_image 46 rfl) rfl ?_
    refine A_aload_n (dX6_image 47 rfl) rfl ?_
    refine A_get (dX6_image 48 rfl) fwX6_38 MW_0 MF_12 ?_
    refine AW.pcq (pc2 := 78) rfl ?_
    refine A_iload_n (dX6_image 49 rfl) rfl ?_
    refine A_iald (dX6_image 50 rfl) MW_9 (vp_in_nI hlt (by decide)) ?_
    refine A_iast (dX6_image 51 rfl) MW_20 (vp_in_nI hlt (by decide)) (MS_20 _) ?_
    refine A_iinc (ls2 := [_, _]) (nI (c + 1)) (dX6_image 52 rfl) rfl (nI_1 c) (by decide) rfl rfl ?_
    refine A_goto 40 (dX6_image 53 rfl) (by decide) ?_
    rw [nI_clamp (by omega)]
    refine AW.world (ws2 := MW E q g tw (va_up (va_up (va_up a 18 (cp (c + 1) (a 7) (a 18))) 19 (cp (c + 1) (a 8) (a 19))) 20 (cp (c + 1) (a 9) (a 20)))) ?_ (ih (c + 1) (by omega))
    refine congrArg (MW E q g tw) ?_
    funext i
    by_cases e18 : i = 18 <;> by_cases e19 : i = 19 <;> by_cases e20 : i = 20 <;> simp_all [va_up, cp_s]

set_option maxRecDepth 100000 in
set_option maxHeartbeats 400000 in
theorem m_image1 (E : ag) (q : Nat → Nat) (g : Nat → Int32) (tw : Int64) (a : Nat → Nat → Int32) : ∀ (n c : Nat), c + n = 12 → AW E mX6_image 1 0 0 2 [some (.ref (q 0)), some (.int (nI c))] [] (MW E q g tw (va_up (va_up a 16 (cp c (a 4) (a 16))) 17 (cp c (a 5) (a 17)))) (ri (fun r w => r = g 15 ∧ w = MW E q (upd (upd (upd (upd (upd g 55 (g 13)) 56 (g 14)) 57 (g 15)) 58 (g 16)) 59 (g 4)) tw (va_up (va_up (va_up (va_up (va_up a 16 (a 4)) 17 (a 5)) 18 (a 7)) 19 (a 8)) 20 (a 9)))) := by
  intro n
  induction n with
  | zero =>
    intro c hc
    obtain rfl : c = 12 := by omega
    refine A_iload_n (dX6_image 2 rfl) rfl ?_
    refine A_bipush (12) (dX6_image 3 rfl) (by decide +kernel) ?_
    refine A_icmp_ge 38 (dX6_image 4 rfl) (by decide) (fun h5 => ?_) (fun h5 => absurd (show (12 : Int32) ≤ nI 12 by decide) h5)
    refine AW.ext (MW_q (a2 := (va_up (va_up a 16 (a 4)) 17 (a 5))) (up_q (up_q (fun _ _ _ => rfl) (fun k hk => cp_in (n := 12) hk)) (fun k hk => cp_in (n := 12) hk))) ?_
    refine A_iconst (0) (dX6_image 23 rfl) (by decide +kernel) ?_
    refine A_istore_n (ls2 := [_, _]) (dX6_image 24 rfl) (by decide) rfl rfl ?_
    have h9 := m_image2 E q g tw (va_up (va_up a 16 (a 4)) 17 (a 5)) 5 0 rfl
    simp only [cp_0, up_same] at h9
    exact h9
  | succ n ih =>
    intro c hc
    have hlt : c < 12 := by omega
    refine A_iload_n (dX6_image 2 rfl) rfl ?_
    refine A_bipush (12) (dX6_image 3 rfl) (by decide +kernel) ?_
    refine A_icmp_ge 38 (dX6_image 4 rfl) (by decide) (fun h5 => absurd h5 (nI_ge (a := c) (b := 12) hlt (by decide))) (fun h5 => ?_)
    refine A_aload_n (dX6_image 5 rfl) rfl ?_
    refine A_get (dX6_image 6 rfl) fwX6_62 MW_0 MF_50 ?_
    refine A_iload_n (dX6_image 7 rfl) rfl ?_
    refine A_aload_n (dX6_image 8 rfl) rfl ?_
    refine A_get (dX6_image 9 rfl) fwX6_23 MW_0 MF_7 ?_
    refine AW.pcq (pc2 := 17) rfl ?_
    refine A_iload_n (dX6_image 10 rfl) rfl ?_
    refine A_iald (dX6_image 11 rfl) MW_4 (vp_in_nI hlt (by decide)) ?_
    refine A_iast (dX6_image 12 rfl) MW_16 (vp_in_nI hlt (by decide)) (MS_16 _) ?_
    refine A_aload_n (dX6_image 13 rfl) rfl ?_
    refine A_get (dX6_image 14 rfl) fwX6_65 MW_0 MF_51 ?_
    refine A_iload_n (dX6_image 15 rfl) rfl ?_
    refine A_aload_n (dX6_image 16 rfl) rfl ?_
    refine A_get (dX6_image 17 rfl) fwX6_26 MW_0 MF_8 ?_
    refine AW.pcq (pc2 := 29) rfl ?_
    refine A_iload_n (dX6_image 18 rfl) rfl ?_
    refine A_iald (dX6_image 19 rfl) MW_5 (vp_in_nI hlt (by decide)) ?_
    refine A_iast (dX6_image 20 rfl) MW_17 (vp_in_nI hlt (by decide)) (MS_17 _) ?_
    refine A_iinc (ls2 := [_, _]) (nI (c + 1)) (dX6_image 21 rfl) rfl (nI_1 c) (by decide) rfl rfl ?_
    refine A_goto 2 (dX6_image 22 rfl) (by decide) ?_
    rw [nI_clamp (by omega)]
    refine AW.world (ws2 := MW E q g tw (va_up (va_up a 16 (cp (c + 1) (a 4) (a 16))) 17 (cp (c + 1) (a 5) (a 17)))) ?_ (ih (c + 1) (by omega))
    refine congrArg (MW E q g tw) ?_
    funext i
    by_cases e16 : i = 16 <;> by_cases e17 : i = 17 <;> simp_all [va_up, cp_s]

set_option maxRecDepth 100000 in
set_option maxHeartbeats 400000 in
theorem m_image (E : ag) (q : Nat → Nat) (g : Nat → Int32) (tw : Int64) (a : Nat → Nat → Int32) : CT E yX6_image cX6_image 2 mX6_image.2.2.2.1 1 0 0 [.ref (q 0)] (MW E q g tw a) (ri (fun r w => r = g 15 ∧ w = MW E q (upd (upd (upd (upd (upd g 55 (g 13)) 56 (g 14)) 57 (g 15)) 58 (g 16)) 59 (g 4)) tw (va_up (va_up (va_up (va_up (va_up a 16 (a 4)) 17 (a 5)) 18 (a 7)) 19 (a 8)) 20 (a 9)))) := by
  refine CT.of (M := mX6_image) (ls := [some (.ref (q 0)), none]) (by decide) rfl (by decide) rfl (Nat.le_of_ble_eq_true rfl) ?_
  refine A_iconst (0) (dX6_image 0 rfl) (by decide +kernel) ?_
  refine A_istore_n (ls2 := [_, _]) (dX6_image 1 rfl) (by decide) rfl rfl ?_
  have h9 := m_image1 E q g tw a 12 0 rfl
  simp only [cp_0, up_same] at h9
  exact h9

set_option maxRecDepth 100000 in
set_option maxHeartbeats 400000 in
theorem m_back2 (E : ag) (q : Nat → Nat) (g : Nat → Int32) (tw : Int64) (a : Nat → Nat → Int32) (m : Nat) (hm5 : m ≤ 5) (hgm : g 55 = nI m) : ∀ (n c : Nat), c + n = m → AW E mX6_back 1 0 0 51 [some (.ref (q 0)), some (.int (nI c))] [] (MW E q g tw (va_up (va_up (va_up a 7 (cp c (a 18) (a 7))) 8 (cp c (a 19) (a 8))) 9 (cp c (a 20) (a 9)))) (ri (fun r w => r = g 57 ∧ w = MW E q (upd (upd (upd (upd (upd g 13 (g 55)) 14 (g 56)) 15 (g 57)) 16 (g 58)) 4 (g 59)) tw (va_up (va_up (va_up a 7 (cp m (a 18) (a 7))) 8 (cp m (a 19) (a 8))) 9 (cp m (a 20) (a 9))))) := by
  intro n
  induction n with
  | zero =>
    intro c hc
    obtain rfl : m = c := by omega
    refine A_iload_n (dX6_back 31 rfl) rfl ?_
    refine A_aload_n (dX6_back 32 rfl) rfl ?_
    refine A_get (dX6_back 33 rfl) fwX6_77 MW_0 MF_55 ?_
    refine A_icmp_ge 101 (dX6_back 34 rfl) (by decide) (fun h56 => ?_) (fun h56 => absurd (show g 55 ≤ nI m by rw [hgm]; exact nI_le (by omega) (by omega)) h56)
    refine A_aload_n (dX6_back 61 rfl) rfl ?_
    refine A_aload_n (dX6_back 62 rfl) rfl ?_
    refine A_get (dX6_back 63 rfl) fwX6_77 MW_0 MF_55 ?_
    refine A_put (dX6_back 64 rfl) fwX6_100 fcX6 ftX6_13 MW_0 rfl rfl ML_0 (MP_13 _) ?_
    refine A_aload_n (dX6_back 65 rfl) rfl ?_
    refine A_aload_n (dX6_back 66 rfl) rfl ?_
    refine A_get (dX6_back 67 rfl) fwX6_378 MW_0 MF_56 ?_
    refine A_put (dX6_back 68 rfl) fwX6_41 fcX6 ftX6_14 MW_0 rfl rfl ML_0 (MP_14 _) ?_
    refine AW.pcq (pc2 := 117) rfl ?_
    refine A_aload_n (dX6_back 69 rfl) rfl ?_
    refine A_aload_n (dX6_back 70 rfl) rfl ?_
    refine A_get (dX6_back 71 rfl) fwX6_381 MW_0 MF_57 ?_
    refine A_put (dX6_back 72 rfl) fwX6_142 fcX6 ftX6_15 MW_0 rfl rfl ML_0 (MP_15 _) ?_
    refine A_aload_n (dX6_back 73 rfl) rfl ?_
    refine A_aload_n (dX6_back 74 rfl) rfl ?_
    refine A_get (dX6_back 75 rfl) fwX6_384 MW_0 MF_58 ?_
    refine A_put (dX6_back 76 rfl) fwX6_305 fcX6 ftX6_16 MW_0 rfl rfl ML_0 (MP_16 _) ?_
    refine AW.pcq (pc2 := 133) rfl ?_
    refine A_aload_n (dX6_back 77 rfl) rfl ?_
    refine A_aload_n (dX6_back 78 rfl) rfl ?_
    refine A_get (dX6_back 79 rfl) fwX6_387 MW_0 MF_59 ?_
    refine A_put (dX6_back 80 rfl) fwX6_288 fcX6 ftX6_4 MW_0 rfl rfl ML_0 (MP_4 _) ?_
    refine A_aload_n (dX6_back 81 rfl) rfl ?_
    refine A_get (dX6_back 82 rfl) fwX6_142 MW_0 MF_15 ?_
    refine A_ri (dX6_back 83 rfl) rfl rfl ?_
    exact ⟨rfl, rfl⟩
  | succ n ih =>
    intro c hc
    have hlt : c < m := by omega
    refine A_iload_n (dX6_back 31 rfl) rfl ?_
    refine A_aload_n (dX6_back 32 rfl) rfl ?_
    refine A_get (dX6_back 33 rfl) fwX6_77 MW_0 MF_55 ?_
    refine A_icmp_ge 101 (dX6_back 34 rfl) (by decide) (fun h56 => absurd h56 (by rw [hgm]; exact nI_ge (by omega) (by omega))) (fun h56 => ?_)
    refine A_aload_n (dX6_back 35 rfl) rfl ?_
    refine A_get (dX6_back 36 rfl) fwX6_32 MW_0 MF_10 ?_
    refine A_iload_n (dX6_back 37 rfl) rfl ?_
    refine A_aload_n (dX6_back 38 rfl) rfl ?_
    refine AW.pcq (pc2 := 65) rfl ?_
    refine A_get (dX6_back 39 rfl) fwX6_68 MW_0 MF_52 ?_
    refine A_iload_n (dX6_back 40 rfl) rfl ?_
    refine A_iald (dX6_back 41 rfl) MW_18 (vp_in_nI (n := c) (by omega) (by decide)) ?_
    refine A_iast (dX6_back 42 rfl) MW_7 (vp_in_nI (n := c) (by omega) (by decide)) (MS_7 _) ?_
    refine A_aload_n (dX6_back 43 rfl) rfl ?_
    refine A_get (dX6_back 44 rfl) fwX6_35 MW_0 MF_11 ?_
    refine A_iload_n (dX6_back 45 rfl) rfl ?_
    refine A_aload_n (dX6_back 46 rfl) rfl ?_
    refine AW.pcq (pc2 := 77) rfl ?_
    refine A_get (dX6_back 47 rfl) fwX6_71 MW_0 MF_53 ?_
    refine A_iload_n (dX6_back 48 rfl) rfl ?_
    refine A_iald (dX6_back 49 rfl) MW_19 (vp_in_nI (n := c) (by omega) (by decide)) ?_
    refine A_iast (dX6_back 50 rfl) MW_8 (vp_in_nI (n := c) (by omega) (by decide)) (MS_8 _) ?_
    refine A_aload_n (dX6_back 51 rfl) rfl ?_
    refine A_get (dX6_back 52 rfl) fwX6_38 MW_0 MF_12 ?_
    refine A_iload_n (dX6_back 53 rfl) rfl ?_
    refine A_aload_n (dX6_back 54 rfl) rfl ?_
    refine AW.pcq (pc2 := 89) rfl ?_
    refine A_get (dX6_back 55 rfl) fwX6_74 MW_0 MF_54 ?_
    refine A_iload_n (dX6_back 56 rfl) rfl ?_
    refine A_iald (dX6_back 57 rfl) MW_20 (vp_in_nI (n := c) (by omega) (by decide)) ?_
    refine A_iast (dX6_back 58 rfl) MW_9 (vp_in_nI (n := c) (by omega) (by decide)) (MS_9 _) ?_
    refine A_iinc (ls2 := [_, _]) (nI (c + 1)) (dX6_back 59 rfl) rfl (nI_1 c) (by decide) rfl rfl ?_
    refine A_goto 51 (dX6_back 60 rfl) (by decide) ?_
    rw [nI_clamp (by omega)]
    refine AW.world (ws2 := MW E q g tw (va_up (va_up (va_up a 7 (cp (c + 1) (a 18) (a 7))) 8 (cp (c + 1) (a 19) (a 8))) 9 (cp (c + 1) (a 20) (a 9)))) ?_ (ih (c + 1) (by omega))
    refine congrArg (MW E q g tw) ?_
    funext i
    by_cases e7 : i = 7 <;> by_cases e8 : i = 8 <;> by_cases e9 : i = 9 <;> simp_all [va_up, cp_s]

set_option maxRecDepth 100000 in
set_option maxHeartbeats 400000 in
theorem m_back1 (E : ag) (q : Nat → Nat) (g : Nat → Int32) (tw : Int64) (a : Nat → Nat → Int32) (m : Nat) (hm5 : m ≤ 5) (hgm : g 55 = nI m) : ∀ (n c : Nat), c + n = 12 → AW E mX6_back 1 0 0 13 [some (.ref (q 0)), some (.int (nI c))] [] (MW E q g tw (va_up (va_up a 4 (cp c (a 16) (a 4))) 5 (cp c (a 17) (a 5)))) (ri (fun r w => r = g 57 ∧ w = MW E q (upd (upd (upd (upd (upd g 13 (g 55)) 14 (g 56)) 15 (g 57)) 16 (g 58)) 4 (g 59)) tw (va_up (va_up (va_up (va_up (va_up a 4 (a 16)) 5 (a 17)) 7 (cp m (a 18) (a 7))) 8 (cp m (a 19) (a 8))) 9 (cp m (a 20) (a 9))))) := by
  intro n
  induction n with
  | zero =>
    intro c hc
    obtain rfl : c = 12 := by omega
    refine A_iload_n (dX6_back 8 rfl) rfl ?_
    refine A_bipush (12) (dX6_back 9 rfl) (by decide +kernel) ?_
    refine A_icmp_ge 49 (dX6_back 10 rfl) (by decide) (fun h16 => ?_) (fun h16 => absurd (show (12 : Int32) ≤ nI 12 by decide) h16)
    refine AW.ext (MW_q (a2 := (va_up (va_up a 4 (a 16)) 5 (a 17))) (up_q (up_q (fun _ _ _ => rfl) (fun k hk => cp_in (n := 12) hk)) (fun k hk => cp_in (n := 12) hk))) ?_
    refine A_iconst (0) (dX6_back 29 rfl) (by decide +kernel) ?_
    refine A_istore_n (ls2 := [_, _]) (dX6_back 30 rfl) (by decide) rfl rfl ?_
    have h9 := m_back2 E q g tw (va_up (va_up a 4 (a 16)) 5 (a 17)) m hm5 hgm m 0 (by omega)
    simp only [cp_0, up_same] at h9
    exact h9
  | succ n ih =>
    intro c hc
    have hlt : c < 12 := by omega
    refine A_iload_n (dX6_back 8 rfl) rfl ?_
    refine A_bipush (12) (dX6_back 9 rfl) (by decide +kernel) ?_
    refine A_icmp_ge 49 (dX6_back 10 rfl) (by decide) (fun h16 => absurd h16 (nI_ge (a := c) (b := 12) hlt (by decide))) (fun h16 => ?_)
    refine A_aload_n (dX6_back 11 rfl) rfl ?_
    refine A_get (dX6_back 12 rfl) fwX6_23 MW_0 MF_7 ?_
    refine A_iload_n (dX6_back 13 rfl) rfl ?_
    refine A_aload_n (dX6_back 14 rfl) rfl ?_
    refine A_get (dX6_back 15 rfl) fwX6_62 MW_0 MF_50 ?_
    refine AW.pcq (pc2 := 28) rfl ?_
    refine A_iload_n (dX6_back 16 rfl) rfl ?_
    refine A_iald (dX6_back 17 rfl) MW_16 (vp_in_nI (n := c) (by omega) (by decide)) ?_
    refine A_iast (dX6_back 18 rfl) MW_4 (vp_in_nI (n := c) (by omega) (by decide)) (MS_4 _) ?_
    refine A_aload_n (dX6_back 19 rfl) rfl ?_
    refine A_get (dX6_back 20 rfl) fwX6_26 MW_0 MF_8 ?_
    refine A_iload_n (dX6_back 21 rfl) rfl ?_
    refine A_aload_n (dX6_back 22 rfl) rfl ?_
    refine A_get (dX6_back 23 rfl) fwX6_65 MW_0 MF_51 ?_
    refine AW.pcq (pc2 := 40) rfl ?_
    refine A_iload_n (dX6_back 24 rfl) rfl ?_
    refine A_iald (dX6_back 25 rfl) MW_17 (vp_in_nI (n := c) (by omega) (by decide)) ?_
    refine A_iast (dX6_back 26 rfl) MW_5 (vp_in_nI (n := c) (by omega) (by decide)) (MS_5 _) ?_
    refine A_iinc (ls2 := [_, _]) (nI (c + 1)) (dX6_back 27 rfl) rfl (nI_1 c) (by decide) rfl rfl ?_
    refine A_goto 13 (dX6_back 28 rfl) (by decide) ?_
    rw [nI_clamp (by omega)]
    refine AW.world (ws2 := MW E q g tw (va_up (va_up a 4 (cp (c + 1) (a 16) (a 4))) 5 (cp (c + 1) (a 17) (a 5)))) ?_ (ih (c + 1) (by omega))
    refine congrArg (MW E q g tw) ?_
    funext i
    by_cases e4 : i = 4 <;> by_cases e5 : i = 5 <;> simp_all [va_up, cp_s]

set_option maxRecDepth 100000 in
set_option maxHeartbeats 400000 in
theorem m_back (E : ag) (q : Nat → Nat) (g : Nat → Int32) (tw : Int64) (a : Nat → Nat → Int32) (m : Nat) (hm5 : m ≤ 5) (hgm : g 55 = nI m) : CT E yX6_back cX6_back 2 mX6_back.2.2.2.1 1 0 0 [.ref (q 0)] (MW E q g tw a) (ri (fun r w => r = g 57 ∧ w = MW E q (upd (upd (upd (upd (upd g 13 (g 55)) 14 (g 56)) 15 (g 57)) 16 (g 58)) 4 (g 59)) tw (va_up (va_up (va_up (va_up (va_up a 4 (a 16)) 5 (a 17)) 7 (cp m (a 18) (a 7))) 8 (cp m (a 19) (a 8))) 9 (cp m (a 20) (a 9))))) := by
  refine CT.of (M := mX6_back) (ls := [some (.ref (q 0)), none]) (by decide) rfl (by decide) rfl (Nat.le_of_ble_eq_true rfl) ?_
  refine A_aload_n (dX6_back 0 rfl) rfl ?_
  refine A_get (dX6_back 1 rfl) fwX6_77 MW_0 MF_55 ?_
  refine A_iconst (-1) (dX6_back 2 rfl) (by decide +kernel) ?_
  refine A_icmp_ne 11 (dX6_back 3 rfl) (by decide) (fun h5 => ?_) (fun h5 => absurd h5 (hgm ▸ nIne m hm5))
  refine A_iconst (0) (dX6_back 6 rfl) (by decide +kernel) ?_
  refine A_istore_n (ls2 := [_, _]) (dX6_back 7 rfl) (by decide) rfl rfl ?_
  have h9 := m_back1 E q g tw a m hm5 hgm 12 0 rfl
  simp only [cp_0, up_same] at h9
  exact h9

set_option maxRecDepth 100000 in
set_option maxHeartbeats 400000 in
theorem m_backN (E : ag) (q : Nat → Nat) (g : Nat → Int32) (tw : Int64) (a : Nat → Nat → Int32) (hgm : g 55 = -1) : CT E yX6_back cX6_back 2 mX6_back.2.2.2.1 1 0 0 [.ref (q 0)] (MW E q g tw a) (ri (fun r w => r = -3 ∧ w = MW E q g tw a)) := by
  refine CT.of (M := mX6_back) (ls := [some (.ref (q 0)), none]) (by decide) rfl (by decide) rfl (Nat.le_of_ble_eq_true rfl) ?_
  refine A_aload_n (dX6_back 0 rfl) rfl ?_
  refine A_get (dX6_back 1 rfl) fwX6_77 MW_0 MF_55 ?_
  refine A_iconst (-1) (dX6_back 2 rfl) (by decide +kernel) ?_
  refine A_icmp_ne 11 (dX6_back 3 rfl) (by decide) (fun h5 => absurd hgm h5) (fun h5 => ?_)
  refine A_bipush (-3) (dX6_back 4 rfl) (by decide +kernel) ?_
  refine A_ri (dX6_back 5 rfl) rfl rfl ?_
  exact ⟨rfl, rfl⟩

def rmf (b : Int32) (f : Nat → Int32) : Nat → Int32 := fun k => f k - f k / b * b
set_option maxRecDepth 100000 in
set_option maxHeartbeats 400000 in
theorem m_barsL (E : ag) (q : Nat → Nat) (g : Nat → Int32) (tw : Int64) (a : Nat → Nat → Int32) (m : Nat) (hm5 : m ≤ 5) (hgm : g 13 = nI m) (hb : ¬ g 14 = 0) (v : Int32) : ∀ (n c : Nat), c + n = m → AW E mX6_bars 1 0 0 7 [some (.ref (q 0)), some (.int v), some (.int (nI c))] [] (MW E q g tw (va_up a 7 (cp c (rmf (g 14) (a 7)) (a 7)))) (rv (fun w => w = MW E q g tw (va_up a 7 (cp m (rmf (g 14) (a 7)) (a 7))))) := by
  intro n
  induction n with
  | zero =>
    intro c hc
    obtain rfl : m = c := by omega
    refine A_iload_n (dX6_bars 5 rfl) rfl ?_
    refine A_aload_n (dX6_bars 6 rfl) rfl ?_
    refine A_get (dX6_bars 7 rfl) fwX6_100 MW_0 MF_13 ?_
    refine A_icmp_ge 34 (dX6_bars 8 rfl) (by decide) (fun h12 => ?_) (fun h12 => absurd (show g 13 ≤ nI m by rw [hgm]; exact nI_le (by omega) (by omega)) h12)
    refine A_rv (dX6_bars 20 rfl) rfl ?_
    exact rfl
  | succ n ih =>
    intro c hc
    have hlt : c < m := by omega
    refine A_iload_n (dX6_bars 5 rfl) rfl ?_
    refine A_aload_n (dX6_bars 6 rfl) rfl ?_
    refine A_get (dX6_bars 7 rfl) fwX6_100 MW_0 MF_13 ?_
    refine A_icmp_ge 34 (dX6_bars 8 rfl) (by decide) (fun h12 => absurd h12 (by rw [hgm]; exact nI_ge (by omega) (by omega))) (fun h12 => ?_)
    refine A_aload_n (dX6_bars 9 rfl) rfl ?_
    refine A_get (dX6_bars 10 rfl) fwX6_32 MW_0 MF_10 ?_
    refine A_iload_n (dX6_bars 11 rfl) rfl ?_
    refine A_dup2 (dX6_bars 12 rfl) rfl rfl ?_
    refine AW.pcq (pc2 := 21) rfl ?_
    refine A_iald (dX6_bars 13 rfl) MW_7 (vp_in_nI (n := c) (by omega) (by decide)) ?_
    refine A_aload_n (dX6_bars 14 rfl) rfl ?_
    refine A_get (dX6_bars 15 rfl) fwX6_41 MW_0 MF_14 ?_
    refine A_irem (dX6_bars 16 rfl) hb ?_
    refine A_iast (dX6_bars 17 rfl) MW_7 (vp_in_nI (n := c) (by omega) (by decide)) (MS_7 _) ?_
    refine A_iinc (ls2 := [_, _, _]) (nI (c + 1)) (dX6_bars 18 rfl) rfl (nI_1 c) (by decide) rfl rfl ?_
    refine A_goto 7 (dX6_bars 19 rfl) (by decide) ?_
    rw [nI_clamp (by omega)]
    refine AW.world (ws2 := MW E q g tw (va_up a 7 (cp (c + 1) (rmf (g 14) (a 7)) (a 7)))) ?_ (ih (c + 1) (by omega))
    refine congrArg (MW E q g tw) ?_
    funext i
    by_cases e7 : i = 7
    · subst e7
      simp only [va_up, if_true]
      exact cp_s2 c _ _ (by simp only [cp_out, rmf])
    · simp [va_up, e7]

set_option maxRecDepth 100000 in
set_option maxHeartbeats 400000 in
theorem m_bars (E : ag) (q : Nat → Nat) (g : Nat → Int32) (tw : Int64) (a : Nat → Nat → Int32) (v : Int32) (m : Nat) (hm5 : m ≤ 5) (hgm : g 13 = nI m) (hv : ¬ v = 0) : CT E yX6_bars cX6_bars 3 mX6_bars.2.2.2.1 1 0 0 [.ref (q 0), .int v] (MW E q g tw a) (rv (fun w => w = MW E q (upd g 14 v) tw (va_up a 7 (cp m (rmf v (a 7)) (a 7))))) := by
  refine CT.of (M := mX6_bars) (ls := [some (.ref (q 0)), some (.int v), none]) (by decide) rfl (by decide) rfl (Nat.le_of_ble_eq_true rfl) ?_
  refine A_aload_n (dX6_bars 0 rfl) rfl ?_
  refine A_iload_n (dX6_bars 1 rfl) rfl ?_
  refine A_put (dX6_bars 2 rfl) fwX6_41 fcX6 ftX6_14 MW_0 rfl rfl ML_0 (MP_14 _) ?_
  refine A_iconst (0) (dX6_bars 3 rfl) (by decide +kernel) ?_
  refine A_istore_n (ls2 := [_, _, _]) (dX6_bars 4 rfl) (by decide) rfl rfl ?_
  have h9 := m_barsL E q (upd g 14 v) tw a m hm5 hgm hv v m 0 (by omega)
  simp only [cp_0, up_same] at h9
  exact h9

def bad3 (k b w : Int32) : Prop := inI k 0 5 = 0 ∨ inI b 0 239 = 0 ∨ inI w 0 99 = 0
def manA (g : Nat → Int32) (a : Nat → Nat → Int32) (k b w : Int32) : Nat → Nat → Int32 := va_up (va_up (va_up (va_up a 6 (upd (a 6) (g 13).toNatClampNeg k)) 7 (upd (a 7) (g 13).toNatClampNeg (b - b / g 14 * g 14))) 8 (upd (a 8) (g 13).toNatClampNeg (w / 10))) 9 (upd (a 9) (g 13).toNatClampNeg (w - w / 10 * 10))
def m_manP (E : ag) (q : Nat → Nat) (g : Nat → Int32) (tw : Int64) (a : Nat → Nat → Int32) (k b w : Int32) (r : Int32) (ws : va_W) : Prop :=
  (bad3 k b w ∧ r = -2 ∧ ws = MW E q g tw a) ∨ (¬ bad3 k b w ∧ g 13 = 5 ∧ r = -4 ∧ ws = MW E q g tw a) ∨ (¬ bad3 k b w ∧ ¬ g 13 = 5 ∧ r = g 13 ∧ ws = MW E q (upd g 13 (g 13 + 1)) tw (manA g a k b w))
theorem men_ix {g13 : Int32} {m : Nat} (hm5 : m ≤ 5) (hgm : g13 = nI m) (h : ¬ g13 = 5) : vp_in g13 5 := by
  subst hgm
  have : m ≠ 5 := fun z => h (by subst z; rfl)
  exact vp_in_nI (by omega) (by decide)
theorem add1_sub1 (x : Int32) : x + 1 - 1 = x := by rw [← Int32.toBitVec_inj]; simp
set_option maxRecDepth 100000 in
set_option maxHeartbeats 400000 in
theorem m_man (E : ag) (q : Nat → Nat) (g : Nat → Int32) (tw : Int64) (a : Nat → Nat → Int32) (k b w : Int32) (m : Nat) (hm5 : m ≤ 5) (hgm : g 13 = nI m) (hb : ¬ g 14 = 0) : CT E yX6_man cX6_man 4 mX6_man.2.2.2.1 2 0 0 [.ref (q 0), .int k, .int b, .int w] (MW E q g tw a) (ri (fun r ws => m_manP E q g tw a k b w r ws)) := by
  refine CT.of (M := mX6_man) (ls := [some (.ref (q 0)), some (.int k), some (.int b), some (.int w)]) (by decide) rfl (by decide) rfl (Nat.le_of_ble_eq_true rfl) ?_
  refine A_iload_n (dX6_man 0 rfl) rfl ?_
  refine A_i2l (dX6_man 1 rfl) ?_
  refine A_lconst (0) (dX6_man 2 rfl) (by decide +kernel) ?_
  refine A_ldc2 (dX6_man 3 rfl) kcX6_109 ?_
  refine A_callSWi 3 (dX6_man 4 rfl) cbX6_in cwX6_103 (m_in E _ k 0 5 _ _ _ rfl (by decide) (by decide)) rfl rfl (Nat.le_of_ble_eq_true rfl) (Nat.le_of_ble_eq_true rfl) (Nat.le_of_ble_eq_true rfl) (Nat.le_of_ble_eq_true rfl) (Nat.le_of_ble_eq_true rfl) ?_
  rintro r6 w1 ⟨rfl, rfl⟩
  refine AW.pcq (pc2 := 9) rfl ?_
  refine A_if_eq 36 (dX6_man 5 rfl) (by decide) (fun h9 => ?_) (fun h9 => ?_)
  · refine A_bipush (-2) (dX6_man 18 rfl) (by decide +kernel) ?_
    refine A_ri (dX6_man 19 rfl) rfl rfl ?_
    exact Or.inl ⟨by unfold bad3; simp_all, rfl, rfl⟩
  · refine A_iload_n (dX6_man 6 rfl) rfl ?_
    refine A_i2l (dX6_man 7 rfl) ?_
    refine A_lconst (0) (dX6_man 8 rfl) (by decide +kernel) ?_
    refine A_ldc2 (dX6_man 9 rfl) kcX6_111 ?_
    refine A_callSWi 3 (dX6_man 10 rfl) cbX6_in cwX6_103 (m_in E _ b 0 239 _ _ _ rfl (by decide) (by decide)) rfl rfl (Nat.le_of_ble_eq_true rfl) (Nat.le_of_ble_eq_true rfl) (Nat.le_of_ble_eq_true rfl) (Nat.le_of_ble_eq_true rfl) (Nat.le_of_ble_eq_true rfl) ?_
    rintro r18 w1 ⟨rfl, rfl⟩
    refine AW.pcq (pc2 := 21) rfl ?_
    refine A_if_eq 36 (dX6_man 11 rfl) (by decide) (fun h21 => ?_) (fun h21 => ?_)
    · refine A_bipush (-2) (dX6_man 18 rfl) (by decide +kernel) ?_
      refine A_ri (dX6_man 19 rfl) rfl rfl ?_
      exact Or.inl ⟨by unfold bad3; simp_all, rfl, rfl⟩
    · refine A_iload_n (dX6_man 12 rfl) rfl ?_
      refine A_i2l (dX6_man 13 rfl) ?_
      refine A_lconst (0) (dX6_man 14 rfl) (by decide +kernel) ?_
      refine A_ldc2 (dX6_man 15 rfl) kcX6_113 ?_
      refine A_callSWi 3 (dX6_man 16 rfl) cbX6_in cwX6_103 (m_in E _ w 0 99 _ _ _ rfl (by decide) (by decide)) rfl rfl (Nat.le_of_ble_eq_true rfl) (Nat.le_of_ble_eq_true rfl) (Nat.le_of_ble_eq_true rfl) (Nat.le_of_ble_eq_true rfl) (Nat.le_of_ble_eq_true rfl) ?_
      rintro r30 w1 ⟨rfl, rfl⟩
      refine AW.pcq (pc2 := 33) rfl ?_
      refine A_if_ne 39 (dX6_man 17 rfl) (by decide) (fun h33 => ?_) (fun h33 => ?_)
      · refine A_aload_n (dX6_man 20 rfl) rfl ?_
        refine A_get (dX6_man 21 rfl) fwX6_100 MW_0 MF_13 ?_
        refine A_iconst (5) (dX6_man 22 rfl) (by decide +kernel) ?_
        refine A_icmp_ne 50 (dX6_man 23 rfl) (by decide) (fun h44 => ?_) (fun h44 => ?_)
        · refine A_aload_n (dX6_man 26 rfl) rfl ?_
          refine A_get (dX6_man 27 rfl) fwX6_29 MW_0 MF_9 ?_
          refine A_aload_n (dX6_man 28 rfl) rfl ?_
          refine A_get (dX6_man 29 rfl) fwX6_100 MW_0 MF_13 ?_
          refine A_iload_n (dX6_man 30 rfl) rfl ?_
          refine A_iast (dX6_man 31 rfl) MW_6 (men_ix hm5 hgm (by assumption)) (MS_6 _) ?_
          refine A_aload_n (dX6_man 32 rfl) rfl ?_
          refine A_get (dX6_man 33 rfl) fwX6_32 MW_0 MF_10 ?_
          refine AW.pcq (pc2 := 64) rfl ?_
          refine A_aload_n (dX6_man 34 rfl) rfl ?_
          refine A_get (dX6_man 35 rfl) fwX6_100 MW_0 MF_13 ?_
          refine A_iload_n (dX6_man 36 rfl) rfl ?_
          refine A_aload_n (dX6_man 37 rfl) rfl ?_
          refine A_get (dX6_man 38 rfl) fwX6_41 MW_0 MF_14 ?_
          refine A_irem (dX6_man 39 rfl) hb ?_
          refine A_iast (dX6_man 40 rfl) MW_7 (men_ix hm5 hgm (by assumption)) (MS_7 _) ?_
          refine A_aload_n (dX6_man 41 rfl) rfl ?_
          refine AW.pcq (pc2 := 76) rfl ?_
          refine A_get (dX6_man 42 rfl) fwX6_35 MW_0 MF_11 ?_
          refine A_aload_n (dX6_man 43 rfl) rfl ?_
          refine A_get (dX6_man 44 rfl) fwX6_100 MW_0 MF_13 ?_
          refine A_iload_n (dX6_man 45 rfl) rfl ?_
          refine A_bipush (10) (dX6_man 46 rfl) (by decide +kernel) ?_
          refine A_idiv (dX6_man 47 rfl) (by decide) ?_
          refine A_iast (dX6_man 48 rfl) MW_8 (men_ix hm5 hgm (by assumption)) (MS_8 _) ?_
          refine A_aload_n (dX6_man 49 rfl) rfl ?_
          refine AW.pcq (pc2 := 89) rfl ?_
          refine A_get (dX6_man 50 rfl) fwX6_38 MW_0 MF_12 ?_
          refine A_aload_n (dX6_man 51 rfl) rfl ?_
          refine A_get (dX6_man 52 rfl) fwX6_100 MW_0 MF_13 ?_
          refine A_iload_n (dX6_man 53 rfl) rfl ?_
          refine A_bipush (10) (dX6_man 54 rfl) (by decide +kernel) ?_
          refine A_irem (dX6_man 55 rfl) (by decide) ?_
          refine A_iast (dX6_man 56 rfl) MW_9 (men_ix hm5 hgm (by assumption)) (MS_9 _) ?_
          refine A_aload_n (dX6_man 57 rfl) rfl ?_
          refine AW.pcq (pc2 := 102) rfl ?_
          refine A_dup (dX6_man 58 rfl) rfl ?_
          refine A_get (dX6_man 59 rfl) fwX6_100 MW_0 MF_13 ?_
          refine A_iconst (1) (dX6_man 60 rfl) (by decide +kernel) ?_
          refine A_iadd (dX6_man 61 rfl) ?_
          refine A_put (dX6_man 62 rfl) fwX6_100 fcX6 ftX6_13 MW_0 rfl rfl ML_0 (MP_13 _) ?_
          refine A_aload_n (dX6_man 63 rfl) rfl ?_
          refine A_get (dX6_man 64 rfl) fwX6_100 MW_0 MF_13 ?_
          refine A_iconst (1) (dX6_man 65 rfl) (by decide +kernel) ?_
          refine AW.pcq (pc2 := 116) rfl ?_
          refine A_isub (dX6_man 66 rfl) ?_
          refine A_ri (dX6_man 67 rfl) rfl rfl ?_
          exact Or.inr (Or.inr ⟨by unfold bad3; simp_all, by assumption, add1_sub1 _, rfl⟩)
        · refine A_bipush (-4) (dX6_man 24 rfl) (by decide +kernel) ?_
          refine A_ri (dX6_man 25 rfl) rfl rfl ?_
          exact Or.inr (Or.inl ⟨by unfold bad3; simp_all, by assumption, rfl, rfl⟩)
      · refine A_bipush (-2) (dX6_man 18 rfl) (by decide +kernel) ?_
        refine A_ri (dX6_man 19 rfl) rfl rfl ?_
        exact Or.inl ⟨by unfold bad3; simp_all, rfl, rfl⟩

set_option maxRecDepth 100000 in
set_option maxHeartbeats 400000 in
theorem m_force (E : ag) (q : Nat → Nat) (g : Nat → Int32) (tw : Int64) (a : Nat → Nat → Int32) (t : Int32) : CT E yX6_force cX6_force 3 mX6_force.2.2.2.1 2 0 0 [.ref (q 0), .int t] (MW E q g tw a) (ri (fun r ws => (inI t 0 (g 3 - 1) = 0 ∧ r = -2 ∧ ws = MW E q g tw a) ∨ (¬ inI t 0 (g 3 - 1) = 0 ∧ r = g 4 ∧ ws = MW E q (upd g 4 t) tw a))) := by
  refine CT.of (M := mX6_force) (ls := [some (.ref (q 0)), some (.int t), none]) (by decide) rfl (by decide) rfl (Nat.le_of_ble_eq_true rfl) ?_
  refine A_iload_n (dX6_force 0 rfl) rfl ?_
  refine A_i2l (dX6_force 1 rfl) ?_
  refine A_lconst (0) (dX6_force 2 rfl) (by decide +kernel) ?_
  refine A_aload_n (dX6_force 3 rfl) rfl ?_
  refine A_get (dX6_force 4 rfl) fwX6_97 MW_0 MF_3 ?_
  refine A_iconst (1) (dX6_force 5 rfl) (by decide +kernel) ?_
  refine A_isub (dX6_force 6 rfl) ?_
  refine A_i2l (dX6_force 7 rfl) ?_
  refine AW.pcq (pc2 := 10) rfl ?_
  refine A_callSWi 3 (dX6_force 8 rfl) cbX6_in cwX6_103 (m_in E _ t 0 (g 3 - 1) _ _ _ rfl (by decide) rfl) rfl rfl (Nat.le_of_ble_eq_true rfl) (Nat.le_of_ble_eq_true rfl) (Nat.le_of_ble_eq_true rfl) (Nat.le_of_ble_eq_true rfl) (Nat.le_of_ble_eq_true rfl) ?_
  rintro r10 w1 ⟨rfl, rfl⟩
  refine AW.pcq (pc2 := 13) rfl ?_
  refine A_if_ne 19 (dX6_force 9 rfl) (by decide) (fun h13 => ?_) (fun h13 => ?_)
  · refine A_aload_n (dX6_force 12 rfl) rfl ?_
    refine A_get (dX6_force 13 rfl) fwX6_288 MW_0 MF_4 ?_
    refine A_istore_n (ls2 := [_, _, _]) (dX6_force 14 rfl) (by decide) rfl rfl ?_
    refine A_aload_n (dX6_force 15 rfl) rfl ?_
    refine A_iload_n (dX6_force 16 rfl) rfl ?_
    refine A_put (dX6_force 17 rfl) fwX6_288 fcX6 ftX6_4 MW_0 rfl rfl ML_0 (MP_4 _) ?_
    refine A_iload_n (dX6_force 18 rfl) rfl ?_
    refine A_ri (dX6_force 19 rfl) rfl rfl ?_
    exact Or.inr ⟨by assumption, rfl, rfl⟩
  · refine A_bipush (-2) (dX6_force 10 rfl) (by decide +kernel) ?_
    refine A_ri (dX6_force 11 rfl) rfl rfl ?_
    exact Or.inl ⟨by assumption, rfl, rfl⟩

set_option maxRecDepth 100000 in
set_option maxHeartbeats 400000 in
theorem m_feed (E : ag) (q : Nat → Nat) (g : Nat → Int32) (tw : Int64) (a : Nat → Nat → Int32) (t : Int32) (hx : ¬ g 6 = 160 → vp_in (g 6) 160) : CT E yX6_feed cX6_feed 2 mX6_feed.2.2.2.1 2 0 0 [.ref (q 0), .int t] (MW E q g tw a) (ri (fun r ws => (inI t 0 255 = 0 ∧ r = -2 ∧ ws = MW E q g tw a) ∨ (¬ inI t 0 255 = 0 ∧ g 6 = 160 ∧ r = -4 ∧ ws = MW E q g tw a) ∨ (¬ inI t 0 255 = 0 ∧ ¬ g 6 = 160 ∧ r = g 6 + 1 ∧ ws = MW E q (upd g 6 (g 6 + 1)) tw (va_up a 3 (upd (a 3) (g 6).toNatClampNeg t))))) := by
  refine CT.of (M := mX6_feed) (ls := [some (.ref (q 0)), some (.int t)]) (by decide) rfl (by decide) rfl (Nat.le_of_ble_eq_true rfl) ?_
  refine A_iload_n (dX6_feed 0 rfl) rfl ?_
  refine A_i2l (dX6_feed 1 rfl) ?_
  refine A_lconst (0) (dX6_feed 2 rfl) (by decide +kernel) ?_
  refine A_ldc2 (dX6_feed 3 rfl) kcX6_160 ?_
  refine A_callSWi 3 (dX6_feed 4 rfl) cbX6_in cwX6_103 (m_in E _ t 0 255 _ _ _ rfl (by decide) (by decide)) rfl rfl (Nat.le_of_ble_eq_true rfl) (Nat.le_of_ble_eq_true rfl) (Nat.le_of_ble_eq_true rfl) (Nat.le_of_ble_eq_true rfl) (Nat.le_of_ble_eq_true rfl) ?_
  rintro r6 w1 ⟨rfl, rfl⟩
  refine AW.pcq (pc2 := 9) rfl ?_
  refine A_if_ne 15 (dX6_feed 5 rfl) (by decide) (fun h9 => ?_) (fun h9 => ?_)
  · refine A_aload_n (dX6_feed 8 rfl) rfl ?_
    refine A_get (dX6_feed 9 rfl) fwX6_162 MW_0 MF_6 ?_
    refine A_sipush (160) (dX6_feed 10 rfl) (by decide +kernel) ?_
    refine A_icmp_ne 28 (dX6_feed 11 rfl) (by decide) (fun h22 => ?_) (fun h22 => ?_)
    · refine A_aload_n (dX6_feed 14 rfl) rfl ?_
      refine A_get (dX6_feed 15 rfl) fwX6_20 MW_0 MF_5 ?_
      refine A_aload_n (dX6_feed 16 rfl) rfl ?_
      refine A_get (dX6_feed 17 rfl) fwX6_162 MW_0 MF_6 ?_
      refine A_iload_n (dX6_feed 18 rfl) rfl ?_
      refine A_iast (dX6_feed 19 rfl) MW_3 (hx (by assumption)) (MS_3 _) ?_
      refine A_aload_n (dX6_feed 20 rfl) rfl ?_
      refine A_dup (dX6_feed 21 rfl) rfl ?_
      refine AW.pcq (pc2 := 40) rfl ?_
      refine A_get (dX6_feed 22 rfl) fwX6_162 MW_0 MF_6 ?_
      refine A_iconst (1) (dX6_feed 23 rfl) (by decide +kernel) ?_
      refine A_iadd (dX6_feed 24 rfl) ?_
      refine A_put (dX6_feed 25 rfl) fwX6_162 fcX6 ftX6_6 MW_0 rfl rfl ML_0 (MP_6 _) ?_
      refine A_aload_n (dX6_feed 26 rfl) rfl ?_
      refine A_get (dX6_feed 27 rfl) fwX6_162 MW_0 MF_6 ?_
      refine A_ri (dX6_feed 28 rfl) rfl rfl ?_
      exact Or.inr (Or.inr ⟨by assumption, by assumption, rfl, rfl⟩)
    · refine A_bipush (-4) (dX6_feed 12 rfl) (by decide +kernel) ?_
      refine A_ri (dX6_feed 13 rfl) rfl rfl ?_
      exact Or.inr (Or.inl ⟨by assumption, by assumption, rfl, rfl⟩)
  · refine A_bipush (-2) (dX6_feed 6 rfl) (by decide +kernel) ?_
    refine A_ri (dX6_feed 7 rfl) rfl rfl ?_
    exact Or.inl ⟨by assumption, rfl, rfl⟩

def m_cntR (g : Nat → Int32) (t : Int32) : Int32 := if inI t 0 6 = 0 then -2 else if t = 0 then g 13 else if t = 1 then g 14 else if t = 2 then g 15 else if t = 3 then g 16 else if t = 4 then g 3 else if t = 5 then g 6 else g 4
set_option maxRecDepth 100000 in
set_option maxHeartbeats 400000 in
theorem m_count (E : ag) (q : Nat → Nat) (g : Nat → Int32) (tw : Int64) (a : Nat → Nat → Int32) (t : Int32) : CT E yX6_count cX6_count 2 mX6_count.2.2.2.1 2 0 0 [.ref (q 0), .int t] (MW E q g tw a) (ri (fun r ws => r = m_cntR g t ∧ ws = MW E q g tw a)) := by
  refine CT.of (M := mX6_count) (ls := [some (.ref (q 0)), some (.int t)]) (by decide) rfl (by decide) rfl (Nat.le_of_ble_eq_true rfl) ?_
  refine A_iload_n (dX6_count 0 rfl) rfl ?_
  refine A_i2l (dX6_count 1 rfl) ?_
  refine A_lconst (0) (dX6_count 2 rfl) (by decide +kernel) ?_
  refine A_ldc2 (dX6_count 3 rfl) kcX6_390 ?_
  refine A_callSWi 3 (dX6_count 4 rfl) cbX6_in cwX6_103 (m_in E _ t 0 6 _ _ _ rfl (by decide) (by decide)) rfl rfl (Nat.le_of_ble_eq_true rfl) (Nat.le_of_ble_eq_true rfl) (Nat.le_of_ble_eq_true rfl) (Nat.le_of_ble_eq_true rfl) (Nat.le_of_ble_eq_true rfl) ?_
  rintro r6 w1 ⟨rfl, rfl⟩
  refine AW.pcq (pc2 := 9) rfl ?_
  refine A_if_ne 15 (dX6_count 5 rfl) (by decide) (fun h9 => ?_) (fun h9 => ?_)
  · refine A_iload_n (dX6_count 8 rfl) rfl ?_
    refine A_iconst (4) (dX6_count 9 rfl) (by decide +kernel) ?_
    refine A_icmp_ge 60 (dX6_count 10 rfl) (by decide) (fun h17 => ?_) (fun h17 => ?_)
    · obtain ⟨q2, q0, q1, q22, q3⟩ := w_ge4 h17
      refine A_iload_n (dX6_count 31 rfl) rfl ?_
      refine A_iconst (4) (dX6_count 32 rfl) (by decide +kernel) ?_
      refine A_icmp_ne 72 (dX6_count 33 rfl) (by decide) (fun h62 => ?_) (fun h62 => ?_)
      · refine A_iload_n (dX6_count 37 rfl) rfl ?_
        refine A_iconst (5) (dX6_count 38 rfl) (by decide +kernel) ?_
        refine A_icmp_ne 84 (dX6_count 39 rfl) (by decide) (fun h74 => ?_) (fun h74 => ?_)
        · refine A_aload_n (dX6_count 43 rfl) rfl ?_
          refine A_get (dX6_count 44 rfl) fwX6_288 MW_0 MF_4 ?_
          refine A_ri (dX6_count 45 rfl) rfl rfl ?_
          refine ⟨?_, rfl⟩
          simp_all [m_cntR]
        · refine A_aload_n (dX6_count 40 rfl) rfl ?_
          refine A_get (dX6_count 41 rfl) fwX6_162 MW_0 MF_6 ?_
          refine A_goto 88 (dX6_count 42 rfl) (by decide) ?_
          refine A_ri (dX6_count 45 rfl) rfl rfl ?_
          refine ⟨?_, rfl⟩
          simp_all [m_cntR]
      · refine A_aload_n (dX6_count 34 rfl) rfl ?_
        refine A_get (dX6_count 35 rfl) fwX6_97 MW_0 MF_3 ?_
        refine A_goto 88 (dX6_count 36 rfl) (by decide) ?_
        refine A_ri (dX6_count 45 rfl) rfl rfl ?_
        refine ⟨?_, rfl⟩
        simp_all [m_cntR]
    · refine A_iload_n (dX6_count 11 rfl) rfl ?_
      refine A_if_ne 31 (dX6_count 12 rfl) (by decide) (fun h21 => ?_) (fun h21 => ?_)
      · refine A_iload_n (dX6_count 16 rfl) rfl ?_
        refine A_iconst (1) (dX6_count 17 rfl) (by decide +kernel) ?_
        refine A_icmp_ne 43 (dX6_count 18 rfl) (by decide) (fun h33 => ?_) (fun h33 => ?_)
        · refine A_iload_n (dX6_count 22 rfl) rfl ?_
          refine A_iconst (2) (dX6_count 23 rfl) (by decide +kernel) ?_
          refine A_icmp_ne 55 (dX6_count 24 rfl) (by decide) (fun h45 => ?_) (fun h45 => ?_)
          · refine A_aload_n (dX6_count 28 rfl) rfl ?_
            refine A_get (dX6_count 29 rfl) fwX6_305 MW_0 MF_16 ?_
            refine A_ri (dX6_count 30 rfl) rfl rfl ?_
            refine ⟨?_, rfl⟩
            have h3 : t = 3 ∨ t = 0 ∨ t = 1 ∨ t = 2 := by
              by_cases z0 : t = 0
              · exact Or.inr (Or.inl z0)
              by_cases z1 : t = 1
              · exact Or.inr (Or.inr (Or.inl z1))
              by_cases z2 : t = 2
              · exact Or.inr (Or.inr (Or.inr z2))
              exact Or.inl (w03 (c67 h9) h17 z0 z1 z2)
            simp_all [m_cntR]
          · refine A_aload_n (dX6_count 25 rfl) rfl ?_
            refine A_get (dX6_count 26 rfl) fwX6_142 MW_0 MF_15 ?_
            refine A_goto 59 (dX6_count 27 rfl) (by decide) ?_
            refine A_ri (dX6_count 30 rfl) rfl rfl ?_
            refine ⟨?_, rfl⟩
            have h3 : t = 3 ∨ t = 0 ∨ t = 1 ∨ t = 2 := by
              by_cases z0 : t = 0
              · exact Or.inr (Or.inl z0)
              by_cases z1 : t = 1
              · exact Or.inr (Or.inr (Or.inl z1))
              by_cases z2 : t = 2
              · exact Or.inr (Or.inr (Or.inr z2))
              exact Or.inl (w03 (c67 h9) h17 z0 z1 z2)
            simp_all [m_cntR]
        · refine A_aload_n (dX6_count 19 rfl) rfl ?_
          refine A_get (dX6_count 20 rfl) fwX6_41 MW_0 MF_14 ?_
          refine A_goto 59 (dX6_count 21 rfl) (by decide) ?_
          refine A_ri (dX6_count 30 rfl) rfl rfl ?_
          refine ⟨?_, rfl⟩
          have h3 : t = 3 ∨ t = 0 ∨ t = 1 ∨ t = 2 := by
            by_cases z0 : t = 0
            · exact Or.inr (Or.inl z0)
            by_cases z1 : t = 1
            · exact Or.inr (Or.inr (Or.inl z1))
            by_cases z2 : t = 2
            · exact Or.inr (Or.inr (Or.inr z2))
            exact Or.inl (w03 (c67 h9) h17 z0 z1 z2)
          simp_all [m_cntR]
      · refine A_aload_n (dX6_count 13 rfl) rfl ?_
        refine A_get (dX6_count 14 rfl) fwX6_100 MW_0 MF_13 ?_
        refine A_goto 59 (dX6_count 15 rfl) (by decide) ?_
        refine A_ri (dX6_count 30 rfl) rfl rfl ?_
        refine ⟨?_, rfl⟩
        have h3 : t = 3 ∨ t = 0 ∨ t = 1 ∨ t = 2 := by
          by_cases z0 : t = 0
          · exact Or.inr (Or.inl z0)
          by_cases z1 : t = 1
          · exact Or.inr (Or.inr (Or.inl z1))
          by_cases z2 : t = 2
          · exact Or.inr (Or.inr (Or.inr z2))
          exact Or.inl (w03 (c67 h9) h17 z0 z1 z2)
        simp_all [m_cntR]
  · refine A_bipush (-2) (dX6_count 6 rfl) (by decide +kernel) ?_
    refine A_ri (dX6_count 7 rfl) rfl rfl ?_
    refine ⟨?_, rfl⟩
    simp_all [m_cntR]

