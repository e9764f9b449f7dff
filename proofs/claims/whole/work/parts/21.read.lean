def RD (E : ag) (q : Nat → Nat) (a : Nat → Nat → Int32) (B : Nat → Int32) (g : Nat → Int32) (res : Bool × Nat × List Int32 × List Int32 × List Int32) (w : va_W) : Prop :=
  ∃ (g2 : Nat → Int32) (tw2 : Int64), w = MW E q g2 tw2 a ∧ (∀ k, ¬ (23 ≤ k ∧ k ≤ 34) → g2 k = g k) ∧ (res.1 = true → g2 30 = 0 ∧ (∀ st, evs (ME g) res.2.2.1 st = g2 32 :: st) ∧ (∀ st, evs (ME g) res.2.2.2.1 st = g2 33 :: st) ∧ (∀ st, evs (ME g) res.2.2.2.2 st = g2 34 :: st)) ∧ (res.1 = false → ¬ g2 30 = 0 ∧ g2 31 = nI (lst B res.2.1))
theorem RD_ok {E : ag} {q : Nat → Nat} {a : Nat → Nat → Int32} {B : Nat → Int32} {g g4 : Nat → Int32} {tw : Int64} {j : Nat} {c0 c1 c2 : List Int32} {y0 y1 y2 : Int32} (hk : ∀ k, ¬ (23 ≤ k ∧ k ≤ 34) → g4 k = g k) (h0 : g4 30 = 0) (e0 : ∀ st, evs (ME g) c0 st = y0 :: st) (e1 : ∀ st, evs (ME g) c1 st = y1 :: st) (e2 : ∀ st, evs (ME g) c2 st = y2 :: st) : RD E q a B g (true, j, c0, c1, c2) (MW E q (upd (upd (upd g4 32 y0) 33 y1) 34 y2) tw a) := by
  refine ⟨_, tw, rfl, fun k hk2 => ?_, fun _ => ⟨h0, e0, e1, e2⟩, fun z => absurd z (by simp)⟩
  simp only [upd]
  rw [if_neg (by omega), if_neg (by omega), if_neg (by omega)]
  exact hk k hk2
theorem RD_bad {E : ag} {q : Nat → Nat} {a : Nat → Nat → Int32} {B : Nat → Int32} {g g4 : Nat → Int32} {tw : Int64} {j : Nat} {c : List Int32 × List Int32 × List Int32} {y0 y1 y2 : Int32} (hk : ∀ k, ¬ (23 ≤ k ∧ k ≤ 34) → g4 k = g k) (h0 : ¬ g4 30 = 0) (h1 : g4 31 = nI (lst B j)) : RD E q a B g (false, j, c) (MW E q (upd (upd (upd g4 32 y0) 33 y1) 34 y2) tw a) := by
  refine ⟨_, tw, rfl, fun k hk2 => ?_, fun z => absurd z (by simp), fun _ => ⟨h0, h1⟩⟩
  simp only [upd]
  rw [if_neg (by omega), if_neg (by omega), if_neg (by omega)]
  exact hk k hk2
set_option maxRecDepth 100000 in
set_option maxHeartbeats 4000000 in
theorem m_read (E : ag) (q : Nat → Nat) (g : Nat → Int32) (tw : Int64) (a : Nat → Nat → Int32) (fr n t f : Nat) (B : Nat → Int32) (x : Int32) (res : Bool × Nat × List Int32 × List Int32 × List Int32) (ht : t < 6) (h2t : a 2 t = nI n) (hT0 : TXC (upd (upd (upd (upd (upd g 23 (nI (160 * t))) 24 (nI n)) 25 0) 29 0) 30 0) a fr n B) (hpp : txt B f = some res) : CT E yX6_read cX6_read 6 mX6_read.2.2.2.1 43 0 0 [.ref (q 0), .int (nI t), .int x] (MW E q g tw a) (ri (fun r w => r = x ∧ RD E q a B g res w)) := by
  unfold txt at hpp
  obtain ⟨r0, hr0, hpp⟩ := bnd hpp
  refine CT.of (M := mX6_read) (ls := [some (.ref (q 0)), some (.int (nI t)), some (.int x), none, none, none]) (by decide) rfl (by decide) rfl (Nat.le_of_ble_eq_true rfl) ?_
  refine A_aload_n (dX6_read 0 rfl) rfl ?_
  refine A_sipush (160) (dX6_read 1 rfl) (by decide +kernel) ?_
  refine A_iload_n (dX6_read 2 rfl) rfl ?_
  refine A_imul (dX6_read 3 rfl) ?_
  rw [show (160 : Int32) * nI t = nI (160 * t) from pk_mul 160 t]
  refine A_put (dX6_read 4 rfl) fwX6_168 fcX6 ftX6_23 MW_0 rfl rfl ML_0 (MP_23 _) ?_
  refine A_aload_n (dX6_read 5 rfl) rfl ?_
  refine A_aload_n (dX6_read 6 rfl) rfl ?_
  refine A_get (dX6_read 7 rfl) fwX6_17 MW_0 MF_2 ?_
  refine AW.pcq (pc2 := 14) rfl ?_
  refine A_iload_n (dX6_read 8 rfl) rfl ?_
  refine A_iald (dX6_read 9 rfl) MW_2 (vp_in_nI (n := t) (by omega) (by decide)) ?_
  rw [nI_clamp (n := t) (by omega), h2t]
  refine A_put (dX6_read 10 rfl) fwX6_165 fcX6 ftX6_24 MW_0 rfl rfl ML_0 (MP_24 _) ?_
  refine A_aload_n (dX6_read 11 rfl) rfl ?_
  refine A_iconst (0) (dX6_read 12 rfl) (by decide +kernel) ?_
  refine A_put (dX6_read 13 rfl) fwX6_171 fcX6 ftX6_25 MW_0 rfl rfl ML_0 (MP_25 _) ?_
  refine A_aload_n (dX6_read 14 rfl) rfl ?_
  refine A_iconst (0) (dX6_read 15 rfl) (by decide +kernel) ?_
  refine AW.pcq (pc2 := 26) rfl ?_
  refine A_put (dX6_read 16 rfl) fwX6_208 fcX6 ftX6_29 MW_0 rfl rfl ML_0 (MP_29 _) ?_
  refine A_aload_n (dX6_read 17 rfl) rfl ?_
  refine A_iconst (0) (dX6_read 18 rfl) (by decide +kernel) ?_
  refine A_put (dX6_read 19 rfl) fwX6_197 fcX6 ftX6_30 MW_0 (by decide) rfl ML_0 (MP_30 _) ?_
  refine A_aload_n (dX6_read 20 rfl) rfl ?_
  refine A_callVWv 0 (dX6_read 21 rfl) cbX6_next cwX6_214 (m_next E q (upd (upd (upd (upd (upd g 23 (nI (160 * t))) 24 (nI n)) 25 0) 29 0) 30 0) tw a fr n B hT0 0 (Nat.zero_le _) rfl) rfl rfl MW_0 rfl rfl (by omega) (Nat.le_of_ble_eq_true rfl) (Nat.le_of_ble_eq_true rfl) (Nat.le_of_ble_eq_true rfl) (Nat.le_of_ble_eq_true rfl) ?_
  rintro w1 rfl
  obtain ⟨g1, hg1⟩ : ∃ g1, g1 = nxg B (upd (upd (upd (upd (upd g 23 (nI (160 * t))) 24 (nI n)) 25 0) 29 0) 30 0) 0 := ⟨_, rfl⟩
  obtain ⟨tw1, htw1⟩ : ∃ tw1, tw1 = mtw B tw 0 := ⟨_, rfl⟩
  have hP1 : PM B n g1 tw1 0 0 := by rw [hg1, htw1]; exact PM_n0 hT0 (Nat.zero_le _) rfl rfl
  have hT1 : TXC g1 a fr n B := by rw [hg1]; exact KP.rf.nx.tx hT0
  have hE1 : ∀ k, ¬ (23 ≤ k ∧ k ≤ 34) → g1 k = g k := fun k hk => by rw [hg1]; simp only [nxg, upd]; repeat rw [if_neg (by omega)]
  have hME : ME g1 = ME g := by
    funext k
    simp only [ME]
    split
    · exact hE1 (17 + k) (by omega)
    · rfl
  rw [← hg1, ← htw1]
  refine AW.pcq (pc2 := 38) rfl ?_
  refine A_aload_n (dX6_read 22 rfl) rfl ?_
  refine A_aload_n (dX6_read 23 rfl) rfl ?_
  refine A_bipush (103) (dX6_read 24 rfl) (by decide +kernel) ?_
  refine A_bipush (105) (dX6_read 25 rfl) (by decide +kernel) ?_
  refine A_bipush (118) (dX6_read 26 rfl) (by decide +kernel) ?_
  refine A_bipush (101) (dX6_read 27 rfl) (by decide +kernel) ?_
  refine A_bipush (115) (dX6_read 28 rfl) (by decide +kernel) ?_
  refine A_iconst (0) (dX6_read 29 rfl) (by decide +kernel) ?_
  refine AW.pcq (pc2 := 51) rfl ?_
  refine A_iconst (0) (dX6_read 30 rfl) (by decide +kernel) ?_
  refine A_iconst (0) (dX6_read 31 rfl) (by decide +kernel) ?_
  refine A_callVWi 8 (dX6_read 32 rfl) cbX6_isWord cwX6_217 (m_isWord E q g1 tw1 a fr n (lst B 0) (men B 0) B hT1 hP1.2.2.1 hP1.1 (men_le hT1 hP1.2.2.2.2.2.2.2).1 (lst_le hT1 hP1.2.2.2.2.2.2.2).1 103 105 118 101 115 0 0 0) rfl rfl MW_0 rfl rfl (by omega) (Nat.le_of_ble_eq_true rfl) (Nat.le_of_ble_eq_true rfl) (Nat.le_of_ble_eq_true rfl) (Nat.le_of_ble_eq_true rfl) ?_
  rintro r53 w1 ⟨rfl, rfl⟩
  rw [b01_c (PM_key3 hP1)]
  refine AW.pcq (pc2 := 56) rfl ?_
  refine A_callVWi 1 (dX6_read 33 rfl) cbX6_part cwX6_272 (m_part E q a fr n B f g1 tw1 0 r0 3 hr0 hT1 hP1) rfl rfl MW_0 rfl rfl (by omega) (Nat.le_of_ble_eq_true rfl) (Nat.le_of_ble_eq_true rfl) (Nat.le_of_ble_eq_true rfl) (Nat.le_of_ble_eq_true rfl) ?_
  rintro y0 w1 ⟨g2, tw2, rfl, k2, s2, f2⟩
  refine AW.pcq (pc2 := 59) rfl ?_
  by_cases hb : r0.1 = true
  · rw [if_pos hb] at hpp
    obtain ⟨r1, hr1, hpp⟩ := bnd hpp
    obtain ⟨hP2, he2⟩ := s2 hb
    have hT2 := k2.tx hT1
    clear hb
    refine A_istore_n (ls2 := [_, _, _, _, _, _]) (dX6_read 34 rfl) (by decide) rfl rfl ?_
    refine A_aload_n (dX6_read 35 rfl) rfl ?_
    refine A_get (dX6_read 36 rfl) fwX6_197 MW_0 MF_30 ?_
    refine A_if_eq 71 (dX6_read 37 rfl) (by decide) (fun h64 => ?_) (fun h64 => absurd hP2.2.2.2.2.2.2.1 h64)
    refine A_aload_n (dX6_read 40 rfl) rfl ?_
    refine A_aload_n (dX6_read 41 rfl) rfl ?_
    refine A_bipush (100) (dX6_read 42 rfl) (by decide +kernel) ?_
    refine A_bipush (114) (dX6_read 43 rfl) (by decide +kernel) ?_
    refine A_bipush (105) (dX6_read 44 rfl) (by decide +kernel) ?_
    refine A_bipush (102) (dX6_read 45 rfl) (by decide +kernel) ?_
    refine A_bipush (116) (dX6_read 46 rfl) (by decide +kernel) ?_
    refine A_bipush (115) (dX6_read 47 rfl) (by decide +kernel) ?_
    refine AW.pcq (pc2 := 85) rfl ?_
    refine A_iconst (0) (dX6_read 48 rfl) (by decide +kernel) ?_
    refine A_iconst (0) (dX6_read 49 rfl) (by decide +kernel) ?_
    refine A_callVWi 8 (dX6_read 50 rfl) cbX6_isWord cwX6_217 (m_isWord E q g2 tw2 a fr n (lst B r0.2.1) (men B r0.2.1) B hT2 hP2.2.2.1 hP2.1 (men_le hT2 hP2.2.2.2.2.2.2.2).1 (lst_le hT2 hP2.2.2.2.2.2.2.2).1 100 114 105 102 116 115 0 0) rfl rfl MW_0 rfl rfl (by omega) (Nat.le_of_ble_eq_true rfl) (Nat.le_of_ble_eq_true rfl) (Nat.le_of_ble_eq_true rfl) (Nat.le_of_ble_eq_true rfl) ?_
    rintro r87 w1 ⟨rfl, rfl⟩
    rw [b01_c (PM_key4 hP2)]
    refine AW.pcq (pc2 := 90) rfl ?_
    refine A_callVWi 1 (dX6_read 51 rfl) cbX6_part cwX6_272 (m_part E q a fr n B f g2 tw2 r0.2.1 r1 4 hr1 hT2 hP2) rfl rfl MW_0 rfl rfl (by omega) (Nat.le_of_ble_eq_true rfl) (Nat.le_of_ble_eq_true rfl) (Nat.le_of_ble_eq_true rfl) (Nat.le_of_ble_eq_true rfl) ?_
    rintro y1 w1 ⟨g3, tw3, rfl, k3, s3, f3⟩
    refine AW.pcq (pc2 := 93) rfl ?_
    by_cases hb : r1.1 = true
    · rw [if_pos hb] at hpp
      obtain ⟨r2, hr2, hpp⟩ := bnd hpp
      obtain ⟨hP3, he3⟩ := s3 hb
      have hT3 := k3.tx hT2
      clear hb
      refine A_istore (ls2 := [_, _, _, _, _, _]) (dX6_read 52 rfl) (by decide) rfl rfl ?_
      refine A_aload_n (dX6_read 53 rfl) rfl ?_
      refine A_get (dX6_read 54 rfl) fwX6_197 MW_0 MF_30 ?_
      refine A_if_eq 106 (dX6_read 55 rfl) (by decide) (fun h99 => ?_) (fun h99 => absurd hP3.2.2.2.2.2.2.1 h99)
      refine A_aload_n (dX6_read 58 rfl) rfl ?_
      refine A_aload_n (dX6_read 59 rfl) rfl ?_
      refine A_bipush (104) (dX6_read 60 rfl) (by decide +kernel) ?_
      refine A_bipush (117) (dX6_read 61 rfl) (by decide +kernel) ?_
      refine A_bipush (114) (dX6_read 62 rfl) (by decide +kernel) ?_
      refine A_bipush (116) (dX6_read 63 rfl) (by decide +kernel) ?_
      refine A_bipush (115) (dX6_read 64 rfl) (by decide +kernel) ?_
      refine A_iconst (0) (dX6_read 65 rfl) (by decide +kernel) ?_
      refine AW.pcq (pc2 := 119) rfl ?_
      refine A_iconst (0) (dX6_read 66 rfl) (by decide +kernel) ?_
      refine A_iconst (0) (dX6_read 67 rfl) (by decide +kernel) ?_
      refine A_callVWi 8 (dX6_read 68 rfl) cbX6_isWord cwX6_217 (m_isWord E q g3 tw3 a fr n (lst B r1.2.1) (men B r1.2.1) B hT3 hP3.2.2.1 hP3.1 (men_le hT3 hP3.2.2.2.2.2.2.2).1 (lst_le hT3 hP3.2.2.2.2.2.2.2).1 104 117 114 116 115 0 0 0) rfl rfl MW_0 rfl rfl (by omega) (Nat.le_of_ble_eq_true rfl) (Nat.le_of_ble_eq_true rfl) (Nat.le_of_ble_eq_true rfl) (Nat.le_of_ble_eq_true rfl) ?_
      rintro r121 w1 ⟨rfl, rfl⟩
      rw [b01_c (PM_key5 hP3)]
      refine AW.pcq (pc2 := 124) rfl ?_
      refine A_callVWi 1 (dX6_read 69 rfl) cbX6_part cwX6_272 (m_part E q a fr n B f g3 tw3 r1.2.1 r2 5 hr2 hT3 hP3) rfl rfl MW_0 rfl rfl (by omega) (Nat.le_of_ble_eq_true rfl) (Nat.le_of_ble_eq_true rfl) (Nat.le_of_ble_eq_true rfl) (Nat.le_of_ble_eq_true rfl) ?_
      rintro y2 w1 ⟨g4, tw4, rfl, k4, s4, f4⟩
      refine AW.pcq (pc2 := 127) rfl ?_
      by_cases hb : r2.1 = true
      · rw [if_pos hb] at hpp
        obtain ⟨hP4, he4⟩ := s4 hb
        have hk4 : KP g1 g4 := k2.tr (k3.tr k4)
        have hE4 : ∀ k, ¬ (23 ≤ k ∧ k ≤ 34) → g4 k = g k := fun k hk => (hk4 k (by omega)).trans (hE1 k hk)
        refine A_istore (ls2 := [_, _, _, _, _, _]) (dX6_read 70 rfl) (by decide) rfl rfl ?_
        refine A_aload_n (dX6_read 71 rfl) rfl ?_
        refine A_get (dX6_read 72 rfl) fwX6_197 MW_0 MF_30 ?_
        refine A_if_ne 147 (dX6_read 73 rfl) (by decide) (fun h133 => absurd hP4.2.2.2.2.2.2.1 h133) (fun h133 => ?_)
        refine A_aload_n (dX6_read 74 rfl) rfl ?_
        refine A_get (dX6_read 75 rfl) fwX6_180 MW_0 MF_26 ?_
        refine A_if_eq 147 (dX6_read 76 rfl) (by decide) (fun h140 => ?_) (fun h140 => ?_)
        · have hce : ck B r2.2.1 = 0 := ck_end.mpr (hP4.2.1.symm.trans h140)
          rw [decide_eq_true hce] at hpp
          cases hpp
          refine A_aload_n (dX6_read 79 rfl) rfl ?_
          refine A_iload_n (dX6_read 80 rfl) rfl ?_
          refine A_put (dX6_read 81 rfl) fwX6_276 fcX6 ftX6_32 MW_0 rfl rfl ML_0 (MP_32 _) ?_
          refine A_aload_n (dX6_read 82 rfl) rfl ?_
          refine A_iload (dX6_read 83 rfl) rfl ?_
          refine A_put (dX6_read 84 rfl) fwX6_279 fcX6 ftX6_33 MW_0 rfl rfl ML_0 (MP_33 _) ?_
          refine A_aload_n (dX6_read 85 rfl) rfl ?_
          refine A_iload (dX6_read 86 rfl) rfl ?_
          refine AW.pcq (pc2 := 161) rfl ?_
          refine A_put (dX6_read 87 rfl) fwX6_282 fcX6 ftX6_34 MW_0 rfl rfl ML_0 (MP_34 _) ?_
          refine A_iload_n (dX6_read 88 rfl) rfl ?_
          refine A_ri (dX6_read 89 rfl) rfl rfl ?_
          first
            | exact ⟨rfl, RD_ok hE4 hP4.2.2.2.2.2.2.1 (fun st => by rw [← hME]; exact he2 st) (fun st => by rw [← hME, ← k2.me]; exact he3 st) (fun st => by rw [← hME, ← k2.me, ← k3.me]; exact he4 st)⟩
            | exact ⟨rfl, RD_bad (g4 := upd (upd g4 30 1) 31 (g4 27)) (fun k hk => (((KP.rf.up (by decide)).up (by decide)) k (by omega)).trans (hE4 k hk)) (show ¬ (1 : Int32) = 0 by decide) hP4.2.2.1⟩
        · have hce : ¬ ck B r2.2.1 = 0 := fun z => h140 (hP4.2.1.trans (ck_end.mp z))
          rw [decide_eq_false hce] at hpp
          cases hpp
          refine A_aload_n (dX6_read 77 rfl) rfl ?_
          refine A_callVWv 0 (dX6_read 78 rfl) cbX6_fail cwX6_211 (m_fail E q g4 tw4 a) rfl rfl MW_0 rfl rfl (by omega) (Nat.le_of_ble_eq_true rfl) (Nat.le_of_ble_eq_true rfl) (Nat.le_of_ble_eq_true rfl) (Nat.le_of_ble_eq_true rfl) ?_
          rintro w1 rfl
          rw [if_pos hP4.2.2.2.2.2.2.1]
          refine AW.pcq (pc2 := 147) rfl ?_
          refine A_aload_n (dX6_read 79 rfl) rfl ?_
          refine A_iload_n (dX6_read 80 rfl) rfl ?_
          refine A_put (dX6_read 81 rfl) fwX6_276 fcX6 ftX6_32 MW_0 rfl rfl ML_0 (MP_32 _) ?_
          refine A_aload_n (dX6_read 82 rfl) rfl ?_
          refine A_iload (dX6_read 83 rfl) rfl ?_
          refine A_put (dX6_read 84 rfl) fwX6_279 fcX6 ftX6_33 MW_0 rfl rfl ML_0 (MP_33 _) ?_
          refine A_aload_n (dX6_read 85 rfl) rfl ?_
          refine A_iload (dX6_read 86 rfl) rfl ?_
          refine AW.pcq (pc2 := 161) rfl ?_
          refine A_put (dX6_read 87 rfl) fwX6_282 fcX6 ftX6_34 MW_0 rfl rfl ML_0 (MP_34 _) ?_
          refine A_iload_n (dX6_read 88 rfl) rfl ?_
          refine A_ri (dX6_read 89 rfl) rfl rfl ?_
          first
            | exact ⟨rfl, RD_ok hE4 hP4.2.2.2.2.2.2.1 (fun st => by rw [← hME]; exact he2 st) (fun st => by rw [← hME, ← k2.me]; exact he3 st) (fun st => by rw [← hME, ← k2.me, ← k3.me]; exact he4 st)⟩
            | exact ⟨rfl, RD_bad (g4 := upd (upd g4 30 1) 31 (g4 27)) (fun k hk => (((KP.rf.up (by decide)).up (by decide)) k (by omega)).trans (hE4 k hk)) (show ¬ (1 : Int32) = 0 by decide) hP4.2.2.1⟩
      · rw [if_neg hb] at hpp
        cases hpp
        have h3b := f4 (by simpa using hb)
        have h3c : ¬ g4 30 = 0 := by rw [h3b.1]; decide
        refine A_istore (ls2 := [_, _, _, _, _, _]) (dX6_read 70 rfl) (by decide) rfl rfl ?_
        refine A_aload_n (dX6_read 71 rfl) rfl ?_
        refine A_get (dX6_read 72 rfl) fwX6_197 MW_0 MF_30 ?_
        refine A_if_ne 147 (dX6_read 73 rfl) (by decide) (fun h133 => ?_) (fun h133 => absurd h133 h3c)
        refine A_aload_n (dX6_read 79 rfl) rfl ?_
        refine A_iload_n (dX6_read 80 rfl) rfl ?_
        refine A_put (dX6_read 81 rfl) fwX6_276 fcX6 ftX6_32 MW_0 rfl rfl ML_0 (MP_32 _) ?_
        refine A_aload_n (dX6_read 82 rfl) rfl ?_
        refine A_iload (dX6_read 83 rfl) rfl ?_
        refine A_put (dX6_read 84 rfl) fwX6_279 fcX6 ftX6_33 MW_0 rfl rfl ML_0 (MP_33 _) ?_
        refine A_aload_n (dX6_read 85 rfl) rfl ?_
        refine A_iload (dX6_read 86 rfl) rfl ?_
        refine AW.pcq (pc2 := 161) rfl ?_
        refine A_put (dX6_read 87 rfl) fwX6_282 fcX6 ftX6_34 MW_0 rfl rfl ML_0 (MP_34 _) ?_
        refine A_iload_n (dX6_read 88 rfl) rfl ?_
        refine A_ri (dX6_read 89 rfl) rfl rfl ?_
        exact ⟨rfl, RD_bad (fun k hk => ((k2.tr (k3.tr k4)) k (by omega)).trans (hE1 k hk)) h3c h3b.2⟩
    · rw [if_neg hb] at hpp
      cases hpp
      have h3b := f3 (by simpa using hb)
      have h3c : ¬ g3 30 = 0 := by rw [h3b.1]; decide
      refine A_istore (ls2 := [_, _, _, _, _, _]) (dX6_read 52 rfl) (by decide) rfl rfl ?_
      refine A_aload_n (dX6_read 53 rfl) rfl ?_
      refine A_get (dX6_read 54 rfl) fwX6_197 MW_0 MF_30 ?_
      refine A_if_eq 106 (dX6_read 55 rfl) (by decide) (fun h99 => absurd h99 h3c) (fun h99 => ?_)
      refine A_iconst (0) (dX6_read 56 rfl) (by decide +kernel) ?_
      refine A_goto 127 (dX6_read 57 rfl) (by decide) ?_
      refine A_istore (ls2 := [_, _, _, _, _, _]) (dX6_read 70 rfl) (by decide) rfl rfl ?_
      refine A_aload_n (dX6_read 71 rfl) rfl ?_
      refine A_get (dX6_read 72 rfl) fwX6_197 MW_0 MF_30 ?_
      refine A_if_ne 147 (dX6_read 73 rfl) (by decide) (fun h133 => ?_) (fun h133 => absurd h133 h3c)
      refine A_aload_n (dX6_read 79 rfl) rfl ?_
      refine A_iload_n (dX6_read 80 rfl) rfl ?_
      refine A_put (dX6_read 81 rfl) fwX6_276 fcX6 ftX6_32 MW_0 rfl rfl ML_0 (MP_32 _) ?_
      refine A_aload_n (dX6_read 82 rfl) rfl ?_
      refine A_iload (dX6_read 83 rfl) rfl ?_
      refine A_put (dX6_read 84 rfl) fwX6_279 fcX6 ftX6_33 MW_0 rfl rfl ML_0 (MP_33 _) ?_
      refine A_aload_n (dX6_read 85 rfl) rfl ?_
      refine A_iload (dX6_read 86 rfl) rfl ?_
      refine AW.pcq (pc2 := 161) rfl ?_
      refine A_put (dX6_read 87 rfl) fwX6_282 fcX6 ftX6_34 MW_0 rfl rfl ML_0 (MP_34 _) ?_
      refine A_iload_n (dX6_read 88 rfl) rfl ?_
      refine A_ri (dX6_read 89 rfl) rfl rfl ?_
      exact ⟨rfl, RD_bad (fun k hk => ((k2.tr k3) k (by omega)).trans (hE1 k hk)) h3c h3b.2⟩
  · rw [if_neg hb] at hpp
    cases hpp
    have h3b := f2 (by simpa using hb)
    have h3c : ¬ g2 30 = 0 := by rw [h3b.1]; decide
    refine A_istore_n (ls2 := [_, _, _, _, _, _]) (dX6_read 34 rfl) (by decide) rfl rfl ?_
    refine A_aload_n (dX6_read 35 rfl) rfl ?_
    refine A_get (dX6_read 36 rfl) fwX6_197 MW_0 MF_30 ?_
    refine A_if_eq 71 (dX6_read 37 rfl) (by decide) (fun h64 => absurd h64 h3c) (fun h64 => ?_)
    refine A_iconst (0) (dX6_read 38 rfl) (by decide +kernel) ?_
    refine A_goto 93 (dX6_read 39 rfl) (by decide) ?_
    refine A_istore (ls2 := [_, _, _, _, _, _]) (dX6_read 52 rfl) (by decide) rfl rfl ?_
    refine A_aload_n (dX6_read 53 rfl) rfl ?_
    refine A_get (dX6_read 54 rfl) fwX6_197 MW_0 MF_30 ?_
    refine A_if_eq 106 (dX6_read 55 rfl) (by decide) (fun h99 => absurd h99 h3c) (fun h99 => ?_)
    refine A_iconst (0) (dX6_read 56 rfl) (by decide +kernel) ?_
    refine A_goto 127 (dX6_read 57 rfl) (by decide) ?_
    refine A_istore (ls2 := [_, _, _, _, _, _]) (dX6_read 70 rfl) (by decide) rfl rfl ?_
    refine A_aload_n (dX6_read 71 rfl) rfl ?_
    refine A_get (dX6_read 72 rfl) fwX6_197 MW_0 MF_30 ?_
    refine A_if_ne 147 (dX6_read 73 rfl) (by decide) (fun h133 => ?_) (fun h133 => absurd h133 h3c)
    refine A_aload_n (dX6_read 79 rfl) rfl ?_
    refine A_iload_n (dX6_read 80 rfl) rfl ?_
    refine A_put (dX6_read 81 rfl) fwX6_276 fcX6 ftX6_32 MW_0 rfl rfl ML_0 (MP_32 _) ?_
    refine A_aload_n (dX6_read 82 rfl) rfl ?_
    refine A_iload (dX6_read 83 rfl) rfl ?_
    refine A_put (dX6_read 84 rfl) fwX6_279 fcX6 ftX6_33 MW_0 rfl rfl ML_0 (MP_33 _) ?_
    refine A_aload_n (dX6_read 85 rfl) rfl ?_
    refine A_iload (dX6_read 86 rfl) rfl ?_
    refine AW.pcq (pc2 := 161) rfl ?_
    refine A_put (dX6_read 87 rfl) fwX6_282 fcX6 ftX6_34 MW_0 rfl rfl ML_0 (MP_34 _) ?_
    refine A_iload_n (dX6_read 88 rfl) rfl ?_
    refine A_ri (dX6_read 89 rfl) rfl rfl ?_
    exact ⟨rfl, RD_bad (fun k hk => (k2 k (by omega)).trans (hE1 k hk)) h3c h3b.2⟩
