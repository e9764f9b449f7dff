theorem m_goesT (E : ag) (q : Nat → Nat) (g : Nat → Int32) (a : Nat → Nat → Int32) (t m : Nat) (C : Nat → List Int32) (hg4 : g 4 = nI t) (hK : TOK (a 1) (a 2) t C) (h : Nat → Int32) (tw : Int64) (b : Nat → Nat → Int32) (s : FS) (hf : rfs h b = s) (hd : AD g a h b) (hF : FI s m) : CT E yX6_goes cX6_goes 2 mX6_goes.2.2.2.1 46 0 0 [.ref (q 0)] (MW E q h tw b) (rv (TW E q g a (p_round C zro s))) := by
  refine (m_goes E q h tw b t m C (hd.g4.trans hg4) (hd.tok hK) (by rw [hf]; exact hF)).mono (fun v w hz => ?_)
  obtain ⟨h1, g2, tw2, a2, rfl, hf2, ho⟩ := hz
  exact ⟨h1, g2, tw2, a2, rfl, by rw [hf2, hf], hd.ro ho⟩
theorem m_goesOnT (E : ag) (q : Nat → Nat) (g : Nat → Int32) (a : Nat → Nat → Int32) (t m : Nat) (C : Nat → List Int32) (hg4 : g 4 = nI t) (hK : TOK (a 1) (a 2) t C) (h : Nat → Int32) (tw : Int64) (b : Nat → Nat → Int32) (s : FS) (hf : rfs h b = s) (hd : AD g a h b) (hF : FI s m) (nn : Nat) (hnn : nn < 2 ^ 31) : CT E yX6_goesOn cX6_goesOn 3 mX6_goesOn.2.2.2.1 47 0 0 [.ref (q 0), .int (nI nn)] (MW E q h tw b) (rv (TW E q g a (p_rounds C nn s))) := by
  refine (m_goesOn E q h tw b t m C (hd.g4.trans hg4) (hd.tok hK) (by rw [hf]; exact hF) nn hnn).mono (fun v w hz => ?_)
  obtain ⟨h1, g2, tw2, a2, rfl, hf2, ho⟩ := hz
  exact ⟨h1, g2, tw2, a2, rfl, by rw [hf2, hf], hd.ro ho⟩
theorem in40 {n : Int32} (h : ¬ inI n 0 40 = 0) : ∃ j, j ≤ 40 ∧ n = nI j := by
  obtain ⟨h1, h2⟩ := inI_yes h
  have h0 : (0 : Int32).toInt = 0 := by decide
  have h40 : (40 : Int32).toInt = 40 := by decide
  obtain ⟨j, hj, rfl⟩ := nI_of (x := n) (fun z => by have := Int32.lt_iff_toInt_lt.mp z; omega)
  rw [nI_toInt hj] at h2
  exact ⟨j, by omega, rfl⟩
def p_runV (C : Nat → List Int32) (s : FS) (j : Nat) (what : Int32) : Int32 := if what = 0 then (p_rounds C j (p_try s)).1 3 - s.1 3 else if what = 1 then (p_rounds C j (p_try s)).1 4 else if what = 2 then (p_rounds C j (p_try s)).1 5 else sm ((p_rounds C j (p_try s)).2 0) 12
set_option maxRecDepth 100000 in
set_option maxHeartbeats 400000 in
theorem m_run (E : ag) (q : Nat → Nat) (g : Nat → Int32) (tw : Int64) (a : Nat → Nat → Int32) (t m : Nat) (C : Nat → List Int32) (hg4 : g 4 = nI t) (hK : TOK (a 1) (a 2) t C) (hF : FI (rfs g a) m) (n what : Int32) : CT E yX6_run cX6_run 4 mX6_run.2.2.2.1 48 0 0 [.ref (q 0), .int n, .int what] (MW E q g tw a) (ri (fun r w => r = (if inI n 0 40 = 0 ∨ inI what 0 3 = 0 then -2 else p_runV C (rfs g a) n.toNatClampNeg what) ∧ QW E q g a w)) := by
  refine CT.of (M := mX6_run) (ls := [some (.ref (q 0)), some (.int n), some (.int what), none]) (by decide) rfl (by decide) rfl (Nat.le_of_ble_eq_true rfl) ?_
  refine A_iload_n (dX6_run 0 rfl) rfl ?_
  refine A_i2l (dX6_run 1 rfl) ?_
  refine A_lconst (0) (dX6_run 2 rfl) (by decide +kernel) ?_
  refine A_ldc2 (dX6_run 3 rfl) kcX6_330 ?_
  refine A_callSWi 3 (dX6_run 4 rfl) cbX6_in cwX6_103 (m_in E _ n 0 40 _ _ _ rfl (by decide) (by decide)) rfl rfl (Nat.le_of_ble_eq_true rfl) (Nat.le_of_ble_eq_true rfl) (Nat.le_of_ble_eq_true rfl) (Nat.le_of_ble_eq_true rfl) (Nat.le_of_ble_eq_true rfl) ?_
  rintro r6 w1 ⟨rfl, rfl⟩
  refine AW.pcq (pc2 := 9) rfl ?_
  refine A_if_eq 24 (dX6_run 5 rfl) (by decide) (fun h9 => ?_) (fun h9 => ?_)
  · refine A_bipush (-2) (dX6_run 12 rfl) (by decide +kernel) ?_
    refine A_ri (dX6_run 13 rfl) rfl rfl ?_
    exact ⟨by rw [if_pos (by first | exact Or.inl (by assumption) | exact Or.inr (by assumption))], QW.rf⟩
  · refine A_iload_n (dX6_run 6 rfl) rfl ?_
    refine A_i2l (dX6_run 7 rfl) ?_
    refine A_lconst (0) (dX6_run 8 rfl) (by decide +kernel) ?_
    refine A_ldc2 (dX6_run 9 rfl) kcX6_332 ?_
    refine A_callSWi 3 (dX6_run 10 rfl) cbX6_in cwX6_103 (m_in E _ what 0 3 _ _ _ rfl (by decide) (by decide)) rfl rfl (Nat.le_of_ble_eq_true rfl) (Nat.le_of_ble_eq_true rfl) (Nat.le_of_ble_eq_true rfl) (Nat.le_of_ble_eq_true rfl) (Nat.le_of_ble_eq_true rfl) ?_
    rintro r18 w1 ⟨rfl, rfl⟩
    refine AW.pcq (pc2 := 21) rfl ?_
    refine A_if_ne 27 (dX6_run 11 rfl) (by decide) (fun h21 => ?_) (fun h21 => ?_)
    · obtain ⟨j, hj, rfl⟩ := in40 h9
      refine A_aload_n (dX6_run 14 rfl) rfl ?_
      refine A_callVWv 0 (dX6_run 15 rfl) cbX6_laysAside cwX6_334 (m_asideQ E q g tw a) rfl rfl MW_0 rfl rfl (Nat.le_of_ble_eq_true rfl) (Nat.le_of_ble_eq_true rfl) (Nat.le_of_ble_eq_true rfl) (Nat.le_of_ble_eq_true rfl) (Nat.le_of_ble_eq_true rfl) ?_
      rintro w1 ⟨h1, tw1, b1, rfl, hf1, hd1, hb1⟩
      refine AW.pcq (pc2 := 31) rfl ?_
      refine A_aload_n (dX6_run 16 rfl) rfl ?_
      refine A_iload_n (dX6_run 17 rfl) rfl ?_
      refine A_callVWv 1 (dX6_run 18 rfl) cbX6_goesOn cwX6_337 (m_goesOnT E q g a t m C hg4 hK h1 tw1 b1 _ hf1 hd1 hF.try j (by omega)) rfl rfl MW_0 rfl rfl (Nat.le_of_ble_eq_true rfl) (Nat.le_of_ble_eq_true rfl) (Nat.le_of_ble_eq_true rfl) (Nat.le_of_ble_eq_true rfl) (Nat.le_of_ble_eq_true rfl) ?_
      rintro w1 ⟨h2, tw2, b2, rfl, hf2, hd2⟩
      refine AW.pcq (pc2 := 36) rfl ?_
      refine A_iload_n (dX6_run 19 rfl) rfl ?_
      refine A_if_ne 52 (dX6_run 20 rfl) (by decide) (fun h37 => ?_) (fun h37 => ?_)
      · refine A_iload_n (dX6_run 27 rfl) rfl ?_
        refine A_iconst (1) (dX6_run 28 rfl) (by decide +kernel) ?_
        refine A_icmp_ne 64 (dX6_run 29 rfl) (by decide) (fun h54 => ?_) (fun h54 => ?_)
        · refine A_iload_n (dX6_run 33 rfl) rfl ?_
          refine A_iconst (2) (dX6_run 34 rfl) (by decide +kernel) ?_
          refine A_icmp_ne 76 (dX6_run 35 rfl) (by decide) (fun h66 => ?_) (fun h66 => ?_)
          · refine A_aload_n (dX6_run 39 rfl) rfl ?_
            refine A_callVWi 0 (dX6_run 40 rfl) cbX6_left cwX6_340 (m_left E q h2 tw2 b2) rfl rfl MW_0 rfl rfl (Nat.le_of_ble_eq_true rfl) (Nat.le_of_ble_eq_true rfl) (Nat.le_of_ble_eq_true rfl) (Nat.le_of_ble_eq_true rfl) (Nat.le_of_ble_eq_true rfl) ?_
            rintro r77 w1 ⟨rfl, rfl⟩
            refine AW.pcq (pc2 := 80) rfl ?_
            refine A_istore_n (ls2 := [_, _, _, _]) (dX6_run 41 rfl) (by decide) rfl rfl ?_
            refine A_aload_n (dX6_run 42 rfl) rfl ?_
            refine A_callVWv 0 (dX6_run 43 rfl) cbX6_laysBack cwX6_343 (m_backQ E q g tw2 a h2 b2 hd2) rfl rfl MW_0 rfl rfl (Nat.le_of_ble_eq_true rfl) (Nat.le_of_ble_eq_true rfl) (Nat.le_of_ble_eq_true rfl) (Nat.le_of_ble_eq_true rfl) (Nat.le_of_ble_eq_true rfl) ?_
            rintro w1 hB
            refine AW.pcq (pc2 := 85) rfl ?_
            refine A_iload_n (dX6_run 44 rfl) rfl ?_
            refine A_ri (dX6_run 45 rfl) rfl rfl ?_
            refine ⟨?_, hB.qw⟩
            rw [if_neg (fun z => z.elim h9 h21), nI_clamp (by omega)]
            have e3 := rf16 hf2
            have e4 := rf35 hf2
            have e5 := rf36 hf2
            have eA := rfA0 hf2
            unfold p_runV
            repeat' split
            all_goals first | contradiction | (rw [e3, hd1.1.2.2.2]; rfl) | (rw [e3, hd2.1.2.2.2]; rfl) | exact e4 | exact e5 | (rw [eA])
          · refine A_aload_n (dX6_run 36 rfl) rfl ?_
            refine A_get (dX6_run 37 rfl) fwX6_298 MW_0 MF_36 ?_
            refine A_goto 80 (dX6_run 38 rfl) (by decide) ?_
            refine A_istore_n (ls2 := [_, _, _, _]) (dX6_run 41 rfl) (by decide) rfl rfl ?_
            refine A_aload_n (dX6_run 42 rfl) rfl ?_
            refine A_callVWv 0 (dX6_run 43 rfl) cbX6_laysBack cwX6_343 (m_backQ E q g tw2 a h2 b2 hd2) rfl rfl MW_0 rfl rfl (Nat.le_of_ble_eq_true rfl) (Nat.le_of_ble_eq_true rfl) (Nat.le_of_ble_eq_true rfl) (Nat.le_of_ble_eq_true rfl) (Nat.le_of_ble_eq_true rfl) ?_
            rintro w1 hB
            refine AW.pcq (pc2 := 85) rfl ?_
            refine A_iload_n (dX6_run 44 rfl) rfl ?_
            refine A_ri (dX6_run 45 rfl) rfl rfl ?_
            refine ⟨?_, hB.qw⟩
            rw [if_neg (fun z => z.elim h9 h21), nI_clamp (by omega)]
            have e3 := rf16 hf2
            have e4 := rf35 hf2
            have e5 := rf36 hf2
            have eA := rfA0 hf2
            unfold p_runV
            repeat' split
            all_goals first | contradiction | (rw [e3, hd1.1.2.2.2]; rfl) | (rw [e3, hd2.1.2.2.2]; rfl) | exact e4 | exact e5 | (rw [eA])
        · refine A_aload_n (dX6_run 30 rfl) rfl ?_
          refine A_get (dX6_run 31 rfl) fwX6_295 MW_0 MF_35 ?_
          refine A_goto 80 (dX6_run 32 rfl) (by decide) ?_
          refine A_istore_n (ls2 := [_, _, _, _]) (dX6_run 41 rfl) (by decide) rfl rfl ?_
          refine A_aload_n (dX6_run 42 rfl) rfl ?_
          refine A_callVWv 0 (dX6_run 43 rfl) cbX6_laysBack cwX6_343 (m_backQ E q g tw2 a h2 b2 hd2) rfl rfl MW_0 rfl rfl (Nat.le_of_ble_eq_true rfl) (Nat.le_of_ble_eq_true rfl) (Nat.le_of_ble_eq_true rfl) (Nat.le_of_ble_eq_true rfl) (Nat.le_of_ble_eq_true rfl) ?_
          rintro w1 hB
          refine AW.pcq (pc2 := 85) rfl ?_
          refine A_iload_n (dX6_run 44 rfl) rfl ?_
          refine A_ri (dX6_run 45 rfl) rfl rfl ?_
          refine ⟨?_, hB.qw⟩
          rw [if_neg (fun z => z.elim h9 h21), nI_clamp (by omega)]
          have e3 := rf16 hf2
          have e4 := rf35 hf2
          have e5 := rf36 hf2
          have eA := rfA0 hf2
          unfold p_runV
          repeat' split
          all_goals first | contradiction | (rw [e3, hd1.1.2.2.2]; rfl) | (rw [e3, hd2.1.2.2.2]; rfl) | exact e4 | exact e5 | (rw [eA])
      · refine A_aload_n (dX6_run 21 rfl) rfl ?_
        refine A_get (dX6_run 22 rfl) fwX6_305 MW_0 MF_16 ?_
        refine A_aload_n (dX6_run 23 rfl) rfl ?_
        refine A_get (dX6_run 24 rfl) fwX6_324 MW_0 MF_46 ?_
        refine A_isub (dX6_run 25 rfl) ?_
        refine A_goto 80 (dX6_run 26 rfl) (by decide) ?_
        refine A_istore_n (ls2 := [_, _, _, _]) (dX6_run 41 rfl) (by decide) rfl rfl ?_
        refine A_aload_n (dX6_run 42 rfl) rfl ?_
        refine A_callVWv 0 (dX6_run 43 rfl) cbX6_laysBack cwX6_343 (m_backQ E q g tw2 a h2 b2 hd2) rfl rfl MW_0 rfl rfl (Nat.le_of_ble_eq_true rfl) (Nat.le_of_ble_eq_true rfl) (Nat.le_of_ble_eq_true rfl) (Nat.le_of_ble_eq_true rfl) (Nat.le_of_ble_eq_true rfl) ?_
        rintro w1 hB
        refine AW.pcq (pc2 := 85) rfl ?_
        refine A_iload_n (dX6_run 44 rfl) rfl ?_
        refine A_ri (dX6_run 45 rfl) rfl rfl ?_
        refine ⟨?_, hB.qw⟩
        rw [if_neg (fun z => z.elim h9 h21), nI_clamp (by omega)]
        have e3 := rf16 hf2
        have e4 := rf35 hf2
        have e5 := rf36 hf2
        have eA := rfA0 hf2
        unfold p_runV
        repeat' split
        all_goals first | contradiction | (rw [e3, hd1.1.2.2.2]; rfl) | (rw [e3, hd2.1.2.2.2]; rfl) | exact e4 | exact e5 | (rw [eA])
    · refine A_bipush (-2) (dX6_run 12 rfl) (by decide +kernel) ?_
      refine A_ri (dX6_run 13 rfl) rfl rfl ?_
      exact ⟨by rw [if_pos (by first | exact Or.inl (by assumption) | exact Or.inr (by assumption))], QW.rf⟩

set_option maxRecDepth 100000 in
set_option maxHeartbeats 400000 in
theorem m_beat (E : ag) (q : Nat → Nat) (g : Nat → Int32) (tw : Int64) (a : Nat → Nat → Int32) (t m : Nat) (C : Nat → List Int32) (hg4 : g 4 = nI t) (hK : TOK (a 1) (a 2) t C) (hF : FI (rfs g a) m) (i n : Int32) : CT E yX6_beat cX6_beat 4 mX6_beat.2.2.2.1 48 0 0 [.ref (q 0), .int i, .int n] (MW E q g tw a) (ri (fun r w => r = (if inI i 0 (g 13 - 1) = 0 ∨ inI n 0 40 = 0 then -2 else (p_rounds C n.toNatClampNeg (p_try (rfs g a))).2 3 i.toNatClampNeg) ∧ QW E q g a w)) := by
  refine CT.of (M := mX6_beat) (ls := [some (.ref (q 0)), some (.int i), some (.int n), none]) (by decide) rfl (by decide) rfl (Nat.le_of_ble_eq_true rfl) ?_
  refine A_aload_n (dX6_beat 0 rfl) rfl ?_
  refine A_iload_n (dX6_beat 1 rfl) rfl ?_
  refine A_callVWi 1 (dX6_beat 2 rfl) cbX6_isMan cwX6_123 (m_isMan E q g tw a i) rfl rfl MW_0 rfl rfl (Nat.le_of_ble_eq_true rfl) (Nat.le_of_ble_eq_true rfl) (Nat.le_of_ble_eq_true rfl) (Nat.le_of_ble_eq_true rfl) (Nat.le_of_ble_eq_true rfl) ?_
  rintro r2 w1 ⟨rfl, rfl⟩
  refine AW.pcq (pc2 := 5) rfl ?_
  refine A_if_eq 20 (dX6_beat 3 rfl) (by decide) (fun h5 => ?_) (fun h5 => ?_)
  · refine A_bipush (-2) (dX6_beat 10 rfl) (by decide +kernel) ?_
    refine A_ri (dX6_beat 11 rfl) rfl rfl ?_
    exact ⟨by rw [if_pos (by first | exact Or.inl (by assumption) | exact Or.inr (by assumption))], QW.rf⟩
  · refine A_iload_n (dX6_beat 4 rfl) rfl ?_
    refine A_i2l (dX6_beat 5 rfl) ?_
    refine A_lconst (0) (dX6_beat 6 rfl) (by decide +kernel) ?_
    refine A_ldc2 (dX6_beat 7 rfl) kcX6_330 ?_
    refine A_callSWi 3 (dX6_beat 8 rfl) cbX6_in cwX6_103 (m_in E _ n 0 40 _ _ _ rfl (by decide) (by decide)) rfl rfl (Nat.le_of_ble_eq_true rfl) (Nat.le_of_ble_eq_true rfl) (Nat.le_of_ble_eq_true rfl) (Nat.le_of_ble_eq_true rfl) (Nat.le_of_ble_eq_true rfl) ?_
    rintro r14 w1 ⟨rfl, rfl⟩
    refine AW.pcq (pc2 := 17) rfl ?_
    refine A_if_ne 23 (dX6_beat 9 rfl) (by decide) (fun h17 => ?_) (fun h17 => ?_)
    · obtain ⟨j, hj, rfl⟩ := in40 h17
      refine A_aload_n (dX6_beat 12 rfl) rfl ?_
      refine A_callVWv 0 (dX6_beat 13 rfl) cbX6_laysAside cwX6_334 (m_asideQ E q g tw a) rfl rfl MW_0 rfl rfl (Nat.le_of_ble_eq_true rfl) (Nat.le_of_ble_eq_true rfl) (Nat.le_of_ble_eq_true rfl) (Nat.le_of_ble_eq_true rfl) (Nat.le_of_ble_eq_true rfl) ?_
      rintro w1 ⟨h1, tw1, b1, rfl, hf1, hd1, hb1⟩
      refine AW.pcq (pc2 := 27) rfl ?_
      refine A_aload_n (dX6_beat 14 rfl) rfl ?_
      refine A_iload_n (dX6_beat 15 rfl) rfl ?_
      refine A_callVWv 1 (dX6_beat 16 rfl) cbX6_goesOn cwX6_337 (m_goesOnT E q g a t m C hg4 hK h1 tw1 b1 _ hf1 hd1 hF.try j (by omega)) rfl rfl MW_0 rfl rfl (Nat.le_of_ble_eq_true rfl) (Nat.le_of_ble_eq_true rfl) (Nat.le_of_ble_eq_true rfl) (Nat.le_of_ble_eq_true rfl) (Nat.le_of_ble_eq_true rfl) ?_
      rintro w1 ⟨h2, tw2, b2, rfl, hf2, hd2⟩
      refine AW.pcq (pc2 := 32) rfl ?_
      refine A_aload_n (dX6_beat 17 rfl) rfl ?_
      refine A_get (dX6_beat 18 rfl) fwX6_32 MW_0 MF_10 ?_
      refine A_iload_n (dX6_beat 19 rfl) rfl ?_
      refine A_iald (dX6_beat 20 rfl) MW_7 (ix_man hF.1 (by rw [← show g 13 = nI m from hF.2.1]; exact h5)) ?_
      refine A_istore_n (ls2 := [_, _, _, _]) (dX6_beat 21 rfl) (by decide) rfl rfl ?_
      refine A_aload_n (dX6_beat 22 rfl) rfl ?_
      refine A_callVWv 0 (dX6_beat 23 rfl) cbX6_laysBack cwX6_343 (m_backQ E q g tw2 a h2 b2 hd2) rfl rfl MW_0 rfl rfl (Nat.le_of_ble_eq_true rfl) (Nat.le_of_ble_eq_true rfl) (Nat.le_of_ble_eq_true rfl) (Nat.le_of_ble_eq_true rfl) (Nat.le_of_ble_eq_true rfl) ?_
      rintro w1 hB
      refine AW.pcq (pc2 := 43) rfl ?_
      refine A_iload_n (dX6_beat 24 rfl) rfl ?_
      refine A_ri (dX6_beat 25 rfl) rfl rfl ?_
      refine ⟨?_, hB.qw⟩
      rw [if_neg (fun z => z.elim h5 h17), nI_clamp (n := j) (by omega), rfA3 hf2]
    · refine A_bipush (-2) (dX6_beat 10 rfl) (by decide +kernel) ?_
      refine A_ri (dX6_beat 11 rfl) rfl rfl ?_
      exact ⟨by rw [if_pos (by first | exact Or.inl (by assumption) | exact Or.inr (by assumption))], QW.rf⟩

def p_hold (C : Nat → List Int32) : Nat → Nat → FS → Int32
  | 0, k, _ => nI k
  | n + 1, k, s => if (p_round C zro s).1 4 = 0 then p_hold C n (k + 1) (p_round C zro s) else nI k
def p_stop (C : Nat → List Int32) (less : Int32) : Nat → Nat → FS → Int32
  | 0, _, _ => -1
  | n + 1, k, s => if (p_round C zro s).1 3 - s.1 3 < less then nI k else p_stop C less n (k + 1) (p_round C zro s)
def p_judge (C : Nat → List Int32) (i : Nat) (f : Nat → Int32) : Nat → Nat → FS → Int32
  | 0, _, _ => -1
  | n + 1, k, s => if (p_round C zro s).2 3 i = f k then p_judge C i f n (k + 1) (p_round C zro s) else nI k
def p_men (v : Int32) (s : FS) : FS := (upd s.1 0 v, s.2)
def p_few (C : Nat → List Int32) (want : Int32) (s : FS) : Nat → Nat → Int32
  | 0, _ => -1
  | n + 1, k => if want ≤ (p_rounds C 12 (p_men (nI k) (p_try s))).1 3 - s.1 3 then nI k else p_few C want s n (k + 1)
theorem FI.men {s : FS} {m k : Nat} (h : FI s m) (hk : k ≤ 5) : FI (p_men (nI k) s) k := ⟨hk, rfl, h.2.2.1, h.2.2.2⟩
theorem nIm1n {k : Nat} (h : k < 2 ^ 31) : ¬ nI k = -1 := fun z => by
  have := nI_pos' (n := k) h
  rw [z] at this
  exact absurd this (by decide)
theorem rf_men {g : Nat → Int32} {a : Nat → Nat → Int32} {v : Int32} : rfs (upd g 13 v) a = p_men v (rfs g a) := by
  refine rfs_eq rfl rfl rfl rfl rfl rfl (fun k hk => ?_) rfl rfl rfl rfl rfl rfl (fun k hk => rfs_az (g := g) hk)
  show upd (rfs g a).1 0 v k = 0
  simp only [upd]
  rw [if_neg (by omega)]
  exact rfs_z hk
set_option maxRecDepth 100000 in
set_option maxHeartbeats 400000 in
theorem m_holdsX (E : ag) (q : Nat → Nat) (g : Nat → Int32) (tw : Int64) (a : Nat → Nat → Int32) (h1 : Nat → Int32) (tw1 : Int64) (b1 : Nat → Nat → Int32) (hd1 : AD g a h1 b1) (v : Int32) : AW E mX6_holds 47 0 0 8 [some (.ref (q 0)), some (.int v), some (.int 0)] [] (MW E q h1 tw1 b1) (ri (fun r w => r = v ∧ QW E q g a w)) := by
  refine A_iload_n (dX6_holds 6 rfl) rfl ?_
  refine A_bipush (40) (dX6_holds 7 rfl) (by decide +kernel) ?_
  refine A_icmp_ge 50 (dX6_holds 8 rfl) (by decide) (fun h11 => ?_) (fun h11 => ?_)
  · refine A_aload_n (dX6_holds 29 rfl) rfl ?_
    refine A_callVWv 0 (dX6_holds 30 rfl) cbX6_laysBack cwX6_343 (m_backQ E q g tw1 a h1 b1 hd1) rfl rfl MW_0 rfl rfl (Nat.le_of_ble_eq_true rfl) (Nat.le_of_ble_eq_true rfl) (Nat.le_of_ble_eq_true rfl) (Nat.le_of_ble_eq_true rfl) (Nat.le_of_ble_eq_true rfl) ?_
    rintro w1 hB
    refine AW.pcq (pc2 := 54) rfl ?_
    refine A_iload_n (dX6_holds 31 rfl) rfl ?_
    refine A_ri (dX6_holds 32 rfl) rfl rfl ?_
    exact ⟨rfl, hB.qw⟩
  · refine A_iload_n (dX6_holds 9 rfl) rfl ?_
    refine A_if_eq 50 (dX6_holds 10 rfl) (by decide) (fun h15 => ?_) (fun h15 => absurd rfl h15)
    refine A_aload_n (dX6_holds 29 rfl) rfl ?_
    refine A_callVWv 0 (dX6_holds 30 rfl) cbX6_laysBack cwX6_343 (m_backQ E q g tw1 a h1 b1 hd1) rfl rfl MW_0 rfl rfl (Nat.le_of_ble_eq_true rfl) (Nat.le_of_ble_eq_true rfl) (Nat.le_of_ble_eq_true rfl) (Nat.le_of_ble_eq_true rfl) (Nat.le_of_ble_eq_true rfl) ?_
    rintro w1 hB
    refine AW.pcq (pc2 := 54) rfl ?_
    refine A_iload_n (dX6_holds 31 rfl) rfl ?_
    refine A_ri (dX6_holds 32 rfl) rfl rfl ?_
    exact ⟨rfl, hB.qw⟩
set_option maxRecDepth 100000 in
set_option maxHeartbeats 400000 in
theorem m_holdsL (E : ag) (q : Nat → Nat) (g : Nat → Int32) (tw : Int64) (a : Nat → Nat → Int32) (t m : Nat) (C : Nat → List Int32) (hg4 : g 4 = nI t) (hK : TOK (a 1) (a 2) t C) (hF : FI (rfs g a) m) : ∀ (n c : Nat), c + n = 40 → ∀ (h1 : Nat → Int32) (tw1 : Int64) (b1 : Nat → Nat → Int32) (s : FS), rfs h1 b1 = s → AD g a h1 b1 → FI s m → AW E mX6_holds 47 0 0 8 [some (.ref (q 0)), some (.int (nI c)), some (.int 1)] [] (MW E q h1 tw1 b1) (ri (fun r w => r = p_hold C n c s ∧ QW E q g a w)) := by
  intro n
  induction n with
  | zero =>
    intro c hc
    intro h1 tw1 b1 s hf1 hd1 hF1
    obtain rfl : c = 40 := by omega
    refine A_iload_n (dX6_holds 6 rfl) rfl ?_
    refine A_bipush (40) (dX6_holds 7 rfl) (by decide +kernel) ?_
    refine A_icmp_ge 50 (dX6_holds 8 rfl) (by decide) (fun h11 => ?_) (fun h11 => absurd (show (40 : Int32) ≤ nI 40 by decide) h11)
    refine A_aload_n (dX6_holds 29 rfl) rfl ?_
    refine A_callVWv 0 (dX6_holds 30 rfl) cbX6_laysBack cwX6_343 (m_backQ E q g tw1 a h1 b1 hd1) rfl rfl MW_0 rfl rfl (Nat.le_of_ble_eq_true rfl) (Nat.le_of_ble_eq_true rfl) (Nat.le_of_ble_eq_true rfl) (Nat.le_of_ble_eq_true rfl) (Nat.le_of_ble_eq_true rfl) ?_
    rintro w1 hB
    refine AW.pcq (pc2 := 54) rfl ?_
    refine A_iload_n (dX6_holds 31 rfl) rfl ?_
    refine A_ri (dX6_holds 32 rfl) rfl rfl ?_
    exact ⟨rfl, hB.qw⟩
  | succ n ih =>
    intro c hc
    have hlt : c < 40 := by omega
    intro h1 tw1 b1 s hf1 hd1 hF1
    refine A_iload_n (dX6_holds 6 rfl) rfl ?_
    refine A_bipush (40) (dX6_holds 7 rfl) (by decide +kernel) ?_
    refine A_icmp_ge 50 (dX6_holds 8 rfl) (by decide) (fun h11 => absurd h11 (nI_ge (a := c) (b := 40) hlt (by decide))) (fun h11 => ?_)
    refine A_iload_n (dX6_holds 9 rfl) rfl ?_
    refine A_if_eq 50 (dX6_holds 10 rfl) (by decide) (fun h15 => absurd h15 (by decide)) (fun h15 => ?_)
    refine A_aload_n (dX6_holds 11 rfl) rfl ?_
    refine A_callVWv 0 (dX6_holds 12 rfl) cbX6_goes cwX6_312 (m_goesT E q g a t m C hg4 hK h1 tw1 b1 s hf1 hd1 hF1) rfl rfl MW_0 rfl rfl (Nat.le_of_ble_eq_true rfl) (Nat.le_of_ble_eq_true rfl) (Nat.le_of_ble_eq_true rfl) (Nat.le_of_ble_eq_true rfl) (Nat.le_of_ble_eq_true rfl) ?_
    rintro w1 ⟨h2, tw2, b2, rfl, hf2, hd2⟩
    refine AW.pcq (pc2 := 22) rfl ?_
    have hkx : h2 35 = (p_round C zro s).1 4 := rf35 hf2
    by_cases hkn : (p_round C zro s).1 4 = 0
    · rw [show p_hold C (n + 1) c s = p_hold C n (c + 1) (p_round C zro s) from if_pos hkn]
      refine A_aload_n (dX6_holds 13 rfl) rfl ?_
      refine A_get (dX6_holds 14 rfl) fwX6_295 MW_0 MF_35 ?_
      refine A_if_ne 33 (dX6_holds 15 rfl) (by decide) (fun h26 => absurd (hkx.trans hkn) h26) (fun h26 => ?_)
      refine A_iconst (1) (dX6_holds 16 rfl) (by decide +kernel) ?_
      refine A_goto 34 (dX6_holds 17 rfl) (by decide) ?_
      refine A_istore_n (ls2 := [_, _, _]) (dX6_holds 19 rfl) (by decide) rfl rfl ?_
      refine A_iload_n (dX6_holds 20 rfl) rfl ?_
      refine A_iload_n (dX6_holds 21 rfl) rfl ?_
      refine A_if_eq 44 (dX6_holds 22 rfl) (by decide) (fun h37 => absurd h37 (by decide)) (fun h37 => ?_)
      refine A_iconst (1) (dX6_holds 23 rfl) (by decide +kernel) ?_
      refine A_goto 45 (dX6_holds 24 rfl) (by decide) ?_
      refine A_iadd (dX6_holds 26 rfl) ?_
      refine A_istore_n (ls2 := [_, _, _]) (dX6_holds 27 rfl) (by decide) rfl rfl ?_
      refine A_goto 8 (dX6_holds 28 rfl) (by decide) ?_
      first
        | (rw [nI_1]; exact ih (c + 1) (by omega) h2 tw2 b2 _ hf2 hd2 (hF1.round C zro))
        | (rw [show nI c + 0 = nI c from nI_add c 0]; exact m_holdsX E q g tw a h2 tw2 b2 hd2 (nI c))
    · rw [show p_hold C (n + 1) c s = nI c from if_neg hkn]
      refine A_aload_n (dX6_holds 13 rfl) rfl ?_
      refine A_get (dX6_holds 14 rfl) fwX6_295 MW_0 MF_35 ?_
      refine A_if_ne 33 (dX6_holds 15 rfl) (by decide) (fun h26 => ?_) (fun h26 => absurd (hkx.symm.trans h26) hkn)
      refine A_iconst (0) (dX6_holds 18 rfl) (by decide +kernel) ?_
      refine A_istore_n (ls2 := [_, _, _]) (dX6_holds 19 rfl) (by decide) rfl rfl ?_
      refine A_iload_n (dX6_holds 20 rfl) rfl ?_
      refine A_iload_n (dX6_holds 21 rfl) rfl ?_
      refine A_if_eq 44 (dX6_holds 22 rfl) (by decide) (fun h37 => ?_) (fun h37 => absurd rfl h37)
      refine A_iconst (0) (dX6_holds 25 rfl) (by decide +kernel) ?_
      refine A_iadd (dX6_holds 26 rfl) ?_
      refine A_istore_n (ls2 := [_, _, _]) (dX6_holds 27 rfl) (by decide) rfl rfl ?_
      refine A_goto 8 (dX6_holds 28 rfl) (by decide) ?_
      first
        | (rw [nI_1]; exact ih (c + 1) (by omega) h2 tw2 b2 _ hf2 hd2 (hF1.round C zro))
        | (rw [show nI c + 0 = nI c from nI_add c 0]; exact m_holdsX E q g tw a h2 tw2 b2 hd2 (nI c))

set_option maxRecDepth 100000 in
set_option maxHeartbeats 400000 in
theorem m_holds (E : ag) (q : Nat → Nat) (g : Nat → Int32) (tw : Int64) (a : Nat → Nat → Int32) (t m : Nat) (C : Nat → List Int32) (hg4 : g 4 = nI t) (hK : TOK (a 1) (a 2) t C) (hF : FI (rfs g a) m) : CT E yX6_holds cX6_holds 3 mX6_holds.2.2.2.1 47 0 0 [.ref (q 0)] (MW E q g tw a) (ri (fun r w => r = p_hold C 40 0 (p_try (rfs g a)) ∧ QW E q g a w)) := by
  refine CT.of (M := mX6_holds) (ls := [some (.ref (q 0)), none, none]) (by decide) rfl (by decide) rfl (Nat.le_of_ble_eq_true rfl) ?_
  refine A_aload_n (dX6_holds 0 rfl) rfl ?_
  refine A_callVWv 0 (dX6_holds 1 rfl) cbX6_laysAside cwX6_334 (m_asideQ E q g tw a) rfl rfl MW_0 rfl rfl (Nat.le_of_ble_eq_true rfl) (Nat.le_of_ble_eq_true rfl) (Nat.le_of_ble_eq_true rfl) (Nat.le_of_ble_eq_true rfl) (Nat.le_of_ble_eq_true rfl) ?_
  rintro w1 ⟨h1, tw1, b1, rfl, hf1, hd1, hb1⟩
  refine AW.pcq (pc2 := 4) rfl ?_
  refine A_iconst (0) (dX6_holds 2 rfl) (by decide +kernel) ?_
  refine A_istore_n (ls2 := [_, _, _]) (dX6_holds 3 rfl) (by decide) rfl rfl ?_
  refine A_iconst (1) (dX6_holds 4 rfl) (by decide +kernel) ?_
  refine A_istore_n (ls2 := [_, _, _]) (dX6_holds 5 rfl) (by decide) rfl rfl ?_
  exact m_holdsL E q g tw a t m C hg4 hK hF 40 0 rfl h1 tw1 b1 _ hf1 hd1 hF.try

set_option maxRecDepth 100000 in
set_option maxHeartbeats 400000 in
theorem m_stopX (E : ag) (q : Nat → Nat) (g : Nat → Int32) (tw : Int64) (a : Nat → Nat → Int32) (h1 : Nat → Int32) (tw1 : Int64) (b1 : Nat → Nat → Int32) (hd1 : AD g a h1 b1) (less v k : Int32) (x4 : Option Value) (hv : ¬ v = -1) : AW E mX6_stop 47 0 0 23 [some (.ref (q 0)), some (.int less), some (.int v), some (.int k), x4] [] (MW E q h1 tw1 b1) (ri (fun r w => r = v ∧ QW E q g a w)) := by
  refine A_iload_n (dX6_stop 14 rfl) rfl ?_
  refine A_bipush (40) (dX6_stop 15 rfl) (by decide +kernel) ?_
  refine A_icmp_ge 63 (dX6_stop 16 rfl) (by decide) (fun h26 => ?_) (fun h26 => ?_)
  · refine A_aload_n (dX6_stop 35 rfl) rfl ?_
    refine A_callVWv 0 (dX6_stop 36 rfl) cbX6_laysBack cwX6_343 (m_backQ E q g tw1 a h1 b1 hd1) rfl rfl MW_0 rfl rfl (Nat.le_of_ble_eq_true rfl) (Nat.le_of_ble_eq_true rfl) (Nat.le_of_ble_eq_true rfl) (Nat.le_of_ble_eq_true rfl) (Nat.le_of_ble_eq_true rfl) ?_
    rintro w1 hB
    refine AW.pcq (pc2 := 67) rfl ?_
    refine A_iload_n (dX6_stop 37 rfl) rfl ?_
    refine A_ri (dX6_stop 38 rfl) rfl rfl ?_
    exact ⟨rfl, hB.qw⟩
  · refine A_iload_n (dX6_stop 17 rfl) rfl ?_
    refine A_iconst (-1) (dX6_stop 18 rfl) (by decide +kernel) ?_
    refine A_icmp_ne 63 (dX6_stop 19 rfl) (by decide) (fun h31 => ?_) (fun h31 => absurd h31 hv)
    refine A_aload_n (dX6_stop 35 rfl) rfl ?_
    refine A_callVWv 0 (dX6_stop 36 rfl) cbX6_laysBack cwX6_343 (m_backQ E q g tw1 a h1 b1 hd1) rfl rfl MW_0 rfl rfl (Nat.le_of_ble_eq_true rfl) (Nat.le_of_ble_eq_true rfl) (Nat.le_of_ble_eq_true rfl) (Nat.le_of_ble_eq_true rfl) (Nat.le_of_ble_eq_true rfl) ?_
    rintro w1 hB
    refine AW.pcq (pc2 := 67) rfl ?_
    refine A_iload_n (dX6_stop 37 rfl) rfl ?_
    refine A_ri (dX6_stop 38 rfl) rfl rfl ?_
    exact ⟨rfl, hB.qw⟩
set_option maxRecDepth 100000 in
set_option maxHeartbeats 400000 in
theorem m_stopL (E : ag) (q : Nat → Nat) (g : Nat → Int32) (tw : Int64) (a : Nat → Nat → Int32) (t m : Nat) (C : Nat → List Int32) (hg4 : g 4 = nI t) (hK : TOK (a 1) (a 2) t C) (hF : FI (rfs g a) m) (less : Int32) : ∀ (n c : Nat), c + n = 40 → ∀ (h1 : Nat → Int32) (tw1 : Int64) (b1 : Nat → Nat → Int32) (s : FS) (x4 : Option Value), noL [x4] = true → rfs h1 b1 = s → AD g a h1 b1 → FI s m → AW E mX6_stop 47 0 0 23 [some (.ref (q 0)), some (.int less), some (.int (-1)), some (.int (nI c)), x4] [] (MW E q h1 tw1 b1) (ri (fun r w => r = p_stop C less n c s ∧ QW E q g a w)) := by
  intro n
  induction n with
  | zero =>
    intro c hc
    intro h1 tw1 b1 s x4 hx hf1 hd1 hF1
    obtain rfl : c = 40 := by omega
    refine A_iload_n (dX6_stop 14 rfl) rfl ?_
    refine A_bipush (40) (dX6_stop 15 rfl) (by decide +kernel) ?_
    refine A_icmp_ge 63 (dX6_stop 16 rfl) (by decide) (fun h26 => ?_) (fun h26 => absurd (show (40 : Int32) ≤ nI 40 by decide) h26)
    refine A_aload_n (dX6_stop 35 rfl) rfl ?_
    refine A_callVWv 0 (dX6_stop 36 rfl) cbX6_laysBack cwX6_343 (m_backQ E q g tw1 a h1 b1 hd1) rfl rfl MW_0 rfl rfl (Nat.le_of_ble_eq_true rfl) (Nat.le_of_ble_eq_true rfl) (Nat.le_of_ble_eq_true rfl) (Nat.le_of_ble_eq_true rfl) (Nat.le_of_ble_eq_true rfl) ?_
    rintro w1 hB
    refine AW.pcq (pc2 := 67) rfl ?_
    refine A_iload_n (dX6_stop 37 rfl) rfl ?_
    refine A_ri (dX6_stop 38 rfl) rfl rfl ?_
    exact ⟨rfl, hB.qw⟩
  | succ n ih =>
    intro c hc
    have hlt : c < 40 := by omega
    intro h1 tw1 b1 s x4 hx hf1 hd1 hF1
    refine A_iload_n (dX6_stop 14 rfl) rfl ?_
    refine A_bipush (40) (dX6_stop 15 rfl) (by decide +kernel) ?_
    refine A_icmp_ge 63 (dX6_stop 16 rfl) (by decide) (fun h26 => absurd h26 (nI_ge (a := c) (b := 40) hlt (by decide))) (fun h26 => ?_)
    refine A_iload_n (dX6_stop 17 rfl) rfl ?_
    refine A_iconst (-1) (dX6_stop 18 rfl) (by decide +kernel) ?_
    refine A_icmp_ne 63 (dX6_stop 19 rfl) (by decide) (fun h31 => absurd rfl h31) (fun h31 => ?_)
    refine A_aload_n (dX6_stop 20 rfl) rfl ?_
    refine A_get (dX6_stop 21 rfl) fwX6_305 MW_0 MF_16 ?_
    refine AW.pcq (pc2 := 38) rfl ?_
    refine A_istore (ls2 := [_, _, _, _, _]) (dX6_stop 22 rfl) (by decide) (by have := hx; simp_all [noL, Value.category]) rfl ?_
    refine A_aload_n (dX6_stop 23 rfl) rfl ?_
    refine A_callVWv 0 (dX6_stop 24 rfl) cbX6_goes cwX6_312 (m_goesT E q g a t m C hg4 hK h1 tw1 b1 s hf1 hd1 hF1) rfl rfl MW_0 rfl rfl (Nat.le_of_ble_eq_true rfl) (Nat.le_of_ble_eq_true rfl) (Nat.le_of_ble_eq_true rfl) (Nat.le_of_ble_eq_true rfl) (Nat.le_of_ble_eq_true rfl) ?_
    rintro w1 ⟨h2, tw2, b2, rfl, hf2, hd2⟩
    refine AW.pcq (pc2 := 44) rfl ?_
    refine A_aload_n (dX6_stop 25 rfl) rfl ?_
    refine A_get (dX6_stop 26 rfl) fwX6_305 MW_0 MF_16 ?_
    refine A_iload (dX6_stop 27 rfl) rfl ?_
    refine A_isub (dX6_stop 28 rfl) ?_
    refine A_iload_n (dX6_stop 29 rfl) rfl ?_
    refine A_icmp_ge 57 (dX6_stop 30 rfl) (by decide) (fun h52 => ?_) (fun h52 => ?_)
    · have hsl : ¬ (p_round C zro s).1 3 - s.1 3 < less := by rw [← rf16 hf2, ← rf16 hf1]; exact Int32.not_lt.mpr h52
      rw [show p_stop C less (n + 1) c s = p_stop C less n (c + 1) (p_round C zro s) from if_neg hsl]
      refine A_iinc (ls2 := [_, _, _, _, _]) (nI (c + 1)) (dX6_stop 33 rfl) rfl (nI_1 c) (by decide) rfl rfl ?_
      refine A_goto 23 (dX6_stop 34 rfl) (by decide) ?_
      first
        | exact ih (c + 1) (by omega) h2 tw2 b2 _ _ (by rfl) hf2 hd2 (hF1.round C zro)
        | exact m_stopX E q g tw a h2 tw2 b2 hd2 less (nI c) _ _ (nIm1n (by omega))
    · have hsl : (p_round C zro s).1 3 - s.1 3 < less := by rw [← rf16 hf2, ← rf16 hf1]; exact Int32.not_le.mp h52
      rw [show p_stop C less (n + 1) c s = nI c from if_pos hsl]
      refine A_iload_n (dX6_stop 31 rfl) rfl ?_
      refine A_istore_n (ls2 := [_, _, _, _, _]) (dX6_stop 32 rfl) (by decide) (by have := hx; simp_all [noL, Value.category]) rfl ?_
      refine A_iinc (ls2 := [_, _, _, _, _]) (nI (c + 1)) (dX6_stop 33 rfl) rfl (nI_1 c) (by decide) rfl rfl ?_
      refine A_goto 23 (dX6_stop 34 rfl) (by decide) ?_
      first
        | exact ih (c + 1) (by omega) h2 tw2 b2 _ _ (by rfl) hf2 hd2 (hF1.round C zro)
        | exact m_stopX E q g tw a h2 tw2 b2 hd2 less (nI c) _ _ (nIm1n (by omega))

set_option maxRecDepth 100000 in
set_option maxHeartbeats 400000 in
theorem m_stop (E : ag) (q : Nat → Nat) (g : Nat → Int32) (tw : Int64) (a : Nat → Nat → Int32) (t m : Nat) (C : Nat → List Int32) (hg4 : g 4 = nI t) (hK : TOK (a 1) (a 2) t C) (hF : FI (rfs g a) m) (less : Int32) : CT E yX6_stop cX6_stop 5 mX6_stop.2.2.2.1 47 0 0 [.ref (q 0), .int less] (MW E q g tw a) (ri (fun r w => r = (if inI less 0 99999 = 0 then -2 else p_stop C less 40 0 (p_try (rfs g a))) ∧ QW E q g a w)) := by
  refine CT.of (M := mX6_stop) (ls := [some (.ref (q 0)), some (.int less), none, none, none]) (by decide) rfl (by decide) rfl (Nat.le_of_ble_eq_true rfl) ?_
  refine A_iload_n (dX6_stop 0 rfl) rfl ?_
  refine A_i2l (dX6_stop 1 rfl) ?_
  refine A_lconst (0) (dX6_stop 2 rfl) (by decide +kernel) ?_
  refine A_ldc2 (dX6_stop 3 rfl) kcX6_368 ?_
  refine A_callSWi 3 (dX6_stop 4 rfl) cbX6_in cwX6_103 (m_in E _ less 0 99999 _ _ _ rfl (by decide) (by decide)) rfl rfl (Nat.le_of_ble_eq_true rfl) (Nat.le_of_ble_eq_true rfl) (Nat.le_of_ble_eq_true rfl) (Nat.le_of_ble_eq_true rfl) (Nat.le_of_ble_eq_true rfl) ?_
  rintro r6 w1 ⟨rfl, rfl⟩
  refine AW.pcq (pc2 := 9) rfl ?_
  refine A_if_ne 15 (dX6_stop 5 rfl) (by decide) (fun h9 => ?_) (fun h9 => ?_)
  · refine A_aload_n (dX6_stop 8 rfl) rfl ?_
    refine A_callVWv 0 (dX6_stop 9 rfl) cbX6_laysAside cwX6_334 (m_asideQ E q g tw a) rfl rfl MW_0 rfl rfl (Nat.le_of_ble_eq_true rfl) (Nat.le_of_ble_eq_true rfl) (Nat.le_of_ble_eq_true rfl) (Nat.le_of_ble_eq_true rfl) (Nat.le_of_ble_eq_true rfl) ?_
    rintro w1 ⟨h1, tw1, b1, rfl, hf1, hd1, hb1⟩
    refine AW.pcq (pc2 := 19) rfl ?_
    refine A_iconst (-1) (dX6_stop 10 rfl) (by decide +kernel) ?_
    refine A_istore_n (ls2 := [_, _, _, _, _]) (dX6_stop 11 rfl) (by decide) rfl rfl ?_
    refine A_iconst (0) (dX6_stop 12 rfl) (by decide +kernel) ?_
    refine A_istore_n (ls2 := [_, _, _, _, _]) (dX6_stop 13 rfl) (by decide) rfl rfl ?_
    rw [if_neg h9]
    exact m_stopL E q g tw a t m C hg4 hK hF less 40 0 rfl h1 tw1 b1 _ none rfl hf1 hd1 hF.try
  · refine A_bipush (-2) (dX6_stop 6 rfl) (by decide +kernel) ?_
    refine A_ri (dX6_stop 7 rfl) rfl rfl ?_
    exact ⟨by rw [if_pos (by assumption)], QW.rf⟩

