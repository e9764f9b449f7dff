theorem nm_1 {B : Nat → Int32} {i : Nat} (h9 : 9 ≤ ck B i) (h14 : ck B i ≤ 14) : mkd B i = 1 := by
  rcases mkd_in B i with m | m | m | m | m
  · rw [ck0 m] at h9; exact absurd h9 (by decide)
  · exact m
  · rw [ck2 m] at h9; exact absurd h9 (by decide)
  · have := sg_big (mkd_sg m); rw [← ck3 m] at this; exact absurd (Int32.le_trans this h14) (by decide)
  · rw [ck4 m] at h9; exact absurd h9 (by decide)
theorem lt15 (x : Int32) : x < 15 ↔ x ≤ 14 := lt_le x 15 14 (by decide)
set_option maxRecDepth 100000 in
set_option maxHeartbeats 4000000 in
theorem r_one (E : ag) (qr : Nat → Nat) (ar : Nat → Nat → Int32) (qx : Nat → Nat) (n : Nat) (B : Nat → Int32) (f : Nat) (h0r : KM E qr ar qx n B yX2_either cX2_either 4 0 14 f) (h5r : KM E qr ar qx n B yX2_one cX2_one 3 5 9 f) : KM E qr ar qx n B yX2_one cX2_one 3 5 9 (f + 1) := by
  intro gr gx ax o i z res hpp ho hL hP hz hzi
  simp only [pp] at hpp
  have hn160 := hL.2.1
  have hin := hP.2.2.2.2
  refine CT.of (M := mX2_one) (ls := [some (.ref (qr 0)), some (.int (nI o)), none]) (by decide) rfl (by decide) rfl (Nat.le_of_ble_eq_true rfl) ?_
  by_cases h1 : ck B i = 1
  · rw [if_pos h1] at hpp
    cases hpp
    have hmm := men_g hL.2.2.2.1 hP.2.2.2.2 h1 (by decide) (by decide)
    have hc2 : ¬ ck B i = 2 := by rw [h1]; decide
    refine A_aload_n (dX2_one 0 rfl) rfl ?_
    refine A_get (dX2_one 1 rfl) fwX2_25 wR_0 cR_f0_4 ?_
    refine A_iconst (1) (dX2_one 2 rfl) (by decide +kernel) ?_
    refine A_icmp_ne 25 (dX2_one 3 rfl) (by decide) (fun h5 => absurd (hP.2.1.trans h1) h5) (fun h5 => ?_)
    refine A_aload_n (dX2_one 4 rfl) rfl ?_
    refine A_get (dX2_one 5 rfl) fwX2_34 wR_0 cR_f0_6 ?_
    refine A_aload_n (dX2_one 6 rfl) rfl ?_
    refine A_get (dX2_one 7 rfl) fwX2_28 wR_0 cR_f0_5 ?_
    refine AW.stack (st2 := [.int (cv B i), .ref (qx 0)]) (by rw [hP.2.2.2.1 h1]) ?_
    refine AW.pcq (pc2 := 16) rfl ?_
    refine A_callVv 1 (dX2_one 8 rfl) cbX4_put cwX2_115 (x_put E qx gx ax (cv B i) z (by omega) hz) rfl rfl wT_0 rfl rfl [2, 3, 4] rfl rfl (by omega) (Nat.le_of_ble_eq_true rfl) (Nat.le_of_ble_eq_true rfl) (Nat.le_of_ble_eq_true rfl) (Nat.le_of_ble_eq_true rfl) (by rintro _ (⟨_, rfl⟩ | ⟨_, rfl⟩) <;> exact (Nat.le_of_ble_eq_true rfl)) ?_
    rintro w1 (⟨hz9, rfl⟩ | ⟨hz9, rfl⟩)
    rotate_left
    · omega
    refine AW.world (ws2 := wR E qr gr ar (qx 0) qx (upd gx 0 (nI (z + 1))) (va_up ax 0 (upd (ax 0) z (cv B i)))) rfl ?_
    refine AW.pcq (pc2 := 19) rfl ?_
    refine A_aload_n (dX2_one 9 rfl) rfl ?_
    refine A_callVv 0 (dX2_one 10 rfl) cbX2_next cwX2_41 (r_next E qr gr ar (qx 0) n B hL (men B i) hmm.2 (hP.2.2.1 hc2)) rfl rfl wR1_0 rfl rfl [0, 1] rfl rfl (by omega) (Nat.le_of_ble_eq_true rfl) (Nat.le_of_ble_eq_true rfl) (Nat.le_of_ble_eq_true rfl) (Nat.le_of_ble_eq_true rfl) (by rintro _ ⟨_, rfl, _⟩; exact (Nat.le_of_ble_eq_true rfl)) ?_
    rintro w1 ⟨gr2, rfl, h02, hP2⟩
    refine AW.world (ws2 := wR E qr gr2 ar (qx 0) qx (upd gx 0 (nI (z + 1))) (va_up ax 0 (upd (ax 0) z (cv B i)))) rfl ?_
    refine AW.pcq (pc2 := 23) rfl ?_
    refine A_iconst (1) (dX2_one 11 rfl) (by decide +kernel) ?_
    refine A_ri (dX2_one 12 rfl) rfl (by decide) ?_
    exact RC_ok h02 hP2 TP.put
  · rw [if_neg h1] at hpp
    refine A_aload_n (dX2_one 0 rfl) rfl ?_
    refine A_get (dX2_one 1 rfl) fwX2_25 wR_0 cR_f0_4 ?_
    refine A_iconst (1) (dX2_one 2 rfl) (by decide +kernel) ?_
    refine A_icmp_ne 25 (dX2_one 3 rfl) (by decide) (fun h5 => ?_) (fun h5 => absurd h5 (fun y => h1 (hP.2.1.symm.trans y)))
    by_cases h9 : 9 ≤ ck B i ∧ ck B i ≤ 14 ∧ mkd B i = 1
    · rw [if_pos h9] at hpp
      cases hpp
      have hmm := men_g hL.2.2.2.1 hP.2.2.2.2 (v := ck B i) rfl (fun y => by rw [y] at h9; exact absurd h9.1 (by decide)) (fun y => by rw [y] at h9; exact absurd h9.1 (by decide))
      have hc2 : ¬ ck B i = 2 := fun y => by rw [y] at h9; exact absurd h9.1 (by decide)
      refine A_aload_n (dX2_one 13 rfl) rfl ?_
      refine A_get (dX2_one 14 rfl) fwX2_25 wR_0 cR_f0_4 ?_
      refine A_bipush (9) (dX2_one 15 rfl) (by decide +kernel) ?_
      refine A_icmp_lt 63 (dX2_one 16 rfl) (by decide) (fun h31 => absurd h31 (by rw [hP.2.1]; exact Int32.not_lt.mpr h9.1)) (fun h31 => ?_)
      refine A_aload_n (dX2_one 17 rfl) rfl ?_
      refine A_get (dX2_one 18 rfl) fwX2_25 wR_0 cR_f0_4 ?_
      refine A_bipush (15) (dX2_one 19 rfl) (by decide +kernel) ?_
      refine A_icmp_ge 63 (dX2_one 20 rfl) (by decide) (fun h40 => absurd h40 (by rw [hP.2.1]; exact Int32.not_le.mpr ((lt15 _).mpr h9.2.1))) (fun h40 => ?_)
      refine AW.pcq (pc2 := 43) rfl ?_
      refine A_aload_n (dX2_one 21 rfl) rfl ?_
      refine A_get (dX2_one 22 rfl) fwX2_34 wR_0 cR_f0_6 ?_
      refine A_bipush (8) (dX2_one 23 rfl) (by decide +kernel) ?_
      refine A_aload_n (dX2_one 24 rfl) rfl ?_
      refine A_get (dX2_one 25 rfl) fwX2_25 wR_0 cR_f0_4 ?_
      refine A_isub (dX2_one 26 rfl) ?_
      refine AW.stack (st2 := [.int (8 - ck B i), .ref (qx 0)]) (by rw [hP.2.1]) ?_
      refine A_callVv 1 (dX2_one 27 rfl) cbX4_put cwX2_115 (x_put E qx gx ax (8 - ck B i) z (by omega) hz) rfl rfl wT_0 rfl rfl [2, 3, 4] rfl rfl (by omega) (Nat.le_of_ble_eq_true rfl) (Nat.le_of_ble_eq_true rfl) (Nat.le_of_ble_eq_true rfl) (Nat.le_of_ble_eq_true rfl) (by rintro _ (⟨_, rfl⟩ | ⟨_, rfl⟩) <;> exact (Nat.le_of_ble_eq_true rfl)) ?_
      rintro w1 (⟨hz9, rfl⟩ | ⟨hz9, rfl⟩)
      rotate_left
      · omega
      refine AW.world (ws2 := wR E qr gr ar (qx 0) qx (upd gx 0 (nI (z + 1))) (va_up ax 0 (upd (ax 0) z (8 - ck B i)))) rfl ?_
      refine AW.pcq (pc2 := 57) rfl ?_
      refine A_aload_n (dX2_one 28 rfl) rfl ?_
      refine A_callVv 0 (dX2_one 29 rfl) cbX2_next cwX2_41 (r_next E qr gr ar (qx 0) n B hL (men B i) hmm.2 (hP.2.2.1 hc2)) rfl rfl wR1_0 rfl rfl [0, 1] rfl rfl (by omega) (Nat.le_of_ble_eq_true rfl) (Nat.le_of_ble_eq_true rfl) (Nat.le_of_ble_eq_true rfl) (Nat.le_of_ble_eq_true rfl) (by rintro _ ⟨_, rfl, _⟩; exact (Nat.le_of_ble_eq_true rfl)) ?_
      rintro w1 ⟨gr2, rfl, h02, hP2⟩
      refine AW.world (ws2 := wR E qr gr2 ar (qx 0) qx (upd gx 0 (nI (z + 1))) (va_up ax 0 (upd (ax 0) z (8 - ck B i)))) rfl ?_
      refine AW.pcq (pc2 := 61) rfl ?_
      refine A_iconst (1) (dX2_one 30 rfl) (by decide +kernel) ?_
      refine A_ri (dX2_one 31 rfl) rfl (by decide) ?_
      exact RC_ok h02 hP2 TP.put
    · rw [if_neg h9] at hpp
      refine A_aload_n (dX2_one 13 rfl) rfl ?_
      refine A_get (dX2_one 14 rfl) fwX2_25 wR_0 cR_f0_4 ?_
      refine A_bipush (9) (dX2_one 15 rfl) (by decide +kernel) ?_
      refine A_icmp_lt 63 (dX2_one 16 rfl) (by decide) (fun h31 => ?_) (fun h31 => ?_)
      · rcases Nat.lt_or_ge o 5 with ho5 | ho5
        rotate_left
        · rw [if_pos ho5] at hpp
          cases hpp
          refine A_iload_n (dX2_one 32 rfl) rfl ?_
          refine A_iconst (5) (dX2_one 33 rfl) (by decide +kernel) ?_
          refine A_icmp_lt 70 (dX2_one 34 rfl) (by decide) (fun h65 => absurd h65 (nI_nlt (a := o) (b := 5) ho5 (by omega))) (fun h65 => ?_)
          refine A_iconst (0) (dX2_one 35 rfl) (by decide +kernel) ?_
          refine A_ri (dX2_one 36 rfl) rfl (by decide) ?_
          exact RC_bad (by simp) rfl hP.1 ⟨z, by omega, hz⟩ rfl
        · rw [if_neg (by omega)] at hpp
          refine A_iload_n (dX2_one 32 rfl) rfl ?_
          refine A_iconst (5) (dX2_one 33 rfl) (by decide +kernel) ?_
          refine A_icmp_lt 70 (dX2_one 34 rfl) (by decide) (fun h65 => ?_) (fun h65 => absurd (nI_lt (a := o) (b := 5) ho5 (by decide)) h65)
          by_cases h45 : ck B i = 45
          · rw [if_pos h45] at hpp
            obtain ⟨r1, hr1, hpp⟩ := bnd hpp
            have hmm := men_g hL.2.2.2.1 hP.2.2.2.2 h45 (by decide) (by decide)
            have hc2 : ¬ ck B i = 2 := by rw [h45]; decide
            obtain ⟨p1, p2, p3, p4⟩ := pp_ok hL.2.2.2.1 f 5 (o + 1) (men B i) r1 hr1 hmm.2
            refine A_aload_n (dX2_one 37 rfl) rfl ?_
            refine A_bipush (45) (dX2_one 38 rfl) (by decide +kernel) ?_
            refine A_callVi 1 (dX2_one 39 rfl) cbX2_take cwX2_44 (r_take E qr gr ar (qx 0) n B hL i 45 hP (by decide)) rfl rfl wR1_0 rfl rfl [0, 1] rfl rfl (by omega) (Nat.le_of_ble_eq_true rfl) (Nat.le_of_ble_eq_true rfl) (Nat.le_of_ble_eq_true rfl) (Nat.le_of_ble_eq_true rfl) (by rintro _ _ (⟨_, _, _, rfl, _⟩ | ⟨_, _, rfl⟩) <;> exact (Nat.le_of_ble_eq_true rfl)) ?_
            rintro rt w1 (⟨hq9, rfl, gr2, rfl, h02, hP2⟩ | ⟨hq9, rfl, rfl⟩)
            rotate_left
            · exact absurd (by assumption) hq9
            refine AW.world (ws2 := wR E qr gr2 ar (qx 0) qx gx ax) rfl ?_
            refine AW.pcq (pc2 := 76) rfl ?_
            refine A_if_eq 98 (dX2_one 40 rfl) (by decide) (fun h76 => absurd h76 (by decide)) (fun h76 => ?_)
            refine A_aload_n (dX2_one 41 rfl) rfl ?_
            refine A_iload_n (dX2_one 42 rfl) rfl ?_
            refine A_iconst (1) (dX2_one 43 rfl) (by decide +kernel) ?_
            refine A_iadd (dX2_one 44 rfl) ?_
            rw [nI_1]
            refine A_callVWi 1 (dX2_one 45 rfl) cbX2_one cwX2_127 (h5r gr2 gx ax (o + 1) (men B i) z r1 hr1 (by omega) (hL.of h02) hP2 hz (by omega)) rfl rfl wR_0 rfl rfl (by omega) (Nat.le_of_ble_eq_true rfl) (Nat.le_of_ble_eq_true rfl) (Nat.le_of_ble_eq_true rfl) (Nat.le_of_ble_eq_true rfl) ?_
            rintro x1 w1 ⟨gr3, gx3, ax3, rfl, h03, rfl, hs, hf⟩
            refine AW.pcq (pc2 := 86) rfl ?_
            refine A_istore_n (ls2 := [_, _, _]) (dX2_one 46 rfl) (by decide) rfl rfl ?_
            by_cases hb1 : r1.1 = true
            · rw [if_pos hb1] at hpp
              cases hpp
              obtain ⟨hP3, hT3⟩ := hs hb1
              refine A_aload_n (dX2_one 47 rfl) rfl ?_
              refine A_get (dX2_one 48 rfl) fwX2_34 wR_0 cR_f0_6 ?_
              refine A_bipush (-7) (dX2_one 49 rfl) (by decide +kernel) ?_
              refine A_callVv 1 (dX2_one 50 rfl) cbX4_put cwX2_115 (x_put E qx gx3 ax3 (-7) (z + r1.2.2.length) (by omega) hT3.1) rfl rfl wT_0 rfl rfl [2, 3, 4] rfl rfl (by omega) (Nat.le_of_ble_eq_true rfl) (Nat.le_of_ble_eq_true rfl) (Nat.le_of_ble_eq_true rfl) (Nat.le_of_ble_eq_true rfl) (by rintro _ (⟨_, rfl⟩ | ⟨_, rfl⟩) <;> exact (Nat.le_of_ble_eq_true rfl)) ?_
              rintro w1 (⟨hz9, rfl⟩ | ⟨hz9, rfl⟩)
              rotate_left
              · omega
              refine AW.world (ws2 := wR E qr gr3 ar (qx 0) qx (upd gx3 0 (nI (z + r1.2.2.length + 1))) (va_up ax3 0 (upd (ax3 0) (z + r1.2.2.length) (-7)))) rfl ?_
              refine AW.pcq (pc2 := 96) rfl ?_
              refine A_iload_n (dX2_one 51 rfl) rfl ?_
              refine A_ri (dX2_one 52 rfl) rfl b01_nar ?_
              rw [b01_t hb1]
              exact RC_ok (h03.trans h02) hP3 (TP.app hT3 TP.put)
            · rw [if_neg hb1] at hpp
              cases hpp
              have hf3 := hf (by simpa using hb1)
              obtain ⟨z2, hz2, hg2⟩ := hf3.2.1
              refine A_aload_n (dX2_one 47 rfl) rfl ?_
              refine A_get (dX2_one 48 rfl) fwX2_34 wR_0 cR_f0_6 ?_
              refine A_bipush (-7) (dX2_one 49 rfl) (by decide +kernel) ?_
              refine A_callVv 1 (dX2_one 50 rfl) cbX4_put cwX2_115 (x_put E qx gx3 ax3 (-7) z2 hz2 hg2) rfl rfl wT_0 rfl rfl [2, 3, 4] rfl rfl (by omega) (Nat.le_of_ble_eq_true rfl) (Nat.le_of_ble_eq_true rfl) (Nat.le_of_ble_eq_true rfl) (Nat.le_of_ble_eq_true rfl) (by rintro _ (⟨_, rfl⟩ | ⟨_, rfl⟩) <;> exact (Nat.le_of_ble_eq_true rfl)) ?_
              rintro w1 hq
              obtain ⟨gx4, ax4, rfl, hz4, ha4⟩ := put_any hz2 hg2 hq
              refine AW.world (ws2 := wR E qr gr3 ar (qx 0) qx gx4 ax4) rfl ?_
              refine AW.pcq (pc2 := 96) rfl ?_
              refine A_iload_n (dX2_one 51 rfl) rfl ?_
              refine A_ri (dX2_one 52 rfl) rfl b01_nar ?_
              rw [b01_f hb1]
              exact RC_bad hb1 (h03.trans h02) hf3.1 hz4 (ha4.trans hf3.2.2)
          · rw [if_neg h45] at hpp
            refine A_aload_n (dX2_one 37 rfl) rfl ?_
            refine A_bipush (45) (dX2_one 38 rfl) (by decide +kernel) ?_
            refine A_callVi 1 (dX2_one 39 rfl) cbX2_take cwX2_44 (r_take E qr gr ar (qx 0) n B hL i 45 hP (by decide)) rfl rfl wR1_0 rfl rfl [0, 1] rfl rfl (by omega) (Nat.le_of_ble_eq_true rfl) (Nat.le_of_ble_eq_true rfl) (Nat.le_of_ble_eq_true rfl) (Nat.le_of_ble_eq_true rfl) (by rintro _ _ (⟨_, _, _, rfl, _⟩ | ⟨_, _, rfl⟩) <;> exact (Nat.le_of_ble_eq_true rfl)) ?_
            rintro rt w1 (⟨hq9, rfl, gr2, rfl, h02, hP2⟩ | ⟨hq9, rfl, rfl⟩)
            · exact absurd hq9 (by assumption)
            refine AW.world (ws2 := wR E qr gr ar (qx 0) qx gx ax) rfl ?_
            refine AW.pcq (pc2 := 76) rfl ?_
            refine A_if_eq 98 (dX2_one 40 rfl) (by decide) (fun h76 => ?_) (fun h76 => absurd rfl h76)
            by_cases h40 : ck B i = 40
            · rw [if_pos h40] at hpp
              obtain ⟨r1, hr1, hpp⟩ := bnd hpp
              have hmm := men_g hL.2.2.2.1 hP.2.2.2.2 h40 (by decide) (by decide)
              have hc2 : ¬ ck B i = 2 := by rw [h40]; decide
              obtain ⟨p1, p2, p3, p4⟩ := pp_ok hL.2.2.2.1 f 0 (o + 1) (men B i) r1 hr1 hmm.2
              refine A_aload_n (dX2_one 53 rfl) rfl ?_
              refine A_bipush (40) (dX2_one 54 rfl) (by decide +kernel) ?_
              refine A_callVi 1 (dX2_one 55 rfl) cbX2_take cwX2_44 (r_take E qr gr ar (qx 0) n B hL i 40 hP (by decide)) rfl rfl wR1_0 rfl rfl [0, 1] rfl rfl (by omega) (Nat.le_of_ble_eq_true rfl) (Nat.le_of_ble_eq_true rfl) (Nat.le_of_ble_eq_true rfl) (Nat.le_of_ble_eq_true rfl) (by rintro _ _ (⟨_, _, _, rfl, _⟩ | ⟨_, _, rfl⟩) <;> exact (Nat.le_of_ble_eq_true rfl)) ?_
              rintro rt w1 (⟨hq9, rfl, gr2, rfl, h02, hP2⟩ | ⟨hq9, rfl, rfl⟩)
              rotate_left
              · exact absurd (by assumption) hq9
              refine AW.world (ws2 := wR E qr gr2 ar (qx 0) qx gx ax) rfl ?_
              refine AW.pcq (pc2 := 104) rfl ?_
              refine A_if_eq 130 (dX2_one 56 rfl) (by decide) (fun h104 => absurd h104 (by decide)) (fun h104 => ?_)
              refine A_aload_n (dX2_one 57 rfl) rfl ?_
              refine A_iload_n (dX2_one 58 rfl) rfl ?_
              refine A_iconst (1) (dX2_one 59 rfl) (by decide +kernel) ?_
              refine A_iadd (dX2_one 60 rfl) ?_
              rw [nI_1]
              refine A_callVWi 1 (dX2_one 61 rfl) cbX2_either cwX2_48 (h0r gr2 gx ax (o + 1) (men B i) z r1 hr1 (by omega) (hL.of h02) hP2 hz (by omega)) rfl rfl wR_0 rfl rfl (by omega) (Nat.le_of_ble_eq_true rfl) (Nat.le_of_ble_eq_true rfl) (Nat.le_of_ble_eq_true rfl) (Nat.le_of_ble_eq_true rfl) ?_
              rintro x1 w1 ⟨gr3, gx3, ax3, rfl, h03, rfl, hs, hf⟩
              skip
              refine AW.pcq (pc2 := 114) rfl ?_
              by_cases hb1 : r1.1 = true
              · rw [if_pos hb1] at hpp
                obtain ⟨hP3, hT3⟩ := hs hb1
                refine A_if_eq 130 (dX2_one 62 rfl) (by decide) (fun h114 => absurd h114 (by rw [b01_t hb1]; decide)) (fun h114 => ?_)
                by_cases h41 : ck B r1.2.1 = 41
                · rw [if_pos h41] at hpp
                  cases hpp
                  refine A_aload_n (dX2_one 63 rfl) rfl ?_
                  refine A_bipush (41) (dX2_one 64 rfl) (by decide +kernel) ?_
                  refine A_callVi 1 (dX2_one 65 rfl) cbX2_take cwX2_44 (r_take E qr gr3 ar (qx 0) n B (hL.of (h03.trans h02)) r1.2.1 41 hP3 (by decide)) rfl rfl wR1_0 rfl rfl [0, 1] rfl rfl (by omega) (Nat.le_of_ble_eq_true rfl) (Nat.le_of_ble_eq_true rfl) (Nat.le_of_ble_eq_true rfl) (Nat.le_of_ble_eq_true rfl) (by rintro _ _ (⟨_, _, _, rfl, _⟩ | ⟨_, _, rfl⟩) <;> exact (Nat.le_of_ble_eq_true rfl)) ?_
                  rintro rt w1 (⟨hq9, rfl, gr4, rfl, h04, hP4⟩ | ⟨hq9, rfl, rfl⟩)
                  rotate_left
                  · exact absurd (by assumption) hq9
                  refine AW.world (ws2 := wR E qr gr4 ar (qx 0) qx gx3 ax3) rfl ?_
                  refine AW.pcq (pc2 := 123) rfl ?_
                  refine A_if_eq 130 (dX2_one 66 rfl) (by decide) (fun h123 => absurd h123 (by decide)) (fun h123 => ?_)
                  refine A_iconst (1) (dX2_one 67 rfl) (by decide +kernel) ?_
                  refine A_goto 131 (dX2_one 68 rfl) (by decide) ?_
                  refine A_ri (dX2_one 70 rfl) rfl (by decide) ?_
                  exact RC_ok (h04.trans (h03.trans h02)) hP4 hT3
                · rw [if_neg h41] at hpp
                  cases hpp
                  refine A_aload_n (dX2_one 63 rfl) rfl ?_
                  refine A_bipush (41) (dX2_one 64 rfl) (by decide +kernel) ?_
                  refine A_callVi 1 (dX2_one 65 rfl) cbX2_take cwX2_44 (r_take E qr gr3 ar (qx 0) n B (hL.of (h03.trans h02)) r1.2.1 41 hP3 (by decide)) rfl rfl wR1_0 rfl rfl [0, 1] rfl rfl (by omega) (Nat.le_of_ble_eq_true rfl) (Nat.le_of_ble_eq_true rfl) (Nat.le_of_ble_eq_true rfl) (Nat.le_of_ble_eq_true rfl) (by rintro _ _ (⟨_, _, _, rfl, _⟩ | ⟨_, _, rfl⟩) <;> exact (Nat.le_of_ble_eq_true rfl)) ?_
                  rintro rt w1 (⟨hq9, rfl, gr4, rfl, h04, hP4⟩ | ⟨hq9, rfl, rfl⟩)
                  · exact absurd hq9 (by assumption)
                  refine AW.world (ws2 := wR E qr gr3 ar (qx 0) qx gx3 ax3) rfl ?_
                  refine AW.pcq (pc2 := 123) rfl ?_
                  refine A_if_eq 130 (dX2_one 66 rfl) (by decide) (fun h123 => ?_) (fun h123 => absurd rfl h123)
                  refine A_iconst (0) (dX2_one 69 rfl) (by decide +kernel) ?_
                  refine A_ri (dX2_one 70 rfl) rfl (by decide) ?_
                  exact RC_bad (by simp) (h03.trans h02) hP3.1 ⟨z + r1.2.2.length, by omega, hT3.1⟩ hT3.2.2.2
              · rw [if_neg hb1] at hpp
                cases hpp
                have hf3 := hf (by simpa using hb1)
                refine A_if_eq 130 (dX2_one 62 rfl) (by decide) (fun h114 => ?_) (fun h114 => absurd (b01_f hb1) h114)
                refine A_iconst (0) (dX2_one 69 rfl) (by decide +kernel) ?_
                refine A_ri (dX2_one 70 rfl) rfl (by decide) ?_
                exact RC_bad hb1 (h03.trans h02) hf3.1 hf3.2.1 hf3.2.2
            · rw [if_neg h40] at hpp
              cases hpp
              refine A_aload_n (dX2_one 53 rfl) rfl ?_
              refine A_bipush (40) (dX2_one 54 rfl) (by decide +kernel) ?_
              refine A_callVi 1 (dX2_one 55 rfl) cbX2_take cwX2_44 (r_take E qr gr ar (qx 0) n B hL i 40 hP (by decide)) rfl rfl wR1_0 rfl rfl [0, 1] rfl rfl (by omega) (Nat.le_of_ble_eq_true rfl) (Nat.le_of_ble_eq_true rfl) (Nat.le_of_ble_eq_true rfl) (Nat.le_of_ble_eq_true rfl) (by rintro _ _ (⟨_, _, _, rfl, _⟩ | ⟨_, _, rfl⟩) <;> exact (Nat.le_of_ble_eq_true rfl)) ?_
              rintro rt w1 (⟨hq9, rfl, gr2, rfl, h02, hP2⟩ | ⟨hq9, rfl, rfl⟩)
              · exact absurd hq9 (by assumption)
              refine AW.world (ws2 := wR E qr gr ar (qx 0) qx gx ax) rfl ?_
              refine AW.pcq (pc2 := 104) rfl ?_
              refine A_if_eq 130 (dX2_one 56 rfl) (by decide) (fun h104 => ?_) (fun h104 => absurd rfl h104)
              refine A_iconst (0) (dX2_one 69 rfl) (by decide +kernel) ?_
              refine A_ri (dX2_one 70 rfl) rfl (by decide) ?_
              exact RC_bad (by simp) rfl hP.1 ⟨z, by omega, hz⟩ rfl
      · refine A_aload_n (dX2_one 17 rfl) rfl ?_
        refine A_get (dX2_one 18 rfl) fwX2_25 wR_0 cR_f0_4 ?_
        refine A_bipush (15) (dX2_one 19 rfl) (by decide +kernel) ?_
        refine A_icmp_ge 63 (dX2_one 20 rfl) (by decide) (fun h40 => ?_) (fun h40 => absurd (Int32.not_le.mp h40) (fun y => h9 ⟨by rw [← hP.2.1]; exact Int32.not_lt.mp h31, (lt15 _).mp (by rw [← hP.2.1]; exact y), nm_1 (by rw [← hP.2.1]; exact Int32.not_lt.mp h31) ((lt15 _).mp (by rw [← hP.2.1]; exact y))⟩))
        rcases Nat.lt_or_ge o 5 with ho5 | ho5
        rotate_left
        · rw [if_pos ho5] at hpp
          cases hpp
          refine A_iload_n (dX2_one 32 rfl) rfl ?_
          refine A_iconst (5) (dX2_one 33 rfl) (by decide +kernel) ?_
          refine A_icmp_lt 70 (dX2_one 34 rfl) (by decide) (fun h65 => absurd h65 (nI_nlt (a := o) (b := 5) ho5 (by omega))) (fun h65 => ?_)
          refine A_iconst (0) (dX2_one 35 rfl) (by decide +kernel) ?_
          refine A_ri (dX2_one 36 rfl) rfl (by decide) ?_
          exact RC_bad (by simp) rfl hP.1 ⟨z, by omega, hz⟩ rfl
        · rw [if_neg (by omega)] at hpp
          refine A_iload_n (dX2_one 32 rfl) rfl ?_
          refine A_iconst (5) (dX2_one 33 rfl) (by decide +kernel) ?_
          refine A_icmp_lt 70 (dX2_one 34 rfl) (by decide) (fun h65 => ?_) (fun h65 => absurd (nI_lt (a := o) (b := 5) ho5 (by decide)) h65)
          by_cases h45 : ck B i = 45
          · rw [if_pos h45] at hpp
            obtain ⟨r1, hr1, hpp⟩ := bnd hpp
            have hmm := men_g hL.2.2.2.1 hP.2.2.2.2 h45 (by decide) (by decide)
            have hc2 : ¬ ck B i = 2 := by rw [h45]; decide
            obtain ⟨p1, p2, p3, p4⟩ := pp_ok hL.2.2.2.1 f 5 (o + 1) (men B i) r1 hr1 hmm.2
            refine A_aload_n (dX2_one 37 rfl) rfl ?_
            refine A_bipush (45) (dX2_one 38 rfl) (by decide +kernel) ?_
            refine A_callVi 1 (dX2_one 39 rfl) cbX2_take cwX2_44 (r_take E qr gr ar (qx 0) n B hL i 45 hP (by decide)) rfl rfl wR1_0 rfl rfl [0, 1] rfl rfl (by omega) (Nat.le_of_ble_eq_true rfl) (Nat.le_of_ble_eq_true rfl) (Nat.le_of_ble_eq_true rfl) (Nat.le_of_ble_eq_true rfl) (by rintro _ _ (⟨_, _, _, rfl, _⟩ | ⟨_, _, rfl⟩) <;> exact (Nat.le_of_ble_eq_true rfl)) ?_
            rintro rt w1 (⟨hq9, rfl, gr2, rfl, h02, hP2⟩ | ⟨hq9, rfl, rfl⟩)
            rotate_left
            · exact absurd (by assumption) hq9
            refine AW.world (ws2 := wR E qr gr2 ar (qx 0) qx gx ax) rfl ?_
            refine AW.pcq (pc2 := 76) rfl ?_
            refine A_if_eq 98 (dX2_one 40 rfl) (by decide) (fun h76 => absurd h76 (by decide)) (fun h76 => ?_)
            refine A_aload_n (dX2_one 41 rfl) rfl ?_
            refine A_iload_n (dX2_one 42 rfl) rfl ?_
            refine A_iconst (1) (dX2_one 43 rfl) (by decide +kernel) ?_
            refine A_iadd (dX2_one 44 rfl) ?_
            rw [nI_1]
            refine A_callVWi 1 (dX2_one 45 rfl) cbX2_one cwX2_127 (h5r gr2 gx ax (o + 1) (men B i) z r1 hr1 (by omega) (hL.of h02) hP2 hz (by omega)) rfl rfl wR_0 rfl rfl (by omega) (Nat.le_of_ble_eq_true rfl) (Nat.le_of_ble_eq_true rfl) (Nat.le_of_ble_eq_true rfl) (Nat.le_of_ble_eq_true rfl) ?_
            rintro x1 w1 ⟨gr3, gx3, ax3, rfl, h03, rfl, hs, hf⟩
            refine AW.pcq (pc2 := 86) rfl ?_
            refine A_istore_n (ls2 := [_, _, _]) (dX2_one 46 rfl) (by decide) rfl rfl ?_
            by_cases hb1 : r1.1 = true
            · rw [if_pos hb1] at hpp
              cases hpp
              obtain ⟨hP3, hT3⟩ := hs hb1
              refine A_aload_n (dX2_one 47 rfl) rfl ?_
              refine A_get (dX2_one 48 rfl) fwX2_34 wR_0 cR_f0_6 ?_
              refine A_bipush (-7) (dX2_one 49 rfl) (by decide +kernel) ?_
              refine A_callVv 1 (dX2_one 50 rfl) cbX4_put cwX2_115 (x_put E qx gx3 ax3 (-7) (z + r1.2.2.length) (by omega) hT3.1) rfl rfl wT_0 rfl rfl [2, 3, 4] rfl rfl (by omega) (Nat.le_of_ble_eq_true rfl) (Nat.le_of_ble_eq_true rfl) (Nat.le_of_ble_eq_true rfl) (Nat.le_of_ble_eq_true rfl) (by rintro _ (⟨_, rfl⟩ | ⟨_, rfl⟩) <;> exact (Nat.le_of_ble_eq_true rfl)) ?_
              rintro w1 (⟨hz9, rfl⟩ | ⟨hz9, rfl⟩)
              rotate_left
              · omega
              refine AW.world (ws2 := wR E qr gr3 ar (qx 0) qx (upd gx3 0 (nI (z + r1.2.2.length + 1))) (va_up ax3 0 (upd (ax3 0) (z + r1.2.2.length) (-7)))) rfl ?_
              refine AW.pcq (pc2 := 96) rfl ?_
              refine A_iload_n (dX2_one 51 rfl) rfl ?_
              refine A_ri (dX2_one 52 rfl) rfl b01_nar ?_
              rw [b01_t hb1]
              exact RC_ok (h03.trans h02) hP3 (TP.app hT3 TP.put)
            · rw [if_neg hb1] at hpp
              cases hpp
              have hf3 := hf (by simpa using hb1)
              obtain ⟨z2, hz2, hg2⟩ := hf3.2.1
              refine A_aload_n (dX2_one 47 rfl) rfl ?_
              refine A_get (dX2_one 48 rfl) fwX2_34 wR_0 cR_f0_6 ?_
              refine A_bipush (-7) (dX2_one 49 rfl) (by decide +kernel) ?_
              refine A_callVv 1 (dX2_one 50 rfl) cbX4_put cwX2_115 (x_put E qx gx3 ax3 (-7) z2 hz2 hg2) rfl rfl wT_0 rfl rfl [2, 3, 4] rfl rfl (by omega) (Nat.le_of_ble_eq_true rfl) (Nat.le_of_ble_eq_true rfl) (Nat.le_of_ble_eq_true rfl) (Nat.le_of_ble_eq_true rfl) (by rintro _ (⟨_, rfl⟩ | ⟨_, rfl⟩) <;> exact (Nat.le_of_ble_eq_true rfl)) ?_
              rintro w1 hq
              obtain ⟨gx4, ax4, rfl, hz4, ha4⟩ := put_any hz2 hg2 hq
              refine AW.world (ws2 := wR E qr gr3 ar (qx 0) qx gx4 ax4) rfl ?_
              refine AW.pcq (pc2 := 96) rfl ?_
              refine A_iload_n (dX2_one 51 rfl) rfl ?_
              refine A_ri (dX2_one 52 rfl) rfl b01_nar ?_
              rw [b01_f hb1]
              exact RC_bad hb1 (h03.trans h02) hf3.1 hz4 (ha4.trans hf3.2.2)
          · rw [if_neg h45] at hpp
            refine A_aload_n (dX2_one 37 rfl) rfl ?_
            refine A_bipush (45) (dX2_one 38 rfl) (by decide +kernel) ?_
            refine A_callVi 1 (dX2_one 39 rfl) cbX2_take cwX2_44 (r_take E qr gr ar (qx 0) n B hL i 45 hP (by decide)) rfl rfl wR1_0 rfl rfl [0, 1] rfl rfl (by omega) (Nat.le_of_ble_eq_true rfl) (Nat.le_of_ble_eq_true rfl) (Nat.le_of_ble_eq_true rfl) (Nat.le_of_ble_eq_true rfl) (by rintro _ _ (⟨_, _, _, rfl, _⟩ | ⟨_, _, rfl⟩) <;> exact (Nat.le_of_ble_eq_true rfl)) ?_
            rintro rt w1 (⟨hq9, rfl, gr2, rfl, h02, hP2⟩ | ⟨hq9, rfl, rfl⟩)
            · exact absurd hq9 (by assumption)
            refine AW.world (ws2 := wR E qr gr ar (qx 0) qx gx ax) rfl ?_
            refine AW.pcq (pc2 := 76) rfl ?_
            refine A_if_eq 98 (dX2_one 40 rfl) (by decide) (fun h76 => ?_) (fun h76 => absurd rfl h76)
            by_cases h40 : ck B i = 40
            · rw [if_pos h40] at hpp
              obtain ⟨r1, hr1, hpp⟩ := bnd hpp
              have hmm := men_g hL.2.2.2.1 hP.2.2.2.2 h40 (by decide) (by decide)
              have hc2 : ¬ ck B i = 2 := by rw [h40]; decide
              obtain ⟨p1, p2, p3, p4⟩ := pp_ok hL.2.2.2.1 f 0 (o + 1) (men B i) r1 hr1 hmm.2
              refine A_aload_n (dX2_one 53 rfl) rfl ?_
              refine A_bipush (40) (dX2_one 54 rfl) (by decide +kernel) ?_
              refine A_callVi 1 (dX2_one 55 rfl) cbX2_take cwX2_44 (r_take E qr gr ar (qx 0) n B hL i 40 hP (by decide)) rfl rfl wR1_0 rfl rfl [0, 1] rfl rfl (by omega) (Nat.le_of_ble_eq_true rfl) (Nat.le_of_ble_eq_true rfl) (Nat.le_of_ble_eq_true rfl) (Nat.le_of_ble_eq_true rfl) (by rintro _ _ (⟨_, _, _, rfl, _⟩ | ⟨_, _, rfl⟩) <;> exact (Nat.le_of_ble_eq_true rfl)) ?_
              rintro rt w1 (⟨hq9, rfl, gr2, rfl, h02, hP2⟩ | ⟨hq9, rfl, rfl⟩)
              rotate_left
              · exact absurd (by assumption) hq9
              refine AW.world (ws2 := wR E qr gr2 ar (qx 0) qx gx ax) rfl ?_
              refine AW.pcq (pc2 := 104) rfl ?_
              refine A_if_eq 130 (dX2_one 56 rfl) (by decide) (fun h104 => absurd h104 (by decide)) (fun h104 => ?_)
              refine A_aload_n (dX2_one 57 rfl) rfl ?_
              refine A_iload_n (dX2_one 58 rfl) rfl ?_
              refine A_iconst (1) (dX2_one 59 rfl) (by decide +kernel) ?_
              refine A_iadd (dX2_one 60 rfl) ?_
              rw [nI_1]
              refine A_callVWi 1 (dX2_one 61 rfl) cbX2_either cwX2_48 (h0r gr2 gx ax (o + 1) (men B i) z r1 hr1 (by omega) (hL.of h02) hP2 hz (by omega)) rfl rfl wR_0 rfl rfl (by omega) (Nat.le_of_ble_eq_true rfl) (Nat.le_of_ble_eq_true rfl) (Nat.le_of_ble_eq_true rfl) (Nat.le_of_ble_eq_true rfl) ?_
              rintro x1 w1 ⟨gr3, gx3, ax3, rfl, h03, rfl, hs, hf⟩
              skip
              refine AW.pcq (pc2 := 114) rfl ?_
              by_cases hb1 : r1.1 = true
              · rw [if_pos hb1] at hpp
                obtain ⟨hP3, hT3⟩ := hs hb1
                refine A_if_eq 130 (dX2_one 62 rfl) (by decide) (fun h114 => absurd h114 (by rw [b01_t hb1]; decide)) (fun h114 => ?_)
                by_cases h41 : ck B r1.2.1 = 41
                · rw [if_pos h41] at hpp
                  cases hpp
                  refine A_aload_n (dX2_one 63 rfl) rfl ?_
                  refine A_bipush (41) (dX2_one 64 rfl) (by decide +kernel) ?_
                  refine A_callVi 1 (dX2_one 65 rfl) cbX2_take cwX2_44 (r_take E qr gr3 ar (qx 0) n B (hL.of (h03.trans h02)) r1.2.1 41 hP3 (by decide)) rfl rfl wR1_0 rfl rfl [0, 1] rfl rfl (by omega) (Nat.le_of_ble_eq_true rfl) (Nat.le_of_ble_eq_true rfl) (Nat.le_of_ble_eq_true rfl) (Nat.le_of_ble_eq_true rfl) (by rintro _ _ (⟨_, _, _, rfl, _⟩ | ⟨_, _, rfl⟩) <;> exact (Nat.le_of_ble_eq_true rfl)) ?_
                  rintro rt w1 (⟨hq9, rfl, gr4, rfl, h04, hP4⟩ | ⟨hq9, rfl, rfl⟩)
                  rotate_left
                  · exact absurd (by assumption) hq9
                  refine AW.world (ws2 := wR E qr gr4 ar (qx 0) qx gx3 ax3) rfl ?_
                  refine AW.pcq (pc2 := 123) rfl ?_
                  refine A_if_eq 130 (dX2_one 66 rfl) (by decide) (fun h123 => absurd h123 (by decide)) (fun h123 => ?_)
                  refine A_iconst (1) (dX2_one 67 rfl) (by decide +kernel) ?_
                  refine A_goto 131 (dX2_one 68 rfl) (by decide) ?_
                  refine A_ri (dX2_one 70 rfl) rfl (by decide) ?_
                  exact RC_ok (h04.trans (h03.trans h02)) hP4 hT3
                · rw [if_neg h41] at hpp
                  cases hpp
                  refine A_aload_n (dX2_one 63 rfl) rfl ?_
                  refine A_bipush (41) (dX2_one 64 rfl) (by decide +kernel) ?_
                  refine A_callVi 1 (dX2_one 65 rfl) cbX2_take cwX2_44 (r_take E qr gr3 ar (qx 0) n B (hL.of (h03.trans h02)) r1.2.1 41 hP3 (by decide)) rfl rfl wR1_0 rfl rfl [0, 1] rfl rfl (by omega) (Nat.le_of_ble_eq_true rfl) (Nat.le_of_ble_eq_true rfl) (Nat.le_of_ble_eq_true rfl) (Nat.le_of_ble_eq_true rfl) (by rintro _ _ (⟨_, _, _, rfl, _⟩ | ⟨_, _, rfl⟩) <;> exact (Nat.le_of_ble_eq_true rfl)) ?_
                  rintro rt w1 (⟨hq9, rfl, gr4, rfl, h04, hP4⟩ | ⟨hq9, rfl, rfl⟩)
                  · exact absurd hq9 (by assumption)
                  refine AW.world (ws2 := wR E qr gr3 ar (qx 0) qx gx3 ax3) rfl ?_
                  refine AW.pcq (pc2 := 123) rfl ?_
                  refine A_if_eq 130 (dX2_one 66 rfl) (by decide) (fun h123 => ?_) (fun h123 => absurd rfl h123)
                  refine A_iconst (0) (dX2_one 69 rfl) (by decide +kernel) ?_
                  refine A_ri (dX2_one 70 rfl) rfl (by decide) ?_
                  exact RC_bad (by simp) (h03.trans h02) hP3.1 ⟨z + r1.2.2.length, by omega, hT3.1⟩ hT3.2.2.2
              · rw [if_neg hb1] at hpp
                cases hpp
                have hf3 := hf (by simpa using hb1)
                refine A_if_eq 130 (dX2_one 62 rfl) (by decide) (fun h114 => ?_) (fun h114 => absurd (b01_f hb1) h114)
                refine A_iconst (0) (dX2_one 69 rfl) (by decide +kernel) ?_
                refine A_ri (dX2_one 70 rfl) rfl (by decide) ?_
                exact RC_bad hb1 (h03.trans h02) hf3.1 hf3.2.1 hf3.2.2
            · rw [if_neg h40] at hpp
              cases hpp
              refine A_aload_n (dX2_one 53 rfl) rfl ?_
              refine A_bipush (40) (dX2_one 54 rfl) (by decide +kernel) ?_
              refine A_callVi 1 (dX2_one 55 rfl) cbX2_take cwX2_44 (r_take E qr gr ar (qx 0) n B hL i 40 hP (by decide)) rfl rfl wR1_0 rfl rfl [0, 1] rfl rfl (by omega) (Nat.le_of_ble_eq_true rfl) (Nat.le_of_ble_eq_true rfl) (Nat.le_of_ble_eq_true rfl) (Nat.le_of_ble_eq_true rfl) (by rintro _ _ (⟨_, _, _, rfl, _⟩ | ⟨_, _, rfl⟩) <;> exact (Nat.le_of_ble_eq_true rfl)) ?_
              rintro rt w1 (⟨hq9, rfl, gr2, rfl, h02, hP2⟩ | ⟨hq9, rfl, rfl⟩)
              · exact absurd hq9 (by assumption)
              refine AW.world (ws2 := wR E qr gr ar (qx 0) qx gx ax) rfl ?_
              refine AW.pcq (pc2 := 104) rfl ?_
              refine A_if_eq 130 (dX2_one 56 rfl) (by decide) (fun h104 => ?_) (fun h104 => absurd rfl h104)
              refine A_iconst (0) (dX2_one 69 rfl) (by decide +kernel) ?_
              refine A_ri (dX2_one 70 rfl) rfl (by decide) ?_
              exact RC_bad (by simp) rfl hP.1 ⟨z, by omega, hz⟩ rfl
theorem r_all (E : ag) (qr : Nat → Nat) (ar : Nat → Nat → Int32) (qx : Nat → Nat) (n : Nat) (B : Nat → Int32) : ∀ f, KM E qr ar qx n B yX2_either cX2_either 4 0 14 f ∧ KM E qr ar qx n B yX2_both cX2_both 4 1 13 f ∧ KM E qr ar qx n B yX2_denied cX2_denied 4 2 12 f ∧ KM E qr ar qx n B yX2_sum cX2_sum 5 3 11 f ∧ KM E qr ar qx n B yX2_term cX2_term 4 4 10 f ∧ KM E qr ar qx n B yX2_one cX2_one 3 5 9 f ∧ KL E qr ar qx n B mX2_either 6 14 f ∧ KL E qr ar qx n B mX2_both 7 13 f ∧ KL5 E qr ar qx n B mX2_sum 8 11 f ∧ KL E qr ar qx n B mX2_term 9 10 f := by
  intro f
  induction f with
  | zero => exact ⟨fun gr gx ax o i z res h => by simp [pp] at h, fun gr gx ax o i z res h => by simp [pp] at h, fun gr gx ax o i z res h => by simp [pp] at h, fun gr gx ax o i z res h => by simp [pp] at h, fun gr gx ax o i z res h => by simp [pp] at h, fun gr gx ax o i z res h => by simp [pp] at h, fun gr gx ax o i z res h => by simp [pp] at h, fun gr gx ax o i z res h => by simp [pp] at h, fun gr gx ax o i z res h => by simp [pp] at h, fun gr gx ax o i z res h => by simp [pp] at h⟩
  | succ f ih =>
    obtain ⟨h0, h1, h2, h3, h4, h5, h6, h7, h8, h9⟩ := ih
    exact ⟨r_either E qr ar qx n B f h1 h6, r_both E qr ar qx n B f h2 h7, r_denied E qr ar qx n B f h2 h3, r_sum E qr ar qx n B f h4 h8, r_term E qr ar qx n B f h5 h9, r_one E qr ar qx n B f h0 h5, r_either_loop E qr ar qx n B f h1 h6, r_both_loop E qr ar qx n B f h2 h7, r_sum_loop E qr ar qx n B f h4 h8, r_term_loop E qr ar qx n B f h5 h9⟩
