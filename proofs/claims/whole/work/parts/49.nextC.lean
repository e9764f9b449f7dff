set_option maxRecDepth 100000 in
theorem r_nxW (E : ag) (qr : Nat → Nat) (gr : Nat → Int32) (ar : Nat → Nat → Int32) (rir : Nat) (n : Nat) (B : Nat → Int32) (hL : LXC gr ar n B) (post : Option Value → va_W → Prop) : ∀ (f j : Nat), j ≤ n → n < j + f → AW E mX2_next 7 0 0 52 [some (.ref (qr 0))] [] (wR1 E qr (upd gr 2 (nI (skp B f j))) ar rir) post → AW E mX2_next 7 0 0 0 [some (.ref (qr 0))] [] (wR1 E qr (upd gr 2 (nI j)) ar rir) post := by
  have hn160 := hL.2.1
  intro f
  induction f with
  | zero => intro j h1 h2; omega
  | succ f ih =>
    intro j hj hf K
    refine A_aload_n (dX2_next 0 rfl) rfl ?_
    refine A_get (dX2_next 1 rfl) fwX2_22 wR1_0 cR_f0_3 ?_
    refine A_aload_n (dX2_next 2 rfl) rfl ?_
    refine A_get (dX2_next 3 rfl) fwX2_15 wR1_0 cR_f0_1 ?_
    refine A_icmp_ge 52 (dX2_next 4 rfl) (by decide) (fun h8 => ?_) (fun h8 => ?_)
    · have hge : n ≤ j := by
        rcases Nat.lt_or_ge j n with z | z
        · rw [show upd gr 2 (nI j) 0 = nI n from hL.1] at h8; exact absurd h8 (nI_ge z (by omega))
        · exact z
      have hw : ¬ (B j = 32 ∨ B j = 10) := by rw [hL.2.2.2.1 _ hge]; decide
      rw [skp, if_neg hw] at K
      exact K
    · have hlt : j < n := by
        rcases Nat.lt_or_ge j n with z | z
        · exact z
        · rw [show upd gr 2 (nI j) 0 = nI n from hL.1] at h8; exact absurd (nI_le z (by omega)) h8
      refine A_aload_n (dX2_next 5 rfl) rfl ?_
      refine A_get (dX2_next 6 rfl) fwX2_9 wR1_0 cR_f0_0 ?_
      refine A_aload_n (dX2_next 7 rfl) rfl ?_
      refine A_get (dX2_next 8 rfl) fwX2_22 wR1_0 cR_f0_3 ?_
      refine A_iald (dX2_next 9 rfl) wR1_1 (show vp_in (nI j) 160 from vp_in_nI (by omega) (by decide)) ?_
      refine AW.stack (st2 := [.int (B j)]) (by show [Value.int (ar 0 (nI j).toNatClampNeg)] = _; rw [nI_clamp (n := j) (by omega), ← hL.2.2.1 _ hlt]) ?_
      refine A_bipush (32) (dX2_next 10 rfl) (by decide +kernel) ?_
      refine A_icmp_eq 39 (dX2_next 11 rfl) (by decide) (fun h22 => ?_) (fun h22 => ?_)
      · have hw : B j = 32 ∨ B j = 10 := Or.inl h22
        refine A_aload_n (dX2_next 19 rfl) rfl ?_
        refine A_dup (dX2_next 20 rfl) rfl ?_
        refine A_get (dX2_next 21 rfl) fwX2_22 wR1_0 cR_f0_3 ?_
        refine A_iconst (1) (dX2_next 22 rfl) (by decide +kernel) ?_
        refine A_iadd (dX2_next 23 rfl) ?_
        refine AW.stack (st2 := [.int (nI (j + 1)), .ref (qr 0)]) (by show [Value.int (nI j + 1), _] = _; rw [nI_1]) ?_
        refine A_put (dX2_next 24 rfl) fwX2_22 fcX2 ftX2_3 wR1_0 rfl rfl cR_l0 (wR1_p0_3 _) ?_
        refine A_goto 0 (dX2_next 25 rfl) (by decide) ?_
        rw [upd_upd]
        rw [skp, if_pos hw] at K
        exact ih (j + 1) (by omega) (by omega) K
      · refine A_aload_n (dX2_next 12 rfl) rfl ?_
        refine A_get (dX2_next 13 rfl) fwX2_9 wR1_0 cR_f0_0 ?_
        refine A_aload_n (dX2_next 14 rfl) rfl ?_
        refine A_get (dX2_next 15 rfl) fwX2_22 wR1_0 cR_f0_3 ?_
        refine A_iald (dX2_next 16 rfl) wR1_1 (show vp_in (nI j) 160 from vp_in_nI (by omega) (by decide)) ?_
        refine AW.stack (st2 := [.int (B j)]) (by show [Value.int (ar 0 (nI j).toNatClampNeg)] = _; rw [nI_clamp (n := j) (by omega), ← hL.2.2.1 _ hlt]) ?_
        refine A_bipush (10) (dX2_next 17 rfl) (by decide +kernel) ?_
        refine A_icmp_ne 52 (dX2_next 18 rfl) (by decide) (fun h36 => ?_) (fun h36 => ?_)
        · have hw : ¬ (B j = 32 ∨ B j = 10) := fun z => z.elim h22 h36
          rw [skp, if_neg hw] at K
          exact K
        · have hw : B j = 32 ∨ B j = 10 := Or.inr h36
          refine A_aload_n (dX2_next 19 rfl) rfl ?_
          refine A_dup (dX2_next 20 rfl) rfl ?_
          refine A_get (dX2_next 21 rfl) fwX2_22 wR1_0 cR_f0_3 ?_
          refine A_iconst (1) (dX2_next 22 rfl) (by decide +kernel) ?_
          refine A_iadd (dX2_next 23 rfl) ?_
          refine AW.stack (st2 := [.int (nI (j + 1)), .ref (qr 0)]) (by show [Value.int (nI j + 1), _] = _; rw [nI_1]) ?_
          refine A_put (dX2_next 24 rfl) fwX2_22 fcX2 ftX2_3 wR1_0 rfl rfl cR_l0 (wR1_p0_3 _) ?_
          refine A_goto 0 (dX2_next 25 rfl) (by decide) ?_
          rw [upd_upd]
          rw [skp, if_pos hw] at K
          exact ih (j + 1) (by omega) (by omega) K

theorem di_sm {b : Int32} (h : ¬ inI b 48 57 = 0) : inI b 97 122 = 0 := by
  obtain ⟨h1, h2⟩ := inI_yes h
  refine inI_lo (fun z => ?_)
  have e1 : (57 : Int32).toInt = 57 := by decide
  have e2 : (97 : Int32).toInt = 97 := by decide
  have := Int32.le_iff_toInt_le.mp z
  omega
set_option maxRecDepth 100000 in
set_option maxHeartbeats 1000000 in
theorem r_nx52 (E : ag) (qr : Nat → Nat) (gr : Nat → Int32) (ar : Nat → Nat → Int32) (rir : Nat) (n : Nat) (B : Nat → Int32) (hL : LXC gr ar n B) (i : Nat) (hi : i ≤ n) (hg2 : gr 2 = nI (lst B i)) : AW E mX2_next 7 0 0 52 [some (.ref (qr 0))] [] (wR1 E qr gr ar rir) (rv (fun w => ∃ g2 : Nat → Int32, w = wR1 E qr g2 ar rir ∧ g2 0 = gr 0 ∧ RPM B n g2 i)) := by
  have hn160 := hL.2.1
  have hln : lst B i ≤ n := (skp_le hL.2.2.2.1 161 i hi).2
  refine A_aload_n (dX2_next 26 rfl) rfl ?_
  refine A_aload_n (dX2_next 27 rfl) rfl ?_
  refine A_get (dX2_next 28 rfl) fwX2_22 wR1_0 cR_f0_3 ?_
  refine AW.stack (st2 := [.int (nI (lst B i)), .ref (qr 0)]) (by show [Value.int (gr 2), _] = _; rw [hg2]) ?_
  refine A_put (dX2_next 29 rfl) fwX2_19 fcX2 ftX2_2 wR1_0 rfl rfl cR_l0 (wR1_p0_2 _) ?_
  refine A_aload_n (dX2_next 30 rfl) rfl ?_
  refine A_get (dX2_next 31 rfl) fwX2_22 wR1_0 cR_f0_3 ?_
  refine A_aload_n (dX2_next 32 rfl) rfl ?_
  refine A_get (dX2_next 33 rfl) fwX2_15 wR1_0 cR_f0_1 ?_
  refine AW.pcq (pc2 := 68) rfl ?_
  refine A_icmp_lt 79 (dX2_next 34 rfl) (by decide) (fun h68 => ?_) (fun h68 => ?_)
  · have hlt : lst B i < n := by
      rcases Nat.lt_or_ge (lst B i) n with z | z
      · exact z
      · exact absurd (show gr 2 < gr 0 from h68) (by rw [hg2, hL.1]; exact nI_nlt z (by omega))
    have h0 : ¬ B (lst B i) < 0 := hL.2.2.2.2 _ hlt
    refine A_aload_n (dX2_next 39 rfl) rfl ?_
    refine A_get (dX2_next 40 rfl) fwX2_9 wR1_0 cR_f0_0 ?_
    refine A_aload_n (dX2_next 41 rfl) rfl ?_
    refine A_get (dX2_next 42 rfl) fwX2_22 wR1_0 cR_f0_3 ?_
    refine A_iald (dX2_next 43 rfl) wR1_1 (by rw [show upd gr 1 (nI (lst B i)) 2 = nI (lst B i) from hg2]; exact vp_in_nI (n := lst B i) (by omega) (by decide)) ?_
    rw [show upd gr 1 (nI (lst B i)) 2 = nI (lst B i) from hg2, nI_clamp (n := lst B i) (by omega), ← hL.2.2.1 _ hlt]
    refine A_callSWi 1 (dX2_next 44 rfl) cbX2_isDigit cwX2_55 (k_isDigit E _ (B (lst B i))) rfl rfl (Nat.le_of_ble_eq_true rfl) (Nat.le_of_ble_eq_true rfl) (Nat.le_of_ble_eq_true rfl) (Nat.le_of_ble_eq_true rfl) (Nat.le_of_ble_eq_true rfl) ?_
    rintro r88 w1 ⟨rfl, rfl⟩
    refine AW.pcq (pc2 := 91) rfl ?_
    refine A_if_eq 105 (dX2_next 45 rfl) (by decide) (fun h91 => ?_) (fun h91 => ?_)
    · refine A_aload_n (dX2_next 51 rfl) rfl ?_
      refine A_get (dX2_next 52 rfl) fwX2_9 wR1_0 cR_f0_0 ?_
      refine A_aload_n (dX2_next 53 rfl) rfl ?_
      refine A_get (dX2_next 54 rfl) fwX2_22 wR1_0 cR_f0_3 ?_
      refine A_iald (dX2_next 55 rfl) wR1_1 (by rw [show upd gr 1 (nI (lst B i)) 2 = nI (lst B i) from hg2]; exact vp_in_nI (n := lst B i) (by omega) (by decide)) ?_
      rw [show upd gr 1 (nI (lst B i)) 2 = nI (lst B i) from hg2, nI_clamp (n := lst B i) (by omega), ← hL.2.2.1 _ hlt]
      refine A_callSWi 1 (dX2_next 56 rfl) cbX2_isSmall cwX2_62 (k_isSmall E _ (B (lst B i))) rfl rfl (Nat.le_of_ble_eq_true rfl) (Nat.le_of_ble_eq_true rfl) (Nat.le_of_ble_eq_true rfl) (Nat.le_of_ble_eq_true rfl) (Nat.le_of_ble_eq_true rfl) ?_
      rintro r114 w1 ⟨rfl, rfl⟩
      refine AW.pcq (pc2 := 117) rfl ?_
      refine A_if_eq 131 (dX2_next 57 rfl) (by decide) (fun h117 => ?_) (fun h117 => ?_)
      · refine A_aload_n (dX2_next 63 rfl) rfl ?_
        refine A_aload_n (dX2_next 64 rfl) rfl ?_
        refine A_get (dX2_next 65 rfl) fwX2_9 wR1_0 cR_f0_0 ?_
        refine A_aload_n (dX2_next 66 rfl) rfl ?_
        refine A_get (dX2_next 67 rfl) fwX2_22 wR1_0 cR_f0_3 ?_
        refine A_iald (dX2_next 68 rfl) wR1_1 (by rw [show upd gr 1 (nI (lst B i)) 2 = nI (lst B i) from hg2]; exact vp_in_nI (n := lst B i) (by omega) (by decide)) ?_
        rw [show upd gr 1 (nI (lst B i)) 2 = nI (lst B i) from hg2, nI_clamp (n := lst B i) (by omega), ← hL.2.2.1 _ hlt]
        refine A_callSWi 1 (dX2_next 69 rfl) cbX2_isSign cwX2_68 (k_isSign E _ (B (lst B i))) rfl rfl (Nat.le_of_ble_eq_true rfl) (Nat.le_of_ble_eq_true rfl) (Nat.le_of_ble_eq_true rfl) (Nat.le_of_ble_eq_true rfl) (Nat.le_of_ble_eq_true rfl) ?_
        rintro r141 w1 ⟨rfl, rfl⟩
        refine AW.pcq (pc2 := 144) rfl ?_
        refine A_if_eq 159 (dX2_next 70 rfl) (by decide) (fun h144 => ?_) (fun h144 => ?_)
        · refine A_iconst (2) (dX2_next 77 rfl) (by decide +kernel) ?_
          refine A_put (dX2_next 78 rfl) fwX2_25 fcX2 ftX2_4 wR1_0 rfl rfl cR_l0 (wR1_p0_4 _) ?_
          refine A_aload_n (dX2_next 79 rfl) rfl ?_
          refine A_dup (dX2_next 80 rfl) rfl ?_
          refine A_get (dX2_next 81 rfl) fwX2_22 wR1_0 cR_f0_3 ?_
          refine A_iconst (1) (dX2_next 82 rfl) (by decide +kernel) ?_
          refine A_iadd (dX2_next 83 rfl) ?_
          refine AW.stack (st2 := [.int (nI (lst B i + 1)), .ref (qr 0)]) (by show [Value.int (gr 2 + 1), _] = _; rw [hg2, nI_1]) ?_
          refine A_put (dX2_next 84 rfl) fwX2_22 fcX2 ftX2_3 wR1_0 rfl rfl cR_l0 (wR1_p0_3 _) ?_
          refine AW.pcq (pc2 := 173) rfl ?_
          refine A_rv (dX2_next 85 rfl) rfl ?_
          first
            | (obtain ⟨e1, e2, -⟩ := nx_end (tw := 0) hB0
               exact ⟨_, rfl, rfl, rfl, (ck0 e1).symm, fun _ => by rw [e2]; exact hg2, fun z => absurd ((ck0 e1).symm.trans z) (by decide), hi⟩)
            | (have hns : inI (B (lst B i)) 97 122 = 0 := di_sm h91
               obtain ⟨e1, e2, -⟩ := nx_num (tw := 0) h0 hns h91
               by_cases h4' : 4 < dgp B 161 (lst B i) - lst B i
               · rw [if_pos h4'] at e1
                 exact ⟨_, rfl, h2o 0 (by decide) (by decide), h2o 1 (by decide) (by decide), by rw [ck4 e1]; exact if_pos h4', fun z => absurd (ck4 e1) z, fun z => absurd ((ck4 e1).symm.trans z) (by decide), hi⟩
               · rw [if_neg h4'] at e1
                 exact ⟨_, rfl, h2o 0 (by decide) (by decide), h2o 1 (by decide) (by decide), by rw [ck2 e1]; exact if_neg h4', fun _ => by rw [e2]; exact h2, fun _ => by rw [cv_32 e1]; exact h4, hi⟩)
            | (obtain ⟨e1, e2, -⟩ := nx_word (tw := 0) h0 h117
               exact ⟨_, rfl, rfl, rfl, by rw [ck1 e1, e2]; rfl, fun _ => by rw [e2]; rfl, fun z => absurd (ck1 e1 ▸ z) (fun y => by have := (wc_small B (lst B i) (men B i)).1; rw [y] at this; exact absurd this (by decide)), hi⟩)
            | (have hsg : isSg (B (lst B i)) := b01_n.mp h144
               obtain ⟨e1, e2, -⟩ := nx_sign (tw := 0) h0 h117 h91 hsg
               exact ⟨_, rfl, rfl, rfl, by rw [ck3 e1]; rfl, fun _ => by rw [e2]; rfl, fun z => absurd ((ck3 e1).symm.trans z) (fun y => by have := sg_big hsg; rw [y] at this; exact absurd this (by decide)), hi⟩)
            | (have hsg : ¬ isSg (B (lst B i)) := b01_0.mp h144
               obtain ⟨e1, e2, -⟩ := nx_wrong (tw := 0) h0 h117 h91 hsg
               exact ⟨_, rfl, rfl, rfl, by rw [ck4 e1]; rfl, fun z => absurd (ck4 e1) z, fun z => absurd ((ck4 e1).symm.trans z) (by decide), hi⟩)
        · refine A_aload_n (dX2_next 71 rfl) rfl ?_
          refine A_get (dX2_next 72 rfl) fwX2_9 wR1_0 cR_f0_0 ?_
          refine A_aload_n (dX2_next 73 rfl) rfl ?_
          refine A_get (dX2_next 74 rfl) fwX2_22 wR1_0 cR_f0_3 ?_
          refine A_iald (dX2_next 75 rfl) wR1_1 (by rw [show upd gr 1 (nI (lst B i)) 2 = nI (lst B i) from hg2]; exact vp_in_nI (n := lst B i) (by omega) (by decide)) ?_
          rw [show upd gr 1 (nI (lst B i)) 2 = nI (lst B i) from hg2, nI_clamp (n := lst B i) (by omega), ← hL.2.2.1 _ hlt]
          refine A_goto 160 (dX2_next 76 rfl) (by decide) ?_
          refine A_put (dX2_next 78 rfl) fwX2_25 fcX2 ftX2_4 wR1_0 rfl rfl cR_l0 (wR1_p0_4 _) ?_
          refine A_aload_n (dX2_next 79 rfl) rfl ?_
          refine A_dup (dX2_next 80 rfl) rfl ?_
          refine A_get (dX2_next 81 rfl) fwX2_22 wR1_0 cR_f0_3 ?_
          refine A_iconst (1) (dX2_next 82 rfl) (by decide +kernel) ?_
          refine A_iadd (dX2_next 83 rfl) ?_
          refine AW.stack (st2 := [.int (nI (lst B i + 1)), .ref (qr 0)]) (by show [Value.int (gr 2 + 1), _] = _; rw [hg2, nI_1]) ?_
          refine A_put (dX2_next 84 rfl) fwX2_22 fcX2 ftX2_3 wR1_0 rfl rfl cR_l0 (wR1_p0_3 _) ?_
          refine A_rv (dX2_next 85 rfl) rfl ?_
          first
            | (obtain ⟨e1, e2, -⟩ := nx_end (tw := 0) hB0
               exact ⟨_, rfl, rfl, rfl, (ck0 e1).symm, fun _ => by rw [e2]; exact hg2, fun z => absurd ((ck0 e1).symm.trans z) (by decide), hi⟩)
            | (have hns : inI (B (lst B i)) 97 122 = 0 := di_sm h91
               obtain ⟨e1, e2, -⟩ := nx_num (tw := 0) h0 hns h91
               by_cases h4' : 4 < dgp B 161 (lst B i) - lst B i
               · rw [if_pos h4'] at e1
                 exact ⟨_, rfl, h2o 0 (by decide) (by decide), h2o 1 (by decide) (by decide), by rw [ck4 e1]; exact if_pos h4', fun z => absurd (ck4 e1) z, fun z => absurd ((ck4 e1).symm.trans z) (by decide), hi⟩
               · rw [if_neg h4'] at e1
                 exact ⟨_, rfl, h2o 0 (by decide) (by decide), h2o 1 (by decide) (by decide), by rw [ck2 e1]; exact if_neg h4', fun _ => by rw [e2]; exact h2, fun _ => by rw [cv_32 e1]; exact h4, hi⟩)
            | (obtain ⟨e1, e2, -⟩ := nx_word (tw := 0) h0 h117
               exact ⟨_, rfl, rfl, rfl, by rw [ck1 e1, e2]; rfl, fun _ => by rw [e2]; rfl, fun z => absurd (ck1 e1 ▸ z) (fun y => by have := (wc_small B (lst B i) (men B i)).1; rw [y] at this; exact absurd this (by decide)), hi⟩)
            | (have hsg : isSg (B (lst B i)) := b01_n.mp h144
               obtain ⟨e1, e2, -⟩ := nx_sign (tw := 0) h0 h117 h91 hsg
               exact ⟨_, rfl, rfl, rfl, by rw [ck3 e1]; rfl, fun _ => by rw [e2]; rfl, fun z => absurd ((ck3 e1).symm.trans z) (fun y => by have := sg_big hsg; rw [y] at this; exact absurd this (by decide)), hi⟩)
            | (have hsg : ¬ isSg (B (lst B i)) := b01_0.mp h144
               obtain ⟨e1, e2, -⟩ := nx_wrong (tw := 0) h0 h117 h91 hsg
               exact ⟨_, rfl, rfl, rfl, by rw [ck4 e1]; rfl, fun z => absurd (ck4 e1) z, fun z => absurd ((ck4 e1).symm.trans z) (by decide), hi⟩)
      · refine A_aload_n (dX2_next 58 rfl) rfl ?_
        refine A_aload_n (dX2_next 59 rfl) rfl ?_
        refine A_callVWi 0 (dX2_next 60 rfl) cbX2_wordHere cwX2_65 (r_wordHere E qr (upd gr 1 (nI (lst B i))) ar rir n B (LXC.put hL (k := 1) (v := nI (lst B i)) (by decide)) (lst B i) hln rfl hg2) rfl rfl wR1_0 rfl rfl (Nat.le_of_ble_eq_true rfl) (Nat.le_of_ble_eq_true rfl) (Nat.le_of_ble_eq_true rfl) (Nat.le_of_ble_eq_true rfl) (Nat.le_of_ble_eq_true rfl) ?_
        rintro r122 w1 ⟨rfl, rfl⟩
        refine AW.pcq (pc2 := 125) rfl ?_
        refine A_put (dX2_next 61 rfl) fwX2_25 fcX2 ftX2_4 wR1_0 rfl rfl cR_l0 (wR1_p0_4 _) ?_
        refine A_goto 173 (dX2_next 62 rfl) (by decide) ?_
        refine A_rv (dX2_next 85 rfl) rfl ?_
        first
          | (obtain ⟨e1, e2, -⟩ := nx_end (tw := 0) hB0
             exact ⟨_, rfl, rfl, rfl, (ck0 e1).symm, fun _ => by rw [e2]; exact hg2, fun z => absurd ((ck0 e1).symm.trans z) (by decide), hi⟩)
          | (have hns : inI (B (lst B i)) 97 122 = 0 := di_sm h91
             obtain ⟨e1, e2, -⟩ := nx_num (tw := 0) h0 hns h91
             by_cases h4' : 4 < dgp B 161 (lst B i) - lst B i
             · rw [if_pos h4'] at e1
               exact ⟨_, rfl, h2o 0 (by decide) (by decide), h2o 1 (by decide) (by decide), by rw [ck4 e1]; exact if_pos h4', fun z => absurd (ck4 e1) z, fun z => absurd ((ck4 e1).symm.trans z) (by decide), hi⟩
             · rw [if_neg h4'] at e1
               exact ⟨_, rfl, h2o 0 (by decide) (by decide), h2o 1 (by decide) (by decide), by rw [ck2 e1]; exact if_neg h4', fun _ => by rw [e2]; exact h2, fun _ => by rw [cv_32 e1]; exact h4, hi⟩)
          | (obtain ⟨e1, e2, -⟩ := nx_word (tw := 0) h0 h117
             exact ⟨_, rfl, rfl, rfl, by rw [ck1 e1, e2]; rfl, fun _ => by rw [e2]; rfl, fun z => absurd (ck1 e1 ▸ z) (fun y => by have := (wc_small B (lst B i) (men B i)).1; rw [y] at this; exact absurd this (by decide)), hi⟩)
          | (have hsg : isSg (B (lst B i)) := b01_n.mp h144
             obtain ⟨e1, e2, -⟩ := nx_sign (tw := 0) h0 h117 h91 hsg
             exact ⟨_, rfl, rfl, rfl, by rw [ck3 e1]; rfl, fun _ => by rw [e2]; rfl, fun z => absurd ((ck3 e1).symm.trans z) (fun y => by have := sg_big hsg; rw [y] at this; exact absurd this (by decide)), hi⟩)
          | (have hsg : ¬ isSg (B (lst B i)) := b01_0.mp h144
             obtain ⟨e1, e2, -⟩ := nx_wrong (tw := 0) h0 h117 h91 hsg
             exact ⟨_, rfl, rfl, rfl, by rw [ck4 e1]; rfl, fun z => absurd (ck4 e1) z, fun z => absurd ((ck4 e1).symm.trans z) (by decide), hi⟩)
    · refine A_aload_n (dX2_next 46 rfl) rfl ?_
      refine A_aload_n (dX2_next 47 rfl) rfl ?_
      refine A_callVWi 0 (dX2_next 48 rfl) cbX2_numberHere cwX2_58 (r_numberHere E qr (upd gr 1 (nI (lst B i))) ar rir n B (LXC.put hL (k := 1) (v := nI (lst B i)) (by decide)) (lst B i) hln rfl hg2) rfl rfl wR1_0 rfl rfl (Nat.le_of_ble_eq_true rfl) (Nat.le_of_ble_eq_true rfl) (Nat.le_of_ble_eq_true rfl) (Nat.le_of_ble_eq_true rfl) (Nat.le_of_ble_eq_true rfl) ?_
      rintro r96 w1 ⟨rfl, g2, rfl, h2, h4, h2o⟩
      refine AW.pcq (pc2 := 99) rfl ?_
      refine A_put (dX2_next 49 rfl) fwX2_25 fcX2 ftX2_4 wR1_0 rfl rfl cR_l0 (wR1_p0_4 _) ?_
      refine A_goto 173 (dX2_next 50 rfl) (by decide) ?_
      refine A_rv (dX2_next 85 rfl) rfl ?_
      first
        | (obtain ⟨e1, e2, -⟩ := nx_end (tw := 0) hB0
           exact ⟨_, rfl, rfl, rfl, (ck0 e1).symm, fun _ => by rw [e2]; exact hg2, fun z => absurd ((ck0 e1).symm.trans z) (by decide), hi⟩)
        | (have hns : inI (B (lst B i)) 97 122 = 0 := di_sm h91
           obtain ⟨e1, e2, -⟩ := nx_num (tw := 0) h0 hns h91
           by_cases h4' : 4 < dgp B 161 (lst B i) - lst B i
           · rw [if_pos h4'] at e1
             exact ⟨_, rfl, h2o 0 (by decide) (by decide), h2o 1 (by decide) (by decide), by rw [ck4 e1]; exact if_pos h4', fun z => absurd (ck4 e1) z, fun z => absurd ((ck4 e1).symm.trans z) (by decide), hi⟩
           · rw [if_neg h4'] at e1
             exact ⟨_, rfl, h2o 0 (by decide) (by decide), h2o 1 (by decide) (by decide), by rw [ck2 e1]; exact if_neg h4', fun _ => by rw [e2]; exact h2, fun _ => by rw [cv_32 e1]; exact h4, hi⟩)
        | (obtain ⟨e1, e2, -⟩ := nx_word (tw := 0) h0 h117
           exact ⟨_, rfl, rfl, rfl, by rw [ck1 e1, e2]; rfl, fun _ => by rw [e2]; rfl, fun z => absurd (ck1 e1 ▸ z) (fun y => by have := (wc_small B (lst B i) (men B i)).1; rw [y] at this; exact absurd this (by decide)), hi⟩)
        | (have hsg : isSg (B (lst B i)) := b01_n.mp h144
           obtain ⟨e1, e2, -⟩ := nx_sign (tw := 0) h0 h117 h91 hsg
           exact ⟨_, rfl, rfl, rfl, by rw [ck3 e1]; rfl, fun _ => by rw [e2]; rfl, fun z => absurd ((ck3 e1).symm.trans z) (fun y => by have := sg_big hsg; rw [y] at this; exact absurd this (by decide)), hi⟩)
        | (have hsg : ¬ isSg (B (lst B i)) := b01_0.mp h144
           obtain ⟨e1, e2, -⟩ := nx_wrong (tw := 0) h0 h117 h91 hsg
           exact ⟨_, rfl, rfl, rfl, by rw [ck4 e1]; rfl, fun z => absurd (ck4 e1) z, fun z => absurd ((ck4 e1).symm.trans z) (by decide), hi⟩)
  · have hge : n ≤ lst B i := by
      rcases Nat.lt_or_ge (lst B i) n with z | z
      · exact absurd (show gr 2 < gr 0 by rw [hg2, hL.1]; exact nI_lt z (by omega)) h68
      · exact z
    have hB1 : B (lst B i) = -1 := hL.2.2.2.1 _ hge
    have hB0 : B (lst B i) < 0 := by rw [hB1]; decide
    refine A_aload_n (dX2_next 35 rfl) rfl ?_
    refine A_iconst (0) (dX2_next 36 rfl) (by decide +kernel) ?_
    refine A_put (dX2_next 37 rfl) fwX2_25 fcX2 ftX2_4 wR1_0 rfl rfl cR_l0 (wR1_p0_4 _) ?_
    refine A_goto 173 (dX2_next 38 rfl) (by decide) ?_
    refine A_rv (dX2_next 85 rfl) rfl ?_
    first
      | (obtain ⟨e1, e2, -⟩ := nx_end (tw := 0) hB0
         exact ⟨_, rfl, rfl, rfl, (ck0 e1).symm, fun _ => by rw [e2]; exact hg2, fun z => absurd ((ck0 e1).symm.trans z) (by decide), hi⟩)
      | (have hns : inI (B (lst B i)) 97 122 = 0 := di_sm h91
         obtain ⟨e1, e2, -⟩ := nx_num (tw := 0) h0 hns h91
         by_cases h4' : 4 < dgp B 161 (lst B i) - lst B i
         · rw [if_pos h4'] at e1
           exact ⟨_, rfl, h2o 0 (by decide) (by decide), h2o 1 (by decide) (by decide), by rw [ck4 e1]; exact if_pos h4', fun z => absurd (ck4 e1) z, fun z => absurd ((ck4 e1).symm.trans z) (by decide), hi⟩
         · rw [if_neg h4'] at e1
           exact ⟨_, rfl, h2o 0 (by decide) (by decide), h2o 1 (by decide) (by decide), by rw [ck2 e1]; exact if_neg h4', fun _ => by rw [e2]; exact h2, fun _ => by rw [cv_32 e1]; exact h4, hi⟩)
      | (obtain ⟨e1, e2, -⟩ := nx_word (tw := 0) h0 h117
         exact ⟨_, rfl, rfl, rfl, by rw [ck1 e1, e2]; rfl, fun _ => by rw [e2]; rfl, fun z => absurd (ck1 e1 ▸ z) (fun y => by have := (wc_small B (lst B i) (men B i)).1; rw [y] at this; exact absurd this (by decide)), hi⟩)
      | (have hsg : isSg (B (lst B i)) := b01_n.mp h144
         obtain ⟨e1, e2, -⟩ := nx_sign (tw := 0) h0 h117 h91 hsg
         exact ⟨_, rfl, rfl, rfl, by rw [ck3 e1]; rfl, fun _ => by rw [e2]; rfl, fun z => absurd ((ck3 e1).symm.trans z) (fun y => by have := sg_big hsg; rw [y] at this; exact absurd this (by decide)), hi⟩)
      | (have hsg : ¬ isSg (B (lst B i)) := b01_0.mp h144
         obtain ⟨e1, e2, -⟩ := nx_wrong (tw := 0) h0 h117 h91 hsg
         exact ⟨_, rfl, rfl, rfl, by rw [ck4 e1]; rfl, fun z => absurd (ck4 e1) z, fun z => absurd ((ck4 e1).symm.trans z) (by decide), hi⟩)

theorem r_next (E : ag) (qr : Nat → Nat) (gr : Nat → Int32) (ar : Nat → Nat → Int32) (rir : Nat) (n : Nat) (B : Nat → Int32) (hL : LXC gr ar n B) (i : Nat) (hi : i ≤ n) (hg2 : gr 2 = nI i) : CT E yX2_next cX2_next 1 mX2_next.2.2.2.1 7 0 0 [.ref (qr 0)] (wR1 E qr gr ar rir) (rv (fun w => ∃ g2 : Nat → Int32, w = wR1 E qr g2 ar rir ∧ g2 0 = gr 0 ∧ RPM B n g2 i)) := by
  refine CT.of (M := mX2_next) (ls := [some (.ref (qr 0))]) (by decide) rfl (by decide) rfl (Nat.le_of_ble_eq_true rfl) ?_
  refine AW.world (ws2 := wR1 E qr (upd gr 2 (nI i)) ar rir) (by rw [upd_self hg2]) ?_
  refine r_nxW E qr gr ar rir n B hL _ 161 i hi (by have := hL.2.1; omega) ?_
  exact r_nx52 E qr (upd gr 2 (nI (lst B i))) ar rir n B (hL.put (by decide)) i hi rfl
set_option maxRecDepth 100000 in
set_option maxHeartbeats 400000 in
theorem r_take (E : ag) (qr : Nat → Nat) (gr : Nat → Int32) (ar : Nat → Nat → Int32) (rir : Nat) (n : Nat) (B : Nat → Int32) (hL : LXC gr ar n B) (i : Nat) (v : Int32) (hP : RPM B n gr i) (hv : ¬ v = 2) : CT E yX2_take cX2_take 2 mX2_take.2.2.2.1 8 0 0 [.ref (qr 0), .int v] (wR1 E qr gr ar rir) (ri (fun r w => (ck B i = v ∧ r = 1 ∧ ∃ g2 : Nat → Int32, w = wR1 E qr g2 ar rir ∧ g2 0 = gr 0 ∧ RPM B n g2 (men B i)) ∨ (¬ ck B i = v ∧ r = 0 ∧ w = wR1 E qr gr ar rir))) := by
  refine CT.of (M := mX2_take) (ls := [some (.ref (qr 0)), some (.int v)]) (by decide) rfl (by decide) rfl (Nat.le_of_ble_eq_true rfl) ?_
  refine A_aload_n (dX2_take 0 rfl) rfl ?_
  refine A_get (dX2_take 1 rfl) fwX2_25 wR1_0 cR_f0_4 ?_
  refine A_iload_n (dX2_take 2 rfl) rfl ?_
  refine A_icmp_eq 10 (dX2_take 3 rfl) (by decide) (fun h5 => ?_) (fun h5 => ?_)
  · have hck : ck B i = v := hP.2.1.symm.trans h5
    refine A_aload_n (dX2_take 6 rfl) rfl ?_
    refine A_callVWv 0 (dX2_take 7 rfl) cbX2_next cwX2_41 (r_next E qr gr ar rir n B hL (men B i) (men_leL hL.2.2.2.1 hP.2.2.2.2).1 (hP.2.2.1 (by rw [hck]; exact hv))) rfl rfl wR1_0 rfl rfl (Nat.le_of_ble_eq_true rfl) (Nat.le_of_ble_eq_true rfl) (Nat.le_of_ble_eq_true rfl) (Nat.le_of_ble_eq_true rfl) (Nat.le_of_ble_eq_true rfl) ?_
    rintro w1 ⟨g2, rfl, h0, hP2⟩
    refine AW.pcq (pc2 := 14) rfl ?_
    refine A_iconst (1) (dX2_take 8 rfl) (by decide +kernel) ?_
    refine A_ri (dX2_take 9 rfl) rfl (by decide) ?_
    exact Or.inl ⟨hck, rfl, g2, rfl, h0, hP2⟩
  · have hck : ¬ ck B i = v := fun z => h5 (hP.2.1.trans z)
    refine A_iconst (0) (dX2_take 4 rfl) (by decide +kernel) ?_
    refine A_ri (dX2_take 5 rfl) rfl (by decide) ?_
    exact Or.inr ⟨hck, rfl, rfl⟩

