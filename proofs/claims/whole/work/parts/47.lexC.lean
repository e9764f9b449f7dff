/-- the class's text on its tape: n bytes -/
def LXC (gr : Nat → Int32) (ar : Nat → Nat → Int32) (n : Nat) (B : Nat → Int32) : Prop := gr 0 = nI n ∧ n ≤ 160 ∧ (∀ k, k < n → B k = ar 0 k) ∧ (∀ k, n ≤ k → B k = -1) ∧ ∀ k, k < n → ¬ B k < 0
theorem LXC.put {gr : Nat → Int32} {ar : Nat → Nat → Int32} {n : Nat} {B : Nat → Int32} (h : LXC gr ar n B) {k : Nat} (hk : k ≠ 0) {v : Int32} : LXC (upd gr k v) ar n B := by
  refine ⟨?_, h.2⟩
  simp only [upd]
  rw [if_neg (fun z => hk z.symm)]
  exact h.1
set_option maxRecDepth 100000 in
set_option maxHeartbeats 400000 in
theorem k_isDigit (E : ag) (ws : va_W) (b : Int32) : CT E yX2_isDigit cX2_isDigit 1 mX2_isDigit.2.2.2.1 1 0 0 [.int b] (ws) (ri (fun r w => r = inI b 48 57 ∧ w = ws)) := by
  refine CT.of (M := mX2_isDigit) (ls := [some (.int b)]) (by decide) rfl (by decide) rfl (Nat.le_of_ble_eq_true rfl) ?_
  refine A_iload_n (dX2_isDigit 0 rfl) rfl ?_
  refine A_bipush (48) (dX2_isDigit 1 rfl) (by decide +kernel) ?_
  refine A_icmp_lt 16 (dX2_isDigit 2 rfl) (by decide) (fun h3 => ?_) (fun h3 => ?_)
  · refine A_iconst (0) (dX2_isDigit 8 rfl) (by decide +kernel) ?_
    refine A_ri (dX2_isDigit 9 rfl) rfl (by decide) ?_
    refine ⟨?_, rfl⟩
    first | exact (inI_lo (fun z => absurd z (Int32.not_le.mpr (by assumption)))).symm | exact (inI_hi (fun z => absurd z (Int32.not_le.mpr (by assumption)))).symm | exact (inI_of (Int32.not_lt.mp (by assumption)) (Int32.not_lt.mp (by assumption))).symm
  · refine A_iload_n (dX2_isDigit 3 rfl) rfl ?_
    refine A_bipush (57) (dX2_isDigit 4 rfl) (by decide +kernel) ?_
    refine A_icmp_gt 16 (dX2_isDigit 5 rfl) (by decide) (fun h9 => ?_) (fun h9 => ?_)
    · refine A_iconst (0) (dX2_isDigit 8 rfl) (by decide +kernel) ?_
      refine A_ri (dX2_isDigit 9 rfl) rfl (by decide) ?_
      refine ⟨?_, rfl⟩
      first | exact (inI_lo (fun z => absurd z (Int32.not_le.mpr (by assumption)))).symm | exact (inI_hi (fun z => absurd z (Int32.not_le.mpr (by assumption)))).symm | exact (inI_of (Int32.not_lt.mp (by assumption)) (Int32.not_lt.mp (by assumption))).symm
    · refine A_iconst (1) (dX2_isDigit 6 rfl) (by decide +kernel) ?_
      refine A_goto 17 (dX2_isDigit 7 rfl) (by decide) ?_
      refine A_ri (dX2_isDigit 9 rfl) rfl (by decide) ?_
      refine ⟨?_, rfl⟩
      first | exact (inI_lo (fun z => absurd z (Int32.not_le.mpr (by assumption)))).symm | exact (inI_hi (fun z => absurd z (Int32.not_le.mpr (by assumption)))).symm | exact (inI_of (Int32.not_lt.mp (by assumption)) (Int32.not_lt.mp (by assumption))).symm

set_option maxRecDepth 100000 in
set_option maxHeartbeats 400000 in
theorem k_isSmall (E : ag) (ws : va_W) (b : Int32) : CT E yX2_isSmall cX2_isSmall 1 mX2_isSmall.2.2.2.1 1 0 0 [.int b] (ws) (ri (fun r w => r = inI b 97 122 ∧ w = ws)) := by
  refine CT.of (M := mX2_isSmall) (ls := [some (.int b)]) (by decide) rfl (by decide) rfl (Nat.le_of_ble_eq_true rfl) ?_
  refine A_iload_n (dX2_isSmall 0 rfl) rfl ?_
  refine A_bipush (97) (dX2_isSmall 1 rfl) (by decide +kernel) ?_
  refine A_icmp_lt 16 (dX2_isSmall 2 rfl) (by decide) (fun h3 => ?_) (fun h3 => ?_)
  · refine A_iconst (0) (dX2_isSmall 8 rfl) (by decide +kernel) ?_
    refine A_ri (dX2_isSmall 9 rfl) rfl (by decide) ?_
    refine ⟨?_, rfl⟩
    first | exact (inI_lo (fun z => absurd z (Int32.not_le.mpr (by assumption)))).symm | exact (inI_hi (fun z => absurd z (Int32.not_le.mpr (by assumption)))).symm | exact (inI_of (Int32.not_lt.mp (by assumption)) (Int32.not_lt.mp (by assumption))).symm
  · refine A_iload_n (dX2_isSmall 3 rfl) rfl ?_
    refine A_bipush (122) (dX2_isSmall 4 rfl) (by decide +kernel) ?_
    refine A_icmp_gt 16 (dX2_isSmall 5 rfl) (by decide) (fun h9 => ?_) (fun h9 => ?_)
    · refine A_iconst (0) (dX2_isSmall 8 rfl) (by decide +kernel) ?_
      refine A_ri (dX2_isSmall 9 rfl) rfl (by decide) ?_
      refine ⟨?_, rfl⟩
      first | exact (inI_lo (fun z => absurd z (Int32.not_le.mpr (by assumption)))).symm | exact (inI_hi (fun z => absurd z (Int32.not_le.mpr (by assumption)))).symm | exact (inI_of (Int32.not_lt.mp (by assumption)) (Int32.not_lt.mp (by assumption))).symm
    · refine A_iconst (1) (dX2_isSmall 6 rfl) (by decide +kernel) ?_
      refine A_goto 17 (dX2_isSmall 7 rfl) (by decide) ?_
      refine A_ri (dX2_isSmall 9 rfl) rfl (by decide) ?_
      refine ⟨?_, rfl⟩
      first | exact (inI_lo (fun z => absurd z (Int32.not_le.mpr (by assumption)))).symm | exact (inI_hi (fun z => absurd z (Int32.not_le.mpr (by assumption)))).symm | exact (inI_of (Int32.not_lt.mp (by assumption)) (Int32.not_lt.mp (by assumption))).symm

set_option maxRecDepth 100000 in
set_option maxHeartbeats 400000 in
theorem k_isSign (E : ag) (ws : va_W) (b : Int32) : CT E yX2_isSign cX2_isSign 1 mX2_isSign.2.2.2.1 1 0 0 [.int b] (ws) (ri (fun r w => r = b01 (isSg b) ∧ w = ws)) := by
  refine CT.of (M := mX2_isSign) (ls := [some (.int b)]) (by decide) rfl (by decide) rfl (Nat.le_of_ble_eq_true rfl) ?_
  refine A_iload_n (dX2_isSign 0 rfl) rfl ?_
  refine A_bipush (40) (dX2_isSign 1 rfl) (by decide +kernel) ?_
  refine A_icmp_eq 48 (dX2_isSign 2 rfl) (by decide) (fun h3 => ?_) (fun h3 => ?_)
  · refine A_iconst (1) (dX2_isSign 24 rfl) (by decide +kernel) ?_
    refine A_goto 53 (dX2_isSign 25 rfl) (by decide) ?_
    refine A_ri (dX2_isSign 27 rfl) rfl (by decide) ?_
    refine ⟨?_, rfl⟩
    first | exact (b01_t (by unfold isSg; simp_all)).symm | exact (b01_f (by unfold isSg; simp_all)).symm
  · refine A_iload_n (dX2_isSign 3 rfl) rfl ?_
    refine A_bipush (41) (dX2_isSign 4 rfl) (by decide +kernel) ?_
    refine A_icmp_eq 48 (dX2_isSign 5 rfl) (by decide) (fun h9 => ?_) (fun h9 => ?_)
    · refine A_iconst (1) (dX2_isSign 24 rfl) (by decide +kernel) ?_
      refine A_goto 53 (dX2_isSign 25 rfl) (by decide) ?_
      refine A_ri (dX2_isSign 27 rfl) rfl (by decide) ?_
      refine ⟨?_, rfl⟩
      first | exact (b01_t (by unfold isSg; simp_all)).symm | exact (b01_f (by unfold isSg; simp_all)).symm
    · refine A_iload_n (dX2_isSign 6 rfl) rfl ?_
      refine A_bipush (59) (dX2_isSign 7 rfl) (by decide +kernel) ?_
      refine A_icmp_eq 48 (dX2_isSign 8 rfl) (by decide) (fun h15 => ?_) (fun h15 => ?_)
      · refine A_iconst (1) (dX2_isSign 24 rfl) (by decide +kernel) ?_
        refine A_goto 53 (dX2_isSign 25 rfl) (by decide) ?_
        refine A_ri (dX2_isSign 27 rfl) rfl (by decide) ?_
        refine ⟨?_, rfl⟩
        first | exact (b01_t (by unfold isSg; simp_all)).symm | exact (b01_f (by unfold isSg; simp_all)).symm
      · refine A_iload_n (dX2_isSign 9 rfl) rfl ?_
        refine A_bipush (43) (dX2_isSign 10 rfl) (by decide +kernel) ?_
        refine A_icmp_eq 48 (dX2_isSign 11 rfl) (by decide) (fun h21 => ?_) (fun h21 => ?_)
        · refine A_iconst (1) (dX2_isSign 24 rfl) (by decide +kernel) ?_
          refine A_goto 53 (dX2_isSign 25 rfl) (by decide) ?_
          refine A_ri (dX2_isSign 27 rfl) rfl (by decide) ?_
          refine ⟨?_, rfl⟩
          first | exact (b01_t (by unfold isSg; simp_all)).symm | exact (b01_f (by unfold isSg; simp_all)).symm
        · refine A_iload_n (dX2_isSign 12 rfl) rfl ?_
          refine A_bipush (45) (dX2_isSign 13 rfl) (by decide +kernel) ?_
          refine A_icmp_eq 48 (dX2_isSign 14 rfl) (by decide) (fun h27 => ?_) (fun h27 => ?_)
          · refine A_iconst (1) (dX2_isSign 24 rfl) (by decide +kernel) ?_
            refine A_goto 53 (dX2_isSign 25 rfl) (by decide) ?_
            refine A_ri (dX2_isSign 27 rfl) rfl (by decide) ?_
            refine ⟨?_, rfl⟩
            first | exact (b01_t (by unfold isSg; simp_all)).symm | exact (b01_f (by unfold isSg; simp_all)).symm
          · refine A_iload_n (dX2_isSign 15 rfl) rfl ?_
            refine A_bipush (42) (dX2_isSign 16 rfl) (by decide +kernel) ?_
            refine A_icmp_eq 48 (dX2_isSign 17 rfl) (by decide) (fun h33 => ?_) (fun h33 => ?_)
            · refine A_iconst (1) (dX2_isSign 24 rfl) (by decide +kernel) ?_
              refine A_goto 53 (dX2_isSign 25 rfl) (by decide) ?_
              refine A_ri (dX2_isSign 27 rfl) rfl (by decide) ?_
              refine ⟨?_, rfl⟩
              first | exact (b01_t (by unfold isSg; simp_all)).symm | exact (b01_f (by unfold isSg; simp_all)).symm
            · refine A_iload_n (dX2_isSign 18 rfl) rfl ?_
              refine A_bipush (60) (dX2_isSign 19 rfl) (by decide +kernel) ?_
              refine A_icmp_eq 48 (dX2_isSign 20 rfl) (by decide) (fun h39 => ?_) (fun h39 => ?_)
              · refine A_iconst (1) (dX2_isSign 24 rfl) (by decide +kernel) ?_
                refine A_goto 53 (dX2_isSign 25 rfl) (by decide) ?_
                refine A_ri (dX2_isSign 27 rfl) rfl (by decide) ?_
                refine ⟨?_, rfl⟩
                first | exact (b01_t (by unfold isSg; simp_all)).symm | exact (b01_f (by unfold isSg; simp_all)).symm
              · refine A_iload_n (dX2_isSign 21 rfl) rfl ?_
                refine A_bipush (61) (dX2_isSign 22 rfl) (by decide +kernel) ?_
                refine A_icmp_ne 52 (dX2_isSign 23 rfl) (by decide) (fun h45 => ?_) (fun h45 => ?_)
                · refine A_iconst (0) (dX2_isSign 26 rfl) (by decide +kernel) ?_
                  refine A_ri (dX2_isSign 27 rfl) rfl (by decide) ?_
                  refine ⟨?_, rfl⟩
                  first | exact (b01_t (by unfold isSg; simp_all)).symm | exact (b01_f (by unfold isSg; simp_all)).symm
                · refine A_iconst (1) (dX2_isSign 24 rfl) (by decide +kernel) ?_
                  refine A_goto 53 (dX2_isSign 25 rfl) (by decide) ?_
                  refine A_ri (dX2_isSign 27 rfl) rfl (by decide) ?_
                  refine ⟨?_, rfl⟩
                  first | exact (b01_t (by unfold isSg; simp_all)).symm | exact (b01_f (by unfold isSg; simp_all)).symm

set_option maxRecDepth 100000 in
set_option maxHeartbeats 400000 in
theorem x_clear (E : ag) (qx : Nat → Nat) (gx : Nat → Int32) (ax : Nat → Nat → Int32) : CT E yX4_clear cX4_clear 1 mX4_clear.2.2.2.1 1 0 0 [.ref (qx 0)] (wT E qx gx ax) (rv (fun w => w = wT E qx (upd gx 0 0) ax)) := by
  refine CT.of (M := mX4_clear) (ls := [some (.ref (qx 0))]) (by decide) rfl (by decide) rfl (Nat.le_of_ble_eq_true rfl) ?_
  refine A_aload_n (dX4_clear 0 rfl) rfl ?_
  refine A_iconst (0) (dX4_clear 1 rfl) (by decide +kernel) ?_
  refine A_put (dX4_clear 2 rfl) fwX4_18 fcX4 ftX4_2 wT_0 rfl rfl cT_l0 (wT_p0_2 _) ?_
  refine A_rv (dX4_clear 3 rfl) rfl ?_
  exact rfl

set_option maxRecDepth 100000 in
set_option maxHeartbeats 400000 in
theorem x_endPart (E : ag) (qx : Nat → Nat) (gx : Nat → Int32) (ax : Nat → Nat → Int32) (p : Nat) (hp : p < 3) : CT E yX4_endPart cX4_endPart 2 mX4_endPart.2.2.2.1 1 0 0 [.ref (qx 0), .int (nI p)] (wT E qx gx ax) (rv (fun w => w = wT E qx gx (va_up ax 1 (upd (ax 1) (p + 1) (gx 0))))) := by
  refine CT.of (M := mX4_endPart) (ls := [some (.ref (qx 0)), some (.int (nI p))]) (by decide) rfl (by decide) rfl (Nat.le_of_ble_eq_true rfl) ?_
  refine A_aload_n (dX4_endPart 0 rfl) rfl ?_
  refine A_get (dX4_endPart 1 rfl) fwX4_15 wT_0 cT_f0_1 ?_
  refine A_iload_n (dX4_endPart 2 rfl) rfl ?_
  refine A_iconst (1) (dX4_endPart 3 rfl) (by decide +kernel) ?_
  refine A_iadd (dX4_endPart 4 rfl) ?_
  rw [nI_1]
  refine A_aload_n (dX4_endPart 5 rfl) rfl ?_
  refine A_get (dX4_endPart 6 rfl) fwX4_18 wT_0 cT_f0_2 ?_
  refine A_iast (dX4_endPart 7 rfl) wT_2 (vp_in_nI (n := p + 1) (by omega) (by decide)) (wT_s2 _) ?_
  rw [nI_clamp (n := p + 1) (by omega)]
  refine AW.pcq (pc2 := 12) rfl ?_
  refine A_rv (dX4_endPart 8 rfl) rfl ?_
  exact rfl

set_option maxRecDepth 100000 in
set_option maxHeartbeats 400000 in
theorem x_put (E : ag) (qx : Nat → Nat) (gx : Nat → Int32) (ax : Nat → Nat → Int32) (v : Int32) (z : Nat) (hz : z ≤ 160) (hg : gx 0 = nI z) : CT E yX4_put cX4_put 2 mX4_put.2.2.2.1 1 0 0 [.ref (qx 0), .int v] (wT E qx gx ax) (rv (fun w => (z < 160 ∧ w = wT E qx (upd gx 0 (nI (z + 1))) (va_up ax 0 (upd (ax 0) z v))) ∨ (z = 160 ∧ w = wT E qx gx ax))) := by
  refine CT.of (M := mX4_put) (ls := [some (.ref (qx 0)), some (.int v)]) (by decide) rfl (by decide) rfl (Nat.le_of_ble_eq_true rfl) ?_
  refine A_aload_n (dX4_put 0 rfl) rfl ?_
  refine A_get (dX4_put 1 rfl) fwX4_18 wT_0 cT_f0_2 ?_
  refine A_aload_n (dX4_put 2 rfl) rfl ?_
  refine A_get (dX4_put 3 rfl) fwX4_9 wT_0 cT_f0_0 ?_
  refine A_alen _ (dX4_put 4 rfl) wT_1 rfl ?_
  refine A_icmp_ge 32 (dX4_put 5 rfl) (by decide) (fun h9 => ?_) (fun h9 => ?_)
  · have hz2 : z = 160 := by
      rcases Nat.lt_or_ge z 160 with y | y
      · exact absurd h9 (by rw [hg]; exact nI_ge (a := z) (b := 160) y (by decide))
      · omega
    refine A_rv (dX4_put 18 rfl) rfl ?_
    first | exact Or.inl ⟨hz2, rfl⟩ | exact Or.inr ⟨hz2, rfl⟩
  · have hz2 : z < 160 := by
      rcases Nat.lt_or_ge z 160 with y | y
      · exact y
      · exact absurd (show Int32.ofNat 160 ≤ gx 0 by rw [hg]; exact nI_le (a := 160) y (by omega)) h9
    refine A_aload_n (dX4_put 6 rfl) rfl ?_
    refine A_get (dX4_put 7 rfl) fwX4_9 wT_0 cT_f0_0 ?_
    refine A_aload_n (dX4_put 8 rfl) rfl ?_
    refine A_get (dX4_put 9 rfl) fwX4_18 wT_0 cT_f0_2 ?_
    refine A_iload_n (dX4_put 10 rfl) rfl ?_
    refine A_iast (dX4_put 11 rfl) wT_1 (by rw [hg]; exact vp_in_nI hz2 (by decide)) (wT_s1 _) ?_
    rw [hg, nI_clamp (n := z) (by omega)]
    refine A_aload_n (dX4_put 12 rfl) rfl ?_
    refine A_dup (dX4_put 13 rfl) rfl ?_
    refine AW.pcq (pc2 := 24) rfl ?_
    refine A_get (dX4_put 14 rfl) fwX4_18 wT_0 cT_f0_2 ?_
    refine A_iconst (1) (dX4_put 15 rfl) (by decide +kernel) ?_
    refine A_iadd (dX4_put 16 rfl) ?_
    refine AW.stack (st2 := [.int (nI (z + 1)), .ref (qx 0)]) (by show [Value.int (gx 0 + 1), _] = _; rw [hg, nI_1]) ?_
    refine A_put (dX4_put 17 rfl) fwX4_18 fcX4 ftX4_2 wT_0 rfl rfl cT_l0 (wT_p0_2 _) ?_
    refine A_rv (dX4_put 18 rfl) rfl ?_
    first | exact Or.inl ⟨hz2, rfl⟩ | exact Or.inr ⟨hz2, rfl⟩

set_option maxRecDepth 100000 in
set_option maxHeartbeats 400000 in
theorem r_add (E : ag) (qr : Nat → Nat) (gr : Nat → Int32) (ar : Nat → Nat → Int32) (rir : Nat) (v : Int32) (z : Nat) (hz : z ≤ 160) (hg : gr 0 = nI z) : CT E yX2_add cX2_add 2 mX2_add.2.2.2.1 1 0 0 [.ref (qr 0), .int v] (wR1 E qr gr ar rir) (ri (fun r w => (z < 160 ∧ r = 1 ∧ w = wR1 E qr (upd gr 0 (nI (z + 1))) (va_up ar 0 (upd (ar 0) z v)) rir) ∨ (z = 160 ∧ r = 0 ∧ w = wR1 E qr gr ar rir))) := by
  refine CT.of (M := mX2_add) (ls := [some (.ref (qr 0)), some (.int v)]) (by decide) rfl (by decide) rfl (Nat.le_of_ble_eq_true rfl) ?_
  refine A_aload_n (dX2_add 0 rfl) rfl ?_
  refine A_get (dX2_add 1 rfl) fwX2_15 wR1_0 cR_f0_1 ?_
  refine A_aload_n (dX2_add 2 rfl) rfl ?_
  refine A_get (dX2_add 3 rfl) fwX2_9 wR1_0 cR_f0_0 ?_
  refine A_alen _ (dX2_add 4 rfl) wR1_1 rfl ?_
  refine A_icmp_lt 14 (dX2_add 5 rfl) (by decide) (fun h9 => ?_) (fun h9 => ?_)
  · have hz2 : z < 160 := by
      rcases Nat.lt_or_ge z 160 with y | y
      · exact y
      · exact absurd h9 (by rw [hg]; exact nI_nlt (a := z) (b := 160) y (by omega))
    refine A_aload_n (dX2_add 8 rfl) rfl ?_
    refine A_get (dX2_add 9 rfl) fwX2_9 wR1_0 cR_f0_0 ?_
    refine A_aload_n (dX2_add 10 rfl) rfl ?_
    refine A_get (dX2_add 11 rfl) fwX2_15 wR1_0 cR_f0_1 ?_
    refine A_iload_n (dX2_add 12 rfl) rfl ?_
    refine A_iast (dX2_add 13 rfl) wR1_1 (by rw [hg]; exact vp_in_nI hz2 (by decide)) (wR1_s1 _) ?_
    rw [hg, nI_clamp (n := z) (by omega)]
    refine A_aload_n (dX2_add 14 rfl) rfl ?_
    refine A_dup (dX2_add 15 rfl) rfl ?_
    refine AW.pcq (pc2 := 26) rfl ?_
    refine A_get (dX2_add 16 rfl) fwX2_15 wR1_0 cR_f0_1 ?_
    refine A_iconst (1) (dX2_add 17 rfl) (by decide +kernel) ?_
    refine A_iadd (dX2_add 18 rfl) ?_
    refine AW.stack (st2 := [.int (nI (z + 1)), .ref (qr 0)]) (by show [Value.int (gr 0 + 1), _] = _; rw [hg, nI_1]) ?_
    refine A_put (dX2_add 19 rfl) fwX2_15 fcX2 ftX2_1 wR1_0 rfl rfl cR_l0 (wR1_p0_1 _) ?_
    refine A_iconst (1) (dX2_add 20 rfl) (by decide +kernel) ?_
    refine A_ri (dX2_add 21 rfl) rfl (by decide) ?_
    exact Or.inl ⟨hz2, rfl, rfl⟩
  · have hz2 : z = 160 := by
      rcases Nat.lt_or_ge z 160 with y | y
      · exact absurd (show gr 0 < Int32.ofNat 160 by rw [hg]; exact nI_lt (b := 160) y (by decide)) h9
      · omega
    refine A_iconst (0) (dX2_add 6 rfl) (by decide +kernel) ?_
    refine A_ri (dX2_add 7 rfl) rfl (by decide) ?_
    exact Or.inr ⟨hz2, rfl, rfl⟩

set_option maxRecDepth 100000 in
set_option maxHeartbeats 400000 in
theorem r_empty (E : ag) (qr : Nat → Nat) (gr : Nat → Int32) (ar : Nat → Nat → Int32) (rir : Nat) : CT E yX2_empty cX2_empty 1 mX2_empty.2.2.2.1 1 0 0 [.ref (qr 0)] (wR1 E qr gr ar rir) (rv (fun w => w = wR1 E qr (upd gr 0 0) ar rir)) := by
  refine CT.of (M := mX2_empty) (ls := [some (.ref (qr 0))]) (by decide) rfl (by decide) rfl (Nat.le_of_ble_eq_true rfl) ?_
  refine A_aload_n (dX2_empty 0 rfl) rfl ?_
  refine A_iconst (0) (dX2_empty 1 rfl) (by decide +kernel) ?_
  refine A_put (dX2_empty 2 rfl) fwX2_15 fcX2 ftX2_1 wR1_0 rfl rfl cR_l0 (wR1_p0_1 _) ?_
  refine A_rv (dX2_empty 3 rfl) rfl ?_
  exact rfl

set_option maxRecDepth 100000 in
theorem k_word0 (E : ag) (ws : va_W) : CT E yX2_word cX2_word 1 mX2_word.2.2.2.1 1 0 0 [.int 0] ws (rr (fun r w => r = E.2.2.1 1 ∧ w = ws)) := by
  refine CT.of (M := mX2_word) (ls := [some (.int 0)]) (by decide) rfl (by decide) rfl (Nat.le_of_ble_eq_true rfl) ?_
  refine A_iload_n (dX2_word 0 rfl) rfl ?_
  refine A_tableIn (59) 60 (dX2_word 1 rfl) (by decide) (by decide) rfl (by decide) ?_
  refine A_ldcS 1 (dX2_word 2 rfl) (by decide) rfl rfl ?_
  refine A_rr (dX2_word 3 rfl) rfl (Or.inl ⟨_, rfl⟩) ?_
  exact ⟨rfl, rfl⟩
set_option maxRecDepth 100000 in
theorem k_word1 (E : ag) (ws : va_W) : CT E yX2_word cX2_word 1 mX2_word.2.2.2.1 1 0 0 [.int 1] ws (rr (fun r w => r = E.2.2.1 2 ∧ w = ws)) := by
  refine CT.of (M := mX2_word) (ls := [some (.int 1)]) (by decide) rfl (by decide) rfl (Nat.le_of_ble_eq_true rfl) ?_
  refine A_iload_n (dX2_word 0 rfl) rfl ?_
  refine A_tableIn (62) 63 (dX2_word 1 rfl) (by decide) (by decide) rfl (by decide) ?_
  refine A_ldcS 2 (dX2_word 4 rfl) (by decide) rfl rfl ?_
  refine A_rr (dX2_word 5 rfl) rfl (Or.inl ⟨_, rfl⟩) ?_
  exact ⟨rfl, rfl⟩
set_option maxRecDepth 100000 in
theorem k_word2 (E : ag) (ws : va_W) : CT E yX2_word cX2_word 1 mX2_word.2.2.2.1 1 0 0 [.int 2] ws (rr (fun r w => r = E.2.2.1 3 ∧ w = ws)) := by
  refine CT.of (M := mX2_word) (ls := [some (.int 2)]) (by decide) rfl (by decide) rfl (Nat.le_of_ble_eq_true rfl) ?_
  refine A_iload_n (dX2_word 0 rfl) rfl ?_
  refine A_tableIn (65) 66 (dX2_word 1 rfl) (by decide) (by decide) rfl (by decide) ?_
  refine A_ldcS 3 (dX2_word 6 rfl) (by decide) rfl rfl ?_
  refine A_rr (dX2_word 7 rfl) rfl (Or.inl ⟨_, rfl⟩) ?_
  exact ⟨rfl, rfl⟩
set_option maxRecDepth 100000 in
theorem k_word3 (E : ag) (ws : va_W) : CT E yX2_word cX2_word 1 mX2_word.2.2.2.1 1 0 0 [.int 3] ws (rr (fun r w => r = E.2.2.1 4 ∧ w = ws)) := by
  refine CT.of (M := mX2_word) (ls := [some (.int 3)]) (by decide) rfl (by decide) rfl (Nat.le_of_ble_eq_true rfl) ?_
  refine A_iload_n (dX2_word 0 rfl) rfl ?_
  refine A_tableIn (68) 69 (dX2_word 1 rfl) (by decide) (by decide) rfl (by decide) ?_
  refine A_ldcS 4 (dX2_word 8 rfl) (by decide) rfl rfl ?_
  refine A_rr (dX2_word 9 rfl) rfl (Or.inl ⟨_, rfl⟩) ?_
  exact ⟨rfl, rfl⟩
set_option maxRecDepth 100000 in
theorem k_word4 (E : ag) (ws : va_W) : CT E yX2_word cX2_word 1 mX2_word.2.2.2.1 1 0 0 [.int 4] ws (rr (fun r w => r = E.2.2.1 5 ∧ w = ws)) := by
  refine CT.of (M := mX2_word) (ls := [some (.int 4)]) (by decide) rfl (by decide) rfl (Nat.le_of_ble_eq_true rfl) ?_
  refine A_iload_n (dX2_word 0 rfl) rfl ?_
  refine A_tableIn (71) 72 (dX2_word 1 rfl) (by decide) (by decide) rfl (by decide) ?_
  refine A_ldcS 5 (dX2_word 10 rfl) (by decide) rfl rfl ?_
  refine A_rr (dX2_word 11 rfl) rfl (Or.inl ⟨_, rfl⟩) ?_
  exact ⟨rfl, rfl⟩
set_option maxRecDepth 100000 in
theorem k_word5 (E : ag) (ws : va_W) : CT E yX2_word cX2_word 1 mX2_word.2.2.2.1 1 0 0 [.int 5] ws (rr (fun r w => r = E.2.2.1 6 ∧ w = ws)) := by
  refine CT.of (M := mX2_word) (ls := [some (.int 5)]) (by decide) rfl (by decide) rfl (Nat.le_of_ble_eq_true rfl) ?_
  refine A_iload_n (dX2_word 0 rfl) rfl ?_
  refine A_tableIn (74) 75 (dX2_word 1 rfl) (by decide) (by decide) rfl (by decide) ?_
  refine A_ldcS 6 (dX2_word 12 rfl) (by decide) rfl rfl ?_
  refine A_rr (dX2_word 13 rfl) rfl (Or.inl ⟨_, rfl⟩) ?_
  exact ⟨rfl, rfl⟩
set_option maxRecDepth 100000 in
theorem k_word6 (E : ag) (ws : va_W) : CT E yX2_word cX2_word 1 mX2_word.2.2.2.1 1 0 0 [.int 6] ws (rr (fun r w => r = E.2.2.1 7 ∧ w = ws)) := by
  refine CT.of (M := mX2_word) (ls := [some (.int 6)]) (by decide) rfl (by decide) rfl (Nat.le_of_ble_eq_true rfl) ?_
  refine A_iload_n (dX2_word 0 rfl) rfl ?_
  refine A_tableIn (77) 78 (dX2_word 1 rfl) (by decide) (by decide) rfl (by decide) ?_
  refine A_ldcS 7 (dX2_word 14 rfl) (by decide) rfl rfl ?_
  refine A_rr (dX2_word 15 rfl) rfl (Or.inl ⟨_, rfl⟩) ?_
  exact ⟨rfl, rfl⟩
set_option maxRecDepth 100000 in
theorem k_word7 (E : ag) (ws : va_W) : CT E yX2_word cX2_word 1 mX2_word.2.2.2.1 1 0 0 [.int 7] ws (rr (fun r w => r = E.2.2.1 8 ∧ w = ws)) := by
  refine CT.of (M := mX2_word) (ls := [some (.int 7)]) (by decide) rfl (by decide) rfl (Nat.le_of_ble_eq_true rfl) ?_
  refine A_iload_n (dX2_word 0 rfl) rfl ?_
  refine A_tableIn (80) 81 (dX2_word 1 rfl) (by decide) (by decide) rfl (by decide) ?_
  refine A_ldcS 8 (dX2_word 16 rfl) (by decide) rfl rfl ?_
  refine A_rr (dX2_word 17 rfl) rfl (Or.inl ⟨_, rfl⟩) ?_
  exact ⟨rfl, rfl⟩
set_option maxRecDepth 100000 in
theorem k_word8 (E : ag) (ws : va_W) : CT E yX2_word cX2_word 1 mX2_word.2.2.2.1 1 0 0 [.int 8] ws (rr (fun r w => r = E.2.2.1 9 ∧ w = ws)) := by
  refine CT.of (M := mX2_word) (ls := [some (.int 8)]) (by decide) rfl (by decide) rfl (Nat.le_of_ble_eq_true rfl) ?_
  refine A_iload_n (dX2_word 0 rfl) rfl ?_
  refine A_tableIn (83) 84 (dX2_word 1 rfl) (by decide) (by decide) rfl (by decide) ?_
  refine A_ldcS 9 (dX2_word 18 rfl) (by decide) rfl rfl ?_
  refine A_rr (dX2_word 19 rfl) rfl (Or.inl ⟨_, rfl⟩) ?_
  exact ⟨rfl, rfl⟩
set_option maxRecDepth 100000 in
theorem k_word9 (E : ag) (ws : va_W) : CT E yX2_word cX2_word 1 mX2_word.2.2.2.1 1 0 0 [.int 9] ws (rr (fun r w => r = E.2.2.1 10 ∧ w = ws)) := by
  refine CT.of (M := mX2_word) (ls := [some (.int 9)]) (by decide) rfl (by decide) rfl (Nat.le_of_ble_eq_true rfl) ?_
  refine A_iload_n (dX2_word 0 rfl) rfl ?_
  refine A_tableIn (86) 87 (dX2_word 1 rfl) (by decide) (by decide) rfl (by decide) ?_
  refine A_ldcS 10 (dX2_word 20 rfl) (by decide) rfl rfl ?_
  refine A_rr (dX2_word 21 rfl) rfl (Or.inl ⟨_, rfl⟩) ?_
  exact ⟨rfl, rfl⟩
set_option maxRecDepth 100000 in
theorem k_word10 (E : ag) (ws : va_W) : CT E yX2_word cX2_word 1 mX2_word.2.2.2.1 1 0 0 [.int 10] ws (rr (fun r w => r = E.2.2.1 11 ∧ w = ws)) := by
  refine CT.of (M := mX2_word) (ls := [some (.int 10)]) (by decide) rfl (by decide) rfl (Nat.le_of_ble_eq_true rfl) ?_
  refine A_iload_n (dX2_word 0 rfl) rfl ?_
  refine A_tableIn (89) 90 (dX2_word 1 rfl) (by decide) (by decide) rfl (by decide) ?_
  refine A_ldcS 11 (dX2_word 22 rfl) (by decide) rfl rfl ?_
  refine A_rr (dX2_word 23 rfl) rfl (Or.inl ⟨_, rfl⟩) ?_
  exact ⟨rfl, rfl⟩
set_option maxRecDepth 100000 in
theorem k_word11 (E : ag) (ws : va_W) : CT E yX2_word cX2_word 1 mX2_word.2.2.2.1 1 0 0 [.int 11] ws (rr (fun r w => r = E.2.2.1 12 ∧ w = ws)) := by
  refine CT.of (M := mX2_word) (ls := [some (.int 11)]) (by decide) rfl (by decide) rfl (Nat.le_of_ble_eq_true rfl) ?_
  refine A_iload_n (dX2_word 0 rfl) rfl ?_
  refine A_tableOut 93 (dX2_word 1 rfl) (by decide) (by decide) ?_
  refine A_ldcS 12 (dX2_word 24 rfl) (by decide) rfl rfl ?_
  refine A_rr (dX2_word 25 rfl) rfl (Or.inl ⟨_, rfl⟩) ?_
  exact ⟨rfl, rfl⟩
theorem k_word (E : ag) (ws : va_W) (k : Nat) (hk : k < 12) : CT E yX2_word cX2_word 1 mX2_word.2.2.2.1 1 0 0 [.int (nI k)] ws (rr (fun r w => r = E.2.2.1 (k + 1) ∧ w = ws)) := by
  match k with
  | 0 => exact k_word0 E ws
  | 1 => exact k_word1 E ws
  | 2 => exact k_word2 E ws
  | 3 => exact k_word3 E ws
  | 4 => exact k_word4 E ws
  | 5 => exact k_word5 E ws
  | 6 => exact k_word6 E ws
  | 7 => exact k_word7 E ws
  | 8 => exact k_word8 E ws
  | 9 => exact k_word9 E ws
  | 10 => exact k_word10 E ws
  | 11 => exact k_word11 E ws
  | k + 12 => omega
theorem str_len : ∀ i, i < ag_nS → ag_len.getD i 0 ≤ 48 := by decide +kernel
set_option maxRecDepth 100000 in
theorem r_isHereL (E : ag) (qr : Nat → Nat) (gr : Nat → Int32) (ar : Nat → Nat → Int32) (rir : Nat) (i : Nat) (hi : i < ag_nS) (s e : Nat) (hse : s ≤ e) (he : e ≤ 160) (hg1 : gr 1 = nI s) (hg2 : gr 2 = nI e) (hsl : e = s + ag_len.getD i 0) : ∀ (n c : Nat), c + n = ag_len.getD i 0 → (∀ j, j < c → ar 0 (s + j) = (ag_byt.getD i []).getD j 0) → AW E mX2_isHere 5 0 0 20 [some (.ref (qr 0)), some (.ref (E.2.2.1 i)), some (.int (nI c))] [] (wR1 E qr gr ar rir) (ri (fun r w => r = b01 (e = s + ag_len.getD i 0 ∧ ∀ j, j < ag_len.getD i 0 → ar 0 (s + j) = (ag_byt.getD i []).getD j 0) ∧ w = wR1 E qr gr ar rir)) := by
  have hl48 := str_len i hi
  intro n
  induction n with
  | zero =>
    intro c hc hall
    have hcl : c = ag_len.getD i 0 := by omega
    subst hcl
    refine A_iload_n (dX2_isHere 12 rfl) rfl ?_
    refine A_aload_n (dX2_isHere 13 rfl) rfl ?_
    refine A_callKWi 0 (dX2_isHere 14 rfl) cbJ_length cwX2_79 (j_length E _ i hi) rfl rfl i hi rfl rfl (Nat.le_of_ble_eq_true rfl) (Nat.le_of_ble_eq_true rfl) (Nat.le_of_ble_eq_true rfl) (Nat.le_of_ble_eq_true rfl) (Nat.le_of_ble_eq_true rfl) ?_
    rintro r w1 ⟨rfl, rfl⟩
    refine A_icmp_ge 55 (dX2_isHere 15 rfl) (by decide) (fun h25 => ?_) (fun h25 => absurd (nI_le (a := ag_len.getD i 0) (b := ag_len.getD i 0) (Nat.le_refl _) (by omega)) h25)
    refine A_iconst (1) (dX2_isHere 31 rfl) (by decide +kernel) ?_
    refine A_ri (dX2_isHere 32 rfl) rfl (by decide) ?_
    exact ⟨(b01_t ⟨hsl, hall⟩).symm, rfl⟩
  | succ n ih =>
    intro c hc hall
    have hlt : c < ag_len.getD i 0 := by omega
    refine A_iload_n (dX2_isHere 12 rfl) rfl ?_
    refine A_aload_n (dX2_isHere 13 rfl) rfl ?_
    refine A_callKWi 0 (dX2_isHere 14 rfl) cbJ_length cwX2_79 (j_length E _ i hi) rfl rfl i hi rfl rfl (Nat.le_of_ble_eq_true rfl) (Nat.le_of_ble_eq_true rfl) (Nat.le_of_ble_eq_true rfl) (Nat.le_of_ble_eq_true rfl) (Nat.le_of_ble_eq_true rfl) ?_
    rintro r w1 ⟨rfl, rfl⟩
    refine A_icmp_ge 55 (dX2_isHere 15 rfl) (by decide) (fun h25 => absurd h25 (nI_ge (a := c) (b := ag_len.getD i 0) hlt (by omega))) (fun h25 => ?_)
    refine A_aload_n (dX2_isHere 16 rfl) rfl ?_
    refine A_iload_n (dX2_isHere 17 rfl) rfl ?_
    refine A_callKWi 1 (dX2_isHere 18 rfl) cbJ_charAt cwX2_84 (j_charAt E _ i hi c hlt) rfl rfl i hi rfl rfl (Nat.le_of_ble_eq_true rfl) (Nat.le_of_ble_eq_true rfl) (Nat.le_of_ble_eq_true rfl) (Nat.le_of_ble_eq_true rfl) (Nat.le_of_ble_eq_true rfl) ?_
    rintro r w1 ⟨rfl, rfl⟩
    refine A_aload_n (dX2_isHere 19 rfl) rfl ?_
    refine A_get (dX2_isHere 20 rfl) fwX2_9 wR1_0 cR_f0_0 ?_
    refine A_aload_n (dX2_isHere 21 rfl) rfl ?_
    refine A_get (dX2_isHere 22 rfl) fwX2_19 wR1_0 cR_f0_2 ?_
    refine A_iload_n (dX2_isHere 23 rfl) rfl ?_
    refine A_iadd (dX2_isHere 24 rfl) ?_
    rw [hg1, nI_add]
    refine A_iald (dX2_isHere 25 rfl) wR1_1 (vp_in_nI (n := s + c) (by omega) (by decide)) ?_
    rw [nI_clamp (n := s + c) (by omega)]
    refine A_icmp_eq 49 (dX2_isHere 26 rfl) (by decide) (fun h44 => ?_) (fun h44 => ?_)
    · refine A_iinc (ls2 := [_, _, _]) (nI (c + 1)) (dX2_isHere 29 rfl) rfl (nI_1 c) (by decide) rfl rfl ?_
      refine A_goto 20 (dX2_isHere 30 rfl) (by decide) ?_
      exact ih (c + 1) (by omega) (fun j hj => by rcases Nat.lt_or_ge j c with z | z; exact hall j z; rw [show j = c by omega]; exact h44.symm)
    · refine A_iconst (0) (dX2_isHere 27 rfl) (by decide +kernel) ?_
      refine A_ri (dX2_isHere 28 rfl) rfl (by decide) ?_
      exact ⟨(b01_f (fun z => h44 (z.2 c hlt).symm)).symm, rfl⟩
set_option maxRecDepth 100000 in
theorem r_isHere (E : ag) (qr : Nat → Nat) (gr : Nat → Int32) (ar : Nat → Nat → Int32) (rir : Nat) (i : Nat) (hi : i < ag_nS) (s e : Nat) (hse : s ≤ e) (he : e ≤ 160) (hg1 : gr 1 = nI s) (hg2 : gr 2 = nI e) : CT E yX2_isHere cX2_isHere 3 mX2_isHere.2.2.2.1 5 0 0 [.ref (qr 0), .ref (E.2.2.1 i)] (wR1 E qr gr ar rir) (ri (fun r w => r = b01 (e = s + ag_len.getD i 0 ∧ ∀ j, j < ag_len.getD i 0 → ar 0 (s + j) = (ag_byt.getD i []).getD j 0) ∧ w = wR1 E qr gr ar rir)) := by
  have hl48 := str_len i hi
  refine CT.of (M := mX2_isHere) (ls := [some (.ref (qr 0)), some (.ref (E.2.2.1 i)), none]) (by decide) rfl (by decide) rfl (Nat.le_of_ble_eq_true rfl) ?_
  refine A_aload_n (dX2_isHere 0 rfl) rfl ?_
  refine A_callKWi 0 (dX2_isHere 1 rfl) cbJ_length cwX2_79 (j_length E _ i hi) rfl rfl i hi rfl rfl (Nat.le_of_ble_eq_true rfl) (Nat.le_of_ble_eq_true rfl) (Nat.le_of_ble_eq_true rfl) (Nat.le_of_ble_eq_true rfl) (Nat.le_of_ble_eq_true rfl) ?_
  rintro r w1 ⟨rfl, rfl⟩
  refine A_aload_n (dX2_isHere 2 rfl) rfl ?_
  refine A_get (dX2_isHere 3 rfl) fwX2_22 wR1_0 cR_f0_3 ?_
  refine A_aload_n (dX2_isHere 4 rfl) rfl ?_
  refine A_get (dX2_isHere 5 rfl) fwX2_19 wR1_0 cR_f0_2 ?_
  refine A_isub (dX2_isHere 6 rfl) ?_
  refine A_icmp_eq 18 (dX2_isHere 7 rfl) (by decide) (fun h13 => ?_) (fun h13 => ?_)
  · have hsl : e = s + ag_len.getD i 0 := by rw [hg1, hg2, pk_sub hse] at h13; have := (nI_eq (a := ag_len.getD i 0) (b := e - s) (by omega) (by omega)).mp h13; omega
    refine A_iconst (0) (dX2_isHere 10 rfl) (by decide +kernel) ?_
    refine A_istore_n (ls2 := [_, _, _]) (dX2_isHere 11 rfl) (by decide) rfl rfl ?_
    exact r_isHereL E qr gr ar rir i hi s e hse he hg1 hg2 hsl (ag_len.getD i 0) 0 (by omega) (fun j hj => by omega)
  · have hsl : ¬ e = s + ag_len.getD i 0 := fun z => h13 (by rw [hg1, hg2, pk_sub hse]; exact congrArg nI (by omega))
    refine A_iconst (0) (dX2_isHere 8 rfl) (by decide +kernel) ?_
    refine A_ri (dX2_isHere 9 rfl) rfl (by decide) ?_
    exact ⟨(b01_f (fun z => hsl z.1)).symm, rfl⟩
