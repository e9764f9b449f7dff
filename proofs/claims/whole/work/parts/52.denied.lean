set_option maxRecDepth 100000 in
set_option maxHeartbeats 1000000 in
theorem r_den_less (E : ag) (qr : Nat → Nat) (ar : Nat → Nat → Int32) (qx : Nat → Nat) (n : Nat) (B : Nat → Int32) (f : Nat) (h3 : KM E qr ar qx n B yX2_sum cX2_sum 5 3 11 f) (gr gx : Nat → Int32) (ax : Nat → Nat → Int32) (o i z : Nat) (res : Bool × Nat × List Int32) (hck : ck B i = 60) (hpp : (pp B f 3 o (men B i)).bind (fun t => if t.1 = true then some (true, t.2.1, t.2.2 ++ [-12]) else some t) = some res) (ho : o ≤ 5) (hL : LXC gr ar n B) (hP : RPM B n gr i) (hz : gx 0 = nI z) (hzi : z ≤ i) : AW E mX2_denied (6 * (5 - o) + 12) 0 0 69 [some (.ref (qr 0)), some (.int (nI o)), none, none] [] (wR E qr gr ar (qx 0) qx gx ax) (ri (RC E qr ar qx n B gr ax z res)) := by
  obtain ⟨r1, hr1, hpp⟩ := bnd hpp
  have hmm := men_g hL.2.2.2.1 hP.2.2.2.2 hck (by decide) (by decide)
  have hc2 : ¬ ck B i = 2 := by rw [hck]; decide
  obtain ⟨p1, p2, p3, p4⟩ := pp_ok hL.2.2.2.1 f 3 o (men B i) r1 hr1 hmm.2
  have hn160 := hL.2.1
  refine A_aload_n (dX2_denied 39 rfl) rfl ?_
  refine A_get (dX2_denied 40 rfl) fwX2_25 wR_0 cR_f0_4 ?_
  refine A_bipush (60) (dX2_denied 41 rfl) (by decide +kernel) ?_
  refine A_icmp_ne 83 (dX2_denied 42 rfl) (by decide) (fun h75 => absurd (hP.2.1.trans hck) h75) (fun h75 => ?_)
  refine A_bipush (-12) (dX2_denied 43 rfl) (by decide +kernel) ?_
  refine A_goto 85 (dX2_denied 44 rfl) (by decide) ?_
  refine A_istore_n (ls2 := [_, _, _, _]) (dX2_denied 46 rfl) (by decide) rfl rfl ?_
  refine A_aload_n (dX2_denied 47 rfl) rfl ?_
  refine A_callVv 0 (dX2_denied 48 rfl) cbX2_next cwX2_41 (r_next E qr gr ar (qx 0) n B hL (men B i) hmm.2 (hP.2.2.1 hc2)) rfl rfl wR1_0 rfl rfl [0, 1] rfl rfl (by omega) (Nat.le_of_ble_eq_true rfl) (Nat.le_of_ble_eq_true rfl) (Nat.le_of_ble_eq_true rfl) (Nat.le_of_ble_eq_true rfl) (by rintro _ ⟨_, rfl, _⟩; exact (Nat.le_of_ble_eq_true rfl)) ?_
  rintro w1 ⟨gr2, rfl, h02, hP2⟩
  refine AW.world (ws2 := wR E qr gr2 ar (qx 0) qx gx ax) rfl ?_
  refine AW.pcq (pc2 := 90) rfl ?_
  refine A_aload_n (dX2_denied 49 rfl) rfl ?_
  refine A_iload_n (dX2_denied 50 rfl) rfl ?_
  refine A_callVWi 1 (dX2_denied 51 rfl) cbX2_sum cwX2_121 (h3 gr2 gx ax o (men B i) z r1 hr1 ho (hL.of h02) hP2 hz (by omega)) rfl rfl wR_0 rfl rfl (by omega) (Nat.le_of_ble_eq_true rfl) (Nat.le_of_ble_eq_true rfl) (Nat.le_of_ble_eq_true rfl) (Nat.le_of_ble_eq_true rfl) ?_
  rintro x1 w1 ⟨gr3, gx3, ax3, rfl, h03, rfl, hs, hf⟩
  refine AW.pcq (pc2 := 95) rfl ?_
  refine A_istore_n (ls2 := [_, _, _, _]) (dX2_denied 52 rfl) (by decide) rfl rfl ?_
  by_cases hb1 : r1.1 = true
  · rw [if_pos hb1] at hpp
    cases hpp
    obtain ⟨hP3, hT3⟩ := hs hb1
    refine A_aload_n (dX2_denied 53 rfl) rfl ?_
    refine A_get (dX2_denied 54 rfl) fwX2_34 wR_0 cR_f0_6 ?_
    refine A_iload_n (dX2_denied 55 rfl) rfl ?_
    refine A_callVv 1 (dX2_denied 56 rfl) cbX4_put cwX2_115 (x_put E qx gx3 ax3 (-12) (z + r1.2.2.length) (by omega) hT3.1) rfl rfl wT_0 rfl rfl [2, 3, 4] rfl rfl (by omega) (Nat.le_of_ble_eq_true rfl) (Nat.le_of_ble_eq_true rfl) (Nat.le_of_ble_eq_true rfl) (Nat.le_of_ble_eq_true rfl) (by rintro _ (⟨_, rfl⟩ | ⟨_, rfl⟩) <;> exact (Nat.le_of_ble_eq_true rfl)) ?_
    rintro w1 (⟨hz9, rfl⟩ | ⟨hz9, rfl⟩)
    rotate_left
    · omega
    refine AW.world (ws2 := wR E qr gr3 ar (qx 0) qx (upd gx3 0 (nI (z + r1.2.2.length + 1))) (va_up ax3 0 (upd (ax3 0) (z + r1.2.2.length) (-12)))) rfl ?_
    refine AW.pcq (pc2 := 104) rfl ?_
    refine A_iload_n (dX2_denied 57 rfl) rfl ?_
    refine A_ri (dX2_denied 58 rfl) rfl b01_nar ?_
    rw [b01_t hb1]
    exact RC_ok (h03.trans h02) hP3 (TP.app hT3 TP.put)
  · rw [if_neg hb1] at hpp
    cases hpp
    have hf3 := hf (by simpa using hb1)
    obtain ⟨z2, hz2, hg2⟩ := hf3.2.1
    refine A_aload_n (dX2_denied 53 rfl) rfl ?_
    refine A_get (dX2_denied 54 rfl) fwX2_34 wR_0 cR_f0_6 ?_
    refine A_iload_n (dX2_denied 55 rfl) rfl ?_
    refine A_callVv 1 (dX2_denied 56 rfl) cbX4_put cwX2_115 (x_put E qx gx3 ax3 (-12) z2 hz2 hg2) rfl rfl wT_0 rfl rfl [2, 3, 4] rfl rfl (by omega) (Nat.le_of_ble_eq_true rfl) (Nat.le_of_ble_eq_true rfl) (Nat.le_of_ble_eq_true rfl) (Nat.le_of_ble_eq_true rfl) (by rintro _ (⟨_, rfl⟩ | ⟨_, rfl⟩) <;> exact (Nat.le_of_ble_eq_true rfl)) ?_
    rintro w1 hq
    obtain ⟨gx4, ax4, rfl, hz4, ha4⟩ := put_any hz2 hg2 hq
    refine AW.world (ws2 := wR E qr gr3 ar (qx 0) qx gx4 ax4) rfl ?_
    refine AW.pcq (pc2 := 104) rfl ?_
    refine A_iload_n (dX2_denied 57 rfl) rfl ?_
    refine A_ri (dX2_denied 58 rfl) rfl b01_nar ?_
    rw [b01_f hb1]
    exact RC_bad hb1 (h03.trans h02) hf3.1 hz4 (ha4.trans hf3.2.2)
set_option maxRecDepth 100000 in
set_option maxHeartbeats 1000000 in
theorem r_den_like (E : ag) (qr : Nat → Nat) (ar : Nat → Nat → Int32) (qx : Nat → Nat) (n : Nat) (B : Nat → Int32) (f : Nat) (h3 : KM E qr ar qx n B yX2_sum cX2_sum 5 3 11 f) (gr gx : Nat → Int32) (ax : Nat → Nat → Int32) (o i z : Nat) (res : Bool × Nat × List Int32) (hck : ck B i = 61) (hpp : (pp B f 3 o (men B i)).bind (fun t => if t.1 = true then some (true, t.2.1, t.2.2 ++ [-13]) else some t) = some res) (ho : o ≤ 5) (hL : LXC gr ar n B) (hP : RPM B n gr i) (hz : gx 0 = nI z) (hzi : z ≤ i) : AW E mX2_denied (6 * (5 - o) + 12) 0 0 69 [some (.ref (qr 0)), some (.int (nI o)), none, none] [] (wR E qr gr ar (qx 0) qx gx ax) (ri (RC E qr ar qx n B gr ax z res)) := by
  obtain ⟨r1, hr1, hpp⟩ := bnd hpp
  have hmm := men_g hL.2.2.2.1 hP.2.2.2.2 hck (by decide) (by decide)
  have hc2 : ¬ ck B i = 2 := by rw [hck]; decide
  obtain ⟨p1, p2, p3, p4⟩ := pp_ok hL.2.2.2.1 f 3 o (men B i) r1 hr1 hmm.2
  have hn160 := hL.2.1
  refine A_aload_n (dX2_denied 39 rfl) rfl ?_
  refine A_get (dX2_denied 40 rfl) fwX2_25 wR_0 cR_f0_4 ?_
  refine A_bipush (60) (dX2_denied 41 rfl) (by decide +kernel) ?_
  refine A_icmp_ne 83 (dX2_denied 42 rfl) (by decide) (fun h75 => ?_) (fun h75 => absurd h75 (fun y => absurd (hck.symm.trans (hP.2.1.symm.trans y)) (by decide)))
  refine A_bipush (-13) (dX2_denied 45 rfl) (by decide +kernel) ?_
  refine A_istore_n (ls2 := [_, _, _, _]) (dX2_denied 46 rfl) (by decide) rfl rfl ?_
  refine A_aload_n (dX2_denied 47 rfl) rfl ?_
  refine A_callVv 0 (dX2_denied 48 rfl) cbX2_next cwX2_41 (r_next E qr gr ar (qx 0) n B hL (men B i) hmm.2 (hP.2.2.1 hc2)) rfl rfl wR1_0 rfl rfl [0, 1] rfl rfl (by omega) (Nat.le_of_ble_eq_true rfl) (Nat.le_of_ble_eq_true rfl) (Nat.le_of_ble_eq_true rfl) (Nat.le_of_ble_eq_true rfl) (by rintro _ ⟨_, rfl, _⟩; exact (Nat.le_of_ble_eq_true rfl)) ?_
  rintro w1 ⟨gr2, rfl, h02, hP2⟩
  refine AW.world (ws2 := wR E qr gr2 ar (qx 0) qx gx ax) rfl ?_
  refine AW.pcq (pc2 := 90) rfl ?_
  refine A_aload_n (dX2_denied 49 rfl) rfl ?_
  refine A_iload_n (dX2_denied 50 rfl) rfl ?_
  refine A_callVWi 1 (dX2_denied 51 rfl) cbX2_sum cwX2_121 (h3 gr2 gx ax o (men B i) z r1 hr1 ho (hL.of h02) hP2 hz (by omega)) rfl rfl wR_0 rfl rfl (by omega) (Nat.le_of_ble_eq_true rfl) (Nat.le_of_ble_eq_true rfl) (Nat.le_of_ble_eq_true rfl) (Nat.le_of_ble_eq_true rfl) ?_
  rintro x1 w1 ⟨gr3, gx3, ax3, rfl, h03, rfl, hs, hf⟩
  refine AW.pcq (pc2 := 95) rfl ?_
  refine A_istore_n (ls2 := [_, _, _, _]) (dX2_denied 52 rfl) (by decide) rfl rfl ?_
  by_cases hb1 : r1.1 = true
  · rw [if_pos hb1] at hpp
    cases hpp
    obtain ⟨hP3, hT3⟩ := hs hb1
    refine A_aload_n (dX2_denied 53 rfl) rfl ?_
    refine A_get (dX2_denied 54 rfl) fwX2_34 wR_0 cR_f0_6 ?_
    refine A_iload_n (dX2_denied 55 rfl) rfl ?_
    refine A_callVv 1 (dX2_denied 56 rfl) cbX4_put cwX2_115 (x_put E qx gx3 ax3 (-13) (z + r1.2.2.length) (by omega) hT3.1) rfl rfl wT_0 rfl rfl [2, 3, 4] rfl rfl (by omega) (Nat.le_of_ble_eq_true rfl) (Nat.le_of_ble_eq_true rfl) (Nat.le_of_ble_eq_true rfl) (Nat.le_of_ble_eq_true rfl) (by rintro _ (⟨_, rfl⟩ | ⟨_, rfl⟩) <;> exact (Nat.le_of_ble_eq_true rfl)) ?_
    rintro w1 (⟨hz9, rfl⟩ | ⟨hz9, rfl⟩)
    rotate_left
    · omega
    refine AW.world (ws2 := wR E qr gr3 ar (qx 0) qx (upd gx3 0 (nI (z + r1.2.2.length + 1))) (va_up ax3 0 (upd (ax3 0) (z + r1.2.2.length) (-13)))) rfl ?_
    refine AW.pcq (pc2 := 104) rfl ?_
    refine A_iload_n (dX2_denied 57 rfl) rfl ?_
    refine A_ri (dX2_denied 58 rfl) rfl b01_nar ?_
    rw [b01_t hb1]
    exact RC_ok (h03.trans h02) hP3 (TP.app hT3 TP.put)
  · rw [if_neg hb1] at hpp
    cases hpp
    have hf3 := hf (by simpa using hb1)
    obtain ⟨z2, hz2, hg2⟩ := hf3.2.1
    refine A_aload_n (dX2_denied 53 rfl) rfl ?_
    refine A_get (dX2_denied 54 rfl) fwX2_34 wR_0 cR_f0_6 ?_
    refine A_iload_n (dX2_denied 55 rfl) rfl ?_
    refine A_callVv 1 (dX2_denied 56 rfl) cbX4_put cwX2_115 (x_put E qx gx3 ax3 (-13) z2 hz2 hg2) rfl rfl wT_0 rfl rfl [2, 3, 4] rfl rfl (by omega) (Nat.le_of_ble_eq_true rfl) (Nat.le_of_ble_eq_true rfl) (Nat.le_of_ble_eq_true rfl) (Nat.le_of_ble_eq_true rfl) (by rintro _ (⟨_, rfl⟩ | ⟨_, rfl⟩) <;> exact (Nat.le_of_ble_eq_true rfl)) ?_
    rintro w1 hq
    obtain ⟨gx4, ax4, rfl, hz4, ha4⟩ := put_any hz2 hg2 hq
    refine AW.world (ws2 := wR E qr gr3 ar (qx 0) qx gx4 ax4) rfl ?_
    refine AW.pcq (pc2 := 104) rfl ?_
    refine A_iload_n (dX2_denied 57 rfl) rfl ?_
    refine A_ri (dX2_denied 58 rfl) rfl b01_nar ?_
    rw [b01_f hb1]
    exact RC_bad hb1 (h03.trans h02) hf3.1 hz4 (ha4.trans hf3.2.2)
theorem RC_cut {E : ag} {qr : Nat → Nat} {ar : Nat → Nat → Int32} {qx : Nat → Nat} {n : Nat} {B : Nat → Int32} {gr : Nat → Int32} {ax : Nat → Nat → Int32} {z : Nat} {t : Bool × Nat × List Int32} {c : List Int32} {r : Int32} {w : va_W} (hb : ¬ t.1 = true) (h : RC E qr ar qx n B gr ax z (t.1, t.2.1, c) r w) : RC E qr ar qx n B gr ax z t r w := by
  obtain ⟨gr2, gx2, ax2, rfl, h0, h1, h2, h3⟩ := h
  exact ⟨gr2, gx2, ax2, rfl, h0, h1, fun y => absurd y hb, fun y => h3 y⟩
set_option maxRecDepth 100000 in
set_option maxHeartbeats 2000000 in
theorem r_denied (E : ag) (qr : Nat → Nat) (ar : Nat → Nat → Int32) (qx : Nat → Nat) (n : Nat) (B : Nat → Int32) (f : Nat) (h2 : KM E qr ar qx n B yX2_denied cX2_denied 4 2 12 f) (h3 : KM E qr ar qx n B yX2_sum cX2_sum 5 3 11 f) : KM E qr ar qx n B yX2_denied cX2_denied 4 2 12 (f + 1) := by
  intro gr gx ax o i z res hpp ho hL hP hz hzi
  simp only [pp] at hpp
  refine CT.of (M := mX2_denied) (ls := [some (.ref (qr 0)), some (.int (nI o)), none, none]) (by decide) rfl (by decide) rfl (Nat.le_of_ble_eq_true rfl) ?_
  by_cases hck : ck B i = 8
  · rw [if_pos hck] at hpp
    have hmm := men_g hL.2.2.2.1 hP.2.2.2.2 hck (by decide) (by decide)
    have hc2 : ¬ ck B i = 2 := by rw [hck]; decide
    have hn160 := hL.2.1
    refine A_aload_n (dX2_denied 0 rfl) rfl ?_
    refine A_get (dX2_denied 1 rfl) fwX2_25 wR_0 cR_f0_4 ?_
    refine A_bipush (8) (dX2_denied 2 rfl) (by decide +kernel) ?_
    refine A_icmp_ne 39 (dX2_denied 3 rfl) (by decide) (fun h6 => absurd (hP.2.1.trans hck) h6) (fun h6 => ?_)
    rcases Nat.lt_or_ge o 5 with ho5 | ho5
    · rw [if_neg (by omega)] at hpp
      obtain ⟨r1, hr1, hpp⟩ := bnd hpp
      obtain ⟨p1, p2, p3, p4⟩ := pp_ok hL.2.2.2.1 f 2 (o + 1) (men B i) r1 hr1 hmm.2
      refine A_iload_n (dX2_denied 4 rfl) rfl ?_
      refine A_iconst (5) (dX2_denied 5 rfl) (by decide +kernel) ?_
      refine A_icmp_lt 16 (dX2_denied 6 rfl) (by decide) (fun h11 => ?_) (fun h11 => absurd (nI_lt (a := o) (b := 5) ho5 (by decide)) h11)
      refine A_aload_n (dX2_denied 9 rfl) rfl ?_
      refine A_callVv 0 (dX2_denied 10 rfl) cbX2_next cwX2_41 (r_next E qr gr ar (qx 0) n B hL (men B i) hmm.2 (hP.2.2.1 hc2)) rfl rfl wR1_0 rfl rfl [0, 1] rfl rfl (by omega) (Nat.le_of_ble_eq_true rfl) (Nat.le_of_ble_eq_true rfl) (Nat.le_of_ble_eq_true rfl) (Nat.le_of_ble_eq_true rfl) (by rintro _ ⟨_, rfl, _⟩; exact (Nat.le_of_ble_eq_true rfl)) ?_
      rintro w1 ⟨gr2, rfl, h02, hP2⟩
      refine AW.world (ws2 := wR E qr gr2 ar (qx 0) qx gx ax) rfl ?_
      refine AW.pcq (pc2 := 20) rfl ?_
      refine A_aload_n (dX2_denied 11 rfl) rfl ?_
      refine A_iload_n (dX2_denied 12 rfl) rfl ?_
      refine A_iconst (1) (dX2_denied 13 rfl) (by decide +kernel) ?_
      refine A_iadd (dX2_denied 14 rfl) ?_
      rw [nI_1]
      refine A_callVWi 1 (dX2_denied 15 rfl) cbX2_denied cwX2_118 (h2 gr2 gx ax (o + 1) (men B i) z r1 hr1 (by omega) (hL.of h02) hP2 hz (by omega)) rfl rfl wR_0 rfl rfl (by omega) (Nat.le_of_ble_eq_true rfl) (Nat.le_of_ble_eq_true rfl) (Nat.le_of_ble_eq_true rfl) (Nat.le_of_ble_eq_true rfl) ?_
      rintro x1 w1 ⟨gr3, gx3, ax3, rfl, h03, rfl, hs, hf⟩
      refine AW.pcq (pc2 := 27) rfl ?_
      refine A_istore_n (ls2 := [_, _, _, _]) (dX2_denied 16 rfl) (by decide) rfl rfl ?_
      by_cases hb1 : r1.1 = true
      · rw [if_pos hb1] at hpp
        cases hpp
        obtain ⟨hP3, hT3⟩ := hs hb1
        refine A_aload_n (dX2_denied 17 rfl) rfl ?_
        refine A_get (dX2_denied 18 rfl) fwX2_34 wR_0 cR_f0_6 ?_
        refine A_bipush (-8) (dX2_denied 19 rfl) (by decide +kernel) ?_
        refine A_callVv 1 (dX2_denied 20 rfl) cbX4_put cwX2_115 (x_put E qx gx3 ax3 (-8) (z + r1.2.2.length) (by omega) hT3.1) rfl rfl wT_0 rfl rfl [2, 3, 4] rfl rfl (by omega) (Nat.le_of_ble_eq_true rfl) (Nat.le_of_ble_eq_true rfl) (Nat.le_of_ble_eq_true rfl) (Nat.le_of_ble_eq_true rfl) (by rintro _ (⟨_, rfl⟩ | ⟨_, rfl⟩) <;> exact (Nat.le_of_ble_eq_true rfl)) ?_
        rintro w1 (⟨hz9, rfl⟩ | ⟨hz9, rfl⟩)
        rotate_left
        · omega
        refine AW.world (ws2 := wR E qr gr3 ar (qx 0) qx (upd gx3 0 (nI (z + r1.2.2.length + 1))) (va_up ax3 0 (upd (ax3 0) (z + r1.2.2.length) (-8)))) rfl ?_
        refine AW.pcq (pc2 := 37) rfl ?_
        refine A_iload_n (dX2_denied 21 rfl) rfl ?_
        refine A_ri (dX2_denied 22 rfl) rfl b01_nar ?_
        rw [b01_t hb1]
        exact RC_ok (h03.trans h02) hP3 (TP.app hT3 TP.put)
      · rw [if_neg hb1] at hpp
        cases hpp
        have hf3 := hf (by simpa using hb1)
        obtain ⟨z2, hz2, hg2⟩ := hf3.2.1
        refine A_aload_n (dX2_denied 17 rfl) rfl ?_
        refine A_get (dX2_denied 18 rfl) fwX2_34 wR_0 cR_f0_6 ?_
        refine A_bipush (-8) (dX2_denied 19 rfl) (by decide +kernel) ?_
        refine A_callVv 1 (dX2_denied 20 rfl) cbX4_put cwX2_115 (x_put E qx gx3 ax3 (-8) z2 hz2 hg2) rfl rfl wT_0 rfl rfl [2, 3, 4] rfl rfl (by omega) (Nat.le_of_ble_eq_true rfl) (Nat.le_of_ble_eq_true rfl) (Nat.le_of_ble_eq_true rfl) (Nat.le_of_ble_eq_true rfl) (by rintro _ (⟨_, rfl⟩ | ⟨_, rfl⟩) <;> exact (Nat.le_of_ble_eq_true rfl)) ?_
        rintro w1 hq
        obtain ⟨gx4, ax4, rfl, hz4, ha4⟩ := put_any hz2 hg2 hq
        refine AW.world (ws2 := wR E qr gr3 ar (qx 0) qx gx4 ax4) rfl ?_
        refine AW.pcq (pc2 := 37) rfl ?_
        refine A_iload_n (dX2_denied 21 rfl) rfl ?_
        refine A_ri (dX2_denied 22 rfl) rfl b01_nar ?_
        rw [b01_f hb1]
        exact RC_bad hb1 (h03.trans h02) hf3.1 hz4 (ha4.trans hf3.2.2)
    · rw [if_pos ho5] at hpp
      cases hpp
      refine A_iload_n (dX2_denied 4 rfl) rfl ?_
      refine A_iconst (5) (dX2_denied 5 rfl) (by decide +kernel) ?_
      refine A_icmp_lt 16 (dX2_denied 6 rfl) (by decide) (fun h11 => absurd h11 (nI_nlt (a := o) (b := 5) ho5 (by omega))) (fun h11 => ?_)
      refine A_iconst (0) (dX2_denied 7 rfl) (by decide +kernel) ?_
      refine A_ri (dX2_denied 8 rfl) rfl (by decide) ?_
      exact RC_bad (by simp) rfl hP.1 ⟨z, by omega, hz⟩ rfl
  · rw [if_neg hck] at hpp
    obtain ⟨r1, hr1, hpp⟩ := bnd hpp
    obtain ⟨p1, p2, p3, p4⟩ := pp_ok hL.2.2.2.1 f 3 o i r1 hr1 hP.2.2.2.2
    have hn160 := hL.2.1
    refine A_aload_n (dX2_denied 0 rfl) rfl ?_
    refine A_get (dX2_denied 1 rfl) fwX2_25 wR_0 cR_f0_4 ?_
    refine A_bipush (8) (dX2_denied 2 rfl) (by decide +kernel) ?_
    refine A_icmp_ne 39 (dX2_denied 3 rfl) (by decide) (fun h6 => ?_) (fun h6 => absurd h6 (fun y => hck (hP.2.1.symm.trans y)))
    refine A_aload_n (dX2_denied 23 rfl) rfl ?_
    refine A_iload_n (dX2_denied 24 rfl) rfl ?_
    refine A_callVWi 1 (dX2_denied 25 rfl) cbX2_sum cwX2_121 (h3 gr gx ax o i z r1 hr1 ho hL hP hz hzi) rfl rfl wR_0 rfl rfl (by omega) (Nat.le_of_ble_eq_true rfl) (Nat.le_of_ble_eq_true rfl) (Nat.le_of_ble_eq_true rfl) (Nat.le_of_ble_eq_true rfl) ?_
    rintro x1 w1 ⟨gr3, gx3, ax3, rfl, h03, rfl, hs, hf⟩
    refine AW.pcq (pc2 := 44) rfl ?_
    by_cases hb1 : r1.1 = true
    · rw [if_pos hb1] at hpp
      obtain ⟨hP3, hT3⟩ := hs hb1
      refine A_if_ne 49 (dX2_denied 26 rfl) (by decide) (fun h44 => ?_) (fun h44 => absurd h44 (by rw [b01_t hb1]; decide))
      by_cases hq : ck B r1.2.1 = 60
      · refine A_aload_n (dX2_denied 29 rfl) rfl ?_
        refine A_get (dX2_denied 30 rfl) fwX2_25 wR_0 cR_f0_4 ?_
        refine A_bipush (60) (dX2_denied 31 rfl) (by decide +kernel) ?_
        refine A_icmp_eq 69 (dX2_denied 32 rfl) (by decide) (fun h55 => ?_) (fun h55 => absurd (hP3.2.1.trans hq) h55)
        first
          | (rw [if_pos (Or.inl hq)] at hpp
             simp only [if_pos hq] at hpp
             obtain ⟨t, ht, hpp⟩ := bnd hpp
             refine AW.mono (r_den_less E qr ar qx n B f h3 gr3 gx3 ax3 o r1.2.1 (z + r1.2.2.length) (if t.1 = true then (true, t.2.1, t.2.2 ++ [-12]) else t) hq (by rw [ht]; simp only [Option.bind_some]; split <;> rfl) ho (hL.of h03) hP3 hT3.1 (by omega)) (fun v w hz2 => ?_)
             obtain ⟨rr, hr, hm⟩ := hz2
             have h8 := RC_seq h03 hT3 hm
             by_cases hb2 : t.1 = true
             · rw [if_pos hb2] at hpp h8
               cases hpp
               rw [List.append_assoc]
               exact ⟨rr, hr, h8⟩
             · rw [if_neg hb2] at hpp h8
               cases hpp
               exact ⟨rr, hr, RC_cut hb2 h8⟩)
          | (rw [if_pos (Or.inr hq2)] at hpp
             simp only [if_neg hq] at hpp
             obtain ⟨t, ht, hpp⟩ := bnd hpp
             refine AW.mono (r_den_like E qr ar qx n B f h3 gr3 gx3 ax3 o r1.2.1 (z + r1.2.2.length) (if t.1 = true then (true, t.2.1, t.2.2 ++ [-13]) else t) hq2 (by rw [ht]; simp only [Option.bind_some]; split <;> rfl) ho (hL.of h03) hP3 hT3.1 (by omega)) (fun v w hz2 => ?_)
             obtain ⟨rr, hr, hm⟩ := hz2
             have h8 := RC_seq h03 hT3 hm
             by_cases hb2 : t.1 = true
             · rw [if_pos hb2] at hpp h8
               cases hpp
               rw [List.append_assoc]
               exact ⟨rr, hr, h8⟩
             · rw [if_neg hb2] at hpp h8
               cases hpp
               exact ⟨rr, hr, RC_cut hb2 h8⟩)
      · refine A_aload_n (dX2_denied 29 rfl) rfl ?_
        refine A_get (dX2_denied 30 rfl) fwX2_25 wR_0 cR_f0_4 ?_
        refine A_bipush (60) (dX2_denied 31 rfl) (by decide +kernel) ?_
        refine A_icmp_eq 69 (dX2_denied 32 rfl) (by decide) (fun h55 => absurd (hP3.2.1.symm.trans h55) hq) (fun h55 => ?_)
        by_cases hq2 : ck B r1.2.1 = 61
        · refine A_aload_n (dX2_denied 33 rfl) rfl ?_
          refine A_get (dX2_denied 34 rfl) fwX2_25 wR_0 cR_f0_4 ?_
          refine A_bipush (61) (dX2_denied 35 rfl) (by decide +kernel) ?_
          refine A_icmp_eq 69 (dX2_denied 36 rfl) (by decide) (fun h64 => ?_) (fun h64 => absurd (hP3.2.1.trans hq2) h64)
          first
            | (rw [if_pos (Or.inl hq)] at hpp
               simp only [if_pos hq] at hpp
               obtain ⟨t, ht, hpp⟩ := bnd hpp
               refine AW.mono (r_den_less E qr ar qx n B f h3 gr3 gx3 ax3 o r1.2.1 (z + r1.2.2.length) (if t.1 = true then (true, t.2.1, t.2.2 ++ [-12]) else t) hq (by rw [ht]; simp only [Option.bind_some]; split <;> rfl) ho (hL.of h03) hP3 hT3.1 (by omega)) (fun v w hz2 => ?_)
               obtain ⟨rr, hr, hm⟩ := hz2
               have h8 := RC_seq h03 hT3 hm
               by_cases hb2 : t.1 = true
               · rw [if_pos hb2] at hpp h8
                 cases hpp
                 rw [List.append_assoc]
                 exact ⟨rr, hr, h8⟩
               · rw [if_neg hb2] at hpp h8
                 cases hpp
                 exact ⟨rr, hr, RC_cut hb2 h8⟩)
            | (rw [if_pos (Or.inr hq2)] at hpp
               simp only [if_neg hq] at hpp
               obtain ⟨t, ht, hpp⟩ := bnd hpp
               refine AW.mono (r_den_like E qr ar qx n B f h3 gr3 gx3 ax3 o r1.2.1 (z + r1.2.2.length) (if t.1 = true then (true, t.2.1, t.2.2 ++ [-13]) else t) hq2 (by rw [ht]; simp only [Option.bind_some]; split <;> rfl) ho (hL.of h03) hP3 hT3.1 (by omega)) (fun v w hz2 => ?_)
               obtain ⟨rr, hr, hm⟩ := hz2
               have h8 := RC_seq h03 hT3 hm
               by_cases hb2 : t.1 = true
               · rw [if_pos hb2] at hpp h8
                 cases hpp
                 rw [List.append_assoc]
                 exact ⟨rr, hr, h8⟩
               · rw [if_neg hb2] at hpp h8
                 cases hpp
                 exact ⟨rr, hr, RC_cut hb2 h8⟩)
        · rw [if_neg (fun y => y.elim hq hq2)] at hpp
          cases hpp
          refine A_aload_n (dX2_denied 33 rfl) rfl ?_
          refine A_get (dX2_denied 34 rfl) fwX2_25 wR_0 cR_f0_4 ?_
          refine A_bipush (61) (dX2_denied 35 rfl) (by decide +kernel) ?_
          refine A_icmp_eq 69 (dX2_denied 36 rfl) (by decide) (fun h64 => absurd (hP3.2.1.symm.trans h64) hq2) (fun h64 => ?_)
          refine A_iconst (1) (dX2_denied 37 rfl) (by decide +kernel) ?_
          refine A_ri (dX2_denied 38 rfl) rfl (by decide) ?_
          exact ⟨gr3, gx3, ax3, rfl, h03, (b01_t hb1).symm, fun _ => ⟨hP3, hT3⟩, fun y => absurd hb1 (by rw [y]; simp)⟩
    · rw [if_neg hb1] at hpp
      cases hpp
      have hf3 := hf (by simpa using hb1)
      refine A_if_ne 49 (dX2_denied 26 rfl) (by decide) (fun h44 => absurd (b01_f hb1) h44) (fun h44 => ?_)
      refine A_iconst (0) (dX2_denied 27 rfl) (by decide +kernel) ?_
      refine A_ri (dX2_denied 28 rfl) rfl (by decide) ?_
      exact RC_bad hb1 h03 hf3.1 hf3.2.1 hf3.2.2
