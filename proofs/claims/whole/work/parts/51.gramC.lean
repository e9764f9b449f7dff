theorem LXC.of {gr gr2 : Nat → Int32} {ar : Nat → Nat → Int32} {n : Nat} {B : Nat → Int32} (h : LXC gr ar n B) (h0 : gr2 0 = gr 0) : LXC gr2 ar n B := ⟨h0.trans h.1, h.2⟩
/-- code c has come behind the first z steps -/
def TP (gx2 : Nat → Int32) (ax2 ax : Nat → Nat → Int32) (z : Nat) (c : List Int32) : Prop := gx2 0 = nI (z + c.length) ∧ (∀ k, k < z → ax2 0 k = ax 0 k) ∧ (∀ j, j < c.length → ax2 0 (z + j) = c.getD j 0) ∧ ax2 1 = ax 1
theorem TP.nil {gx : Nat → Int32} {ax : Nat → Nat → Int32} {z : Nat} (h : gx 0 = nI z) : TP gx ax ax z [] := ⟨h, fun _ _ => rfl, fun j hj => by simp at hj, rfl⟩
theorem TP.app {gx1 gx2 : Nat → Int32} {ax ax1 ax2 : Nat → Nat → Int32} {z : Nat} {c d : List Int32} (h : TP gx1 ax1 ax z c) (k : TP gx2 ax2 ax1 (z + c.length) d) : TP gx2 ax2 ax z (c ++ d) := by
  obtain ⟨h1, h2, h3, h4⟩ := h
  obtain ⟨k1, k2, k3, k4⟩ := k
  refine ⟨by rw [k1, List.length_append]; congr 1; omega, fun j hj => by rw [k2 j (by omega), h2 j hj], fun j hj => ?_, k4.trans h4⟩
  rw [List.length_append] at hj
  rcases Nat.lt_or_ge j c.length with q | q
  · rw [k2 _ (by omega), h3 j q, List.getD_eq_getElem?_getD, List.getD_eq_getElem?_getD, List.getElem?_append_left q]
  · have e := k3 (j - c.length) (by omega)
    rw [show z + c.length + (j - c.length) = z + j by omega] at e
    rw [e, List.getD_eq_getElem?_getD, List.getD_eq_getElem?_getD, List.getElem?_append_right q]
theorem TP.put {gx : Nat → Int32} {ax : Nat → Nat → Int32} {z : Nat} {v : Int32} : TP (upd gx 0 (nI (z + 1))) (va_up ax 0 (upd (ax 0) z v)) ax z [v] := by
  refine ⟨rfl, fun k hk => ?_, fun j hj => ?_, rfl⟩
  · show upd (ax 0) z v k = ax 0 k
    simp only [upd]
    rw [if_neg (by omega)]
  · obtain rfl : j = 0 := by simpa using hj
    show upd (ax 0) z v (z + 0) = v
    exact pk_us
def RC (E : ag) (qr : Nat → Nat) (ar : Nat → Nat → Int32) (qx : Nat → Nat) (n : Nat) (B : Nat → Int32) (gr : Nat → Int32) (ax : Nat → Nat → Int32) (z : Nat) (res : Bool × Nat × List Int32) (r : Int32) (w : va_W) : Prop :=
  ∃ (gr2 gx2 : Nat → Int32) (ax2 : Nat → Nat → Int32), w = wR E qr gr2 ar (qx 0) qx gx2 ax2 ∧ gr2 0 = gr 0 ∧ r = b01 (res.1 = true) ∧ (res.1 = true → RPM B n gr2 res.2.1 ∧ TP gx2 ax2 ax z res.2.2) ∧ (res.1 = false → gr2 1 = nI (lst B res.2.1) ∧ (∃ z2, z2 ≤ 160 ∧ gx2 0 = nI z2) ∧ ax2 1 = ax 1)
theorem RC_seq {E : ag} {qr : Nat → Nat} {ar : Nat → Nat → Int32} {qx : Nat → Nat} {n : Nat} {B : Nat → Int32} {gr gr1 gx1 : Nat → Int32} {ax ax1 : Nat → Nat → Int32} {z : Nat} {c : List Int32} {t : Bool × Nat × List Int32} {r : Int32} {w : va_W} (h0 : gr1 0 = gr 0) (hT : TP gx1 ax1 ax z c) (h : RC E qr ar qx n B gr1 ax1 (z + c.length) t r w) : RC E qr ar qx n B gr ax z (t.1, t.2.1, c ++ t.2.2) r w := by
  obtain ⟨gr2, gx2, ax2, rfl, h1, h2, h3, h4⟩ := h
  exact ⟨gr2, gx2, ax2, rfl, h1.trans h0, h2, fun hb => ⟨(h3 hb).1, hT.app (h3 hb).2⟩, fun hb => ⟨(h4 hb).1, (h4 hb).2.1, (h4 hb).2.2.trans hT.2.2.2⟩⟩
theorem RC_ok {E : ag} {qr : Nat → Nat} {ar : Nat → Nat → Int32} {qx : Nat → Nat} {n : Nat} {B : Nat → Int32} {gr gr2 gx2 : Nat → Int32} {ax ax2 : Nat → Nat → Int32} {z j : Nat} {c : List Int32} (h0 : gr2 0 = gr 0) (hP : RPM B n gr2 j) (hT : TP gx2 ax2 ax z c) : RC E qr ar qx n B gr ax z (true, j, c) 1 (wR E qr gr2 ar (qx 0) qx gx2 ax2) := ⟨gr2, gx2, ax2, rfl, h0, (b01_t rfl).symm, fun _ => ⟨hP, hT⟩, fun h => absurd h (by simp)⟩
theorem RC_bad {E : ag} {qr : Nat → Nat} {ar : Nat → Nat → Int32} {qx : Nat → Nat} {n : Nat} {B : Nat → Int32} {gr gr2 gx2 : Nat → Int32} {ax ax2 : Nat → Nat → Int32} {z : Nat} {res : Bool × Nat × List Int32} (hb : ¬ res.1 = true) (h0 : gr2 0 = gr 0) (h1 : gr2 1 = nI (lst B res.2.1)) (h2 : ∃ z2, z2 ≤ 160 ∧ gx2 0 = nI z2) (h3 : ax2 1 = ax 1) : RC E qr ar qx n B gr ax z res 0 (wR E qr gr2 ar (qx 0) qx gx2 ax2) := ⟨gr2, gx2, ax2, rfl, h0, (b01_f hb).symm, fun h => absurd h hb, fun _ => ⟨h1, h2, h3⟩⟩
theorem b01n {p : Prop} [Decidable p] : narrow .boolean (.int (b01 p)) = .int (b01 p) := b01_nar
theorem put_any {E : ag} {qx : Nat → Nat} {gx : Nat → Int32} {ax : Nat → Nat → Int32} {v : Int32} {z : Nat} {w : va_W} (hz : z ≤ 160) (hg : gx 0 = nI z) (h : (z < 160 ∧ w = wT E qx (upd gx 0 (nI (z + 1))) (va_up ax 0 (upd (ax 0) z v))) ∨ (z = 160 ∧ w = wT E qx gx ax)) : ∃ (gx2 : Nat → Int32) (ax2 : Nat → Nat → Int32), w = wT E qx gx2 ax2 ∧ (∃ z2, z2 ≤ 160 ∧ gx2 0 = nI z2) ∧ ax2 1 = ax 1 := by
  rcases h with ⟨h1, rfl⟩ | ⟨h1, rfl⟩
  · exact ⟨_, _, rfl, ⟨z + 1, by omega, rfl⟩, rfl⟩
  · exact ⟨gx, ax, rfl, ⟨z, hz, hg⟩, rfl⟩
def KM (E : ag) (qr : Nat → Nat) (ar : Nat → Nat → Int32) (qx : Nat → Nat) (n : Nat) (B : Nat → Int32) (y : MethodName) (cc : ByteArray) (nL w k f : Nat) : Prop := ∀ (gr gx : Nat → Int32) (ax : Nat → Nat → Int32) (o i z : Nat) (res : Bool × Nat × List Int32), pp B f w o i = some res → o ≤ 5 → LXC gr ar n B → RPM B n gr i → gx 0 = nI z → z ≤ i → CT E y cc nL (some .boolean) (6 * (5 - o) + k) 0 0 [.ref (qr 0), .int (nI o)] (wR E qr gr ar (qx 0) qx gx ax) (ri (RC E qr ar qx n B gr ax z res))
def KL (E : ag) (qr : Nat → Nat) (ar : Nat → Nat → Int32) (qx : Nat → Nat) (n : Nat) (B : Nat → Int32) (M : am) (w k f : Nat) : Prop := ∀ (gr gx : Nat → Int32) (ax : Nat → Nat → Int32) (o i z : Nat) (res : Bool × Nat × List Int32), pp B f w o i = some res → o ≤ 5 → LXC gr ar n B → RPM B n gr i → gx 0 = nI z → z ≤ i → ∀ kk, kk ≤ i → AW E M (6 * (5 - o) + k) 0 0 8 [some (.ref (qr 0)), some (.int (nI o)), some (.int 1), some (.int (nI kk))] [] (wR E qr gr ar (qx 0) qx gx ax) (ri (RC E qr ar qx n B gr ax z res))
def KL5 (E : ag) (qr : Nat → Nat) (ar : Nat → Nat → Int32) (qx : Nat → Nat) (n : Nat) (B : Nat → Int32) (M : am) (w k f : Nat) : Prop := ∀ (gr gx : Nat → Int32) (ax : Nat → Nat → Int32) (o i z : Nat) (res : Bool × Nat × List Int32), pp B f w o i = some res → o ≤ 5 → LXC gr ar n B → RPM B n gr i → gx 0 = nI z → z ≤ i → ∀ kk, kk ≤ i → ∀ x4 : Option Value, noL [x4] = true → AW E M (6 * (5 - o) + k) 0 0 8 [some (.ref (qr 0)), some (.int (nI o)), some (.int 1), some (.int (nI kk)), x4] [] (wR E qr gr ar (qx 0) qx gx ax) (ri (RC E qr ar qx n B gr ax z res))
set_option maxRecDepth 100000 in
set_option maxHeartbeats 400000 in
theorem r_either_bad (E : ag) (qr : Nat → Nat) (oo : Int32) (ws : va_W) (d : Nat) (kk : Int32) (post : Int32 → va_W → Prop) (hp : post 0 ws) : AW E mX2_either d 0 0 8 [some (.ref (qr 0)), some (.int oo), some (.int 0), some (.int kk)] [] ws (ri post) := by
  refine A_iload_n (dX2_either 6 rfl) rfl ?_
  refine A_sipush (160) (dX2_either 7 rfl) (by decide +kernel) ?_
  refine A_icmp_ge 53 (dX2_either 8 rfl) (by decide) (fun h12 => ?_) (fun h12 => ?_)
  · refine A_iload_n (dX2_either 27 rfl) rfl ?_
    refine A_ri (dX2_either 28 rfl) rfl (by decide) ?_
    exact hp
  · refine A_iload_n (dX2_either 9 rfl) rfl ?_
    refine A_if_eq 53 (dX2_either 10 rfl) (by decide) (fun h16 => ?_) (fun h16 => absurd rfl h16)
    refine A_iload_n (dX2_either 27 rfl) rfl ?_
    refine A_ri (dX2_either 28 rfl) rfl (by decide) ?_
    exact hp
set_option maxRecDepth 100000 in
set_option maxHeartbeats 400000 in
theorem r_both_bad (E : ag) (qr : Nat → Nat) (oo : Int32) (ws : va_W) (d : Nat) (kk : Int32) (post : Int32 → va_W → Prop) (hp : post 0 ws) : AW E mX2_both d 0 0 8 [some (.ref (qr 0)), some (.int oo), some (.int 0), some (.int kk)] [] ws (ri post) := by
  refine A_iload_n (dX2_both 6 rfl) rfl ?_
  refine A_sipush (160) (dX2_both 7 rfl) (by decide +kernel) ?_
  refine A_icmp_ge 53 (dX2_both 8 rfl) (by decide) (fun h12 => ?_) (fun h12 => ?_)
  · refine A_iload_n (dX2_both 27 rfl) rfl ?_
    refine A_ri (dX2_both 28 rfl) rfl (by decide) ?_
    exact hp
  · refine A_iload_n (dX2_both 9 rfl) rfl ?_
    refine A_if_eq 53 (dX2_both 10 rfl) (by decide) (fun h16 => ?_) (fun h16 => absurd rfl h16)
    refine A_iload_n (dX2_both 27 rfl) rfl ?_
    refine A_ri (dX2_both 28 rfl) rfl (by decide) ?_
    exact hp
set_option maxRecDepth 100000 in
set_option maxHeartbeats 400000 in
theorem r_term_bad (E : ag) (qr : Nat → Nat) (oo : Int32) (ws : va_W) (d : Nat) (kk : Int32) (post : Int32 → va_W → Prop) (hp : post 0 ws) : AW E mX2_term d 0 0 8 [some (.ref (qr 0)), some (.int oo), some (.int 0), some (.int kk)] [] ws (ri post) := by
  refine A_iload_n (dX2_term 6 rfl) rfl ?_
  refine A_sipush (160) (dX2_term 7 rfl) (by decide +kernel) ?_
  refine A_icmp_ge 53 (dX2_term 8 rfl) (by decide) (fun h12 => ?_) (fun h12 => ?_)
  · refine A_iload_n (dX2_term 27 rfl) rfl ?_
    refine A_ri (dX2_term 28 rfl) rfl (by decide) ?_
    exact hp
  · refine A_iload_n (dX2_term 9 rfl) rfl ?_
    refine A_if_eq 53 (dX2_term 10 rfl) (by decide) (fun h16 => ?_) (fun h16 => absurd rfl h16)
    refine A_iload_n (dX2_term 27 rfl) rfl ?_
    refine A_ri (dX2_term 28 rfl) rfl (by decide) ?_
    exact hp
set_option maxRecDepth 100000 in
set_option maxHeartbeats 400000 in
theorem r_sum_bad (E : ag) (qr : Nat → Nat) (oo : Int32) (ws : va_W) (d : Nat) (kk : Int32) (x4 : Option Value) (post : Int32 → va_W → Prop) (hp : post 0 ws) : AW E mX2_sum d 0 0 8 [some (.ref (qr 0)), some (.int oo), some (.int 0), some (.int kk), x4] [] ws (ri post) := by
  refine A_iload_n (dX2_sum 6 rfl) rfl ?_
  refine A_sipush (160) (dX2_sum 7 rfl) (by decide +kernel) ?_
  refine A_icmp_ge 80 (dX2_sum 8 rfl) (by decide) (fun h12 => ?_) (fun h12 => ?_)
  · refine A_iload_n (dX2_sum 39 rfl) rfl ?_
    refine A_ri (dX2_sum 40 rfl) rfl (by decide) ?_
    exact hp
  · refine A_iload_n (dX2_sum 9 rfl) rfl ?_
    refine A_if_eq 80 (dX2_sum 10 rfl) (by decide) (fun h16 => ?_) (fun h16 => absurd rfl h16)
    refine A_iload_n (dX2_sum 39 rfl) rfl ?_
    refine A_ri (dX2_sum 40 rfl) rfl (by decide) ?_
    exact hp
set_option maxRecDepth 100000 in
set_option maxHeartbeats 1000000 in
theorem r_either_loop (E : ag) (qr : Nat → Nat) (ar : Nat → Nat → Int32) (qx : Nat → Nat) (n : Nat) (B : Nat → Int32) (f : Nat) (h1 : KM E qr ar qx n B yX2_both cX2_both 4 1 13 f) (h6 : KL E qr ar qx n B mX2_either 6 14 f) : KL E qr ar qx n B mX2_either 6 14 (f + 1) := by
  intro gr gx ax o i z res hpp ho hL hP hz hzi kk hkk
  simp only [pp] at hpp
  by_cases hck : ck B i = 6
  · rw [if_pos hck] at hpp
    obtain ⟨r1, hr1, hpp⟩ := bnd hpp
    have hmm := men_g hL.2.2.2.1 hP.2.2.2.2 hck (by decide) (by decide)
    have hc2 : ¬ ck B i = 2 := by rw [hck]; decide
    obtain ⟨p1, p2, p3, p4⟩ := pp_ok hL.2.2.2.1 f 1 o (men B i) r1 hr1 hmm.2
    have hn160 := hL.2.1
    refine A_iload_n (dX2_either 6 rfl) rfl ?_
    refine A_sipush (160) (dX2_either 7 rfl) (by decide +kernel) ?_
    refine A_icmp_ge 53 (dX2_either 8 rfl) (by decide) (fun h12 => absurd h12 (nI_ge (a := kk) (b := 160) (by omega) (by decide))) (fun h12 => ?_)
    refine A_iload_n (dX2_either 9 rfl) rfl ?_
    refine A_if_eq 53 (dX2_either 10 rfl) (by decide) (fun h16 => absurd h16 (by decide)) (fun h16 => ?_)
    refine A_aload_n (dX2_either 11 rfl) rfl ?_
    refine A_get (dX2_either 12 rfl) fwX2_25 wR_0 cR_f0_4 ?_
    refine A_bipush (6) (dX2_either 13 rfl) (by decide +kernel) ?_
    refine AW.pcq (pc2 := 25) rfl ?_
    refine A_icmp_ne 53 (dX2_either 14 rfl) (by decide) (fun h25 => absurd (hP.2.1.trans hck) h25) (fun h25 => ?_)
    refine A_aload_n (dX2_either 15 rfl) rfl ?_
    refine A_callVv 0 (dX2_either 16 rfl) cbX2_next cwX2_41 (r_next E qr gr ar (qx 0) n B hL (men B i) hmm.2 (hP.2.2.1 hc2)) rfl rfl wR1_0 rfl rfl [0, 1] rfl rfl (by omega) (Nat.le_of_ble_eq_true rfl) (Nat.le_of_ble_eq_true rfl) (Nat.le_of_ble_eq_true rfl) (Nat.le_of_ble_eq_true rfl) (by rintro _ ⟨_, rfl, _⟩; exact (Nat.le_of_ble_eq_true rfl)) ?_
    rintro w1 ⟨gr2, rfl, h02, hP2⟩
    refine AW.world (ws2 := wR E qr gr2 ar (qx 0) qx gx ax) rfl ?_
    refine AW.pcq (pc2 := 32) rfl ?_
    refine A_aload_n (dX2_either 17 rfl) rfl ?_
    refine A_iload_n (dX2_either 18 rfl) rfl ?_
    refine A_callVWi 1 (dX2_either 19 rfl) cbX2_both cwX2_112 (h1 gr2 gx ax o (men B i) z r1 hr1 ho (hL.of h02) hP2 hz (by omega)) rfl rfl wR_0 rfl rfl (by omega) (Nat.le_of_ble_eq_true rfl) (Nat.le_of_ble_eq_true rfl) (Nat.le_of_ble_eq_true rfl) (Nat.le_of_ble_eq_true rfl) ?_
    rintro x1 w1 ⟨gr3, gx3, ax3, rfl, h03, rfl, hs, hf⟩
    refine AW.pcq (pc2 := 37) rfl ?_
    refine A_istore_n (ls2 := [_, _, _, _]) (dX2_either 20 rfl) (by decide) rfl rfl ?_
    by_cases hb1 : r1.1 = true
    · rw [if_pos hb1] at hpp
      obtain ⟨t, ht, hpp⟩ := bnd hpp
      cases hpp
      obtain ⟨hP3, hT3⟩ := hs hb1
      refine A_aload_n (dX2_either 21 rfl) rfl ?_
      refine A_get (dX2_either 22 rfl) fwX2_34 wR_0 cR_f0_6 ?_
      refine A_bipush (-15) (dX2_either 23 rfl) (by decide +kernel) ?_
      refine A_callVv 1 (dX2_either 24 rfl) cbX4_put cwX2_115 (x_put E qx gx3 ax3 (-15) (z + r1.2.2.length) (by omega) hT3.1) rfl rfl wT_0 rfl rfl [2, 3, 4] rfl rfl (by omega) (Nat.le_of_ble_eq_true rfl) (Nat.le_of_ble_eq_true rfl) (Nat.le_of_ble_eq_true rfl) (Nat.le_of_ble_eq_true rfl) (by rintro _ (⟨_, rfl⟩ | ⟨_, rfl⟩) <;> exact (Nat.le_of_ble_eq_true rfl)) ?_
      rintro w1 (⟨hz9, rfl⟩ | ⟨hz9, rfl⟩)
      rotate_left
      · omega
      refine AW.world (ws2 := wR E qr gr3 ar (qx 0) qx (upd gx3 0 (nI (z + r1.2.2.length + 1))) (va_up ax3 0 (upd (ax3 0) (z + r1.2.2.length) (-15)))) rfl ?_
      refine AW.pcq (pc2 := 47) rfl ?_
      refine A_iinc (ls2 := [_, _, _, _]) (nI (kk + 1)) (dX2_either 25 rfl) rfl (nI_1 kk) (by decide) rfl rfl ?_
      refine A_goto 8 (dX2_either 26 rfl) (by decide) ?_
      have h8 := h6 gr3 (upd gx3 0 (nI (z + r1.2.2.length + 1))) (va_up ax3 0 (upd (ax3 0) (z + r1.2.2.length) (-15))) o r1.2.1 (z + r1.2.2.length + 1) t ht ho (hL.of (h03.trans h02)) hP3 (show upd gx3 0 (nI (z + r1.2.2.length + 1)) 0 = _ from rfl) (by omega) (kk + 1) (by omega)
      rw [b01_t hb1]
      refine AW.mono h8 (fun v w hq => ?_)
      obtain ⟨rr, hr, hm⟩ := hq
      have h9 := RC_seq (c := r1.2.2 ++ [(-15 : Int32)]) (h03.trans h02) (TP.app hT3 (TP.put (gx := gx3) (v := (-15 : Int32)))) (by rw [List.length_append, List.length_singleton, ← Nat.add_assoc]; exact hm)
      rw [List.append_assoc] at h9
      exact ⟨rr, hr, h9⟩
    · rw [if_neg hb1] at hpp
      cases hpp
      have hf3 := hf (by simpa using hb1)
      obtain ⟨z2, hz2, hg2⟩ := hf3.2.1
      refine A_aload_n (dX2_either 21 rfl) rfl ?_
      refine A_get (dX2_either 22 rfl) fwX2_34 wR_0 cR_f0_6 ?_
      refine A_bipush (-15) (dX2_either 23 rfl) (by decide +kernel) ?_
      refine A_callVv 1 (dX2_either 24 rfl) cbX4_put cwX2_115 (x_put E qx gx3 ax3 (-15) z2 hz2 hg2) rfl rfl wT_0 rfl rfl [2, 3, 4] rfl rfl (by omega) (Nat.le_of_ble_eq_true rfl) (Nat.le_of_ble_eq_true rfl) (Nat.le_of_ble_eq_true rfl) (Nat.le_of_ble_eq_true rfl) (by rintro _ (⟨_, rfl⟩ | ⟨_, rfl⟩) <;> exact (Nat.le_of_ble_eq_true rfl)) ?_
      rintro w1 hq
      obtain ⟨gx4, ax4, rfl, hz4, ha4⟩ := put_any hz2 hg2 hq
      refine AW.world (ws2 := wR E qr gr3 ar (qx 0) qx gx4 ax4) rfl ?_
      refine AW.pcq (pc2 := 47) rfl ?_
      refine A_iinc (ls2 := [_, _, _, _]) _ (dX2_either 25 rfl) rfl rfl (by decide) rfl rfl ?_
      refine A_goto 8 (dX2_either 26 rfl) (by decide) ?_
      rw [b01_f hb1]
      exact r_either_bad E qr _ _ _ _ _ (RC_bad hb1 (h03.trans h02) hf3.1 hz4 (ha4.trans hf3.2.2))
  · rw [if_neg hck] at hpp
    cases hpp
    refine A_iload_n (dX2_either 6 rfl) rfl ?_
    refine A_sipush (160) (dX2_either 7 rfl) (by decide +kernel) ?_
    refine A_icmp_ge 53 (dX2_either 8 rfl) (by decide) (fun h12 => ?_) (fun h12 => ?_)
    · refine A_iload_n (dX2_either 27 rfl) rfl ?_
      refine A_ri (dX2_either 28 rfl) rfl (by decide) ?_
      exact RC_ok rfl hP (TP.nil hz)
    · refine A_iload_n (dX2_either 9 rfl) rfl ?_
      refine A_if_eq 53 (dX2_either 10 rfl) (by decide) (fun h16 => absurd h16 (by decide)) (fun h16 => ?_)
      refine A_aload_n (dX2_either 11 rfl) rfl ?_
      refine A_get (dX2_either 12 rfl) fwX2_25 wR_0 cR_f0_4 ?_
      refine A_bipush (6) (dX2_either 13 rfl) (by decide +kernel) ?_
      refine A_icmp_ne 53 (dX2_either 14 rfl) (by decide) (fun h25 => ?_) (fun h25 => absurd h25 (fun y => hck (hP.2.1.symm.trans y)))
      refine A_iload_n (dX2_either 27 rfl) rfl ?_
      refine A_ri (dX2_either 28 rfl) rfl (by decide) ?_
      exact RC_ok rfl hP (TP.nil hz)
set_option maxRecDepth 100000 in
set_option maxHeartbeats 1000000 in
theorem r_both_loop (E : ag) (qr : Nat → Nat) (ar : Nat → Nat → Int32) (qx : Nat → Nat) (n : Nat) (B : Nat → Int32) (f : Nat) (h1 : KM E qr ar qx n B yX2_denied cX2_denied 4 2 12 f) (h6 : KL E qr ar qx n B mX2_both 7 13 f) : KL E qr ar qx n B mX2_both 7 13 (f + 1) := by
  intro gr gx ax o i z res hpp ho hL hP hz hzi kk hkk
  simp only [pp] at hpp
  by_cases hck : ck B i = 7
  · rw [if_pos hck] at hpp
    obtain ⟨r1, hr1, hpp⟩ := bnd hpp
    have hmm := men_g hL.2.2.2.1 hP.2.2.2.2 hck (by decide) (by decide)
    have hc2 : ¬ ck B i = 2 := by rw [hck]; decide
    obtain ⟨p1, p2, p3, p4⟩ := pp_ok hL.2.2.2.1 f 2 o (men B i) r1 hr1 hmm.2
    have hn160 := hL.2.1
    refine A_iload_n (dX2_both 6 rfl) rfl ?_
    refine A_sipush (160) (dX2_both 7 rfl) (by decide +kernel) ?_
    refine A_icmp_ge 53 (dX2_both 8 rfl) (by decide) (fun h12 => absurd h12 (nI_ge (a := kk) (b := 160) (by omega) (by decide))) (fun h12 => ?_)
    refine A_iload_n (dX2_both 9 rfl) rfl ?_
    refine A_if_eq 53 (dX2_both 10 rfl) (by decide) (fun h16 => absurd h16 (by decide)) (fun h16 => ?_)
    refine A_aload_n (dX2_both 11 rfl) rfl ?_
    refine A_get (dX2_both 12 rfl) fwX2_25 wR_0 cR_f0_4 ?_
    refine A_bipush (7) (dX2_both 13 rfl) (by decide +kernel) ?_
    refine AW.pcq (pc2 := 25) rfl ?_
    refine A_icmp_ne 53 (dX2_both 14 rfl) (by decide) (fun h25 => absurd (hP.2.1.trans hck) h25) (fun h25 => ?_)
    refine A_aload_n (dX2_both 15 rfl) rfl ?_
    refine A_callVv 0 (dX2_both 16 rfl) cbX2_next cwX2_41 (r_next E qr gr ar (qx 0) n B hL (men B i) hmm.2 (hP.2.2.1 hc2)) rfl rfl wR1_0 rfl rfl [0, 1] rfl rfl (by omega) (Nat.le_of_ble_eq_true rfl) (Nat.le_of_ble_eq_true rfl) (Nat.le_of_ble_eq_true rfl) (Nat.le_of_ble_eq_true rfl) (by rintro _ ⟨_, rfl, _⟩; exact (Nat.le_of_ble_eq_true rfl)) ?_
    rintro w1 ⟨gr2, rfl, h02, hP2⟩
    refine AW.world (ws2 := wR E qr gr2 ar (qx 0) qx gx ax) rfl ?_
    refine AW.pcq (pc2 := 32) rfl ?_
    refine A_aload_n (dX2_both 17 rfl) rfl ?_
    refine A_iload_n (dX2_both 18 rfl) rfl ?_
    refine A_callVWi 1 (dX2_both 19 rfl) cbX2_denied cwX2_118 (h1 gr2 gx ax o (men B i) z r1 hr1 ho (hL.of h02) hP2 hz (by omega)) rfl rfl wR_0 rfl rfl (by omega) (Nat.le_of_ble_eq_true rfl) (Nat.le_of_ble_eq_true rfl) (Nat.le_of_ble_eq_true rfl) (Nat.le_of_ble_eq_true rfl) ?_
    rintro x1 w1 ⟨gr3, gx3, ax3, rfl, h03, rfl, hs, hf⟩
    refine AW.pcq (pc2 := 37) rfl ?_
    refine A_istore_n (ls2 := [_, _, _, _]) (dX2_both 20 rfl) (by decide) rfl rfl ?_
    by_cases hb1 : r1.1 = true
    · rw [if_pos hb1] at hpp
      obtain ⟨t, ht, hpp⟩ := bnd hpp
      cases hpp
      obtain ⟨hP3, hT3⟩ := hs hb1
      refine A_aload_n (dX2_both 21 rfl) rfl ?_
      refine A_get (dX2_both 22 rfl) fwX2_34 wR_0 cR_f0_6 ?_
      refine A_bipush (-14) (dX2_both 23 rfl) (by decide +kernel) ?_
      refine A_callVv 1 (dX2_both 24 rfl) cbX4_put cwX2_115 (x_put E qx gx3 ax3 (-14) (z + r1.2.2.length) (by omega) hT3.1) rfl rfl wT_0 rfl rfl [2, 3, 4] rfl rfl (by omega) (Nat.le_of_ble_eq_true rfl) (Nat.le_of_ble_eq_true rfl) (Nat.le_of_ble_eq_true rfl) (Nat.le_of_ble_eq_true rfl) (by rintro _ (⟨_, rfl⟩ | ⟨_, rfl⟩) <;> exact (Nat.le_of_ble_eq_true rfl)) ?_
      rintro w1 (⟨hz9, rfl⟩ | ⟨hz9, rfl⟩)
      rotate_left
      · omega
      refine AW.world (ws2 := wR E qr gr3 ar (qx 0) qx (upd gx3 0 (nI (z + r1.2.2.length + 1))) (va_up ax3 0 (upd (ax3 0) (z + r1.2.2.length) (-14)))) rfl ?_
      refine AW.pcq (pc2 := 47) rfl ?_
      refine A_iinc (ls2 := [_, _, _, _]) (nI (kk + 1)) (dX2_both 25 rfl) rfl (nI_1 kk) (by decide) rfl rfl ?_
      refine A_goto 8 (dX2_both 26 rfl) (by decide) ?_
      have h8 := h6 gr3 (upd gx3 0 (nI (z + r1.2.2.length + 1))) (va_up ax3 0 (upd (ax3 0) (z + r1.2.2.length) (-14))) o r1.2.1 (z + r1.2.2.length + 1) t ht ho (hL.of (h03.trans h02)) hP3 (show upd gx3 0 (nI (z + r1.2.2.length + 1)) 0 = _ from rfl) (by omega) (kk + 1) (by omega)
      rw [b01_t hb1]
      refine AW.mono h8 (fun v w hq => ?_)
      obtain ⟨rr, hr, hm⟩ := hq
      have h9 := RC_seq (c := r1.2.2 ++ [(-14 : Int32)]) (h03.trans h02) (TP.app hT3 (TP.put (gx := gx3) (v := (-14 : Int32)))) (by rw [List.length_append, List.length_singleton, ← Nat.add_assoc]; exact hm)
      rw [List.append_assoc] at h9
      exact ⟨rr, hr, h9⟩
    · rw [if_neg hb1] at hpp
      cases hpp
      have hf3 := hf (by simpa using hb1)
      obtain ⟨z2, hz2, hg2⟩ := hf3.2.1
      refine A_aload_n (dX2_both 21 rfl) rfl ?_
      refine A_get (dX2_both 22 rfl) fwX2_34 wR_0 cR_f0_6 ?_
      refine A_bipush (-14) (dX2_both 23 rfl) (by decide +kernel) ?_
      refine A_callVv 1 (dX2_both 24 rfl) cbX4_put cwX2_115 (x_put E qx gx3 ax3 (-14) z2 hz2 hg2) rfl rfl wT_0 rfl rfl [2, 3, 4] rfl rfl (by omega) (Nat.le_of_ble_eq_true rfl) (Nat.le_of_ble_eq_true rfl) (Nat.le_of_ble_eq_true rfl) (Nat.le_of_ble_eq_true rfl) (by rintro _ (⟨_, rfl⟩ | ⟨_, rfl⟩) <;> exact (Nat.le_of_ble_eq_true rfl)) ?_
      rintro w1 hq
      obtain ⟨gx4, ax4, rfl, hz4, ha4⟩ := put_any hz2 hg2 hq
      refine AW.world (ws2 := wR E qr gr3 ar (qx 0) qx gx4 ax4) rfl ?_
      refine AW.pcq (pc2 := 47) rfl ?_
      refine A_iinc (ls2 := [_, _, _, _]) _ (dX2_both 25 rfl) rfl rfl (by decide) rfl rfl ?_
      refine A_goto 8 (dX2_both 26 rfl) (by decide) ?_
      rw [b01_f hb1]
      exact r_both_bad E qr _ _ _ _ _ (RC_bad hb1 (h03.trans h02) hf3.1 hz4 (ha4.trans hf3.2.2))
  · rw [if_neg hck] at hpp
    cases hpp
    refine A_iload_n (dX2_both 6 rfl) rfl ?_
    refine A_sipush (160) (dX2_both 7 rfl) (by decide +kernel) ?_
    refine A_icmp_ge 53 (dX2_both 8 rfl) (by decide) (fun h12 => ?_) (fun h12 => ?_)
    · refine A_iload_n (dX2_both 27 rfl) rfl ?_
      refine A_ri (dX2_both 28 rfl) rfl (by decide) ?_
      exact RC_ok rfl hP (TP.nil hz)
    · refine A_iload_n (dX2_both 9 rfl) rfl ?_
      refine A_if_eq 53 (dX2_both 10 rfl) (by decide) (fun h16 => absurd h16 (by decide)) (fun h16 => ?_)
      refine A_aload_n (dX2_both 11 rfl) rfl ?_
      refine A_get (dX2_both 12 rfl) fwX2_25 wR_0 cR_f0_4 ?_
      refine A_bipush (7) (dX2_both 13 rfl) (by decide +kernel) ?_
      refine A_icmp_ne 53 (dX2_both 14 rfl) (by decide) (fun h25 => ?_) (fun h25 => absurd h25 (fun y => hck (hP.2.1.symm.trans y)))
      refine A_iload_n (dX2_both 27 rfl) rfl ?_
      refine A_ri (dX2_both 28 rfl) rfl (by decide) ?_
      exact RC_ok rfl hP (TP.nil hz)
set_option maxRecDepth 100000 in
set_option maxHeartbeats 1000000 in
theorem r_term_loop (E : ag) (qr : Nat → Nat) (ar : Nat → Nat → Int32) (qx : Nat → Nat) (n : Nat) (B : Nat → Int32) (f : Nat) (h1 : KM E qr ar qx n B yX2_one cX2_one 3 5 9 f) (h6 : KL E qr ar qx n B mX2_term 9 10 f) : KL E qr ar qx n B mX2_term 9 10 (f + 1) := by
  intro gr gx ax o i z res hpp ho hL hP hz hzi kk hkk
  simp only [pp] at hpp
  by_cases hck : ck B i = 42
  · rw [if_pos hck] at hpp
    obtain ⟨r1, hr1, hpp⟩ := bnd hpp
    have hmm := men_g hL.2.2.2.1 hP.2.2.2.2 hck (by decide) (by decide)
    have hc2 : ¬ ck B i = 2 := by rw [hck]; decide
    obtain ⟨p1, p2, p3, p4⟩ := pp_ok hL.2.2.2.1 f 5 o (men B i) r1 hr1 hmm.2
    have hn160 := hL.2.1
    refine A_iload_n (dX2_term 6 rfl) rfl ?_
    refine A_sipush (160) (dX2_term 7 rfl) (by decide +kernel) ?_
    refine A_icmp_ge 53 (dX2_term 8 rfl) (by decide) (fun h12 => absurd h12 (nI_ge (a := kk) (b := 160) (by omega) (by decide))) (fun h12 => ?_)
    refine A_iload_n (dX2_term 9 rfl) rfl ?_
    refine A_if_eq 53 (dX2_term 10 rfl) (by decide) (fun h16 => absurd h16 (by decide)) (fun h16 => ?_)
    refine A_aload_n (dX2_term 11 rfl) rfl ?_
    refine A_get (dX2_term 12 rfl) fwX2_25 wR_0 cR_f0_4 ?_
    refine A_bipush (42) (dX2_term 13 rfl) (by decide +kernel) ?_
    refine AW.pcq (pc2 := 25) rfl ?_
    refine A_icmp_ne 53 (dX2_term 14 rfl) (by decide) (fun h25 => absurd (hP.2.1.trans hck) h25) (fun h25 => ?_)
    refine A_aload_n (dX2_term 15 rfl) rfl ?_
    refine A_callVv 0 (dX2_term 16 rfl) cbX2_next cwX2_41 (r_next E qr gr ar (qx 0) n B hL (men B i) hmm.2 (hP.2.2.1 hc2)) rfl rfl wR1_0 rfl rfl [0, 1] rfl rfl (by omega) (Nat.le_of_ble_eq_true rfl) (Nat.le_of_ble_eq_true rfl) (Nat.le_of_ble_eq_true rfl) (Nat.le_of_ble_eq_true rfl) (by rintro _ ⟨_, rfl, _⟩; exact (Nat.le_of_ble_eq_true rfl)) ?_
    rintro w1 ⟨gr2, rfl, h02, hP2⟩
    refine AW.world (ws2 := wR E qr gr2 ar (qx 0) qx gx ax) rfl ?_
    refine AW.pcq (pc2 := 32) rfl ?_
    refine A_aload_n (dX2_term 17 rfl) rfl ?_
    refine A_iload_n (dX2_term 18 rfl) rfl ?_
    refine A_callVWi 1 (dX2_term 19 rfl) cbX2_one cwX2_127 (h1 gr2 gx ax o (men B i) z r1 hr1 ho (hL.of h02) hP2 hz (by omega)) rfl rfl wR_0 rfl rfl (by omega) (Nat.le_of_ble_eq_true rfl) (Nat.le_of_ble_eq_true rfl) (Nat.le_of_ble_eq_true rfl) (Nat.le_of_ble_eq_true rfl) ?_
    rintro x1 w1 ⟨gr3, gx3, ax3, rfl, h03, rfl, hs, hf⟩
    refine AW.pcq (pc2 := 37) rfl ?_
    refine A_istore_n (ls2 := [_, _, _, _]) (dX2_term 20 rfl) (by decide) rfl rfl ?_
    by_cases hb1 : r1.1 = true
    · rw [if_pos hb1] at hpp
      obtain ⟨t, ht, hpp⟩ := bnd hpp
      cases hpp
      obtain ⟨hP3, hT3⟩ := hs hb1
      refine A_aload_n (dX2_term 21 rfl) rfl ?_
      refine A_get (dX2_term 22 rfl) fwX2_34 wR_0 cR_f0_6 ?_
      refine A_bipush (-11) (dX2_term 23 rfl) (by decide +kernel) ?_
      refine A_callVv 1 (dX2_term 24 rfl) cbX4_put cwX2_115 (x_put E qx gx3 ax3 (-11) (z + r1.2.2.length) (by omega) hT3.1) rfl rfl wT_0 rfl rfl [2, 3, 4] rfl rfl (by omega) (Nat.le_of_ble_eq_true rfl) (Nat.le_of_ble_eq_true rfl) (Nat.le_of_ble_eq_true rfl) (Nat.le_of_ble_eq_true rfl) (by rintro _ (⟨_, rfl⟩ | ⟨_, rfl⟩) <;> exact (Nat.le_of_ble_eq_true rfl)) ?_
      rintro w1 (⟨hz9, rfl⟩ | ⟨hz9, rfl⟩)
      rotate_left
      · omega
      refine AW.world (ws2 := wR E qr gr3 ar (qx 0) qx (upd gx3 0 (nI (z + r1.2.2.length + 1))) (va_up ax3 0 (upd (ax3 0) (z + r1.2.2.length) (-11)))) rfl ?_
      refine AW.pcq (pc2 := 47) rfl ?_
      refine A_iinc (ls2 := [_, _, _, _]) (nI (kk + 1)) (dX2_term 25 rfl) rfl (nI_1 kk) (by decide) rfl rfl ?_
      refine A_goto 8 (dX2_term 26 rfl) (by decide) ?_
      have h8 := h6 gr3 (upd gx3 0 (nI (z + r1.2.2.length + 1))) (va_up ax3 0 (upd (ax3 0) (z + r1.2.2.length) (-11))) o r1.2.1 (z + r1.2.2.length + 1) t ht ho (hL.of (h03.trans h02)) hP3 (show upd gx3 0 (nI (z + r1.2.2.length + 1)) 0 = _ from rfl) (by omega) (kk + 1) (by omega)
      rw [b01_t hb1]
      refine AW.mono h8 (fun v w hq => ?_)
      obtain ⟨rr, hr, hm⟩ := hq
      have h9 := RC_seq (c := r1.2.2 ++ [(-11 : Int32)]) (h03.trans h02) (TP.app hT3 (TP.put (gx := gx3) (v := (-11 : Int32)))) (by rw [List.length_append, List.length_singleton, ← Nat.add_assoc]; exact hm)
      rw [List.append_assoc] at h9
      exact ⟨rr, hr, h9⟩
    · rw [if_neg hb1] at hpp
      cases hpp
      have hf3 := hf (by simpa using hb1)
      obtain ⟨z2, hz2, hg2⟩ := hf3.2.1
      refine A_aload_n (dX2_term 21 rfl) rfl ?_
      refine A_get (dX2_term 22 rfl) fwX2_34 wR_0 cR_f0_6 ?_
      refine A_bipush (-11) (dX2_term 23 rfl) (by decide +kernel) ?_
      refine A_callVv 1 (dX2_term 24 rfl) cbX4_put cwX2_115 (x_put E qx gx3 ax3 (-11) z2 hz2 hg2) rfl rfl wT_0 rfl rfl [2, 3, 4] rfl rfl (by omega) (Nat.le_of_ble_eq_true rfl) (Nat.le_of_ble_eq_true rfl) (Nat.le_of_ble_eq_true rfl) (Nat.le_of_ble_eq_true rfl) (by rintro _ (⟨_, rfl⟩ | ⟨_, rfl⟩) <;> exact (Nat.le_of_ble_eq_true rfl)) ?_
      rintro w1 hq
      obtain ⟨gx4, ax4, rfl, hz4, ha4⟩ := put_any hz2 hg2 hq
      refine AW.world (ws2 := wR E qr gr3 ar (qx 0) qx gx4 ax4) rfl ?_
      refine AW.pcq (pc2 := 47) rfl ?_
      refine A_iinc (ls2 := [_, _, _, _]) _ (dX2_term 25 rfl) rfl rfl (by decide) rfl rfl ?_
      refine A_goto 8 (dX2_term 26 rfl) (by decide) ?_
      rw [b01_f hb1]
      exact r_term_bad E qr _ _ _ _ _ (RC_bad hb1 (h03.trans h02) hf3.1 hz4 (ha4.trans hf3.2.2))
  · rw [if_neg hck] at hpp
    cases hpp
    refine A_iload_n (dX2_term 6 rfl) rfl ?_
    refine A_sipush (160) (dX2_term 7 rfl) (by decide +kernel) ?_
    refine A_icmp_ge 53 (dX2_term 8 rfl) (by decide) (fun h12 => ?_) (fun h12 => ?_)
    · refine A_iload_n (dX2_term 27 rfl) rfl ?_
      refine A_ri (dX2_term 28 rfl) rfl (by decide) ?_
      exact RC_ok rfl hP (TP.nil hz)
    · refine A_iload_n (dX2_term 9 rfl) rfl ?_
      refine A_if_eq 53 (dX2_term 10 rfl) (by decide) (fun h16 => absurd h16 (by decide)) (fun h16 => ?_)
      refine A_aload_n (dX2_term 11 rfl) rfl ?_
      refine A_get (dX2_term 12 rfl) fwX2_25 wR_0 cR_f0_4 ?_
      refine A_bipush (42) (dX2_term 13 rfl) (by decide +kernel) ?_
      refine A_icmp_ne 53 (dX2_term 14 rfl) (by decide) (fun h25 => ?_) (fun h25 => absurd h25 (fun y => hck (hP.2.1.symm.trans y)))
      refine A_iload_n (dX2_term 27 rfl) rfl ?_
      refine A_ri (dX2_term 28 rfl) rfl (by decide) ?_
      exact RC_ok rfl hP (TP.nil hz)
set_option maxRecDepth 100000 in
set_option maxHeartbeats 400000 in
theorem r_either (E : ag) (qr : Nat → Nat) (ar : Nat → Nat → Int32) (qx : Nat → Nat) (n : Nat) (B : Nat → Int32) (f : Nat) (hs0 : KM E qr ar qx n B yX2_both cX2_both 4 1 13 f) (h9 : KL E qr ar qx n B mX2_either 6 14 f) : KM E qr ar qx n B yX2_either cX2_either 4 0 14 (f + 1) := by
  intro gr gx ax o i z res hpp ho hL hP hz hzi
  simp only [pp] at hpp
  obtain ⟨r1, hr1, hpp⟩ := bnd hpp
  obtain ⟨p1, p2, p3, p4⟩ := pp_ok hL.2.2.2.1 f 1 o i r1 hr1 hP.2.2.2.2
  refine CT.of (M := mX2_either) (ls := [some (.ref (qr 0)), some (.int (nI o)), none, none]) (by decide) rfl (by decide) rfl (Nat.le_of_ble_eq_true rfl) ?_
  refine A_aload_n (dX2_either 0 rfl) rfl ?_
  refine A_iload_n (dX2_either 1 rfl) rfl ?_
  refine A_callVWi 1 (dX2_either 2 rfl) cbX2_both cwX2_112 (hs0 gr gx ax o i z r1 hr1 ho hL hP hz hzi) rfl rfl wR_0 rfl rfl (by omega) (Nat.le_of_ble_eq_true rfl) (Nat.le_of_ble_eq_true rfl) (Nat.le_of_ble_eq_true rfl) (Nat.le_of_ble_eq_true rfl) ?_
  rintro x1 w1 ⟨gr3, gx3, ax3, rfl, h03, rfl, hs, hf⟩
  refine AW.pcq (pc2 := 5) rfl ?_
  refine A_istore_n (ls2 := [_, _, _, _]) (dX2_either 3 rfl) (by decide) rfl rfl ?_
  refine A_iconst (0) (dX2_either 4 rfl) (by decide +kernel) ?_
  refine A_istore_n (ls2 := [_, _, _, _]) (dX2_either 5 rfl) (by decide) rfl rfl ?_
  by_cases hb1 : r1.1 = true
  · rw [if_pos hb1] at hpp
    obtain ⟨t, ht, hpp⟩ := bnd hpp
    cases hpp
    obtain ⟨hP3, hT3⟩ := hs hb1
    rw [b01_t hb1]
    refine AW.mono (h9 gr3 gx3 ax3 o r1.2.1 (z + r1.2.2.length) t ht ho (hL.of h03) hP3 hT3.1 (by omega) 0 (Nat.zero_le _)) (fun v w hq => ?_)
    obtain ⟨rr, hr, hm⟩ := hq
    exact ⟨rr, hr, RC_seq h03 hT3 hm⟩
  · rw [if_neg hb1] at hpp
    cases hpp
    have hf3 := hf (by simpa using hb1)
    rw [b01_f hb1]
    exact r_either_bad E qr _ _ _ _ _ (RC_bad hb1 h03 hf3.1 hf3.2.1 hf3.2.2)
set_option maxRecDepth 100000 in
set_option maxHeartbeats 400000 in
theorem r_both (E : ag) (qr : Nat → Nat) (ar : Nat → Nat → Int32) (qx : Nat → Nat) (n : Nat) (B : Nat → Int32) (f : Nat) (hs0 : KM E qr ar qx n B yX2_denied cX2_denied 4 2 12 f) (h9 : KL E qr ar qx n B mX2_both 7 13 f) : KM E qr ar qx n B yX2_both cX2_both 4 1 13 (f + 1) := by
  intro gr gx ax o i z res hpp ho hL hP hz hzi
  simp only [pp] at hpp
  obtain ⟨r1, hr1, hpp⟩ := bnd hpp
  obtain ⟨p1, p2, p3, p4⟩ := pp_ok hL.2.2.2.1 f 2 o i r1 hr1 hP.2.2.2.2
  refine CT.of (M := mX2_both) (ls := [some (.ref (qr 0)), some (.int (nI o)), none, none]) (by decide) rfl (by decide) rfl (Nat.le_of_ble_eq_true rfl) ?_
  refine A_aload_n (dX2_both 0 rfl) rfl ?_
  refine A_iload_n (dX2_both 1 rfl) rfl ?_
  refine A_callVWi 1 (dX2_both 2 rfl) cbX2_denied cwX2_118 (hs0 gr gx ax o i z r1 hr1 ho hL hP hz hzi) rfl rfl wR_0 rfl rfl (by omega) (Nat.le_of_ble_eq_true rfl) (Nat.le_of_ble_eq_true rfl) (Nat.le_of_ble_eq_true rfl) (Nat.le_of_ble_eq_true rfl) ?_
  rintro x1 w1 ⟨gr3, gx3, ax3, rfl, h03, rfl, hs, hf⟩
  refine AW.pcq (pc2 := 5) rfl ?_
  refine A_istore_n (ls2 := [_, _, _, _]) (dX2_both 3 rfl) (by decide) rfl rfl ?_
  refine A_iconst (0) (dX2_both 4 rfl) (by decide +kernel) ?_
  refine A_istore_n (ls2 := [_, _, _, _]) (dX2_both 5 rfl) (by decide) rfl rfl ?_
  by_cases hb1 : r1.1 = true
  · rw [if_pos hb1] at hpp
    obtain ⟨t, ht, hpp⟩ := bnd hpp
    cases hpp
    obtain ⟨hP3, hT3⟩ := hs hb1
    rw [b01_t hb1]
    refine AW.mono (h9 gr3 gx3 ax3 o r1.2.1 (z + r1.2.2.length) t ht ho (hL.of h03) hP3 hT3.1 (by omega) 0 (Nat.zero_le _)) (fun v w hq => ?_)
    obtain ⟨rr, hr, hm⟩ := hq
    exact ⟨rr, hr, RC_seq h03 hT3 hm⟩
  · rw [if_neg hb1] at hpp
    cases hpp
    have hf3 := hf (by simpa using hb1)
    rw [b01_f hb1]
    exact r_both_bad E qr _ _ _ _ _ (RC_bad hb1 h03 hf3.1 hf3.2.1 hf3.2.2)
set_option maxRecDepth 100000 in
set_option maxHeartbeats 400000 in
theorem r_term (E : ag) (qr : Nat → Nat) (ar : Nat → Nat → Int32) (qx : Nat → Nat) (n : Nat) (B : Nat → Int32) (f : Nat) (hs0 : KM E qr ar qx n B yX2_one cX2_one 3 5 9 f) (h9 : KL E qr ar qx n B mX2_term 9 10 f) : KM E qr ar qx n B yX2_term cX2_term 4 4 10 (f + 1) := by
  intro gr gx ax o i z res hpp ho hL hP hz hzi
  simp only [pp] at hpp
  obtain ⟨r1, hr1, hpp⟩ := bnd hpp
  obtain ⟨p1, p2, p3, p4⟩ := pp_ok hL.2.2.2.1 f 5 o i r1 hr1 hP.2.2.2.2
  refine CT.of (M := mX2_term) (ls := [some (.ref (qr 0)), some (.int (nI o)), none, none]) (by decide) rfl (by decide) rfl (Nat.le_of_ble_eq_true rfl) ?_
  refine A_aload_n (dX2_term 0 rfl) rfl ?_
  refine A_iload_n (dX2_term 1 rfl) rfl ?_
  refine A_callVWi 1 (dX2_term 2 rfl) cbX2_one cwX2_127 (hs0 gr gx ax o i z r1 hr1 ho hL hP hz hzi) rfl rfl wR_0 rfl rfl (by omega) (Nat.le_of_ble_eq_true rfl) (Nat.le_of_ble_eq_true rfl) (Nat.le_of_ble_eq_true rfl) (Nat.le_of_ble_eq_true rfl) ?_
  rintro x1 w1 ⟨gr3, gx3, ax3, rfl, h03, rfl, hs, hf⟩
  refine AW.pcq (pc2 := 5) rfl ?_
  refine A_istore_n (ls2 := [_, _, _, _]) (dX2_term 3 rfl) (by decide) rfl rfl ?_
  refine A_iconst (0) (dX2_term 4 rfl) (by decide +kernel) ?_
  refine A_istore_n (ls2 := [_, _, _, _]) (dX2_term 5 rfl) (by decide) rfl rfl ?_
  by_cases hb1 : r1.1 = true
  · rw [if_pos hb1] at hpp
    obtain ⟨t, ht, hpp⟩ := bnd hpp
    cases hpp
    obtain ⟨hP3, hT3⟩ := hs hb1
    rw [b01_t hb1]
    refine AW.mono (h9 gr3 gx3 ax3 o r1.2.1 (z + r1.2.2.length) t ht ho (hL.of h03) hP3 hT3.1 (by omega) 0 (Nat.zero_le _)) (fun v w hq => ?_)
    obtain ⟨rr, hr, hm⟩ := hq
    exact ⟨rr, hr, RC_seq h03 hT3 hm⟩
  · rw [if_neg hb1] at hpp
    cases hpp
    have hf3 := hf (by simpa using hb1)
    rw [b01_f hb1]
    exact r_term_bad E qr _ _ _ _ _ (RC_bad hb1 h03 hf3.1 hf3.2.1 hf3.2.2)
set_option maxRecDepth 100000 in
set_option maxHeartbeats 400000 in
theorem r_sum (E : ag) (qr : Nat → Nat) (ar : Nat → Nat → Int32) (qx : Nat → Nat) (n : Nat) (B : Nat → Int32) (f : Nat) (hs0 : KM E qr ar qx n B yX2_term cX2_term 4 4 10 f) (h9 : KL5 E qr ar qx n B mX2_sum 8 11 f) : KM E qr ar qx n B yX2_sum cX2_sum 5 3 11 (f + 1) := by
  intro gr gx ax o i z res hpp ho hL hP hz hzi
  simp only [pp] at hpp
  obtain ⟨r1, hr1, hpp⟩ := bnd hpp
  obtain ⟨p1, p2, p3, p4⟩ := pp_ok hL.2.2.2.1 f 4 o i r1 hr1 hP.2.2.2.2
  refine CT.of (M := mX2_sum) (ls := [some (.ref (qr 0)), some (.int (nI o)), none, none, none]) (by decide) rfl (by decide) rfl (Nat.le_of_ble_eq_true rfl) ?_
  refine A_aload_n (dX2_sum 0 rfl) rfl ?_
  refine A_iload_n (dX2_sum 1 rfl) rfl ?_
  refine A_callVWi 1 (dX2_sum 2 rfl) cbX2_term cwX2_124 (hs0 gr gx ax o i z r1 hr1 ho hL hP hz hzi) rfl rfl wR_0 rfl rfl (by omega) (Nat.le_of_ble_eq_true rfl) (Nat.le_of_ble_eq_true rfl) (Nat.le_of_ble_eq_true rfl) (Nat.le_of_ble_eq_true rfl) ?_
  rintro x1 w1 ⟨gr3, gx3, ax3, rfl, h03, rfl, hs, hf⟩
  refine AW.pcq (pc2 := 5) rfl ?_
  refine A_istore_n (ls2 := [_, _, _, _, _]) (dX2_sum 3 rfl) (by decide) rfl rfl ?_
  refine A_iconst (0) (dX2_sum 4 rfl) (by decide +kernel) ?_
  refine A_istore_n (ls2 := [_, _, _, _, _]) (dX2_sum 5 rfl) (by decide) rfl rfl ?_
  by_cases hb1 : r1.1 = true
  · rw [if_pos hb1] at hpp
    obtain ⟨t, ht, hpp⟩ := bnd hpp
    cases hpp
    obtain ⟨hP3, hT3⟩ := hs hb1
    rw [b01_t hb1]
    refine AW.mono (h9 gr3 gx3 ax3 o r1.2.1 (z + r1.2.2.length) t ht ho (hL.of h03) hP3 hT3.1 (by omega) 0 (Nat.zero_le _) none rfl) (fun v w hq => ?_)
    obtain ⟨rr, hr, hm⟩ := hq
    exact ⟨rr, hr, RC_seq h03 hT3 hm⟩
  · rw [if_neg hb1] at hpp
    cases hpp
    have hf3 := hf (by simpa using hb1)
    rw [b01_f hb1]
    exact r_sum_bad E qr _ _ _ _ _ _ (RC_bad hb1 h03 hf3.1 hf3.2.1 hf3.2.2)
set_option maxRecDepth 100000 in
set_option maxHeartbeats 1000000 in
theorem r_sum_plus (E : ag) (qr : Nat → Nat) (ar : Nat → Nat → Int32) (qx : Nat → Nat) (n : Nat) (B : Nat → Int32) (f : Nat) (h1 : KM E qr ar qx n B yX2_term cX2_term 4 4 10 f) (h8l : KL5 E qr ar qx n B mX2_sum 8 11 f) (gr gx : Nat → Int32) (ax : Nat → Nat → Int32) (o i z : Nat) (res : Bool × Nat × List Int32) (hck : ck B i = 43) (hpp : (pp B f 4 o (men B i)).bind (fun r => if r.1 = true then (pp B f 8 o r.2.1).bind (fun t => some (t.1, t.2.1, r.2.2 ++ (-9) :: t.2.2)) else some r) = some res) (ho : o ≤ 5) (hL : LXC gr ar n B) (hP : RPM B n gr i) (hz : gx 0 = nI z) (hzi : z ≤ i) (kk : Nat) (hkk : kk ≤ i) (x4 : Option Value) (hx : noL [x4] = true) : AW E mX2_sum (6 * (5 - o) + 11) 0 0 37 [some (.ref (qr 0)), some (.int (nI o)), some (.int 1), some (.int (nI kk)), x4] [] (wR E qr gr ar (qx 0) qx gx ax) (ri (RC E qr ar qx n B gr ax z res)) := by
  obtain ⟨r1, hr1, hpp⟩ := bnd hpp
  have hmm := men_g hL.2.2.2.1 hP.2.2.2.2 hck (by decide) (by decide)
  have hc2 : ¬ ck B i = 2 := by rw [hck]; decide
  obtain ⟨p1, p2, p3, p4⟩ := pp_ok hL.2.2.2.1 f 4 o (men B i) r1 hr1 hmm.2
  have hn160 := hL.2.1
  refine A_aload_n (dX2_sum 19 rfl) rfl ?_
  refine A_get (dX2_sum 20 rfl) fwX2_25 wR_0 cR_f0_4 ?_
  refine A_bipush (43) (dX2_sum 21 rfl) (by decide +kernel) ?_
  refine A_icmp_ne 51 (dX2_sum 22 rfl) (by decide) (fun h43 => absurd (hP.2.1.trans hck) h43) (fun h43 => ?_)
  refine A_bipush (-9) (dX2_sum 23 rfl) (by decide +kernel) ?_
  refine A_goto 53 (dX2_sum 24 rfl) (by decide) ?_
  refine A_istore (ls2 := [_, _, _, _, _]) (dX2_sum 26 rfl) (by decide) (by have := hx; simp_all [noL, Value.category]) rfl ?_
  refine A_aload_n (dX2_sum 27 rfl) rfl ?_
  refine A_callVv 0 (dX2_sum 28 rfl) cbX2_next cwX2_41 (r_next E qr gr ar (qx 0) n B hL (men B i) hmm.2 (hP.2.2.1 hc2)) rfl rfl wR1_0 rfl rfl [0, 1] rfl rfl (by omega) (Nat.le_of_ble_eq_true rfl) (Nat.le_of_ble_eq_true rfl) (Nat.le_of_ble_eq_true rfl) (Nat.le_of_ble_eq_true rfl) (by rintro _ ⟨_, rfl, _⟩; exact (Nat.le_of_ble_eq_true rfl)) ?_
  rintro w1 ⟨gr2, rfl, h02, hP2⟩
  refine AW.world (ws2 := wR E qr gr2 ar (qx 0) qx gx ax) rfl ?_
  refine AW.pcq (pc2 := 59) rfl ?_
  refine A_aload_n (dX2_sum 29 rfl) rfl ?_
  refine A_iload_n (dX2_sum 30 rfl) rfl ?_
  refine A_callVWi 1 (dX2_sum 31 rfl) cbX2_term cwX2_124 (h1 gr2 gx ax o (men B i) z r1 hr1 ho (hL.of h02) hP2 hz (by omega)) rfl rfl wR_0 rfl rfl (by omega) (Nat.le_of_ble_eq_true rfl) (Nat.le_of_ble_eq_true rfl) (Nat.le_of_ble_eq_true rfl) (Nat.le_of_ble_eq_true rfl) ?_
  rintro x1 w1 ⟨gr3, gx3, ax3, rfl, h03, rfl, hs, hf⟩
  refine AW.pcq (pc2 := 64) rfl ?_
  refine A_istore_n (ls2 := [_, _, _, _, _]) (dX2_sum 32 rfl) (by decide) (by have := hx; simp_all [noL, Value.category]) rfl ?_
  by_cases hb1 : r1.1 = true
  · rw [if_pos hb1] at hpp
    obtain ⟨t, ht, hpp⟩ := bnd hpp
    cases hpp
    obtain ⟨hP3, hT3⟩ := hs hb1
    refine A_aload_n (dX2_sum 33 rfl) rfl ?_
    refine A_get (dX2_sum 34 rfl) fwX2_34 wR_0 cR_f0_6 ?_
    refine A_iload (dX2_sum 35 rfl) rfl ?_
    refine A_callVv 1 (dX2_sum 36 rfl) cbX4_put cwX2_115 (x_put E qx gx3 ax3 (-9) (z + r1.2.2.length) (by omega) hT3.1) rfl rfl wT_0 rfl rfl [2, 3, 4] rfl rfl (by omega) (Nat.le_of_ble_eq_true rfl) (Nat.le_of_ble_eq_true rfl) (Nat.le_of_ble_eq_true rfl) (Nat.le_of_ble_eq_true rfl) (by rintro _ (⟨_, rfl⟩ | ⟨_, rfl⟩) <;> exact (Nat.le_of_ble_eq_true rfl)) ?_
    rintro w1 (⟨hz9, rfl⟩ | ⟨hz9, rfl⟩)
    rotate_left
    · omega
    refine AW.world (ws2 := wR E qr gr3 ar (qx 0) qx (upd gx3 0 (nI (z + r1.2.2.length + 1))) (va_up ax3 0 (upd (ax3 0) (z + r1.2.2.length) (-9)))) rfl ?_
    refine AW.pcq (pc2 := 74) rfl ?_
    refine A_iinc (ls2 := [_, _, _, _, _]) (nI (kk + 1)) (dX2_sum 37 rfl) rfl (nI_1 kk) (by decide) (by have := hx; simp_all [noL, Value.category]) rfl ?_
    refine A_goto 8 (dX2_sum 38 rfl) (by decide) ?_
    have h8 := h8l gr3 (upd gx3 0 (nI (z + r1.2.2.length + 1))) (va_up ax3 0 (upd (ax3 0) (z + r1.2.2.length) (-9))) o r1.2.1 (z + r1.2.2.length + 1) t ht ho (hL.of (h03.trans h02)) hP3 (show upd gx3 0 (nI (z + r1.2.2.length + 1)) 0 = _ from rfl) (by omega) (kk + 1) (by omega) (some (.int (-9))) rfl
    rw [b01_t hb1]
    refine AW.mono h8 (fun v w hq => ?_)
    obtain ⟨rr, hr, hm⟩ := hq
    have h9 := RC_seq (c := r1.2.2 ++ [(-9 : Int32)]) (h03.trans h02) (TP.app hT3 (TP.put (gx := gx3) (v := (-9 : Int32)))) (by rw [List.length_append, List.length_singleton, ← Nat.add_assoc]; exact hm)
    rw [List.append_assoc] at h9
    exact ⟨rr, hr, h9⟩
  · rw [if_neg hb1] at hpp
    cases hpp
    have hf3 := hf (by simpa using hb1)
    obtain ⟨z2, hz2, hg2⟩ := hf3.2.1
    refine A_aload_n (dX2_sum 33 rfl) rfl ?_
    refine A_get (dX2_sum 34 rfl) fwX2_34 wR_0 cR_f0_6 ?_
    refine A_iload (dX2_sum 35 rfl) rfl ?_
    refine A_callVv 1 (dX2_sum 36 rfl) cbX4_put cwX2_115 (x_put E qx gx3 ax3 (-9) z2 hz2 hg2) rfl rfl wT_0 rfl rfl [2, 3, 4] rfl rfl (by omega) (Nat.le_of_ble_eq_true rfl) (Nat.le_of_ble_eq_true rfl) (Nat.le_of_ble_eq_true rfl) (Nat.le_of_ble_eq_true rfl) (by rintro _ (⟨_, rfl⟩ | ⟨_, rfl⟩) <;> exact (Nat.le_of_ble_eq_true rfl)) ?_
    rintro w1 hq
    obtain ⟨gx4, ax4, rfl, hz4, ha4⟩ := put_any hz2 hg2 hq
    refine AW.world (ws2 := wR E qr gr3 ar (qx 0) qx gx4 ax4) rfl ?_
    refine AW.pcq (pc2 := 74) rfl ?_
    refine A_iinc (ls2 := [_, _, _, _, _]) _ (dX2_sum 37 rfl) rfl rfl (by decide) (by have := hx; simp_all [noL, Value.category]) rfl ?_
    refine A_goto 8 (dX2_sum 38 rfl) (by decide) ?_
    rw [b01_f hb1]
    exact r_sum_bad E qr _ _ _ _ _ _ (RC_bad hb1 (h03.trans h02) hf3.1 hz4 (ha4.trans hf3.2.2))
set_option maxRecDepth 100000 in
set_option maxHeartbeats 1000000 in
theorem r_sum_minus (E : ag) (qr : Nat → Nat) (ar : Nat → Nat → Int32) (qx : Nat → Nat) (n : Nat) (B : Nat → Int32) (f : Nat) (h1 : KM E qr ar qx n B yX2_term cX2_term 4 4 10 f) (h8l : KL5 E qr ar qx n B mX2_sum 8 11 f) (gr gx : Nat → Int32) (ax : Nat → Nat → Int32) (o i z : Nat) (res : Bool × Nat × List Int32) (hck : ck B i = 45) (hpp : (pp B f 4 o (men B i)).bind (fun r => if r.1 = true then (pp B f 8 o r.2.1).bind (fun t => some (t.1, t.2.1, r.2.2 ++ (-10) :: t.2.2)) else some r) = some res) (ho : o ≤ 5) (hL : LXC gr ar n B) (hP : RPM B n gr i) (hz : gx 0 = nI z) (hzi : z ≤ i) (kk : Nat) (hkk : kk ≤ i) (x4 : Option Value) (hx : noL [x4] = true) : AW E mX2_sum (6 * (5 - o) + 11) 0 0 37 [some (.ref (qr 0)), some (.int (nI o)), some (.int 1), some (.int (nI kk)), x4] [] (wR E qr gr ar (qx 0) qx gx ax) (ri (RC E qr ar qx n B gr ax z res)) := by
  obtain ⟨r1, hr1, hpp⟩ := bnd hpp
  have hmm := men_g hL.2.2.2.1 hP.2.2.2.2 hck (by decide) (by decide)
  have hc2 : ¬ ck B i = 2 := by rw [hck]; decide
  obtain ⟨p1, p2, p3, p4⟩ := pp_ok hL.2.2.2.1 f 4 o (men B i) r1 hr1 hmm.2
  have hn160 := hL.2.1
  refine A_aload_n (dX2_sum 19 rfl) rfl ?_
  refine A_get (dX2_sum 20 rfl) fwX2_25 wR_0 cR_f0_4 ?_
  refine A_bipush (43) (dX2_sum 21 rfl) (by decide +kernel) ?_
  refine A_icmp_ne 51 (dX2_sum 22 rfl) (by decide) (fun h43 => ?_) (fun h43 => absurd h43 (fun y => absurd (hck.symm.trans (hP.2.1.symm.trans y)) (by decide)))
  refine A_bipush (-10) (dX2_sum 25 rfl) (by decide +kernel) ?_
  refine A_istore (ls2 := [_, _, _, _, _]) (dX2_sum 26 rfl) (by decide) (by have := hx; simp_all [noL, Value.category]) rfl ?_
  refine A_aload_n (dX2_sum 27 rfl) rfl ?_
  refine A_callVv 0 (dX2_sum 28 rfl) cbX2_next cwX2_41 (r_next E qr gr ar (qx 0) n B hL (men B i) hmm.2 (hP.2.2.1 hc2)) rfl rfl wR1_0 rfl rfl [0, 1] rfl rfl (by omega) (Nat.le_of_ble_eq_true rfl) (Nat.le_of_ble_eq_true rfl) (Nat.le_of_ble_eq_true rfl) (Nat.le_of_ble_eq_true rfl) (by rintro _ ⟨_, rfl, _⟩; exact (Nat.le_of_ble_eq_true rfl)) ?_
  rintro w1 ⟨gr2, rfl, h02, hP2⟩
  refine AW.world (ws2 := wR E qr gr2 ar (qx 0) qx gx ax) rfl ?_
  refine AW.pcq (pc2 := 59) rfl ?_
  refine A_aload_n (dX2_sum 29 rfl) rfl ?_
  refine A_iload_n (dX2_sum 30 rfl) rfl ?_
  refine A_callVWi 1 (dX2_sum 31 rfl) cbX2_term cwX2_124 (h1 gr2 gx ax o (men B i) z r1 hr1 ho (hL.of h02) hP2 hz (by omega)) rfl rfl wR_0 rfl rfl (by omega) (Nat.le_of_ble_eq_true rfl) (Nat.le_of_ble_eq_true rfl) (Nat.le_of_ble_eq_true rfl) (Nat.le_of_ble_eq_true rfl) ?_
  rintro x1 w1 ⟨gr3, gx3, ax3, rfl, h03, rfl, hs, hf⟩
  refine AW.pcq (pc2 := 64) rfl ?_
  refine A_istore_n (ls2 := [_, _, _, _, _]) (dX2_sum 32 rfl) (by decide) (by have := hx; simp_all [noL, Value.category]) rfl ?_
  by_cases hb1 : r1.1 = true
  · rw [if_pos hb1] at hpp
    obtain ⟨t, ht, hpp⟩ := bnd hpp
    cases hpp
    obtain ⟨hP3, hT3⟩ := hs hb1
    refine A_aload_n (dX2_sum 33 rfl) rfl ?_
    refine A_get (dX2_sum 34 rfl) fwX2_34 wR_0 cR_f0_6 ?_
    refine A_iload (dX2_sum 35 rfl) rfl ?_
    refine A_callVv 1 (dX2_sum 36 rfl) cbX4_put cwX2_115 (x_put E qx gx3 ax3 (-10) (z + r1.2.2.length) (by omega) hT3.1) rfl rfl wT_0 rfl rfl [2, 3, 4] rfl rfl (by omega) (Nat.le_of_ble_eq_true rfl) (Nat.le_of_ble_eq_true rfl) (Nat.le_of_ble_eq_true rfl) (Nat.le_of_ble_eq_true rfl) (by rintro _ (⟨_, rfl⟩ | ⟨_, rfl⟩) <;> exact (Nat.le_of_ble_eq_true rfl)) ?_
    rintro w1 (⟨hz9, rfl⟩ | ⟨hz9, rfl⟩)
    rotate_left
    · omega
    refine AW.world (ws2 := wR E qr gr3 ar (qx 0) qx (upd gx3 0 (nI (z + r1.2.2.length + 1))) (va_up ax3 0 (upd (ax3 0) (z + r1.2.2.length) (-10)))) rfl ?_
    refine AW.pcq (pc2 := 74) rfl ?_
    refine A_iinc (ls2 := [_, _, _, _, _]) (nI (kk + 1)) (dX2_sum 37 rfl) rfl (nI_1 kk) (by decide) (by have := hx; simp_all [noL, Value.category]) rfl ?_
    refine A_goto 8 (dX2_sum 38 rfl) (by decide) ?_
    have h8 := h8l gr3 (upd gx3 0 (nI (z + r1.2.2.length + 1))) (va_up ax3 0 (upd (ax3 0) (z + r1.2.2.length) (-10))) o r1.2.1 (z + r1.2.2.length + 1) t ht ho (hL.of (h03.trans h02)) hP3 (show upd gx3 0 (nI (z + r1.2.2.length + 1)) 0 = _ from rfl) (by omega) (kk + 1) (by omega) (some (.int (-10))) rfl
    rw [b01_t hb1]
    refine AW.mono h8 (fun v w hq => ?_)
    obtain ⟨rr, hr, hm⟩ := hq
    have h9 := RC_seq (c := r1.2.2 ++ [(-10 : Int32)]) (h03.trans h02) (TP.app hT3 (TP.put (gx := gx3) (v := (-10 : Int32)))) (by rw [List.length_append, List.length_singleton, ← Nat.add_assoc]; exact hm)
    rw [List.append_assoc] at h9
    exact ⟨rr, hr, h9⟩
  · rw [if_neg hb1] at hpp
    cases hpp
    have hf3 := hf (by simpa using hb1)
    obtain ⟨z2, hz2, hg2⟩ := hf3.2.1
    refine A_aload_n (dX2_sum 33 rfl) rfl ?_
    refine A_get (dX2_sum 34 rfl) fwX2_34 wR_0 cR_f0_6 ?_
    refine A_iload (dX2_sum 35 rfl) rfl ?_
    refine A_callVv 1 (dX2_sum 36 rfl) cbX4_put cwX2_115 (x_put E qx gx3 ax3 (-10) z2 hz2 hg2) rfl rfl wT_0 rfl rfl [2, 3, 4] rfl rfl (by omega) (Nat.le_of_ble_eq_true rfl) (Nat.le_of_ble_eq_true rfl) (Nat.le_of_ble_eq_true rfl) (Nat.le_of_ble_eq_true rfl) (by rintro _ (⟨_, rfl⟩ | ⟨_, rfl⟩) <;> exact (Nat.le_of_ble_eq_true rfl)) ?_
    rintro w1 hq
    obtain ⟨gx4, ax4, rfl, hz4, ha4⟩ := put_any hz2 hg2 hq
    refine AW.world (ws2 := wR E qr gr3 ar (qx 0) qx gx4 ax4) rfl ?_
    refine AW.pcq (pc2 := 74) rfl ?_
    refine A_iinc (ls2 := [_, _, _, _, _]) _ (dX2_sum 37 rfl) rfl rfl (by decide) (by have := hx; simp_all [noL, Value.category]) rfl ?_
    refine A_goto 8 (dX2_sum 38 rfl) (by decide) ?_
    rw [b01_f hb1]
    exact r_sum_bad E qr _ _ _ _ _ _ (RC_bad hb1 (h03.trans h02) hf3.1 hz4 (ha4.trans hf3.2.2))
set_option maxRecDepth 100000 in
set_option maxHeartbeats 400000 in
theorem r_sum_loop (E : ag) (qr : Nat → Nat) (ar : Nat → Nat → Int32) (qx : Nat → Nat) (n : Nat) (B : Nat → Int32) (f : Nat) (h1 : KM E qr ar qx n B yX2_term cX2_term 4 4 10 f) (h8l : KL5 E qr ar qx n B mX2_sum 8 11 f) : KL5 E qr ar qx n B mX2_sum 8 11 (f + 1) := by
  intro gr gx ax o i z res hpp ho hL hP hz hzi kk hkk x4 hx
  simp only [pp] at hpp
  by_cases hck43 : ck B i = 43
  rotate_left
  by_cases hck45 : ck B i = 45
  · rw [if_pos (Or.inr hck45)] at hpp
    simp only [if_neg hck43] at hpp
    have hmm := men_g hL.2.2.2.1 hP.2.2.2.2 hck45 (by decide) (by decide)
    have hn160 := hL.2.1
    refine A_iload_n (dX2_sum 6 rfl) rfl ?_
    refine A_sipush (160) (dX2_sum 7 rfl) (by decide +kernel) ?_
    refine A_icmp_ge 80 (dX2_sum 8 rfl) (by decide) (fun h12 => absurd h12 (nI_ge (a := kk) (b := 160) (by omega) (by decide))) (fun h12 => ?_)
    refine A_iload_n (dX2_sum 9 rfl) rfl ?_
    refine A_if_eq 80 (dX2_sum 10 rfl) (by decide) (fun h16 => absurd h16 (by decide)) (fun h16 => ?_)
    refine A_aload_n (dX2_sum 11 rfl) rfl ?_
    refine A_get (dX2_sum 12 rfl) fwX2_25 wR_0 cR_f0_4 ?_
    refine A_bipush (43) (dX2_sum 13 rfl) (by decide +kernel) ?_
    refine AW.pcq (pc2 := 25) rfl ?_
    refine A_icmp_eq 37 (dX2_sum 14 rfl) (by decide) (fun h25 => absurd (hP.2.1.symm.trans h25) hck43) (fun h25 => ?_)
    refine A_aload_n (dX2_sum 15 rfl) rfl ?_
    refine A_get (dX2_sum 16 rfl) fwX2_25 wR_0 cR_f0_4 ?_
    refine A_bipush (45) (dX2_sum 17 rfl) (by decide +kernel) ?_
    refine A_icmp_ne 80 (dX2_sum 18 rfl) (by decide) (fun h34 => absurd (hP.2.1.trans hck45) h34) (fun h34 => ?_)
    first
      | exact r_sum_minus E qr ar qx n B f h1 h8l gr gx ax o i z res hck45 hpp ho hL hP hz hzi kk hkk x4 hx
      | exact r_sum_plus E qr ar qx n B f h1 h8l gr gx ax o i z res hck43 hpp ho hL hP hz hzi kk hkk x4 hx
  · rw [if_neg (fun y => y.elim hck43 hck45)] at hpp
    cases hpp
    refine A_iload_n (dX2_sum 6 rfl) rfl ?_
    refine A_sipush (160) (dX2_sum 7 rfl) (by decide +kernel) ?_
    refine A_icmp_ge 80 (dX2_sum 8 rfl) (by decide) (fun h12 => ?_) (fun h12 => ?_)
    · refine A_iload_n (dX2_sum 39 rfl) rfl ?_
      refine A_ri (dX2_sum 40 rfl) rfl (by decide) ?_
      exact RC_ok rfl hP (TP.nil hz)
    · refine A_iload_n (dX2_sum 9 rfl) rfl ?_
      refine A_if_eq 80 (dX2_sum 10 rfl) (by decide) (fun h16 => absurd h16 (by decide)) (fun h16 => ?_)
      refine A_aload_n (dX2_sum 11 rfl) rfl ?_
      refine A_get (dX2_sum 12 rfl) fwX2_25 wR_0 cR_f0_4 ?_
      refine A_bipush (43) (dX2_sum 13 rfl) (by decide +kernel) ?_
      refine A_icmp_eq 37 (dX2_sum 14 rfl) (by decide) (fun h25 => absurd (hP.2.1.symm.trans h25) hck43) (fun h25 => ?_)
      refine A_aload_n (dX2_sum 15 rfl) rfl ?_
      refine A_get (dX2_sum 16 rfl) fwX2_25 wR_0 cR_f0_4 ?_
      refine AW.pcq (pc2 := 32) rfl ?_
      refine A_bipush (45) (dX2_sum 17 rfl) (by decide +kernel) ?_
      refine A_icmp_ne 80 (dX2_sum 18 rfl) (by decide) (fun h34 => ?_) (fun h34 => absurd h34 (fun y => hck45 (hP.2.1.symm.trans y)))
      refine A_iload_n (dX2_sum 39 rfl) rfl ?_
      refine A_ri (dX2_sum 40 rfl) rfl (by decide) ?_
      exact RC_ok rfl hP (TP.nil hz)
  · rw [if_pos (Or.inl hck43)] at hpp
    simp only [if_pos hck43] at hpp
    have hmm := men_g hL.2.2.2.1 hP.2.2.2.2 hck43 (by decide) (by decide)
    have hn160 := hL.2.1
    refine A_iload_n (dX2_sum 6 rfl) rfl ?_
    refine A_sipush (160) (dX2_sum 7 rfl) (by decide +kernel) ?_
    refine A_icmp_ge 80 (dX2_sum 8 rfl) (by decide) (fun h12 => absurd h12 (nI_ge (a := kk) (b := 160) (by omega) (by decide))) (fun h12 => ?_)
    refine A_iload_n (dX2_sum 9 rfl) rfl ?_
    refine A_if_eq 80 (dX2_sum 10 rfl) (by decide) (fun h16 => absurd h16 (by decide)) (fun h16 => ?_)
    refine A_aload_n (dX2_sum 11 rfl) rfl ?_
    refine A_get (dX2_sum 12 rfl) fwX2_25 wR_0 cR_f0_4 ?_
    refine A_bipush (43) (dX2_sum 13 rfl) (by decide +kernel) ?_
    refine AW.pcq (pc2 := 25) rfl ?_
    refine A_icmp_eq 37 (dX2_sum 14 rfl) (by decide) (fun h25 => ?_) (fun h25 => absurd (hP.2.1.trans hck43) h25)
    first
      | exact r_sum_minus E qr ar qx n B f h1 h8l gr gx ax o i z res hck45 hpp ho hL hP hz hzi kk hkk x4 hx
      | exact r_sum_plus E qr ar qx n B f h1 h8l gr gx ax o i z res hck43 hpp ho hL hP hz hzi kk hkk x4 hx
