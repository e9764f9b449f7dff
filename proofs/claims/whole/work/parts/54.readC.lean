set_option maxRecDepth 100000 in
set_option maxHeartbeats 1000000 in
theorem r_partC (E : ag) (qr : Nat → Nat) (ar : Nat → Nat → Int32) (qx : Nat → Nat) (n : Nat) (B : Nat → Int32) (gr gx : Nat → Int32) (ax : Nat → Nat → Int32) (f i z p : Nat) (kv : Int32) (rp : Bool × Nat × List Int32) (hp : p < 3) (hkv : 3 + nI p = kv) (hk0 : ¬ kv = 0) (hk2 : ¬ kv = 2) (hpp : prt B f kv i = some rp) (hL : LXC gr ar n B) (hP : RPM B n gr i) (hz : gx 0 = nI z) (hzi : z ≤ i) (post : Int32 → va_W → Prop) (K : rp.1 = true → z + rp.2.2.length ≤ rp.2.1 → rp.2.1 ≤ n → ∀ (gr3 gx3 : Nat → Int32) (ax3 : Nat → Nat → Int32), gr3 0 = gr 0 → RPM B n gr3 rp.2.1 → gx3 0 = nI (z + rp.2.2.length) → (∀ k, k < z → ax3 0 k = ax 0 k) → (∀ j, j < rp.2.2.length → ax3 0 (z + j) = rp.2.2.getD j 0) → ax3 1 = upd (ax 1) (p + 1) (nI (z + rp.2.2.length)) → AW E mX2_readInto 45 0 0 20 [some (.ref (qr 0)), some (.ref (qx 0)), some (.int (nI (p + 1)))] [] (wR E qr gr3 ar (qx 0) qx gx3 ax3) (ri post)) (KB : rp.1 = false → ∀ (gr3 gx3 : Nat → Int32) (ax3 : Nat → Nat → Int32), gr3 0 = gr 0 → gr3 1 = nI (lst B rp.2.1) → ax3 1 = ax 1 → post 0 (wR E qr gr3 ar (qx 0) qx gx3 ax3)) : AW E mX2_readInto 45 0 0 20 [some (.ref (qr 0)), some (.ref (qx 0)), some (.int (nI p))] [] (wR E qr gr ar (qx 0) qx gx ax) (ri post) := by
  refine A_iload_n (dX2_readInto 12 rfl) rfl ?_
  refine A_iconst (3) (dX2_readInto 13 rfl) (by decide +kernel) ?_
  refine A_icmp_ge 65 (dX2_readInto 14 rfl) (by decide) (fun h22 => absurd h22 (nI_ge (a := p) (b := 3) hp (by decide))) (fun h22 => ?_)
  by_cases hck : ck B i = kv
  · unfold prt at hpp
    rw [if_pos hck] at hpp
    obtain ⟨r1, hr1, hpp⟩ := bnd hpp
    have hmm := men_g hL.2.2.2.1 hP.2.2.2.2 hck hk0 hk2
    obtain ⟨p1, p2, p3, p4⟩ := pp_ok hL.2.2.2.1 f 0 0 (men B i) r1 hr1 hmm.2
    refine A_aload_n (dX2_readInto 15 rfl) rfl ?_
    refine A_iconst (3) (dX2_readInto 16 rfl) (by decide +kernel) ?_
    refine A_iload_n (dX2_readInto 17 rfl) rfl ?_
    refine A_iadd (dX2_readInto 18 rfl) ?_
    rw [hkv]
    refine A_callVi 1 (dX2_readInto 19 rfl) cbX2_take cwX2_44 (r_take E qr gr ar (qx 0) n B hL i kv hP hk2) rfl rfl wR1_0 rfl rfl [0, 1] rfl rfl (Nat.le_of_ble_eq_true rfl) (Nat.le_of_ble_eq_true rfl) (Nat.le_of_ble_eq_true rfl) (Nat.le_of_ble_eq_true rfl) (Nat.le_of_ble_eq_true rfl) (by rintro _ _ (⟨_, _, _, rfl, _⟩ | ⟨_, _, rfl⟩) <;> exact (Nat.le_of_ble_eq_true rfl)) ?_
    rintro rt w1 (⟨hq9, rfl, gr2, rfl, h02, hP2⟩ | ⟨hq9, rfl, rfl⟩)
    rotate_left
    · exact absurd (by assumption) hq9
    refine AW.world (ws2 := wR E qr gr2 ar (qx 0) qx gx ax) rfl ?_
    refine AW.pcq (pc2 := 32) rfl ?_
    refine A_if_eq 52 (dX2_readInto 20 rfl) (by decide) (fun h32 => absurd h32 (by decide)) (fun h32 => ?_)
    refine A_aload_n (dX2_readInto 21 rfl) rfl ?_
    refine A_iconst (0) (dX2_readInto 22 rfl) (by decide +kernel) ?_
    refine A_callVWi 1 (dX2_readInto 23 rfl) cbX2_either cwX2_48 ((r_all E qr ar qx n B f).1 gr2 gx ax 0 (men B i) z r1 hr1 (by decide) (hL.of h02) hP2 hz (by omega)) rfl rfl wR_0 rfl rfl (Nat.le_of_ble_eq_true rfl) (Nat.le_of_ble_eq_true rfl) (Nat.le_of_ble_eq_true rfl) (Nat.le_of_ble_eq_true rfl) (Nat.le_of_ble_eq_true rfl) ?_
    rintro x1 w1 ⟨gr3, gx3, ax3, rfl, h03, rfl, hs, hf⟩
    refine AW.pcq (pc2 := 40) rfl ?_
    by_cases hb1 : r1.1 = true
    · rw [if_pos hb1] at hpp
      obtain ⟨hP3, hT3⟩ := hs hb1
      refine A_if_eq 52 (dX2_readInto 24 rfl) (by decide) (fun h40 => absurd h40 (by rw [b01_t hb1]; decide)) (fun h40 => ?_)
      by_cases h59 : ck B r1.2.1 = 59
      · rw [if_pos h59] at hpp
        cases hpp
        have hmm2 := men_g hL.2.2.2.1 p2 h59 (by decide) (by decide)
        refine A_aload_n (dX2_readInto 25 rfl) rfl ?_
        refine A_bipush (59) (dX2_readInto 26 rfl) (by decide +kernel) ?_
        refine A_callVi 1 (dX2_readInto 27 rfl) cbX2_take cwX2_44 (r_take E qr gr3 ar (qx 0) n B (hL.of (h03.trans h02)) r1.2.1 59 hP3 (by decide)) rfl rfl wR1_0 rfl rfl [0, 1] rfl rfl (Nat.le_of_ble_eq_true rfl) (Nat.le_of_ble_eq_true rfl) (Nat.le_of_ble_eq_true rfl) (Nat.le_of_ble_eq_true rfl) (Nat.le_of_ble_eq_true rfl) (by rintro _ _ (⟨_, _, _, rfl, _⟩ | ⟨_, _, rfl⟩) <;> exact (Nat.le_of_ble_eq_true rfl)) ?_
        rintro rt w1 (⟨hq9, rfl, gr4, rfl, h04, hP4⟩ | ⟨hq9, rfl, rfl⟩)
        rotate_left
        · exact absurd (by assumption) hq9
        refine AW.world (ws2 := wR E qr gr4 ar (qx 0) qx gx3 ax3) rfl ?_
        refine AW.pcq (pc2 := 49) rfl ?_
        refine A_if_ne 54 (dX2_readInto 28 rfl) (by decide) (fun h49 => ?_) (fun h49 => absurd h49 (by decide))
        refine A_aload_n (dX2_readInto 31 rfl) rfl ?_
        refine A_iload_n (dX2_readInto 32 rfl) rfl ?_
        refine A_callVv 1 (dX2_readInto 33 rfl) cbX4_endPart cwX2_51 (x_endPart E qx gx3 ax3 p hp) rfl rfl wT_0 rfl rfl [2, 3, 4] rfl rfl (Nat.le_of_ble_eq_true rfl) (Nat.le_of_ble_eq_true rfl) (Nat.le_of_ble_eq_true rfl) (Nat.le_of_ble_eq_true rfl) (Nat.le_of_ble_eq_true rfl) (by rintro _ rfl; exact (Nat.le_of_ble_eq_true rfl)) ?_
        rintro w1 rfl
        refine AW.world (ws2 := wR E qr gr4 ar (qx 0) qx gx3 (va_up ax3 1 (upd (ax3 1) (p + 1) (gx3 0)))) rfl ?_
        refine AW.pcq (pc2 := 59) rfl ?_
        refine A_iinc (ls2 := [_, _, _]) (nI (p + 1)) (dX2_readInto 34 rfl) rfl (nI_1 p) (by decide) rfl rfl ?_
        refine A_goto 20 (dX2_readInto 35 rfl) (by decide) ?_
        exact K rfl (by show z + r1.2.2.length ≤ men B r1.2.1; omega) hmm2.2 gr4 gx3 _ (h04.trans (h03.trans h02)) hP4 hT3.1 hT3.2.1 hT3.2.2.1 (by show upd (ax3 1) (p + 1) (gx3 0) = _; rw [hT3.2.2.2, hT3.1])
      · rw [if_neg h59] at hpp
        cases hpp
        refine A_aload_n (dX2_readInto 25 rfl) rfl ?_
        refine A_bipush (59) (dX2_readInto 26 rfl) (by decide +kernel) ?_
        refine A_callVi 1 (dX2_readInto 27 rfl) cbX2_take cwX2_44 (r_take E qr gr3 ar (qx 0) n B (hL.of (h03.trans h02)) r1.2.1 59 hP3 (by decide)) rfl rfl wR1_0 rfl rfl [0, 1] rfl rfl (Nat.le_of_ble_eq_true rfl) (Nat.le_of_ble_eq_true rfl) (Nat.le_of_ble_eq_true rfl) (Nat.le_of_ble_eq_true rfl) (Nat.le_of_ble_eq_true rfl) (by rintro _ _ (⟨_, _, _, rfl, _⟩ | ⟨_, _, rfl⟩) <;> exact (Nat.le_of_ble_eq_true rfl)) ?_
        rintro rt w1 (⟨hq9, rfl, gr4, rfl, h04, hP4⟩ | ⟨hq9, rfl, rfl⟩)
        · exact absurd hq9 (by assumption)
        refine AW.world (ws2 := wR E qr gr3 ar (qx 0) qx gx3 ax3) rfl ?_
        refine AW.pcq (pc2 := 49) rfl ?_
        refine A_if_ne 54 (dX2_readInto 28 rfl) (by decide) (fun h49 => absurd rfl h49) (fun h49 => ?_)
        refine A_iconst (0) (dX2_readInto 29 rfl) (by decide +kernel) ?_
        refine A_ri (dX2_readInto 30 rfl) rfl (by decide) ?_
        exact KB rfl gr3 gx3 ax3 (h03.trans h02) hP3.1 hT3.2.2.2
    · rw [if_neg hb1] at hpp
      cases hpp
      have hf3 := hf (by simpa using hb1)
      refine A_if_eq 52 (dX2_readInto 24 rfl) (by decide) (fun h40 => ?_) (fun h40 => absurd (b01_f hb1) h40)
      refine A_iconst (0) (dX2_readInto 29 rfl) (by decide +kernel) ?_
      refine A_ri (dX2_readInto 30 rfl) rfl (by decide) ?_
      exact KB (by simpa using hb1) gr3 gx3 ax3 (h03.trans h02) hf3.1 hf3.2.2
  · unfold prt at hpp
    rw [if_neg hck] at hpp
    cases hpp
    refine A_aload_n (dX2_readInto 15 rfl) rfl ?_
    refine A_iconst (3) (dX2_readInto 16 rfl) (by decide +kernel) ?_
    refine A_iload_n (dX2_readInto 17 rfl) rfl ?_
    refine A_iadd (dX2_readInto 18 rfl) ?_
    rw [hkv]
    refine A_callVi 1 (dX2_readInto 19 rfl) cbX2_take cwX2_44 (r_take E qr gr ar (qx 0) n B hL i kv hP hk2) rfl rfl wR1_0 rfl rfl [0, 1] rfl rfl (Nat.le_of_ble_eq_true rfl) (Nat.le_of_ble_eq_true rfl) (Nat.le_of_ble_eq_true rfl) (Nat.le_of_ble_eq_true rfl) (Nat.le_of_ble_eq_true rfl) (by rintro _ _ (⟨_, _, _, rfl, _⟩ | ⟨_, _, rfl⟩) <;> exact (Nat.le_of_ble_eq_true rfl)) ?_
    rintro rt w1 (⟨hq9, rfl, gr2, rfl, h02, hP2⟩ | ⟨hq9, rfl, rfl⟩)
    · exact absurd hq9 (by assumption)
    refine AW.world (ws2 := wR E qr gr ar (qx 0) qx gx ax) rfl ?_
    refine AW.pcq (pc2 := 32) rfl ?_
    refine A_if_eq 52 (dX2_readInto 20 rfl) (by decide) (fun h32 => ?_) (fun h32 => absurd rfl h32)
    refine A_iconst (0) (dX2_readInto 29 rfl) (by decide +kernel) ?_
    refine A_ri (dX2_readInto 30 rfl) rfl (by decide) ?_
    exact KB rfl gr gx ax rfl hP.1 rfl
set_option maxRecDepth 100000 in
set_option maxHeartbeats 1000000 in
theorem r_parts (E : ag) (qr : Nat → Nat) (ar : Nat → Nat → Int32) (qx : Nat → Nat) (n : Nat) (B : Nat → Int32) (gr gx : Nat → Int32) (ax : Nat → Nat → Int32) (f : Nat) (res : Bool × Nat × List Int32 × List Int32 × List Int32) (hpp : txt B f = some res) (hL : LXC gr ar n B) (hP : RPM B n gr 0) (hz : gx 0 = nI 0) (he0 : ax 1 0 = 0) : AW E mX2_readInto 45 0 0 20 [some (.ref (qr 0)), some (.ref (qx 0)), some (.int (nI 0))] [] (wR E qr gr ar (qx 0) qx gx ax) (ri (fun r w => ∃ (gr2 gx2 : Nat → Int32) (ax2 : Nat → Nat → Int32), w = wR E qr gr2 ar (qx 0) qx gx2 ax2 ∧ gr2 0 = gr 0 ∧ ax2 1 0 = 0 ∧ ((res.1 = true ∧ r = 1 ∧ ∀ C : Nat → List Int32, C 0 = res.2.2.1 → C 1 = res.2.2.2.1 → C 2 = res.2.2.2.2 → TKC ax2 C) ∨ (res.1 = false ∧ r = 0 ∧ gr2 1 = nI (lst B res.2.1))))) := by
  unfold txt at hpp
  obtain ⟨r0, hr0, hpp⟩ := bnd hpp
  refine r_partC E qr ar qx n B gr gx ax f 0 0 0 3 r0 (by decide) (by decide) (by decide) (by decide) hr0 hL hP hz (Nat.le_refl _) _ (fun hb0 hz0 hn0 gr1 gx1 ax1 h1a hP1 h1b h1c h1d h1e => ?_) (fun hb0 gr3 gx3 ax3 k0 k1 k2 => ?_)
  rotate_left
  · rw [if_neg (by rw [hb0]; simp)] at hpp
    cases hpp
    exact ⟨gr3, gx3, ax3, rfl, k0, by rw [k2]; exact he0, Or.inr ⟨rfl, rfl, k1⟩⟩
  rw [if_pos hb0] at hpp
  obtain ⟨r1, hr1, hpp⟩ := bnd hpp
  refine r_partC E qr ar qx n B gr1 gx1 ax1 f r0.2.1 (0 + r0.2.2.length) 1 4 r1 (by decide) (by decide) (by decide) (by decide) hr1 (hL.of h1a) hP1 h1b hz0 _ (fun hb1 hz1 hn1 gr2 gx2 ax2 h2a hP2 h2b h2c h2d h2e => ?_) (fun hb1 gr3 gx3 ax3 k0 k1 k2 => ?_)
  rotate_left
  · rw [if_neg (by rw [hb1]; simp)] at hpp
    cases hpp
    exact ⟨gr3, gx3, ax3, rfl, k0.trans h1a, by rw [k2, h1e]; exact he0, Or.inr ⟨rfl, rfl, k1⟩⟩
  rw [if_pos hb1] at hpp
  obtain ⟨r2, hr2, hpp⟩ := bnd hpp
  refine r_partC E qr ar qx n B gr2 gx2 ax2 f r1.2.1 (0 + r0.2.2.length + r1.2.2.length) 2 5 r2 (by decide) (by decide) (by decide) (by decide) hr2 (hL.of (h2a.trans h1a)) hP2 h2b hz1 _ (fun hb2 hz2 hn2 gr3 gx3 ax3 h3a hP3 h3b h3c h3d h3e => ?_) (fun hb2 gr3 gx3 ax3 k0 k1 k2 => ?_)
  rotate_left
  · rw [if_neg (by rw [hb2]; simp)] at hpp
    cases hpp
    exact ⟨gr3, gx3, ax3, rfl, k0.trans (h2a.trans h1a), by rw [k2, h2e, h1e]; exact he0, Or.inr ⟨rfl, rfl, k1⟩⟩
  rw [if_pos hb2] at hpp
  have hends0 : ax3 1 0 = 0 := by rw [h3e, h2e, h1e]; exact he0
  have hn160 := hL.2.1
  have htk : ∀ C : Nat → List Int32, C 0 = r0.2.2 → C 1 = r1.2.2 → C 2 = r2.2.2 → TKC ax3 C := by
    intro C c0 c1 c2
    refine ⟨by rw [c0, c1, c2]; omega, hends0, ?_, ?_, ?_, ?_, ?_, ?_⟩
    · rw [h3e, h2e, h1e, c0]
      show nI (0 + r0.2.2.length) = _
      rw [Nat.zero_add]
    · rw [h3e, h2e, c0, c1]
      show nI (0 + r0.2.2.length + r1.2.2.length) = _
      rw [Nat.zero_add]
    · rw [h3e, c0, c1, c2]
      show nI (0 + r0.2.2.length + r1.2.2.length + r2.2.2.length) = _
      rw [Nat.zero_add]
    · intro j hj
      rw [c0] at hj ⊢
      rw [h3c _ (by omega), h2c _ (by omega)]
      have := h1d j hj
      rw [Nat.zero_add] at this
      exact this
    · intro j hj
      rw [c1] at hj ⊢
      rw [c0]
      have := h2d j hj
      rw [Nat.zero_add] at this
      rw [h3c _ (by omega)]
      exact this
    · intro j hj
      rw [c2] at hj ⊢
      rw [c0, c1]
      have := h3d j hj
      rw [Nat.zero_add] at this
      exact this
  refine A_iload_n (dX2_readInto 12 rfl) rfl ?_
  refine A_iconst (3) (dX2_readInto 13 rfl) (by decide +kernel) ?_
  refine A_icmp_ge 65 (dX2_readInto 14 rfl) (by decide) (fun h22 => ?_) (fun h22 => absurd (show (3 : Int32) ≤ nI 3 by decide) h22)
  refine A_aload_n (dX2_readInto 36 rfl) rfl ?_
  refine A_get (dX2_readInto 37 rfl) fwX2_25 wR_0 cR_f0_4 ?_
  refine A_if_ne 76 (dX2_readInto 38 rfl) (by decide) (fun h69 => ?_) (fun h69 => ?_)
  · have hce : ¬ ck B r2.2.1 = 0 := fun y => h69 (hP3.2.1.trans y)
    rw [decide_eq_false hce] at hpp
    cases hpp
    refine A_iconst (0) (dX2_readInto 41 rfl) (by decide +kernel) ?_
    refine A_ri (dX2_readInto 42 rfl) rfl (by decide) ?_
    first
      | exact ⟨gr3, gx3, ax3, rfl, h3a.trans (h2a.trans h1a), hends0, Or.inr ⟨rfl, rfl, hP3.1⟩⟩
      | exact ⟨gr3, gx3, ax3, rfl, h3a.trans (h2a.trans h1a), hends0, Or.inl ⟨rfl, rfl, htk⟩⟩
  · have hce : ck B r2.2.1 = 0 := hP3.2.1.symm.trans h69
    rw [decide_eq_true hce] at hpp
    cases hpp
    refine A_iconst (1) (dX2_readInto 39 rfl) (by decide +kernel) ?_
    refine A_goto 77 (dX2_readInto 40 rfl) (by decide) ?_
    refine A_ri (dX2_readInto 42 rfl) rfl (by decide) ?_
    first
      | exact ⟨gr3, gx3, ax3, rfl, h3a.trans (h2a.trans h1a), hends0, Or.inr ⟨rfl, rfl, hP3.1⟩⟩
      | exact ⟨gr3, gx3, ax3, rfl, h3a.trans (h2a.trans h1a), hends0, Or.inl ⟨rfl, rfl, htk⟩⟩
set_option maxRecDepth 100000 in
theorem r_readInto (E : ag) (qr : Nat → Nat) (ar : Nat → Nat → Int32) (qx : Nat → Nat) (n : Nat) (B : Nat → Int32) (rir : Nat) (gr gx : Nat → Int32) (ax : Nat → Nat → Int32) (f : Nat) (res : Bool × Nat × List Int32 × List Int32 × List Int32) (hpp : txt B f = some res) (hL : LXC gr ar n B) (he0 : ax 1 0 = 0) : CT E yX2_readInto cX2_readInto 3 mX2_readInto.2.2.2.1 45 0 0 [.ref (qr 0), .ref (qx 0)] (wR E qr gr ar rir qx gx ax) (ri (fun r w => ∃ (gr2 gx2 : Nat → Int32) (ax2 : Nat → Nat → Int32), w = wR E qr gr2 ar (qx 0) qx gx2 ax2 ∧ gr2 0 = gr 0 ∧ ax2 1 0 = 0 ∧ ((res.1 = true ∧ r = 1 ∧ ∀ C : Nat → List Int32, C 0 = res.2.2.1 → C 1 = res.2.2.2.1 → C 2 = res.2.2.2.2 → TKC ax2 C) ∨ (res.1 = false ∧ r = 0 ∧ gr2 1 = nI (lst B res.2.1))))) := by
  refine CT.of (M := mX2_readInto) (ls := [some (.ref (qr 0)), some (.ref (qx 0)), none]) (by decide) rfl (by decide) rfl (Nat.le_of_ble_eq_true rfl) ?_
  refine A_aload_n (dX2_readInto 0 rfl) rfl ?_
  refine A_aload_n (dX2_readInto 1 rfl) rfl ?_
  refine A_put (dX2_readInto 2 rfl) fwX2_34 fcX2 ftX2_6 wR_0 rfl rfl cR_l0 (wR_p0_6 _) ?_
  refine A_aload_n (dX2_readInto 3 rfl) rfl ?_
  refine A_callVv 0 (dX2_readInto 4 rfl) cbX4_clear cwX2_38 (x_clear E qx gx ax) rfl rfl wT_0 rfl rfl [2, 3, 4] rfl rfl (Nat.le_of_ble_eq_true rfl) (Nat.le_of_ble_eq_true rfl) (Nat.le_of_ble_eq_true rfl) (Nat.le_of_ble_eq_true rfl) (Nat.le_of_ble_eq_true rfl) (by rintro _ rfl; exact (Nat.le_of_ble_eq_true rfl)) ?_
  rintro w1 rfl
  refine AW.world (ws2 := wR E qr gr ar (qx 0) qx (upd gx 0 0) ax) rfl ?_
  refine AW.pcq (pc2 := 9) rfl ?_
  refine A_aload_n (dX2_readInto 5 rfl) rfl ?_
  refine A_iconst (0) (dX2_readInto 6 rfl) (by decide +kernel) ?_
  refine A_put (dX2_readInto 7 rfl) fwX2_22 fcX2 ftX2_3 wR_0 rfl rfl cR_l0 (wR_p0_3 _) ?_
  refine A_aload_n (dX2_readInto 8 rfl) rfl ?_
  refine A_callVv 0 (dX2_readInto 9 rfl) cbX2_next cwX2_41 (r_next E qr (upd gr 2 0) ar (qx 0) n B (hL.put (by decide)) 0 (Nat.zero_le _) rfl) rfl rfl wR1_0 rfl rfl [0, 1] rfl rfl (Nat.le_of_ble_eq_true rfl) (Nat.le_of_ble_eq_true rfl) (Nat.le_of_ble_eq_true rfl) (Nat.le_of_ble_eq_true rfl) (Nat.le_of_ble_eq_true rfl) (by rintro _ ⟨_, rfl, _⟩; exact (Nat.le_of_ble_eq_true rfl)) ?_
  rintro w1 ⟨gr2, rfl, h02, hP2⟩
  refine AW.world (ws2 := wR E qr gr2 ar (qx 0) qx (upd gx 0 0) ax) rfl ?_
  refine AW.pcq (pc2 := 18) rfl ?_
  refine A_iconst (0) (dX2_readInto 10 rfl) (by decide +kernel) ?_
  refine A_istore_n (ls2 := [_, _, _]) (dX2_readInto 11 rfl) (by decide) rfl rfl ?_
  refine AW.mono (r_parts E qr ar qx n B gr2 (upd gx 0 0) ax f res hpp (hL.of h02) hP2 rfl he0) (fun v w hz => ?_)
  obtain ⟨r, h91, gr3, gx3, ax3, h92, h93, h94⟩ := hz
  exact ⟨r, h91, gr3, gx3, ax3, h92, h93.trans h02, h94⟩

