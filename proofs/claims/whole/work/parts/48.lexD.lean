theorem w8_iff {B : Nat → Int32} {s e : Nat} (l : List Int32) (hl : l.length ≤ 8) (hn : ∀ j, j < l.length → ¬ l.getD j 0 = 0) (hse : s ≤ e) (hB : ∀ j, s ≤ j → j < e → ¬ B j = 0) : isW8 B s e (l.getD 0 0) (l.getD 1 0) (l.getD 2 0) (l.getD 3 0) (l.getD 4 0) (l.getD 5 0) (l.getD 6 0) (l.getD 7 0) ↔ (e = s + l.length ∧ ∀ j, j < l.length → B (s + j) = l.getD j 0) := by
  have hd : ∀ j, l.length ≤ j → l.getD j 0 = 0 := fun j hj => by rw [List.getD_eq_getElem?_getD, List.getElem?_eq_none hj]; rfl
  constructor
  · rintro ⟨h8, v0, v1, v2, v3, v4, v5, v6, v7⟩
    have hv : ∀ j, j < 8 → vec B s e j = l.getD j 0 := by
      intro j hj
      match j with
      | 0 => exact v0
      | 1 => exact v1
      | 2 => exact v2
      | 3 => exact v3
      | 4 => exact v4
      | 5 => exact v5
      | 6 => exact v6
      | 7 => exact v7
      | j + 8 => omega
    have hlen : e = s + l.length := by
      rcases Nat.lt_trichotomy (e - s) l.length with z | z | z
      · exfalso
        have h1 := hv (e - s) (by omega)
        rw [show vec B s e (e - s) = 0 from if_neg (by omega)] at h1
        exact hn (e - s) z h1.symm
      · omega
      · exfalso
        have h1 := hv l.length (by omega)
        rw [show vec B s e l.length = B (s + l.length) from if_pos (by omega), hd _ (Nat.le_refl _)] at h1
        exact hB _ (by omega) (by omega) h1
    refine ⟨hlen, fun j hj => ?_⟩
    have h1 := hv j (by omega)
    rw [show vec B s e j = B (s + j) from if_pos (by omega)] at h1
    exact h1
  · rintro ⟨hlen, h⟩
    have hv : ∀ j, j < 8 → vec B s e j = l.getD j 0 := by
      intro j hj
      rcases Nat.lt_or_ge j l.length with z | z
      · rw [show vec B s e j = B (s + j) from if_pos (by omega)]
        exact h j z
      · rw [show vec B s e j = 0 from if_neg (by omega), hd j z]
    exact ⟨by omega, hv 0 (by decide), hv 1 (by decide), hv 2 (by decide), hv 3 (by decide), hv 4 (by decide), hv 5 (by decide), hv 6 (by decide), hv 7 (by decide)⟩
theorem wd_ok : ∀ k, k < 12 → k + 1 < ag_nS ∧ (ag_byt.getD (k + 1) []).length = ag_len.getD (k + 1) 0 ∧ ag_len.getD (k + 1) 0 ≤ 8 ∧ ∀ j, j < ag_len.getD (k + 1) 0 → ¬ (ag_byt.getD (k + 1) []).getD j 0 = 0 := by decide +kernel
theorem wc_g {B : Nat → Int32} {s e : Nat} (k : Nat) (hk : k < 12) : wcode B s e = nI (3 + k) ↔ isW8 B s e ((ag_byt.getD (k + 1) []).getD 0 0) ((ag_byt.getD (k + 1) []).getD 1 0) ((ag_byt.getD (k + 1) []).getD 2 0) ((ag_byt.getD (k + 1) []).getD 3 0) ((ag_byt.getD (k + 1) []).getD 4 0) ((ag_byt.getD (k + 1) []).getD 5 0) ((ag_byt.getD (k + 1) []).getD 6 0) ((ag_byt.getD (k + 1) []).getD 7 0) := by
  match k with
  | 0 => exact wci_3
  | 1 => exact wci_4
  | 2 => exact wci_5
  | 3 => exact wci_6
  | 4 => exact wci_7
  | 5 => exact wci_8
  | 6 => exact wci_9
  | 7 => exact wci_10
  | 8 => exact wci_11
  | 9 => exact wci_12
  | 10 => exact wci_13
  | 11 => exact wci_14
  | k + 12 => omega
theorem wc_n {B : Nat → Int32} {s e : Nat} (h : ∀ k, k < 12 → ¬ wcode B s e = nI (3 + k)) : wcode B s e = 2 := by
  rcases wc_in B s e with ⟨z, -⟩ | ⟨z, -⟩ | ⟨z, -⟩ | ⟨z, -⟩ | ⟨z, -⟩ | ⟨z, -⟩ | ⟨z, -⟩ | ⟨z, -⟩ | ⟨z, -⟩ | ⟨z, -⟩ | ⟨z, -⟩ | ⟨z, -⟩ | z
  · exact absurd z (h 0 (by decide))
  · exact absurd z (h 1 (by decide))
  · exact absurd z (h 2 (by decide))
  · exact absurd z (h 3 (by decide))
  · exact absurd z (h 4 (by decide))
  · exact absurd z (h 5 (by decide))
  · exact absurd z (h 6 (by decide))
  · exact absurd z (h 7 (by decide))
  · exact absurd z (h 8 (by decide))
  · exact absurd z (h 9 (by decide))
  · exact absurd z (h 10 (by decide))
  · exact absurd z (h 11 (by decide))
  · exact z
theorem wdp_lo {B : Nat → Int32} : ∀ f s j, s ≤ j → j < wdp B f s → ¬ inI (B j) 97 122 = 0 := by
  intro f
  induction f with
  | zero => intro s j h1 h2; simp only [wdp] at h2; omega
  | succ f ih =>
    intro s j h1 h2
    simp only [wdp] at h2
    split at h2
    · omega
    · rename_i h
      rcases Nat.lt_or_ge s j with z | z
      · exact ih (s + 1) j z h2
      · obtain rfl : j = s := by omega
        exact h
theorem men_leL {B : Nat → Int32} {n : Nat} (hB : ∀ k, n ≤ k → B k = -1) {i : Nat} (hi : i ≤ n) : men B i ≤ n ∧ lst B i ≤ men B i ∧ i ≤ lst B i := by
  obtain ⟨h2, h1⟩ := skp_le hB 161 i hi
  have h1' : lst B i ≤ n := h1
  have hw := wdp_le hB 161 _ h1'
  have hd := dgp_le hB 161 _ h1'
  refine ⟨?_, ?_, h2⟩
  · unfold men
    split
    · exact h1
    · rename_i hneg
      split
      · exact hw.2
      · split
        · exact hd.2
        · split
          · have : lst B i < n := by
              rcases Nat.lt_or_ge (lst B i) n with z | z
              · exact z
              · rw [hB _ z] at hneg; exact absurd (by decide) hneg
            omega
          · exact h1
  · unfold men
    split
    · exact Nat.le_refl _
    · split
      · exact hw.1
      · split
        · exact hd.1
        · split
          · omega
          · exact Nat.le_refl _
/-- the class's reader stands at the token that is looked for from i on -/
def RPM (B : Nat → Int32) (n : Nat) (g : Nat → Int32) (i : Nat) : Prop := g 1 = nI (lst B i) ∧ g 3 = ck B i ∧ (¬ ck B i = 2 → g 2 = nI (men B i)) ∧ (ck B i = 1 → g 4 = cv B i) ∧ i ≤ n
def dv32 (B : Nat → Int32) (s : Nat) : Nat → Int32
  | 0 => 0
  | k + 1 => 10 * dv32 B s k + B (s + k) - 48
theorem dv_2 {B : Nat → Int32} {s : Nat} : ∀ k, k ≤ 4 → (∀ j, j < k → ¬ inI (B (s + j)) 48 57 = 0) → ∃ X : Nat, X < 10 ^ k ∧ dv64 B s k = lN X ∧ dv32 B s k = nI X := by
  intro k
  induction k with
  | zero => intro _ _; exact ⟨0, by decide, rfl, rfl⟩
  | succ k ih =>
    intro hk hd
    obtain ⟨X, h1, h2, h3⟩ := ih (by omega) (fun j hj => hd j (by omega))
    obtain ⟨c, c1, c2, hc⟩ := dig_nI (hd k (by omega))
    refine ⟨10 * X + c - 48, ?_, ?_, ?_⟩
    · rw [Nat.pow_succ]
      omega
    · rw [dv64, if_pos (by omega), h2, hc, nI_l (by omega)]
      rw [show (10 : Int64) = lN 10 from rfl, show (48 : Int64) = lN 48 from rfl, lN_mul, lN_add, lN_sub (by omega)]
    · rw [dv32, h3, hc, show (10 : Int32) * nI X = nI (10 * X) from pk_mul 10 X, nI_add, show nI (10 * X + c) - 48 = nI (10 * X + c - 48) from pk_sub (b := 48) (by omega)]
theorem cv_32 {B : Nat → Int32} {i : Nat} (hm : mkd B i = 2) : cv B i = dv32 B (lst B i) (dgp B 161 (lst B i) - lst B i) := by
  obtain ⟨X, h1, h2, h3⟩ := dv_2 (B := B) (s := lst B i) (dgp B 161 (lst B i) - lst B i) (mkd2 hm) (fun j hj => dgp_dig 161 (lst B i) _ (by omega) (by omega))
  unfold cv
  rw [h2, h3, lN_i]
set_option maxRecDepth 100000 in
theorem r_numL (E : ag) (qr : Nat → Nat) (gr : Nat → Int32) (ar : Nat → Nat → Int32) (rir : Nat) (n : Nat) (B : Nat → Int32) (hL : LXC gr ar n B) (s : Nat) (hg1 : gr 1 = nI s) : ∀ (f c : Nat) (g2 : Nat → Int32), s + c ≤ n → n < s + c + f → g2 2 = nI (s + c) → g2 4 = dv32 B s c → (∀ k, k ≠ 2 → k ≠ 4 → g2 k = gr k) → AW E mX2_numberHere 2 0 0 5 [some (.ref (qr 0))] [] (wR1 E qr g2 ar rir) (ri (fun r w => r = (if 4 < dgp B f (s + c) - s then 2 else 1) ∧ ∃ g3 : Nat → Int32, w = wR1 E qr g3 ar rir ∧ g3 2 = nI (dgp B f (s + c)) ∧ g3 4 = dv32 B s (dgp B f (s + c) - s) ∧ ∀ k, k ≠ 2 → k ≠ 4 → g3 k = gr k)) := by
  have hn160 := hL.2.1
  intro f
  induction f with
  | zero => intro c g2 h1 h2; omega
  | succ f ih =>
    intro c g2 hcn hf h22 h24 h2o
    have h20 : g2 0 = nI n := (h2o 0 (by decide) (by decide)).trans hL.1
    refine A_aload_n (dX2_numberHere 3 rfl) rfl ?_
    refine A_get (dX2_numberHere 4 rfl) fwX2_22 wR1_0 cR_f0_3 ?_
    refine A_aload_n (dX2_numberHere 5 rfl) rfl ?_
    refine A_get (dX2_numberHere 6 rfl) fwX2_15 wR1_0 cR_f0_1 ?_
    refine A_icmp_ge 68 (dX2_numberHere 7 rfl) (by decide) (fun h13 => ?_) (fun h13 => ?_)
    · have hge : n ≤ s + c := by
        rcases Nat.lt_or_ge (s + c) n with z | z
        · rw [h20, h22] at h13; exact absurd h13 (nI_ge z (by omega))
        · exact z
      have hdg : inI (B (s + c)) 48 57 = 0 := by rw [hL.2.2.2.1 _ hge]; decide
      refine A_aload_n (dX2_numberHere 36 rfl) rfl ?_
      refine A_get (dX2_numberHere 37 rfl) fwX2_22 wR1_0 cR_f0_3 ?_
      refine A_aload_n (dX2_numberHere 38 rfl) rfl ?_
      refine A_get (dX2_numberHere 39 rfl) fwX2_19 wR1_0 cR_f0_2 ?_
      refine A_isub (dX2_numberHere 40 rfl) ?_
      refine A_iconst (4) (dX2_numberHere 41 rfl) (by decide +kernel) ?_
      rw [show g2 1 = nI s from (h2o 1 (by decide) (by decide)).trans hg1, h22, pk_sub (a := s + c) (by omega), Nat.add_sub_cancel_left]
      rw [dgp, if_pos hdg, Nat.add_sub_cancel_left]
      refine A_icmp_gt 85 (dX2_numberHere 42 rfl) (by decide) (fun h78 => ?_) (fun h78 => ?_)
      · rw [if_pos (show 4 < c from (nI_ltI (a := 4) (b := c) (by decide) (by omega)).mp h78)]
        refine A_iconst (2) (dX2_numberHere 45 rfl) (by decide +kernel) ?_
        refine A_ri (dX2_numberHere 46 rfl) rfl rfl ?_
        exact ⟨rfl, g2, rfl, h22, h24, h2o⟩
      · rw [if_neg (show ¬ 4 < c from fun z => h78 (nI_lt (a := 4) (b := c) z (by omega)))]
        refine A_iconst (1) (dX2_numberHere 43 rfl) (by decide +kernel) ?_
        refine A_goto 86 (dX2_numberHere 44 rfl) (by decide) ?_
        refine A_ri (dX2_numberHere 46 rfl) rfl rfl ?_
        exact ⟨rfl, g2, rfl, h22, h24, h2o⟩
    · have hlt : s + c < n := by
        rcases Nat.lt_or_ge (s + c) n with z | z
        · exact z
        · rw [h20, h22] at h13; exact absurd (nI_le z (by omega)) h13
      refine A_aload_n (dX2_numberHere 8 rfl) rfl ?_
      refine A_get (dX2_numberHere 9 rfl) fwX2_9 wR1_0 cR_f0_0 ?_
      refine A_aload_n (dX2_numberHere 10 rfl) rfl ?_
      refine A_get (dX2_numberHere 11 rfl) fwX2_22 wR1_0 cR_f0_3 ?_
      refine A_iald (dX2_numberHere 12 rfl) wR1_1 (by rw [h22]; exact vp_in_nI (n := s + c) (by omega) (by decide)) ?_
      rw [h22, nI_clamp (n := s + c) (by omega), ← hL.2.2.1 _ hlt]
      refine A_callSWi 1 (dX2_numberHere 13 rfl) cbX2_isDigit cwX2_55 (k_isDigit E _ (B (s + c))) rfl rfl (Nat.le_of_ble_eq_true rfl) (Nat.le_of_ble_eq_true rfl) (Nat.le_of_ble_eq_true rfl) (Nat.le_of_ble_eq_true rfl) (Nat.le_of_ble_eq_true rfl) ?_
      rintro r25 w1 ⟨rfl, rfl⟩
      refine AW.pcq (pc2 := 28) rfl ?_
      refine A_if_eq 68 (dX2_numberHere 14 rfl) (by decide) (fun h28 => ?_) (fun h28 => ?_)
      · have hdg : inI (B (s + c)) 48 57 = 0 := h28
        refine A_aload_n (dX2_numberHere 36 rfl) rfl ?_
        refine A_get (dX2_numberHere 37 rfl) fwX2_22 wR1_0 cR_f0_3 ?_
        refine A_aload_n (dX2_numberHere 38 rfl) rfl ?_
        refine A_get (dX2_numberHere 39 rfl) fwX2_19 wR1_0 cR_f0_2 ?_
        refine A_isub (dX2_numberHere 40 rfl) ?_
        refine A_iconst (4) (dX2_numberHere 41 rfl) (by decide +kernel) ?_
        rw [show g2 1 = nI s from (h2o 1 (by decide) (by decide)).trans hg1, h22, pk_sub (a := s + c) (by omega), Nat.add_sub_cancel_left]
        rw [dgp, if_pos hdg, Nat.add_sub_cancel_left]
        refine A_icmp_gt 85 (dX2_numberHere 42 rfl) (by decide) (fun h78 => ?_) (fun h78 => ?_)
        · rw [if_pos (show 4 < c from (nI_ltI (a := 4) (b := c) (by decide) (by omega)).mp h78)]
          refine A_iconst (2) (dX2_numberHere 45 rfl) (by decide +kernel) ?_
          refine A_ri (dX2_numberHere 46 rfl) rfl rfl ?_
          exact ⟨rfl, g2, rfl, h22, h24, h2o⟩
        · rw [if_neg (show ¬ 4 < c from fun z => h78 (nI_lt (a := 4) (b := c) z (by omega)))]
          refine A_iconst (1) (dX2_numberHere 43 rfl) (by decide +kernel) ?_
          refine A_goto 86 (dX2_numberHere 44 rfl) (by decide) ?_
          refine A_ri (dX2_numberHere 46 rfl) rfl rfl ?_
          exact ⟨rfl, g2, rfl, h22, h24, h2o⟩
      · refine A_aload_n (dX2_numberHere 15 rfl) rfl ?_
        refine A_bipush (10) (dX2_numberHere 16 rfl) (by decide +kernel) ?_
        refine A_aload_n (dX2_numberHere 17 rfl) rfl ?_
        refine A_get (dX2_numberHere 18 rfl) fwX2_28 wR1_0 cR_f0_5 ?_
        refine A_imul (dX2_numberHere 19 rfl) ?_
        refine A_aload_n (dX2_numberHere 20 rfl) rfl ?_
        refine A_get (dX2_numberHere 21 rfl) fwX2_9 wR1_0 cR_f0_0 ?_
        refine A_aload_n (dX2_numberHere 22 rfl) rfl ?_
        refine AW.pcq (pc2 := 44) rfl ?_
        refine A_get (dX2_numberHere 23 rfl) fwX2_22 wR1_0 cR_f0_3 ?_
        refine A_iald (dX2_numberHere 24 rfl) wR1_1 (by rw [h22]; exact vp_in_nI (n := s + c) (by omega) (by decide)) ?_
        rw [h22, nI_clamp (n := s + c) (by omega), ← hL.2.2.1 _ hlt]
        refine A_iadd (dX2_numberHere 25 rfl) ?_
        refine A_bipush (48) (dX2_numberHere 26 rfl) (by decide +kernel) ?_
        refine A_isub (dX2_numberHere 27 rfl) ?_
        refine A_put (dX2_numberHere 28 rfl) fwX2_28 fcX2 ftX2_5 wR1_0 rfl rfl cR_l0 (wR1_p0_5 _) ?_
        refine A_aload_n (dX2_numberHere 29 rfl) rfl ?_
        refine A_dup (dX2_numberHere 30 rfl) rfl ?_
        refine AW.pcq (pc2 := 57) rfl ?_
        refine A_get (dX2_numberHere 31 rfl) fwX2_22 wR1_0 cR_f0_3 ?_
        refine A_iconst (1) (dX2_numberHere 32 rfl) (by decide +kernel) ?_
        refine A_iadd (dX2_numberHere 33 rfl) ?_
        refine A_put (dX2_numberHere 34 rfl) fwX2_22 fcX2 ftX2_3 wR1_0 rfl rfl cR_l0 (wR1_p0_3 _) ?_
        refine A_goto 5 (dX2_numberHere 35 rfl) (by decide) ?_
        rw [dgp, if_neg h28]
        refine ih (c + 1) _ (by omega) (by omega) ?_ ?_ (fun k z2 z4 => ?_)
        · show g2 2 + 1 = nI (s + (c + 1))
          rw [h22, nI_1]
          rfl
        · show 10 * g2 4 + B (s + c) - 48 = dv32 B s (c + 1)
          rw [h24]
          rfl
        · simp only [upd]
          rw [if_neg z2, if_neg z4]
          exact h2o k z2 z4

set_option maxRecDepth 100000 in
theorem r_numberHere (E : ag) (qr : Nat → Nat) (gr : Nat → Int32) (ar : Nat → Nat → Int32) (rir : Nat) (n : Nat) (B : Nat → Int32) (hL : LXC gr ar n B) (s : Nat) (hsn : s ≤ n) (hg1 : gr 1 = nI s) (hg2 : gr 2 = nI s) : CT E yX2_numberHere cX2_numberHere 1 mX2_numberHere.2.2.2.1 2 0 0 [.ref (qr 0)] (wR1 E qr gr ar rir) (ri (fun r w => r = (if 4 < dgp B 161 s - s then 2 else 1) ∧ ∃ g3 : Nat → Int32, w = wR1 E qr g3 ar rir ∧ g3 2 = nI (dgp B 161 s) ∧ g3 4 = dv32 B s (dgp B 161 s - s) ∧ ∀ k, k ≠ 2 → k ≠ 4 → g3 k = gr k)) := by
  refine CT.of (M := mX2_numberHere) (ls := [some (.ref (qr 0))]) (by decide) rfl (by decide) rfl (Nat.le_of_ble_eq_true rfl) ?_
  refine A_aload_n (dX2_numberHere 0 rfl) rfl ?_
  refine A_iconst (0) (dX2_numberHere 1 rfl) (by decide +kernel) ?_
  refine A_put (dX2_numberHere 2 rfl) fwX2_28 fcX2 ftX2_5 wR1_0 rfl rfl cR_l0 (wR1_p0_5 _) ?_
  have h9 := r_numL E qr gr ar rir n B hL s hg1 161 0 (upd gr 4 0) hsn (by have := hL.2.1; omega) hg2 rfl (fun k z2 z4 => by simp only [upd]; rw [if_neg z4])
  exact h9

set_option maxRecDepth 100000 in
theorem r_whA (E : ag) (qr : Nat → Nat) (gr : Nat → Int32) (ar : Nat → Nat → Int32) (rir : Nat) (n : Nat) (B : Nat → Int32) (hL : LXC gr ar n B) (post : Option Value → va_W → Prop) : ∀ (f j : Nat), j ≤ n → n < j + f → AW E mX2_wordHere 6 0 0 39 [some (.ref (qr 0)), none] [] (wR1 E qr (upd gr 2 (nI (wdp B f j))) ar rir) post → AW E mX2_wordHere 6 0 0 0 [some (.ref (qr 0)), none] [] (wR1 E qr (upd gr 2 (nI j)) ar rir) post := by
  have hn160 := hL.2.1
  intro f
  induction f with
  | zero => intro j h1 h2; omega
  | succ f ih =>
    intro j hj hf K
    refine A_aload_n (dX2_wordHere 0 rfl) rfl ?_
    refine A_get (dX2_wordHere 1 rfl) fwX2_22 wR1_0 cR_f0_3 ?_
    refine A_aload_n (dX2_wordHere 2 rfl) rfl ?_
    refine A_get (dX2_wordHere 3 rfl) fwX2_15 wR1_0 cR_f0_1 ?_
    refine A_icmp_ge 39 (dX2_wordHere 4 rfl) (by decide) (fun h8 => ?_) (fun h8 => ?_)
    · have hge : n ≤ j := by
        rcases Nat.lt_or_ge j n with z | z
        · rw [show upd gr 2 (nI j) 0 = nI n from hL.1] at h8; exact absurd h8 (nI_ge z (by omega))
        · exact z
      have hlo : inI (B j) 97 122 = 0 := by rw [hL.2.2.2.1 _ hge]; decide
      rw [wdp, if_pos hlo] at K
      exact K
    · have hlt : j < n := by
        rcases Nat.lt_or_ge j n with z | z
        · exact z
        · rw [show upd gr 2 (nI j) 0 = nI n from hL.1] at h8; exact absurd (nI_le z (by omega)) h8
      refine A_aload_n (dX2_wordHere 5 rfl) rfl ?_
      refine A_get (dX2_wordHere 6 rfl) fwX2_9 wR1_0 cR_f0_0 ?_
      refine A_aload_n (dX2_wordHere 7 rfl) rfl ?_
      refine A_get (dX2_wordHere 8 rfl) fwX2_22 wR1_0 cR_f0_3 ?_
      refine A_iald (dX2_wordHere 9 rfl) wR1_1 (show vp_in (nI j) 160 from vp_in_nI (by omega) (by decide)) ?_
      refine AW.stack (st2 := [.int (B j)]) (by show [Value.int (ar 0 (nI j).toNatClampNeg)] = _; rw [nI_clamp (n := j) (by omega), ← hL.2.2.1 _ hlt]) ?_
      refine A_callSWi 1 (dX2_wordHere 10 rfl) cbX2_isSmall cwX2_62 (k_isSmall E _ (B j)) rfl rfl (Nat.le_of_ble_eq_true rfl) (Nat.le_of_ble_eq_true rfl) (Nat.le_of_ble_eq_true rfl) (Nat.le_of_ble_eq_true rfl) (Nat.le_of_ble_eq_true rfl) ?_
      rintro r20 w1 ⟨rfl, rfl⟩
      refine AW.pcq (pc2 := 23) rfl ?_
      refine A_if_eq 39 (dX2_wordHere 11 rfl) (by decide) (fun h23 => ?_) (fun h23 => ?_)
      · have hlo : inI (B j) 97 122 = 0 := h23
        rw [wdp, if_pos hlo] at K
        exact K
      · refine A_aload_n (dX2_wordHere 12 rfl) rfl ?_
        refine A_dup (dX2_wordHere 13 rfl) rfl ?_
        refine A_get (dX2_wordHere 14 rfl) fwX2_22 wR1_0 cR_f0_3 ?_
        refine A_iconst (1) (dX2_wordHere 15 rfl) (by decide +kernel) ?_
        refine A_iadd (dX2_wordHere 16 rfl) ?_
        refine AW.stack (st2 := [.int (nI (j + 1)), .ref (qr 0)]) (by show [Value.int (nI j + 1), _] = _; rw [nI_1]) ?_
        refine A_put (dX2_wordHere 17 rfl) fwX2_22 fcX2 ftX2_3 wR1_0 rfl rfl cR_l0 (wR1_p0_3 _) ?_
        refine A_goto 0 (dX2_wordHere 18 rfl) (by decide) ?_
        rw [upd_upd]
        rw [wdp, if_neg h23] at K
        exact ih (j + 1) (by omega) (by omega) K

theorem wh_iff {B : Nat → Int32} {ar : Nat → Nat → Int32} {s e n c : Nat} (hB : ∀ k, k < n → B k = ar 0 k) (hc : c < 12) (hse : s ≤ e) (hen : e ≤ n) (hlo : ∀ j, s ≤ j → j < e → ¬ inI (B j) 97 122 = 0) : (e = s + ag_len.getD (c + 1) 0 ∧ ∀ j, j < ag_len.getD (c + 1) 0 → ar 0 (s + j) = (ag_byt.getD (c + 1) []).getD j 0) ↔ wcode B s e = nI (3 + c) := by
  obtain ⟨h1, h2, h3, h4⟩ := wd_ok c hc
  rw [wc_g c hc, w8_iff (ag_byt.getD (c + 1) []) (by rw [h2]; exact h3) (by rw [h2]; exact h4) hse (fun j a b z => hlo j a b (by rw [z]; decide)), h2]
  constructor
  · rintro ⟨a, b⟩
    exact ⟨a, fun j hj => by rw [hB _ (by omega)]; exact b j hj⟩
  · rintro ⟨a, b⟩
    exact ⟨a, fun j hj => by rw [← hB _ (by omega)]; exact b j hj⟩
set_option maxRecDepth 100000 in
set_option maxHeartbeats 400000 in
theorem r_whB (E : ag) (qr : Nat → Nat) (gr : Nat → Int32) (ar : Nat → Nat → Int32) (rir : Nat) (n : Nat) (B : Nat → Int32) (hL : LXC gr ar n B) (s e : Nat) (hse : s ≤ e) (hen : e ≤ n) (hg1 : gr 1 = nI s) (hg2 : gr 2 = nI e) (hlo : ∀ j, s ≤ j → j < e → ¬ inI (B j) 97 122 = 0) : ∀ (m c : Nat), c + m = 12 → (∀ k, k < c → ¬ wcode B s e = nI (3 + k)) → AW E mX2_wordHere 6 0 0 41 [some (.ref (qr 0)), some (.int (nI c))] [] (wR1 E qr gr ar rir) (ri (fun r w => r = wcode B s e ∧ w = wR1 E qr gr ar rir)) := by
  intro m
  induction m with
  | zero =>
    intro c hc
    have hn160 := hL.2.1
    intro hall
    obtain rfl : c = 12 := by omega
    refine A_iload_n (dX2_wordHere 21 rfl) rfl ?_
    refine A_bipush (12) (dX2_wordHere 22 rfl) (by decide +kernel) ?_
    refine A_icmp_ge 68 (dX2_wordHere 23 rfl) (by decide) (fun h44 => ?_) (fun h44 => absurd (show (12 : Int32) ≤ nI 12 by decide) h44)
    refine A_iconst (2) (dX2_wordHere 35 rfl) (by decide +kernel) ?_
    refine A_ri (dX2_wordHere 36 rfl) rfl rfl ?_
    exact ⟨(wc_n hall).symm, rfl⟩
  | succ m ih =>
    intro c hc
    have hlt : c < 12 := by omega
    have hn160 := hL.2.1
    intro hall
    refine A_iload_n (dX2_wordHere 21 rfl) rfl ?_
    refine A_bipush (12) (dX2_wordHere 22 rfl) (by decide +kernel) ?_
    refine A_icmp_ge 68 (dX2_wordHere 23 rfl) (by decide) (fun h44 => absurd h44 (nI_ge (a := c) (b := 12) hlt (by decide))) (fun h44 => ?_)
    refine A_aload_n (dX2_wordHere 24 rfl) rfl ?_
    refine A_iload_n (dX2_wordHere 25 rfl) rfl ?_
    refine A_callSWr 1 (dX2_wordHere 26 rfl) cbX2_word cwX2_71 (k_word E _ c hlt) rfl rfl (Nat.le_of_ble_eq_true rfl) (Nat.le_of_ble_eq_true rfl) (Nat.le_of_ble_eq_true rfl) (Nat.le_of_ble_eq_true rfl) (Nat.le_of_ble_eq_true rfl) ?_
    rintro r49 w1 ⟨rfl, rfl⟩
    refine AW.pcq (pc2 := 52) rfl ?_
    refine A_callVWi 1 (dX2_wordHere 27 rfl) cbX2_isHere cwX2_75 (r_isHere E qr gr ar rir (c + 1) (wd_ok c hlt).1 s e hse (by omega) hg1 hg2) rfl rfl wR1_0 rfl rfl (Nat.le_of_ble_eq_true rfl) (Nat.le_of_ble_eq_true rfl) (Nat.le_of_ble_eq_true rfl) (Nat.le_of_ble_eq_true rfl) (Nat.le_of_ble_eq_true rfl) ?_
    rintro r52 w1 ⟨rfl, rfl⟩
    rw [b01_c (wh_iff hL.2.2.1 hlt hse hen hlo)]
    refine AW.pcq (pc2 := 55) rfl ?_
    refine A_if_eq 62 (dX2_wordHere 28 rfl) (by decide) (fun h55 => ?_) (fun h55 => ?_)
    · have hno : ¬ wcode B s e = nI (3 + c) := b01_0.mp h55
      refine A_iinc (ls2 := [_, _]) (nI (c + 1)) (dX2_wordHere 33 rfl) rfl (nI_1 c) (by decide) rfl rfl ?_
      refine A_goto 41 (dX2_wordHere 34 rfl) (by decide) ?_
      exact ih (c + 1) (by omega) (fun k hk => by rcases Nat.lt_or_ge k c with z | z; exact hall k z; rw [show k = c by omega]; exact hno)
    · have hyes : wcode B s e = nI (3 + c) := b01_n.mp h55
      refine A_iconst (3) (dX2_wordHere 29 rfl) (by decide +kernel) ?_
      refine A_iload_n (dX2_wordHere 30 rfl) rfl ?_
      refine A_iadd (dX2_wordHere 31 rfl) ?_
      refine A_ri (dX2_wordHere 32 rfl) rfl rfl ?_
      refine ⟨?_, rfl⟩
      rw [hyes]
      exact nI_add 3 c

set_option maxRecDepth 100000 in
theorem r_wordHere (E : ag) (qr : Nat → Nat) (gr : Nat → Int32) (ar : Nat → Nat → Int32) (rir : Nat) (n : Nat) (B : Nat → Int32) (hL : LXC gr ar n B) (s : Nat) (hsn : s ≤ n) (hg1 : gr 1 = nI s) (hg2 : gr 2 = nI s) : CT E yX2_wordHere cX2_wordHere 2 mX2_wordHere.2.2.2.1 6 0 0 [.ref (qr 0)] (wR1 E qr gr ar rir) (ri (fun r w => r = wcode B s (wdp B 161 s) ∧ w = wR1 E qr (upd gr 2 (nI (wdp B 161 s))) ar rir)) := by
  refine CT.of (M := mX2_wordHere) (ls := [some (.ref (qr 0)), none]) (by decide) rfl (by decide) rfl (Nat.le_of_ble_eq_true rfl) ?_
  refine AW.world (ws2 := wR1 E qr (upd gr 2 (nI s)) ar rir) (by rw [upd_self hg2]) ?_
  refine r_whA E qr gr ar rir n B hL _ 161 s hsn (by have := hL.2.1; omega) ?_
  refine A_iconst (0) (dX2_wordHere 19 rfl) (by decide +kernel) ?_
  refine A_istore_n (ls2 := [_, _]) (dX2_wordHere 20 rfl) (by decide) rfl rfl ?_
  exact r_whB E qr (upd gr 2 (nI (wdp B 161 s))) ar rir n B (hL.put (by decide)) s (wdp B 161 s) (wdp_le hL.2.2.2.1 161 s hsn).1 (wdp_le hL.2.2.2.1 161 s hsn).2 hg1 rfl (wdp_lo 161 s) 12 0 rfl (fun k hk => by omega)

