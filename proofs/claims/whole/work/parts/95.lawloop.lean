set_option maxRecDepth 100000 in
set_option maxHeartbeats 1000000 in
theorem law_sw {E : ag} {b0 L0 : Nat} {xs0 : Nat → Int32} {bc bs : Nat} (q : Nat → Nat) (kq : Nat) (i : Nat) (hi : i + 6 ≤ L0) (hL : L0 ≤ 3072) (h2 : 2 ≤ bc) (h42 : 42 ≤ bs) {w1 w2 : va_W} (hR : REL E q kq w1 w2) (KK : ∀ w1 w2, REL E q kq w1 w2 → LW E b0 L0 xs0 (bc - 2) (bs - 42) 1009 [some (.ref b0), some (.ref kq), some (.ref (q 0)), some (.int (nI i))] [] (w1 ++ w2)) {x : Int32} : LW E b0 L0 xs0 bc bs 33 [some (.ref b0), some (.ref kq), some (.ref (q 0)), some (.int (nI i))] [.int (x &&& 31)] (w1 ++ w2) := by
    obtain ⟨j, hj, e⟩ := pk_andE x (m := 31) 5 (by decide)
    rw [e]
    match j, hj with
    | 0, _ =>
      refine L_tableIn (135) 168 (dL0 21 rfl) (by decide) (by decide) (by decide) (by decide) ?_
      exact lw_man q kq i hi hL h2 h42 hR KK
    | 1, _ =>
      refine L_tableIn (178) 211 (dL0 21 rfl) (by decide) (by decide) (by decide) (by decide) ?_
      exact lw_set q kq i hi hL h2 h42 hR KK
    | 2, _ =>
      refine L_tableIn (221) 254 (dL0 21 rfl) (by decide) (by decide) (by decide) (by decide) ?_
      exact lw_told q kq i hi hL h2 h42 hR KK
    | 3, _ =>
      refine L_tableIn (254) 287 (dL0 21 rfl) (by decide) (by decide) (by decide) (by decide) ?_
      exact lw_mends q kq i hi hL h2 h42 hR KK
    | 4, _ =>
      refine L_tableIn (287) 320 (dL0 21 rfl) (by decide) (by decide) (by decide) (by decide) ?_
      exact lw_feed q kq i hi hL h2 h42 hR KK
    | 5, _ =>
      refine L_tableIn (310) 343 (dL0 21 rfl) (by decide) (by decide) (by decide) (by decide) ?_
      exact lw_text q kq i hi hL h2 h42 hR KK
    | 6, _ =>
      refine L_tableIn (323) 356 (dL0 21 rfl) (by decide) (by decide) (by decide) (by decide) ?_
      exact lw_force q kq i hi hL h2 h42 hR KK
    | 7, _ =>
      refine L_tableIn (346) 379 (dL0 21 rfl) (by decide) (by decide) (by decide) (by decide) ?_
      exact lw_round q kq i hi hL h2 h42 hR KK
    | 8, _ =>
      refine L_tableIn (359) 392 (dL0 21 rfl) (by decide) (by decide) (by decide) (by decide) ?_
      exact lw_run q kq i hi hL h2 h42 hR KK
    | 9, _ =>
      refine L_tableIn (392) 425 (dL0 21 rfl) (by decide) (by decide) (by decide) (by decide) ?_
      exact lw_beat q kq i hi hL h2 h42 hR KK
    | 10, _ =>
      refine L_tableIn (425) 458 (dL0 21 rfl) (by decide) (by decide) (by decide) (by decide) ?_
      exact lw_holds q kq i hi hL h2 h42 hR KK
    | 11, _ =>
      refine L_tableIn (438) 471 (dL0 21 rfl) (by decide) (by decide) (by decide) (by decide) ?_
      exact lw_bar q kq i hi hL h2 h42 hR KK
    | 12, _ =>
      refine L_tableIn (461) 494 (dL0 21 rfl) (by decide) (by decide) (by decide) (by decide) ?_
      exact lw_order q kq i hi hL h2 h42 hR KK
    | 13, _ =>
      refine L_tableIn (484) 517 (dL0 21 rfl) (by decide) (by decide) (by decide) (by decide) ?_
      exact lw_home q kq i hi hL h2 h42 hR KK
    | 14, _ =>
      refine L_tableIn (497) 530 (dL0 21 rfl) (by decide) (by decide) (by decide) (by decide) ?_
      exact lw_turn q kq i hi hL h2 h42 hR KK
    | 15, _ =>
      refine L_tableIn (510) 543 (dL0 21 rfl) (by decide) (by decide) (by decide) (by decide) ?_
      exact lw_when q kq i hi hL h2 h42 hR KK
    | 16, _ =>
      refine L_tableIn (523) 556 (dL0 21 rfl) (by decide) (by decide) (by decide) (by decide) ?_
      exact lw_stop q kq i hi hL h2 h42 hR KK
    | 17, _ =>
      refine L_tableIn (546) 579 (dL0 21 rfl) (by decide) (by decide) (by decide) (by decide) ?_
      exact lw_fewest q kq i hi hL h2 h42 hR KK
    | 18, _ =>
      refine L_tableIn (569) 602 (dL0 21 rfl) (by decide) (by decide) (by decide) (by decide) ?_
      exact lw_judge q kq i hi hL h2 h42 hR KK
    | 19, _ =>
      refine L_tableIn (602) 635 (dL0 21 rfl) (by decide) (by decide) (by decide) (by decide) ?_
      exact lw_slow q kq i hi hL h2 h42 hR KK
    | 20, _ =>
      refine L_tableIn (625) 658 (dL0 21 rfl) (by decide) (by decide) (by decide) (by decide) ?_
      exact lw_drawn q kq i hi hL h2 h42 hR KK
    | 21, _ =>
      refine L_tableIn (658) 691 (dL0 21 rfl) (by decide) (by decide) (by decide) (by decide) ?_
      exact lw_once q kq i hi hL h2 h42 hR KK
    | 22, _ =>
      refine L_tableIn (692) 725 (dL0 21 rfl) (by decide) (by decide) (by decide) (by decide) ?_
      exact lw_image q kq i hi hL h2 h42 hR KK
    | 23, _ =>
      refine L_tableIn (705) 738 (dL0 21 rfl) (by decide) (by decide) (by decide) (by decide) ?_
      exact lw_back q kq i hi hL h2 h42 hR KK
    | 24, _ =>
      refine L_tableIn (718) 751 (dL0 21 rfl) (by decide) (by decide) (by decide) (by decide) ?_
      exact lw_count q kq i hi hL h2 h42 hR KK
    | 25, _ =>
      refine L_tableIn (741) 774 (dL0 21 rfl) (by decide) (by decide) (by decide) (by decide) ?_
      exact lw_sheet q kq i hi hL h2 h42 hR KK
    | 26, _ =>
      refine L_tableIn (784) 817 (dL0 21 rfl) (by decide) (by decide) (by decide) (by decide) ?_
      exact lw_cell q kq i hi hL h2 h42 hR KK
    | 27, _ =>
      refine L_tableIn (827) 860 (dL0 21 rfl) (by decide) (by decide) (by decide) (by decide) ?_
      exact lw_copy q kq i hi hL h2 h42 hR KK
    | 28, _ =>
      refine L_tableIn (890) 923 (dL0 21 rfl) (by decide) (by decide) (by decide) (by decide) ?_
      exact lw_men q kq i hi hL h2 h42 hR KK
    | 29, _ =>
      refine L_tableIn (943) 976 (dL0 21 rfl) (by decide) (by decide) (by decide) (by decide) ?_
      exact lw_taken q kq i hi hL h2 h42 hR KK
    | 30, _ =>
      refine L_tableOut 1009 (dL0 21 rfl) (by decide) (by decide) ?_
      exact LW.less (by omega) (by omega) (KK w1 w2 hR)
    | 31, _ =>
      refine L_tableOut 1009 (dL0 21 rfl) (by decide) (by decide) ?_
      exact LW.less (by omega) (by omega) (KK w1 w2 hR)
    | j + 32, hj => omega
theorem nI_m6 {L : Nat} (hL : L ≤ 3072) : (nI L - 6).toInt = (L : Int) - 6 := by
  rw [show (6 : Int32) = nI 6 from rfl]
  exact pk_sub_toInt (by omega) (by decide)
set_option maxRecDepth 100000 in
set_option maxHeartbeats 1000000 in
theorem law_loop {E : ag} {b0 L0 : Nat} {xs0 : Nat → Int32} (q : Nat → Nat) (kq : Nat) (hL : L0 ≤ 3072) : ∀ (n i : Nat), i ≤ L0 + 6 → L0 ≤ i + 6 * n + 5 → ∀ (bc bs : Nat) (w1 w2 : va_W), 2 * n ≤ bc → 42 * n ≤ bs → REL E q kq w1 w2 → LW E b0 L0 xs0 bc bs 18 [some (.ref b0), some (.ref kq), some (.ref (q 0)), some (.int (nI i))] [] (w1 ++ w2) := by
  intro n
  induction n with
  | zero =>
    intro i h0 h1 bc bs w1 w2 h2 h42 hR
    refine L_iload_n (dL0 10 rfl) rfl ?_
    refine L_aload_n (dL0 11 rfl) rfl ?_
    refine L_slen (dL0 12 rfl) ?_
    refine L_bipush (6) (dL0 13 rfl) (by decide +kernel) ?_
    refine L_isub (dL0 14 rfl) ?_
    refine L_icmp_gt 1015 (dL0 15 rfl) (by decide) (fun _ => ?_) (fun z => absurd (show nI L0 - 6 < nI i from Int32.lt_iff_toInt_lt.mpr (by rw [nI_m6 hL, nI_toInt (by omega)]; omega)) z)
    refine L_iconst (1) (dL11 25 rfl) (by decide +kernel) ?_
    exact L_ret (dL11 26 rfl)
  | succ n ih =>
    intro i h0 h1 bc bs w1 w2 h2 h42 hR
    refine L_iload_n (dL0 10 rfl) rfl ?_
    refine L_aload_n (dL0 11 rfl) rfl ?_
    refine L_slen (dL0 12 rfl) ?_
    refine L_bipush (6) (dL0 13 rfl) (by decide +kernel) ?_
    refine L_isub (dL0 14 rfl) ?_
    by_cases hi : i + 6 ≤ L0
    · refine L_icmp_gt 1015 (dL0 15 rfl) (by decide) (fun z => absurd z (show ¬ nI L0 - 6 < nI i from fun z => by
        rw [Int32.lt_iff_toInt_lt, nI_m6 hL, nI_toInt (by omega)] at z
        omega)) (fun _ => ?_)
      refine L_aload_n (dL0 16 rfl) rfl ?_
      refine L_iload_n (dL0 17 rfl) rfl ?_
      refine L_sld (dL0 18 rfl) (vp_in_nI (n := i) (by omega) (by omega)) ?_
      rw [nI_clamp (n := i) (by omega)]
      refine L_bipush (31) (dL0 19 rfl) (by decide +kernel) ?_
      refine L_iand (dL0 20 rfl) ?_
      refine LW.pcq (pc2 := 33) rfl ?_
      have KK : ∀ w1 w2, REL E q kq w1 w2 → LW E b0 L0 xs0 (bc - 2) (bs - 42) 1009 [some (.ref b0), some (.ref kq), some (.ref (q 0)), some (.int (nI i))] [] (w1 ++ w2) := by
        intro w1 w2 hR
        refine L_iinc (ls2 := [some (.ref b0), some (.ref kq), some (.ref (q 0)), some (.int (nI (i + 6)))]) (nI (i + 6)) (dL11 23 rfl) rfl (nI_add i 6) (by decide) rfl rfl ?_
        refine L_goto 18 (dL11 24 rfl) (by decide) ?_
        exact ih (i + 6) (by omega) (by omega) _ _ w1 w2 (by omega) (by omega) hR
      exact law_sw q kq i hi hL (by omega) (by omega) hR KK
    · refine L_icmp_gt 1015 (dL0 15 rfl) (by decide) (fun _ => ?_) (fun z => absurd (show nI L0 - 6 < nI i from Int32.lt_iff_toInt_lt.mpr (by rw [nI_m6 hL, nI_toInt (by omega)]; omega)) z)
      refine L_iconst (1) (dL11 25 rfl) (by decide +kernel) ?_
      exact L_ret (dL11 26 rfl)
