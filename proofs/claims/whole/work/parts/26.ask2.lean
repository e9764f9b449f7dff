set_option maxRecDepth 100000 in
set_option maxHeartbeats 400000 in
theorem m_judgeX (E : ag) (q : Nat → Nat) (g : Nat → Int32) (tw : Int64) (a : Nat → Nat → Int32) (h1 : Nat → Int32) (tw1 : Int64) (b1 : Nat → Nat → Int32) (hd1 : AD g a h1 b1) (i s0 : Nat) (hs0 : s0 < 4) (v k : Int32) (hv : ¬ v = -1) : AW E mX6_judge 47 0 0 39 [some (.ref (q 0)), some (.int (nI i)), some (.int (nI s0)), some (.int v), some (.int k)] [] (MW E q h1 tw1 b1) (ri (fun r w => r = v ∧ QW E q g a w)) := by
  refine A_iload (dX6_judge 22 rfl) rfl ?_
  refine A_aload_n (dX6_judge 23 rfl) rfl ?_
  refine A_get (dX6_judge 24 rfl) fwX6_87 MW_0 MF_62 ?_
  refine A_iload_n (dX6_judge 25 rfl) rfl ?_
  refine A_iald (dX6_judge 26 rfl) MW_23 (vp_in_nI (n := s0) (by omega) (by decide)) ?_
  refine A_icmp_ge 89 (dX6_judge 27 rfl) (by decide) (fun h47 => ?_) (fun h47 => ?_)
  · refine A_aload_n (dX6_judge 50 rfl) rfl ?_
    refine A_callVWv 0 (dX6_judge 51 rfl) cbX6_laysBack cwX6_343 (m_backQ E q g tw1 a h1 b1 hd1) rfl rfl MW_0 rfl rfl (Nat.le_of_ble_eq_true rfl) (Nat.le_of_ble_eq_true rfl) (Nat.le_of_ble_eq_true rfl) (Nat.le_of_ble_eq_true rfl) (Nat.le_of_ble_eq_true rfl) ?_
    rintro w1 hB
    refine AW.pcq (pc2 := 93) rfl ?_
    refine A_iload_n (dX6_judge 52 rfl) rfl ?_
    refine A_ri (dX6_judge 53 rfl) rfl rfl ?_
    exact ⟨rfl, hB.qw⟩
  · refine A_iload_n (dX6_judge 28 rfl) rfl ?_
    refine A_iconst (-1) (dX6_judge 29 rfl) (by decide +kernel) ?_
    refine A_icmp_ne 89 (dX6_judge 30 rfl) (by decide) (fun h52 => ?_) (fun h52 => absurd h52 hv)
    refine A_aload_n (dX6_judge 50 rfl) rfl ?_
    refine A_callVWv 0 (dX6_judge 51 rfl) cbX6_laysBack cwX6_343 (m_backQ E q g tw1 a h1 b1 hd1) rfl rfl MW_0 rfl rfl (Nat.le_of_ble_eq_true rfl) (Nat.le_of_ble_eq_true rfl) (Nat.le_of_ble_eq_true rfl) (Nat.le_of_ble_eq_true rfl) (Nat.le_of_ble_eq_true rfl) ?_
    rintro w1 hB
    refine AW.pcq (pc2 := 93) rfl ?_
    refine A_iload_n (dX6_judge 52 rfl) rfl ?_
    refine A_ri (dX6_judge 53 rfl) rfl rfl ?_
    exact ⟨rfl, hB.qw⟩
set_option maxRecDepth 100000 in
set_option maxHeartbeats 400000 in
theorem m_judgeL (E : ag) (q : Nat → Nat) (g : Nat → Int32) (tw : Int64) (a : Nat → Nat → Int32) (t m : Nat) (C : Nat → List Int32) (hg4 : g 4 = nI t) (hK : TOK (a 1) (a 2) t C) (hF : FI (rfs g a) m) (i s0 N : Nat) (hi : i < 5) (hs0 : s0 < 4) (hN : N ≤ 40) (h23 : a 23 s0 = nI N) : ∀ (n c : Nat), c + n = N → ∀ (h1 : Nat → Int32) (tw1 : Int64) (b1 : Nat → Nat → Int32) (s : FS), rfs h1 b1 = s → AD g a h1 b1 → FI s m → AW E mX6_judge 47 0 0 39 [some (.ref (q 0)), some (.int (nI i)), some (.int (nI s0)), some (.int (-1)), some (.int (nI c))] [] (MW E q h1 tw1 b1) (ri (fun r w => r = p_judge C i (fun k => a 24 (40 * s0 + k)) n c s ∧ QW E q g a w)) := by
  intro n
  induction n with
  | zero =>
    intro c hc
    intro h1 tw1 b1 s hf1 hd1 hF1
    obtain rfl : N = c := by omega
    refine A_iload (dX6_judge 22 rfl) rfl ?_
    refine A_aload_n (dX6_judge 23 rfl) rfl ?_
    refine A_get (dX6_judge 24 rfl) fwX6_87 MW_0 MF_62 ?_
    refine A_iload_n (dX6_judge 25 rfl) rfl ?_
    refine A_iald (dX6_judge 26 rfl) MW_23 (vp_in_nI (n := s0) (by omega) (by decide)) ?_
    refine A_icmp_ge 89 (dX6_judge 27 rfl) (by decide) (fun h47 => ?_) (fun h47 => absurd (show b1 23 (nI s0).toNatClampNeg ≤ nI N by rw [nI_clamp (n := s0) (by omega), hd1.2.2.2 23 (by decide), h23]; exact nI_le (Nat.le_refl _) (by omega)) h47)
    refine A_aload_n (dX6_judge 50 rfl) rfl ?_
    refine A_callVWv 0 (dX6_judge 51 rfl) cbX6_laysBack cwX6_343 (m_backQ E q g tw1 a h1 b1 hd1) rfl rfl MW_0 rfl rfl (Nat.le_of_ble_eq_true rfl) (Nat.le_of_ble_eq_true rfl) (Nat.le_of_ble_eq_true rfl) (Nat.le_of_ble_eq_true rfl) (Nat.le_of_ble_eq_true rfl) ?_
    rintro w1 hB
    refine AW.pcq (pc2 := 93) rfl ?_
    refine A_iload_n (dX6_judge 52 rfl) rfl ?_
    refine A_ri (dX6_judge 53 rfl) rfl rfl ?_
    exact ⟨rfl, hB.qw⟩
  | succ n ih =>
    intro c hc
    have hlt : c < N := by omega
    intro h1 tw1 b1 s hf1 hd1 hF1
    refine A_iload (dX6_judge 22 rfl) rfl ?_
    refine A_aload_n (dX6_judge 23 rfl) rfl ?_
    refine A_get (dX6_judge 24 rfl) fwX6_87 MW_0 MF_62 ?_
    refine A_iload_n (dX6_judge 25 rfl) rfl ?_
    refine A_iald (dX6_judge 26 rfl) MW_23 (vp_in_nI (n := s0) (by omega) (by decide)) ?_
    refine A_icmp_ge 89 (dX6_judge 27 rfl) (by decide) (fun h47 => absurd h47 (show ¬ b1 23 (nI s0).toNatClampNeg ≤ nI c by rw [nI_clamp (n := s0) (by omega), hd1.2.2.2 23 (by decide), h23]; exact nI_ge hlt (by omega))) (fun h47 => ?_)
    refine A_iload_n (dX6_judge 28 rfl) rfl ?_
    refine A_iconst (-1) (dX6_judge 29 rfl) (by decide +kernel) ?_
    refine AW.pcq (pc2 := 52) rfl ?_
    refine A_icmp_ne 89 (dX6_judge 30 rfl) (by decide) (fun h52 => absurd rfl h52) (fun h52 => ?_)
    refine A_aload_n (dX6_judge 31 rfl) rfl ?_
    refine A_callVWv 0 (dX6_judge 32 rfl) cbX6_goes cwX6_312 (m_goesT E q g a t m C hg4 hK h1 tw1 b1 s hf1 hd1 hF1) rfl rfl MW_0 rfl rfl (Nat.le_of_ble_eq_true rfl) (Nat.le_of_ble_eq_true rfl) (Nat.le_of_ble_eq_true rfl) (Nat.le_of_ble_eq_true rfl) (Nat.le_of_ble_eq_true rfl) ?_
    rintro w1 ⟨h2, tw2, b2, rfl, hf2, hd2⟩
    refine AW.pcq (pc2 := 59) rfl ?_
    refine A_aload_n (dX6_judge 33 rfl) rfl ?_
    refine A_get (dX6_judge 34 rfl) fwX6_32 MW_0 MF_10 ?_
    refine A_iload_n (dX6_judge 35 rfl) rfl ?_
    refine A_iald (dX6_judge 36 rfl) MW_7 (vp_in_nI (n := i) (by omega) (by decide)) ?_
    rw [nI_clamp (n := i) (by omega)]
    refine A_aload_n (dX6_judge 37 rfl) rfl ?_
    refine A_get (dX6_judge 38 rfl) fwX6_90 MW_0 MF_63 ?_
    refine A_bipush (40) (dX6_judge 39 rfl) (by decide +kernel) ?_
    refine A_iload_n (dX6_judge 40 rfl) rfl ?_
    refine AW.pcq (pc2 := 72) rfl ?_
    refine A_imul (dX6_judge 41 rfl) ?_
    refine A_iload (dX6_judge 42 rfl) rfl ?_
    refine A_iadd (dX6_judge 43 rfl) ?_
    rw [show (40 : Int32) * nI s0 + nI c = nI (40 * s0 + c) by rw [show (40 : Int32) * nI s0 = nI (40 * s0) from pk_mul 40 s0, nI_add]]
    refine A_iald (dX6_judge 44 rfl) MW_24 (vp_in_nI (n := 40 * s0 + c) (by omega) (by decide)) ?_
    rw [nI_clamp (n := 40 * s0 + c) (by omega)]
    have hx7 : b2 7 i = (p_round C zro s).2 3 i := by rw [rfA3 hf2]
    have hx24 : b2 24 (40 * s0 + c) = a 24 (40 * s0 + c) := by rw [hd2.2.2.2 24 (by decide)]
    refine A_icmp_eq 83 (dX6_judge 45 rfl) (by decide) (fun h77 => ?_) (fun h77 => ?_)
    · have hx : (p_round C zro s).2 3 i = a 24 (40 * s0 + c) := by rw [← hx7, ← hx24]; exact h77
      rw [show p_judge C i (fun k => a 24 (40 * s0 + k)) (n + 1) c s = p_judge C i (fun k => a 24 (40 * s0 + k)) n (c + 1) (p_round C zro s) from if_pos hx]
      refine A_iinc (ls2 := [_, _, _, _, _]) (nI (c + 1)) (dX6_judge 48 rfl) rfl (nI_1 c) (by decide) rfl rfl ?_
      refine A_goto 39 (dX6_judge 49 rfl) (by decide) ?_
      first
        | exact ih (c + 1) (by omega) h2 tw2 b2 _ hf2 hd2 (hF1.round C zro)
        | exact m_judgeX E q g tw a h2 tw2 b2 hd2 i s0 hs0 (nI c) _ (nIm1n (by omega))
    · have hx : ¬ (p_round C zro s).2 3 i = a 24 (40 * s0 + c) := by rw [← hx7, ← hx24]; exact h77
      rw [show p_judge C i (fun k => a 24 (40 * s0 + k)) (n + 1) c s = nI c from if_neg hx]
      refine A_iload (dX6_judge 46 rfl) rfl ?_
      refine A_istore_n (ls2 := [_, _, _, _, _]) (dX6_judge 47 rfl) (by decide) rfl rfl ?_
      refine A_iinc (ls2 := [_, _, _, _, _]) (nI (c + 1)) (dX6_judge 48 rfl) rfl (nI_1 c) (by decide) rfl rfl ?_
      refine A_goto 39 (dX6_judge 49 rfl) (by decide) ?_
      first
        | exact ih (c + 1) (by omega) h2 tw2 b2 _ hf2 hd2 (hF1.round C zro)
        | exact m_judgeX E q g tw a h2 tw2 b2 hd2 i s0 hs0 (nI c) _ (nIm1n (by omega))

theorem sheet_nI {i : Int32} (h : ¬ inI i 0 3 = 0) : ∃ j, j < 4 ∧ i = nI j := by
  obtain ⟨h1, h2⟩ := inI_yes h
  have h0 : (0 : Int32).toInt = 0 := by decide
  have h3 : (3 : Int32).toInt = 3 := by decide
  obtain ⟨j, hj, rfl⟩ := nI_of (x := i) (fun z => by have := Int32.lt_iff_toInt_lt.mp z; omega)
  rw [nI_toInt hj] at h2
  exact ⟨j, by omega, rfl⟩
/-- the reference's sheets: those that are there have 0 to 40 items -/
def SHI (a : Nat → Nat → Int32) : Prop := ∀ s, s < 4 → ¬ a 21 s = 0 → ∃ N, N ≤ 40 ∧ a 23 s = nI N
theorem manC {i : Int32} {m : Nat} {g : Nat → Int32} (hm : m ≤ 5) (hg : g 13 = nI m) (h : ¬ inI i 0 (g 13 - 1) = 0) : ∃ j, j < m ∧ i = nI j := by rw [hg] at h; exact man_nI hm h
set_option maxRecDepth 100000 in
set_option maxHeartbeats 400000 in
theorem m_judge (E : ag) (q : Nat → Nat) (g : Nat → Int32) (tw : Int64) (a : Nat → Nat → Int32) (t m : Nat) (C : Nat → List Int32) (hg4 : g 4 = nI t) (hK : TOK (a 1) (a 2) t C) (hF : FI (rfs g a) m) (i s : Int32) (hsh : SHI a) : CT E yX6_judge cX6_judge 5 mX6_judge.2.2.2.1 47 0 0 [.ref (q 0), .int i, .int s] (MW E q g tw a) (ri (fun r w => r = (if inI i 0 (g 13 - 1) = 0 ∨ inI s 0 3 = 0 then -2 else if a 21 s.toNatClampNeg = 0 then -11 else p_judge C i.toNatClampNeg (fun k => a 24 (40 * s.toNatClampNeg + k)) (a 23 s.toNatClampNeg).toNatClampNeg 0 (p_try (rfs g a))) ∧ QW E q g a w)) := by
  refine CT.of (M := mX6_judge) (ls := [some (.ref (q 0)), some (.int i), some (.int s), none, none]) (by decide) rfl (by decide) rfl (Nat.le_of_ble_eq_true rfl) ?_
  refine A_aload_n (dX6_judge 0 rfl) rfl ?_
  refine A_iload_n (dX6_judge 1 rfl) rfl ?_
  refine A_callVWi 1 (dX6_judge 2 rfl) cbX6_isMan cwX6_123 (m_isMan E q g tw a i) rfl rfl MW_0 rfl rfl (Nat.le_of_ble_eq_true rfl) (Nat.le_of_ble_eq_true rfl) (Nat.le_of_ble_eq_true rfl) (Nat.le_of_ble_eq_true rfl) (Nat.le_of_ble_eq_true rfl) ?_
  rintro r2 w1 ⟨rfl, rfl⟩
  refine AW.pcq (pc2 := 5) rfl ?_
  refine A_if_eq 15 (dX6_judge 3 rfl) (by decide) (fun h5 => ?_) (fun h5 => ?_)
  · refine A_bipush (-2) (dX6_judge 7 rfl) (by decide +kernel) ?_
    refine A_ri (dX6_judge 8 rfl) rfl rfl ?_
    exact ⟨by rw [if_pos (by first | exact Or.inl (by assumption) | exact Or.inr (by assumption))], QW.rf⟩
  · refine A_iload_n (dX6_judge 4 rfl) rfl ?_
    refine A_callSWi 1 (dX6_judge 5 rfl) cbX6_isSheet cwX6_372 (m_isSheet E _ s) rfl rfl (Nat.le_of_ble_eq_true rfl) (Nat.le_of_ble_eq_true rfl) (Nat.le_of_ble_eq_true rfl) (Nat.le_of_ble_eq_true rfl) (Nat.le_of_ble_eq_true rfl) ?_
    rintro r9 w1 ⟨rfl, rfl⟩
    refine AW.pcq (pc2 := 12) rfl ?_
    refine A_if_ne 18 (dX6_judge 6 rfl) (by decide) (fun h12 => ?_) (fun h12 => ?_)
    · rw [if_neg (fun z => z.elim h5 h12)]
      obtain ⟨j, hj, rfl⟩ := manC hF.1 hF.2.1 h5
      obtain ⟨s0, hs0, rfl⟩ := sheet_nI h12
      simp only [nI_clamp (n := j) (by have := hF.1; omega), nI_clamp (n := s0) (by omega)]
      refine A_aload_n (dX6_judge 9 rfl) rfl ?_
      refine A_get (dX6_judge 10 rfl) fwX6_80 MW_0 MF_60 ?_
      refine A_iload_n (dX6_judge 11 rfl) rfl ?_
      refine A_zald (dX6_judge 12 rfl) MW_21 (vp_in_nI (n := s0) (by omega) (by decide)) ?_
      rw [nI_clamp (n := s0) (by omega)]
      refine A_if_ne 30 (dX6_judge 13 rfl) (by decide) (fun h24 => ?_) (fun h24 => ?_)
      · rw [if_neg h24]
        obtain ⟨N, hN, h23⟩ := hsh s0 hs0 h24
        rw [h23, nI_clamp (n := N) (by omega)]
        refine A_aload_n (dX6_judge 16 rfl) rfl ?_
        refine A_callVWv 0 (dX6_judge 17 rfl) cbX6_laysAside cwX6_334 (m_asideQ E q g tw a) rfl rfl MW_0 rfl rfl (Nat.le_of_ble_eq_true rfl) (Nat.le_of_ble_eq_true rfl) (Nat.le_of_ble_eq_true rfl) (Nat.le_of_ble_eq_true rfl) (Nat.le_of_ble_eq_true rfl) ?_
        rintro w1 ⟨h1, tw1, b1, rfl, hf1, hd1, hb1⟩
        refine AW.pcq (pc2 := 34) rfl ?_
        refine A_iconst (-1) (dX6_judge 18 rfl) (by decide +kernel) ?_
        refine A_istore_n (ls2 := [_, _, _, _, _]) (dX6_judge 19 rfl) (by decide) rfl rfl ?_
        refine A_iconst (0) (dX6_judge 20 rfl) (by decide +kernel) ?_
        refine A_istore (ls2 := [_, _, _, _, _]) (dX6_judge 21 rfl) (by decide) rfl rfl ?_
        exact m_judgeL E q g tw a t m C hg4 hK hF j s0 N (by have := hF.1; omega) hs0 hN h23 N 0 (by omega) h1 tw1 b1 _ hf1 hd1 hF.try
      · refine A_bipush (-11) (dX6_judge 14 rfl) (by decide +kernel) ?_
        refine A_ri (dX6_judge 15 rfl) rfl rfl ?_
        exact ⟨by rw [if_pos (by assumption)], QW.rf⟩
    · refine A_bipush (-2) (dX6_judge 7 rfl) (by decide +kernel) ?_
      refine A_ri (dX6_judge 8 rfl) rfl rfl ?_
      exact ⟨by rw [if_pos (by first | exact Or.inl (by assumption) | exact Or.inr (by assumption))], QW.rf⟩

set_option maxRecDepth 100000 in
set_option maxHeartbeats 400000 in
theorem m_fewX (E : ag) (q : Nat → Nat) (g : Nat → Int32) (tw : Int64) (a : Nat → Nat → Int32) (h1 : Nat → Int32) (tw1 : Int64) (b1 : Nat → Nat → Int32) (hb1 : BK g a h1 b1) (want v k : Int32) (hv : ¬ v = -1) : AW E mX6_fewest 48 0 0 23 [some (.ref (q 0)), some (.int want), some (.int v), some (.int k)] [] (MW E q h1 tw1 b1) (ri (fun r w => r = v ∧ QW E q g a w)) := by
  refine A_iload_n (dX6_fewest 14 rfl) rfl ?_
  refine A_aload_n (dX6_fewest 15 rfl) rfl ?_
  refine A_get (dX6_fewest 16 rfl) fwX6_315 MW_0 MF_43 ?_
  refine A_icmp_gt 72 (dX6_fewest 17 rfl) (by decide) (fun h28 => ?_) (fun h28 => ?_)
  · refine A_iload_n (dX6_fewest 40 rfl) rfl ?_
    refine A_ri (dX6_fewest 41 rfl) rfl rfl ?_
    exact ⟨rfl, h1, tw1, b1, rfl, hb1⟩
  · refine A_iload_n (dX6_fewest 18 rfl) rfl ?_
    refine A_iconst (-1) (dX6_fewest 19 rfl) (by decide +kernel) ?_
    refine A_icmp_ne 72 (dX6_fewest 20 rfl) (by decide) (fun h33 => ?_) (fun h33 => absurd h33 hv)
    refine A_iload_n (dX6_fewest 40 rfl) rfl ?_
    refine A_ri (dX6_fewest 41 rfl) rfl rfl ?_
    exact ⟨rfl, h1, tw1, b1, rfl, hb1⟩
set_option maxRecDepth 100000 in
set_option maxHeartbeats 400000 in
theorem m_fewL (E : ag) (q : Nat → Nat) (g : Nat → Int32) (tw : Int64) (a : Nat → Nat → Int32) (t m : Nat) (C : Nat → List Int32) (hg4 : g 4 = nI t) (hK : TOK (a 1) (a 2) t C) (hF : FI (rfs g a) m) (want : Int32) : ∀ (n c : Nat), c + n = (m + 1) → 1 ≤ c → ∀ (h1 : Nat → Int32) (tw1 : Int64) (b1 : Nat → Nat → Int32), rfs h1 b1 = p_try (rfs g a) → AD g a h1 b1 → BK g a h1 b1 → AW E mX6_fewest 48 0 0 23 [some (.ref (q 0)), some (.int want), some (.int (-1)), some (.int (nI c))] [] (MW E q h1 tw1 b1) (ri (fun r w => r = p_few C want (rfs g a) n c ∧ QW E q g a w)) := by
  intro n
  induction n with
  | zero =>
    intro c hc
    intro hc1 h1 tw1 b1 hf1 hd1 hb1
    obtain rfl : c = m + 1 := by omega
    have hm5 := hF.1
    refine A_iload_n (dX6_fewest 14 rfl) rfl ?_
    refine A_aload_n (dX6_fewest 15 rfl) rfl ?_
    refine A_get (dX6_fewest 16 rfl) fwX6_315 MW_0 MF_43 ?_
    refine A_icmp_gt 72 (dX6_fewest 17 rfl) (by decide) (fun h28 => ?_) (fun h28 => absurd (show h1 43 < nI (m + 1) by rw [hd1.1.1, show g 13 = nI m from hF.2.1]; exact nI_lt (by omega) (by omega)) h28)
    refine A_iload_n (dX6_fewest 40 rfl) rfl ?_
    refine A_ri (dX6_fewest 41 rfl) rfl rfl ?_
    exact ⟨rfl, h1, tw1, b1, rfl, hb1⟩
  | succ n ih =>
    intro c hc
    have hlt : c < (m + 1) := by omega
    intro hc1 h1 tw1 b1 hf1 hd1 hb1
    have hm5 := hF.1
    refine A_iload_n (dX6_fewest 14 rfl) rfl ?_
    refine A_aload_n (dX6_fewest 15 rfl) rfl ?_
    refine A_get (dX6_fewest 16 rfl) fwX6_315 MW_0 MF_43 ?_
    refine A_icmp_gt 72 (dX6_fewest 17 rfl) (by decide) (fun h28 => absurd h28 (show ¬ h1 43 < nI c by rw [hd1.1.1, show g 13 = nI m from hF.2.1]; exact nI_nlt (by omega) (by omega))) (fun h28 => ?_)
    refine A_iload_n (dX6_fewest 18 rfl) rfl ?_
    refine A_iconst (-1) (dX6_fewest 19 rfl) (by decide +kernel) ?_
    refine A_icmp_ne 72 (dX6_fewest 20 rfl) (by decide) (fun h33 => absurd rfl h33) (fun h33 => ?_)
    refine A_aload_n (dX6_fewest 21 rfl) rfl ?_
    refine AW.pcq (pc2 := 37) rfl ?_
    refine A_iload_n (dX6_fewest 22 rfl) rfl ?_
    refine A_put (dX6_fewest 23 rfl) fwX6_100 fcX6 ftX6_13 MW_0 rfl rfl ML_0 (MP_13 _) ?_
    refine A_aload_n (dX6_fewest 24 rfl) rfl ?_
    refine A_bipush (12) (dX6_fewest 25 rfl) (by decide +kernel) ?_
    refine A_callVWv 1 (dX6_fewest 26 rfl) cbX6_goesOn cwX6_337 (m_goesOnT E q g a t c C hg4 hK (upd h1 13 (nI c)) tw1 b1 (p_men (nI c) (p_try (rfs g a))) (by rw [rf_men, hf1]) (hd1.up (by decide)) (hF.try.men (by omega)) 12 (by decide)) rfl rfl MW_0 rfl rfl (Nat.le_of_ble_eq_true rfl) (Nat.le_of_ble_eq_true rfl) (Nat.le_of_ble_eq_true rfl) (Nat.le_of_ble_eq_true rfl) (Nat.le_of_ble_eq_true rfl) ?_
    rintro w1 ⟨h2, tw2, b2, rfl, hf2, hd2⟩
    refine AW.pcq (pc2 := 47) rfl ?_
    refine A_aload_n (dX6_fewest 27 rfl) rfl ?_
    refine A_get (dX6_fewest 28 rfl) fwX6_305 MW_0 MF_16 ?_
    refine A_aload_n (dX6_fewest 29 rfl) rfl ?_
    refine A_get (dX6_fewest 30 rfl) fwX6_324 MW_0 MF_46 ?_
    refine A_isub (dX6_fewest 31 rfl) ?_
    refine A_iload_n (dX6_fewest 32 rfl) rfl ?_
    refine A_icmp_lt 62 (dX6_fewest 33 rfl) (by decide) (fun h57 => ?_) (fun h57 => ?_)
    · have hw : ¬ want ≤ (p_rounds C 12 (p_men (nI c) (p_try (rfs g a)))).1 3 - (rfs g a).1 3 := by rw [← rf16 hf2, show (rfs g a).1 3 = g 16 from rfl, ← hd2.1.2.2.2]; exact Int32.not_le.mpr h57
      rw [show p_few C want (rfs g a) (n + 1) c = p_few C want (rfs g a) n (c + 1) from if_neg hw]
      refine A_aload_n (dX6_fewest 36 rfl) rfl ?_
      refine A_callVWv 0 (dX6_fewest 37 rfl) cbX6_laysBack cwX6_343 (m_backQ E q g tw2 a h2 b2 hd2) rfl rfl MW_0 rfl rfl (Nat.le_of_ble_eq_true rfl) (Nat.le_of_ble_eq_true rfl) (Nat.le_of_ble_eq_true rfl) (Nat.le_of_ble_eq_true rfl) (Nat.le_of_ble_eq_true rfl) ?_
      rintro w1 ⟨h3, tw3, b3, rfl, hf3, hd3, hb3⟩
      refine AW.pcq (pc2 := 66) rfl ?_
      refine A_iinc (ls2 := [_, _, _, _]) (nI (c + 1)) (dX6_fewest 38 rfl) rfl (nI_1 c) (by decide) rfl rfl ?_
      refine A_goto 23 (dX6_fewest 39 rfl) (by decide) ?_
      first
        | exact ih (c + 1) (by omega) (by omega) h3 tw3 b3 hf3 hd3 hb3
        | exact m_fewX E q g tw a h3 tw3 b3 hb3 want (nI c) _ (nIm1n (by omega))
    · have hw : want ≤ (p_rounds C 12 (p_men (nI c) (p_try (rfs g a)))).1 3 - (rfs g a).1 3 := by rw [← rf16 hf2, show (rfs g a).1 3 = g 16 from rfl, ← hd2.1.2.2.2]; exact Int32.not_lt.mp h57
      rw [show p_few C want (rfs g a) (n + 1) c = nI c from if_pos hw]
      refine A_iload_n (dX6_fewest 34 rfl) rfl ?_
      refine A_istore_n (ls2 := [_, _, _, _]) (dX6_fewest 35 rfl) (by decide) rfl rfl ?_
      refine A_aload_n (dX6_fewest 36 rfl) rfl ?_
      refine A_callVWv 0 (dX6_fewest 37 rfl) cbX6_laysBack cwX6_343 (m_backQ E q g tw2 a h2 b2 hd2) rfl rfl MW_0 rfl rfl (Nat.le_of_ble_eq_true rfl) (Nat.le_of_ble_eq_true rfl) (Nat.le_of_ble_eq_true rfl) (Nat.le_of_ble_eq_true rfl) (Nat.le_of_ble_eq_true rfl) ?_
      rintro w1 ⟨h3, tw3, b3, rfl, hf3, hd3, hb3⟩
      refine AW.pcq (pc2 := 66) rfl ?_
      refine A_iinc (ls2 := [_, _, _, _]) (nI (c + 1)) (dX6_fewest 38 rfl) rfl (nI_1 c) (by decide) rfl rfl ?_
      refine A_goto 23 (dX6_fewest 39 rfl) (by decide) ?_
      first
        | exact ih (c + 1) (by omega) (by omega) h3 tw3 b3 hf3 hd3 hb3
        | exact m_fewX E q g tw a h3 tw3 b3 hb3 want (nI c) _ (nIm1n (by omega))

set_option maxRecDepth 100000 in
set_option maxHeartbeats 400000 in
theorem m_fewest (E : ag) (q : Nat → Nat) (g : Nat → Int32) (tw : Int64) (a : Nat → Nat → Int32) (t m : Nat) (C : Nat → List Int32) (hg4 : g 4 = nI t) (hK : TOK (a 1) (a 2) t C) (hF : FI (rfs g a) m) (want : Int32) : CT E yX6_fewest cX6_fewest 4 mX6_fewest.2.2.2.1 48 0 0 [.ref (q 0), .int want] (MW E q g tw a) (ri (fun r w => r = (if inI want 0 999999 = 0 then -2 else p_few C want (rfs g a) m 1) ∧ QW E q g a w)) := by
  refine CT.of (M := mX6_fewest) (ls := [some (.ref (q 0)), some (.int want), none, none]) (by decide) rfl (by decide) rfl (Nat.le_of_ble_eq_true rfl) ?_
  refine A_iload_n (dX6_fewest 0 rfl) rfl ?_
  refine A_i2l (dX6_fewest 1 rfl) ?_
  refine A_lconst (0) (dX6_fewest 2 rfl) (by decide +kernel) ?_
  refine A_ldc2 (dX6_fewest 3 rfl) kcX6_370 ?_
  refine A_callSWi 3 (dX6_fewest 4 rfl) cbX6_in cwX6_103 (m_in E _ want 0 999999 _ _ _ rfl (by decide) (by decide)) rfl rfl (Nat.le_of_ble_eq_true rfl) (Nat.le_of_ble_eq_true rfl) (Nat.le_of_ble_eq_true rfl) (Nat.le_of_ble_eq_true rfl) (Nat.le_of_ble_eq_true rfl) ?_
  rintro r6 w1 ⟨rfl, rfl⟩
  refine AW.pcq (pc2 := 9) rfl ?_
  refine A_if_ne 15 (dX6_fewest 5 rfl) (by decide) (fun h9 => ?_) (fun h9 => ?_)
  · refine A_aload_n (dX6_fewest 8 rfl) rfl ?_
    refine A_callVWv 0 (dX6_fewest 9 rfl) cbX6_laysAside cwX6_334 (m_asideQ E q g tw a) rfl rfl MW_0 rfl rfl (Nat.le_of_ble_eq_true rfl) (Nat.le_of_ble_eq_true rfl) (Nat.le_of_ble_eq_true rfl) (Nat.le_of_ble_eq_true rfl) (Nat.le_of_ble_eq_true rfl) ?_
    rintro w1 ⟨h1, tw1, b1, rfl, hf1, hd1, hb1⟩
    refine AW.pcq (pc2 := 19) rfl ?_
    refine A_iconst (-1) (dX6_fewest 10 rfl) (by decide +kernel) ?_
    refine A_istore_n (ls2 := [_, _, _, _]) (dX6_fewest 11 rfl) (by decide) rfl rfl ?_
    refine A_iconst (1) (dX6_fewest 12 rfl) (by decide +kernel) ?_
    refine A_istore_n (ls2 := [_, _, _, _]) (dX6_fewest 13 rfl) (by decide) rfl rfl ?_
    rw [if_neg h9]
    exact m_fewL E q g tw a t m C hg4 hK hF want m 1 (by omega) (by decide) h1 tw1 b1 hf1 hd1 hb1
  · refine A_bipush (-2) (dX6_fewest 6 rfl) (by decide +kernel) ?_
    refine A_ri (dX6_fewest 7 rfl) rfl rfl ?_
    exact ⟨by rw [if_pos (by assumption)], QW.rf⟩

def p_idle (i : Nat) (s : FS) : FS := (s.1, va_up s.2 4 (upd (s.2 4) i 0))
theorem rf_idle {g : Nat → Int32} {a : Nat → Nat → Int32} {i : Nat} : rfs g (va_up a 8 (upd (a 8) i 0)) = p_idle i (rfs g a) := by
  refine rfs_eq rfl rfl rfl rfl rfl rfl (fun k hk => rfs_z (a := a) hk) rfl rfl rfl rfl rfl rfl (fun k hk => ?_)
  show va_up (rfs g a).2 4 _ k = _
  simp only [va_up]
  rw [if_neg (by omega)]
  exact rfs_az (g := g) hk
def p_slow (C : Nat → List Int32) (i : Nat) (s : FS) : Int32 := sm ((p_rounds C 12 (p_idle i (p_try s))).2 0) 12 - sm ((p_rounds C 12 (p_try s)).2 0) 12
set_option maxRecDepth 100000 in
set_option maxHeartbeats 400000 in
theorem m_slow (E : ag) (q : Nat → Nat) (g : Nat → Int32) (tw : Int64) (a : Nat → Nat → Int32) (t m : Nat) (C : Nat → List Int32) (hg4 : g 4 = nI t) (hK : TOK (a 1) (a 2) t C) (hF : FI (rfs g a) m) (i : Int32) : CT E yX6_slow cX6_slow 4 mX6_slow.2.2.2.1 48 0 0 [.ref (q 0), .int i] (MW E q g tw a) (ri (fun r w => r = (if inI i 0 (g 13 - 1) = 0 then -100000 else p_slow C i.toNatClampNeg (rfs g a)) ∧ QW E q g a w)) := by
  refine CT.of (M := mX6_slow) (ls := [some (.ref (q 0)), some (.int i), none, none]) (by decide) rfl (by decide) rfl (Nat.le_of_ble_eq_true rfl) ?_
  refine A_aload_n (dX6_slow 0 rfl) rfl ?_
  refine A_iload_n (dX6_slow 1 rfl) rfl ?_
  refine A_callVWi 1 (dX6_slow 2 rfl) cbX6_isMan cwX6_123 (m_isMan E q g tw a i) rfl rfl MW_0 rfl rfl (Nat.le_of_ble_eq_true rfl) (Nat.le_of_ble_eq_true rfl) (Nat.le_of_ble_eq_true rfl) (Nat.le_of_ble_eq_true rfl) (Nat.le_of_ble_eq_true rfl) ?_
  rintro r2 w1 ⟨rfl, rfl⟩
  refine AW.pcq (pc2 := 5) rfl ?_
  refine A_if_ne 11 (dX6_slow 3 rfl) (by decide) (fun h5 => ?_) (fun h5 => ?_)
  · rw [if_neg h5]
    obtain ⟨j, hj, rfl⟩ := manC hF.1 hF.2.1 h5
    have hm5 := hF.1
    simp only [nI_clamp (n := j) (by omega)]
    refine A_aload_n (dX6_slow 6 rfl) rfl ?_
    refine A_callVWv 0 (dX6_slow 7 rfl) cbX6_laysAside cwX6_334 (m_asideQ E q g tw a) rfl rfl MW_0 rfl rfl (Nat.le_of_ble_eq_true rfl) (Nat.le_of_ble_eq_true rfl) (Nat.le_of_ble_eq_true rfl) (Nat.le_of_ble_eq_true rfl) (Nat.le_of_ble_eq_true rfl) ?_
    rintro w1 ⟨h1, tw1, b1, rfl, hf1, hd1, hb1⟩
    refine AW.pcq (pc2 := 15) rfl ?_
    refine A_aload_n (dX6_slow 8 rfl) rfl ?_
    refine A_bipush (12) (dX6_slow 9 rfl) (by decide +kernel) ?_
    refine A_callVWv 1 (dX6_slow 10 rfl) cbX6_goesOn cwX6_337 (m_goesOnT E q g a t m C hg4 hK h1 tw1 b1 _ hf1 hd1 hF.try 12 (by decide)) rfl rfl MW_0 rfl rfl (Nat.le_of_ble_eq_true rfl) (Nat.le_of_ble_eq_true rfl) (Nat.le_of_ble_eq_true rfl) (Nat.le_of_ble_eq_true rfl) (Nat.le_of_ble_eq_true rfl) ?_
    rintro w1 ⟨h2, tw2, b2, rfl, hf2, hd2⟩
    refine AW.pcq (pc2 := 21) rfl ?_
    refine A_aload_n (dX6_slow 11 rfl) rfl ?_
    refine A_callVWi 0 (dX6_slow 12 rfl) cbX6_left cwX6_340 (m_left E q h2 tw2 b2) rfl rfl MW_0 rfl rfl (Nat.le_of_ble_eq_true rfl) (Nat.le_of_ble_eq_true rfl) (Nat.le_of_ble_eq_true rfl) (Nat.le_of_ble_eq_true rfl) (Nat.le_of_ble_eq_true rfl) ?_
    rintro r22 w1 ⟨rfl, rfl⟩
    refine AW.pcq (pc2 := 25) rfl ?_
    refine A_istore_n (ls2 := [_, _, _, _]) (dX6_slow 13 rfl) (by decide) rfl rfl ?_
    refine A_aload_n (dX6_slow 14 rfl) rfl ?_
    refine A_callVWv 0 (dX6_slow 15 rfl) cbX6_laysBack cwX6_343 (m_backQ E q g tw2 a h2 b2 hd2) rfl rfl MW_0 rfl rfl (Nat.le_of_ble_eq_true rfl) (Nat.le_of_ble_eq_true rfl) (Nat.le_of_ble_eq_true rfl) (Nat.le_of_ble_eq_true rfl) (Nat.le_of_ble_eq_true rfl) ?_
    rintro w1 ⟨h3, tw3, b3, rfl, hf3, hd3, hb3⟩
    refine AW.pcq (pc2 := 30) rfl ?_
    refine A_aload_n (dX6_slow 16 rfl) rfl ?_
    refine A_get (dX6_slow 17 rfl) fwX6_35 MW_0 MF_11 ?_
    refine A_iload_n (dX6_slow 18 rfl) rfl ?_
    refine A_iconst (0) (dX6_slow 19 rfl) (by decide +kernel) ?_
    refine A_iast (dX6_slow 20 rfl) MW_8 (vp_in_nI (n := j) (by omega) (by decide)) (MS_8 _) ?_
    rw [nI_clamp (n := j) (by omega)]
    refine A_aload_n (dX6_slow 21 rfl) rfl ?_
    refine A_bipush (12) (dX6_slow 22 rfl) (by decide +kernel) ?_
    refine A_callVWv 1 (dX6_slow 23 rfl) cbX6_goesOn cwX6_337 (m_goesOnT E q g a t m C hg4 hK h3 tw3 (va_up b3 8 (upd (b3 8) j 0)) (p_idle j (p_try (rfs g a))) (by rw [rf_idle, hf3]) (hd3.ua (by decide)) hF.try 12 (by decide)) rfl rfl MW_0 rfl rfl (Nat.le_of_ble_eq_true rfl) (Nat.le_of_ble_eq_true rfl) (Nat.le_of_ble_eq_true rfl) (Nat.le_of_ble_eq_true rfl) (Nat.le_of_ble_eq_true rfl) ?_
    rintro w1 ⟨h4, tw4, b4, rfl, hf4, hd4⟩
    refine AW.pcq (pc2 := 43) rfl ?_
    refine A_aload_n (dX6_slow 24 rfl) rfl ?_
    refine A_callVWi 0 (dX6_slow 25 rfl) cbX6_left cwX6_340 (m_left E q h4 tw4 b4) rfl rfl MW_0 rfl rfl (Nat.le_of_ble_eq_true rfl) (Nat.le_of_ble_eq_true rfl) (Nat.le_of_ble_eq_true rfl) (Nat.le_of_ble_eq_true rfl) (Nat.le_of_ble_eq_true rfl) ?_
    rintro r44 w1 ⟨rfl, rfl⟩
    refine AW.pcq (pc2 := 47) rfl ?_
    refine A_istore_n (ls2 := [_, _, _, _]) (dX6_slow 26 rfl) (by decide) rfl rfl ?_
    refine A_aload_n (dX6_slow 27 rfl) rfl ?_
    refine A_callVWv 0 (dX6_slow 28 rfl) cbX6_laysBack cwX6_343 (m_backQ E q g tw4 a h4 b4 hd4) rfl rfl MW_0 rfl rfl (Nat.le_of_ble_eq_true rfl) (Nat.le_of_ble_eq_true rfl) (Nat.le_of_ble_eq_true rfl) (Nat.le_of_ble_eq_true rfl) (Nat.le_of_ble_eq_true rfl) ?_
    rintro w1 hB
    refine AW.pcq (pc2 := 52) rfl ?_
    refine A_iload_n (dX6_slow 29 rfl) rfl ?_
    refine A_iload_n (dX6_slow 30 rfl) rfl ?_
    refine A_isub (dX6_slow 31 rfl) ?_
    refine A_ri (dX6_slow 32 rfl) rfl rfl ?_
    refine ⟨?_, hB.qw⟩
    unfold p_slow
    rw [rfA0 hf2, rfA0 hf4]
  · refine A_ldc (dX6_slow 4 rfl) kcX6_159 ?_
    refine A_ri (dX6_slow 5 rfl) rfl rfl ?_
    exact ⟨by rw [if_pos (by assumption)], QW.rf⟩

