def K_toldR (gf : Nat → Int32) (af : Nat → Nat → Int32) (i what : Int32) : Int32 :=
  if what = 0 ∨ what = 1 then (if inI i 0 11 = 0 then -2 else if what = 0 then af 0 i.toNatClampNeg else af 1 i.toNatClampNeg)
  else if inI i 0 (gf 0 - 1) = 0 then -2 else if what = 2 then af 2 i.toNatClampNeg else if what = 3 then af 3 i.toNatClampNeg else if what = 4 then af 4 i.toNatClampNeg else if what = 5 then af 5 i.toNatClampNeg else if what = 6 then p_str (af 2 i.toNatClampNeg) (af 4 i.toNatClampNeg) (af 5 i.toNatClampNeg) (gf 2) else if what = 7 then p_gap (gf 0) (gf 1) (af 3) i else -2
theorem told_out {x : Int32} (h : x.toInt < 2 ∨ 7 < x.toInt) : ¬ x = 2 ∧ ¬ x = 3 ∧ ¬ x = 4 ∧ ¬ x = 5 ∧ ¬ x = 6 ∧ ¬ x = 7 := by
  refine ⟨?_, ?_, ?_, ?_, ?_, ?_⟩ <;> (intro z; subst z; exact absurd h (by decide))
theorem gapv {m i : Nat} (hm : m ≤ 5) (hi : i < m) : vp_in (nI m - 1) 5 ∧ (¬ nI i = 0 → vp_in (nI i - 1) 5) := by
  constructor
  · obtain ⟨j, rfl⟩ : ∃ j, m = j + 1 := ⟨m - 1, by omega⟩
    rw [nI_pred]; exact vp_in_nI (by omega) (by decide)
  · intro h
    obtain ⟨j, rfl⟩ : ∃ j, i = j + 1 := ⟨i - 1, by rcases Nat.eq_zero_or_pos i with z | z; exact absurd (by rw [z]; rfl) h; omega⟩
    rw [nI_pred]; exact vp_in_nI (by omega) (by decide)
set_option maxRecDepth 100000 in
set_option maxHeartbeats 400000 in
theorem K_told (E : ag) (kq : Nat) (cg : Nat → Int32) (qf : Nat → Nat) (gf : Nat → Int32) (af : Nat → Nat → Int32) (qd : Nat → Nat) (gd : Nat → Int32) (ad : Nat → Nat → Int32) (qk : Nat → Nat) (gk : Nat → Int32) (ak : Nat → Nat → Int32) (ql : Nat → Nat) (gl : Nat → Int32) (al : Nat → Nat → Int32) (qr : Nat → Nat) (gr : Nat → Int32) (ar : Nat → Nat → Int32) (rx : Nat) (qm : Nat) (qx : Nat → Nat → Nat) (gx : Nat → Nat → Int32) (ax : Nat → Nat → Nat → Int32) (qs : Nat) (sx : Nat → Option Nat) (qo : Nat → Nat) (go : Nat → Int32) (ao : Nat → Nat → Int32) (qp : Nat → Nat) (gp_ : Nat → Int32) (ap : Nat → Nat → Int32) (L : va_W) (m : Nat) (hm5 : m ≤ 5) (hgm : gf 0 = nI m) (hb : ¬ gf 1 ≤ 0) (hM : ∀ i, i < m → MOK (af 2 i) (af 4 i) (af 5 i)) (i what : Int32) : CT E yX5_told cX5_told 3 mX5_told.2.2.2.1 3 0 0 [.ref kq, .int i, .int what] (wK E kq cg qf gf af qd gd ad qk gk ak ql gl al qr gr ar rx qm qx gx ax qs sx qo go ao qp gp_ ap L) (ri (fun r ws => r = K_toldR gf af i what ∧ ws = wK E kq cg qf gf af qd gd ad qk gk ak ql gl al qr gr ar rx qm qx gx ax qs sx qo go ao qp gp_ ap L)) := by
  refine CT.of (M := mX5_told) (ls := [some (.ref kq), some (.int i), some (.int what)]) (by decide) rfl (by decide) rfl (Nat.le_of_ble_eq_true rfl) ?_
  refine A_iload_n (dX5_told 0 rfl) rfl ?_
  refine A_if_eq 9 (dX5_told 1 rfl) (by decide) (fun h1 => ?_) (fun h1 => ?_)
  · refine A_iload_n (dX5_told 5 rfl) rfl ?_
    refine A_callSWi 1 (dX5_told 6 rfl) cbX5_isCell cwX5_97 (k_isCell E _ i) rfl rfl (Nat.le_of_ble_eq_true rfl) (Nat.le_of_ble_eq_true rfl) (Nat.le_of_ble_eq_true rfl) (Nat.le_of_ble_eq_true rfl) (Nat.le_of_ble_eq_true rfl) ?_
    rintro r10 w1 ⟨rfl, rfl⟩
    refine AW.pcq (pc2 := 13) rfl ?_
    refine A_if_ne 21 (dX5_told 7 rfl) (by decide) (fun h13 => ?_) (fun h13 => ?_)
    · refine A_iload_n (dX5_told 10 rfl) rfl ?_
      refine A_if_ne 37 (dX5_told 11 rfl) (by decide) (fun h22 => ?_) (fun h22 => ?_)
      · refine A_aload_n (dX5_told 18 rfl) rfl ?_
        refine A_get (dX5_told 19 rfl) fwX5_10 wK_0 cK_f0_0 ?_
        refine A_get (dX5_told 20 rfl) fwX5_107 wK_1 cF_f0_1 ?_
        refine A_iload_n (dX5_told 21 rfl) rfl ?_
        have hvp : vp_in i 12 := by
          obtain ⟨i0, hi0, e⟩ := cell_nI h13
          rw [e]; exact vp_in_nI (by omega) (by decide)
        refine A_iald (dX5_told 22 rfl) wK_3 hvp ?_
        refine A_ri (dX5_told 23 rfl) rfl rfl ?_
        refine ⟨?_, rfl⟩
        unfold K_toldR
        first
          | (rw [if_pos (Or.inl h1), if_pos h13])
          | (rw [if_pos (Or.inr h6), if_pos h13])
          | (rw [if_pos (Or.inl h1), if_neg h13, if_pos h22])
          | (rw [if_pos (Or.inl h1), if_neg h13, if_neg h22])
          | (rw [if_pos (Or.inr h6), if_neg h13, if_pos h22])
          | (rw [if_pos (Or.inr h6), if_neg h13, if_neg h22])
      · refine A_aload_n (dX5_told 12 rfl) rfl ?_
        refine A_get (dX5_told 13 rfl) fwX5_10 wK_0 cK_f0_0 ?_
        refine A_get (dX5_told 14 rfl) fwX5_100 wK_1 cF_f0_0 ?_
        refine A_iload_n (dX5_told 15 rfl) rfl ?_
        have hvp : vp_in i 12 := by
          obtain ⟨i0, hi0, e⟩ := cell_nI h13
          rw [e]; exact vp_in_nI (by omega) (by decide)
        refine A_iald (dX5_told 16 rfl) wK_2 hvp ?_
        refine A_goto 46 (dX5_told 17 rfl) (by decide) ?_
        refine A_ri (dX5_told 23 rfl) rfl rfl ?_
        refine ⟨?_, rfl⟩
        unfold K_toldR
        first
          | (rw [if_pos (Or.inl h1), if_pos h13])
          | (rw [if_pos (Or.inr h6), if_pos h13])
          | (rw [if_pos (Or.inl h1), if_neg h13, if_pos h22])
          | (rw [if_pos (Or.inl h1), if_neg h13, if_neg h22])
          | (rw [if_pos (Or.inr h6), if_neg h13, if_pos h22])
          | (rw [if_pos (Or.inr h6), if_neg h13, if_neg h22])
    · refine A_bipush (-2) (dX5_told 8 rfl) (by decide +kernel) ?_
      refine A_goto 46 (dX5_told 9 rfl) (by decide) ?_
      refine A_ri (dX5_told 23 rfl) rfl rfl ?_
      refine ⟨?_, rfl⟩
      unfold K_toldR
      first
        | (rw [if_pos (Or.inl h1), if_pos h13])
        | (rw [if_pos (Or.inr h6), if_pos h13])
        | (rw [if_pos (Or.inl h1), if_neg h13, if_pos h22])
        | (rw [if_pos (Or.inl h1), if_neg h13, if_neg h22])
        | (rw [if_pos (Or.inr h6), if_neg h13, if_pos h22])
        | (rw [if_pos (Or.inr h6), if_neg h13, if_neg h22])
  · refine A_iload_n (dX5_told 2 rfl) rfl ?_
    refine A_iconst (1) (dX5_told 3 rfl) (by decide +kernel) ?_
    refine A_icmp_ne 47 (dX5_told 4 rfl) (by decide) (fun h6 => ?_) (fun h6 => ?_)
    · refine A_aload_n (dX5_told 24 rfl) rfl ?_
      refine A_iload_n (dX5_told 25 rfl) rfl ?_
      refine A_callVWi 1 (dX5_told 26 rfl) cbX5_isMan cwX5_110 (K_isMan E kq cg qf gf af qd gd ad qk gk ak ql gl al qr gr ar rx qm qx gx ax qs sx qo go ao qp gp_ ap L i m hm5 hgm) rfl rfl wK_0 rfl rfl (Nat.le_of_ble_eq_true rfl) (Nat.le_of_ble_eq_true rfl) (Nat.le_of_ble_eq_true rfl) (Nat.le_of_ble_eq_true rfl) (Nat.le_of_ble_eq_true rfl) ?_
      rintro r49 w1 ⟨rfl, rfl⟩
      refine AW.pcq (pc2 := 52) rfl ?_
      refine A_if_ne 58 (dX5_told 27 rfl) (by decide) (fun h52 => ?_) (fun h52 => ?_)
      · obtain ⟨i0, hi0, hie⟩ := man_nI hm5 (hgm ▸ h52)
        have hvp : vp_in i 5 := by rw [hie]; exact vp_in_nI (by omega) (by decide)
        refine A_iload_n (dX5_told 30 rfl) rfl ?_
        by_cases hs59 : (what : Int32).toInt < (2 : Int) ∨ (7 : Int) < (what : Int32).toInt
        · refine A_tableOut 154 (dX5_told 31 rfl) hs59 (by decide) ?_
          refine A_bipush (-2) (dX5_told 66 rfl) (by decide +kernel) ?_
          refine A_ri (dX5_told 67 rfl) rfl rfl ?_
          refine ⟨?_, rfl⟩
          obtain ⟨z2, z3, z4, z5, z6, z7⟩ := told_out hs59
          unfold K_toldR
          rw [if_neg (fun z => z.elim h1 h6), if_neg h52, if_neg z2, if_neg z3, if_neg z4, if_neg z5, if_neg z6, if_neg z7]
        by_cases hc59_2 : what = (2 : Int32)
        · refine A_tableIn (37) 96 (dX5_told 31 rfl) (by rw [hc59_2]; decide) (by rw [hc59_2]; decide) (by rw [hc59_2]; rfl) (by decide) ?_
          refine A_aload_n (dX5_told 32 rfl) rfl ?_
          refine A_get (dX5_told 33 rfl) fwX5_10 wK_0 cK_f0_0 ?_
          refine A_get (dX5_told 34 rfl) fwX5_133 wK_1 cF_f0_2 ?_
          refine A_iload_n (dX5_told 35 rfl) rfl ?_
          refine A_iald (dX5_told 36 rfl) wK_4 hvp ?_
          refine A_ri (dX5_told 37 rfl) rfl rfl ?_
          refine ⟨?_, rfl⟩
          unfold K_toldR
          rw [if_neg (fun z => z.elim h1 h6), if_neg h52]
          subst hc59_2
          rfl
        by_cases hc59_3 : what = (3 : Int32)
        · refine A_tableIn (47) 106 (dX5_told 31 rfl) (by rw [hc59_3]; decide) (by rw [hc59_3]; decide) (by rw [hc59_3]; rfl) (by decide) ?_
          refine A_aload_n (dX5_told 38 rfl) rfl ?_
          refine A_get (dX5_told 39 rfl) fwX5_10 wK_0 cK_f0_0 ?_
          refine A_get (dX5_told 40 rfl) fwX5_113 wK_1 cF_f0_3 ?_
          refine A_iload_n (dX5_told 41 rfl) rfl ?_
          refine A_iald (dX5_told 42 rfl) wK_5 hvp ?_
          refine A_ri (dX5_told 43 rfl) rfl rfl ?_
          refine ⟨?_, rfl⟩
          unfold K_toldR
          rw [if_neg (fun z => z.elim h1 h6), if_neg h52]
          subst hc59_3
          rfl
        by_cases hc59_4 : what = (4 : Int32)
        · refine A_tableIn (57) 116 (dX5_told 31 rfl) (by rw [hc59_4]; decide) (by rw [hc59_4]; decide) (by rw [hc59_4]; rfl) (by decide) ?_
          refine A_aload_n (dX5_told 44 rfl) rfl ?_
          refine A_get (dX5_told 45 rfl) fwX5_10 wK_0 cK_f0_0 ?_
          refine A_get (dX5_told 46 rfl) fwX5_123 wK_1 cF_f0_4 ?_
          refine A_iload_n (dX5_told 47 rfl) rfl ?_
          refine A_iald (dX5_told 48 rfl) wK_6 hvp ?_
          refine A_ri (dX5_told 49 rfl) rfl rfl ?_
          refine ⟨?_, rfl⟩
          unfold K_toldR
          rw [if_neg (fun z => z.elim h1 h6), if_neg h52]
          subst hc59_4
          rfl
        by_cases hc59_5 : what = (5 : Int32)
        · refine A_tableIn (67) 126 (dX5_told 31 rfl) (by rw [hc59_5]; decide) (by rw [hc59_5]; decide) (by rw [hc59_5]; rfl) (by decide) ?_
          refine A_aload_n (dX5_told 50 rfl) rfl ?_
          refine A_get (dX5_told 51 rfl) fwX5_10 wK_0 cK_f0_0 ?_
          refine A_get (dX5_told 52 rfl) fwX5_126 wK_1 cF_f0_5 ?_
          refine A_iload_n (dX5_told 53 rfl) rfl ?_
          refine A_iald (dX5_told 54 rfl) wK_7 hvp ?_
          refine A_ri (dX5_told 55 rfl) rfl rfl ?_
          refine ⟨?_, rfl⟩
          unfold K_toldR
          rw [if_neg (fun z => z.elim h1 h6), if_neg h52]
          subst hc59_5
          rfl
        by_cases hc59_6 : what = (6 : Int32)
        · refine A_tableIn (77) 136 (dX5_told 31 rfl) (by rw [hc59_6]; decide) (by rw [hc59_6]; decide) (by rw [hc59_6]; rfl) (by decide) ?_
          refine A_aload_n (dX5_told 56 rfl) rfl ?_
          refine A_get (dX5_told 57 rfl) fwX5_10 wK_0 cK_f0_0 ?_
          refine A_iload_n (dX5_told 58 rfl) rfl ?_
          subst hie
          refine A_callVi 1 (dX5_told 59 rfl) cbX1_strikesOf cwX5_136 (f_strikesOf E qf gf af i0 (by omega) (hM i0 hi0)) rfl rfl wF_0 rfl rfl [1, 2, 3, 4, 5, 6, 7] rfl rfl (Nat.le_of_ble_eq_true rfl) (Nat.le_of_ble_eq_true rfl) (Nat.le_of_ble_eq_true rfl) (Nat.le_of_ble_eq_true rfl) (Nat.le_of_ble_eq_true rfl) (by rintro _ _ ⟨_, rfl⟩; exact (Nat.le_of_ble_eq_true rfl)) ?_
          rintro r141 w1 ⟨rfl, rfl⟩
          refine AW.world (ws2 := wK E kq cg qf gf af qd gd ad qk gk ak ql gl al qr gr ar rx qm qx gx ax qs sx qo go ao qp gp_ ap L) mK_f ?_
          refine AW.pcq (pc2 := 144) rfl ?_
          refine A_ri (dX5_told 60 rfl) rfl rfl ?_
          refine ⟨?_, rfl⟩
          unfold K_toldR
          rw [if_neg (fun z => z.elim h1 h6), if_neg h52]
          subst hc59_6
          rw [nI_clamp (n := i0) (by omega)]
          rfl
        have hc59_7 : what = (7 : Int32) := by
          apply Int32.toInt_inj.mp
          have hq := not_or.mp hs59
          have e0 : (7 : Int32).toInt = 7 := by decide
          have n0 : ¬ (what : Int32).toInt = 2 := fun hh => hc59_2 (Int32.toInt_inj.mp (hh.trans (by decide)))
          have n1 : ¬ (what : Int32).toInt = 3 := fun hh => hc59_3 (Int32.toInt_inj.mp (hh.trans (by decide)))
          have n2 : ¬ (what : Int32).toInt = 4 := fun hh => hc59_4 (Int32.toInt_inj.mp (hh.trans (by decide)))
          have n3 : ¬ (what : Int32).toInt = 5 := fun hh => hc59_5 (Int32.toInt_inj.mp (hh.trans (by decide)))
          have n4 : ¬ (what : Int32).toInt = 6 := fun hh => hc59_6 (Int32.toInt_inj.mp (hh.trans (by decide)))
          omega
        refine A_tableIn (86) 145 (dX5_told 31 rfl) (by rw [hc59_7]; decide) (by rw [hc59_7]; decide) (by rw [hc59_7]; rfl) (by decide) ?_
        refine A_aload_n (dX5_told 61 rfl) rfl ?_
        refine A_get (dX5_told 62 rfl) fwX5_10 wK_0 cK_f0_0 ?_
        refine A_iload_n (dX5_told 63 rfl) rfl ?_
        subst hie
        have hgv := gapv hm5 hi0
        refine A_callVi 1 (dX5_told 64 rfl) cbX1_gapOf cwX5_139 (f_gapOf E qf gf af (nI i0) hvp (by rw [hgm]; exact hgv.1) hgv.2 hb) rfl rfl wF_0 rfl rfl [1, 2, 3, 4, 5, 6, 7] rfl rfl (Nat.le_of_ble_eq_true rfl) (Nat.le_of_ble_eq_true rfl) (Nat.le_of_ble_eq_true rfl) (Nat.le_of_ble_eq_true rfl) (Nat.le_of_ble_eq_true rfl) (by rintro _ _ ⟨_, rfl⟩; exact (Nat.le_of_ble_eq_true rfl)) ?_
        rintro r150 w1 ⟨rfl, rfl⟩
        refine AW.world (ws2 := wK E kq cg qf gf af qd gd ad qk gk ak ql gl al qr gr ar rx qm qx gx ax qs sx qo go ao qp gp_ ap L) mK_f ?_
        refine AW.pcq (pc2 := 153) rfl ?_
        refine A_ri (dX5_told 65 rfl) rfl rfl ?_
        refine ⟨?_, rfl⟩
        unfold K_toldR
        rw [if_neg (fun z => z.elim h1 h6), if_neg h52, hc59_7]
        rfl
      · refine A_bipush (-2) (dX5_told 28 rfl) (by decide +kernel) ?_
        refine A_ri (dX5_told 29 rfl) rfl rfl ?_
        refine ⟨?_, rfl⟩
        unfold K_toldR
        rw [if_neg (fun z => z.elim h1 h6), if_pos (by assumption)]
    · refine A_iload_n (dX5_told 5 rfl) rfl ?_
      refine A_callSWi 1 (dX5_told 6 rfl) cbX5_isCell cwX5_97 (k_isCell E _ i) rfl rfl (Nat.le_of_ble_eq_true rfl) (Nat.le_of_ble_eq_true rfl) (Nat.le_of_ble_eq_true rfl) (Nat.le_of_ble_eq_true rfl) (Nat.le_of_ble_eq_true rfl) ?_
      rintro r10 w1 ⟨rfl, rfl⟩
      refine AW.pcq (pc2 := 13) rfl ?_
      refine A_if_ne 21 (dX5_told 7 rfl) (by decide) (fun h13 => ?_) (fun h13 => ?_)
      · refine A_iload_n (dX5_told 10 rfl) rfl ?_
        refine A_if_ne 37 (dX5_told 11 rfl) (by decide) (fun h22 => ?_) (fun h22 => ?_)
        · refine A_aload_n (dX5_told 18 rfl) rfl ?_
          refine A_get (dX5_told 19 rfl) fwX5_10 wK_0 cK_f0_0 ?_
          refine A_get (dX5_told 20 rfl) fwX5_107 wK_1 cF_f0_1 ?_
          refine A_iload_n (dX5_told 21 rfl) rfl ?_
          have hvp : vp_in i 12 := by
            obtain ⟨i0, hi0, e⟩ := cell_nI h13
            rw [e]; exact vp_in_nI (by omega) (by decide)
          refine A_iald (dX5_told 22 rfl) wK_3 hvp ?_
          refine A_ri (dX5_told 23 rfl) rfl rfl ?_
          refine ⟨?_, rfl⟩
          unfold K_toldR
          first
            | (rw [if_pos (Or.inl h1), if_pos h13])
            | (rw [if_pos (Or.inr h6), if_pos h13])
            | (rw [if_pos (Or.inl h1), if_neg h13, if_pos h22])
            | (rw [if_pos (Or.inl h1), if_neg h13, if_neg h22])
            | (rw [if_pos (Or.inr h6), if_neg h13, if_pos h22])
            | (rw [if_pos (Or.inr h6), if_neg h13, if_neg h22])
        · refine A_aload_n (dX5_told 12 rfl) rfl ?_
          refine A_get (dX5_told 13 rfl) fwX5_10 wK_0 cK_f0_0 ?_
          refine A_get (dX5_told 14 rfl) fwX5_100 wK_1 cF_f0_0 ?_
          refine A_iload_n (dX5_told 15 rfl) rfl ?_
          have hvp : vp_in i 12 := by
            obtain ⟨i0, hi0, e⟩ := cell_nI h13
            rw [e]; exact vp_in_nI (by omega) (by decide)
          refine A_iald (dX5_told 16 rfl) wK_2 hvp ?_
          refine A_goto 46 (dX5_told 17 rfl) (by decide) ?_
          refine A_ri (dX5_told 23 rfl) rfl rfl ?_
          refine ⟨?_, rfl⟩
          unfold K_toldR
          first
            | (rw [if_pos (Or.inl h1), if_pos h13])
            | (rw [if_pos (Or.inr h6), if_pos h13])
            | (rw [if_pos (Or.inl h1), if_neg h13, if_pos h22])
            | (rw [if_pos (Or.inl h1), if_neg h13, if_neg h22])
            | (rw [if_pos (Or.inr h6), if_neg h13, if_pos h22])
            | (rw [if_pos (Or.inr h6), if_neg h13, if_neg h22])
      · refine A_bipush (-2) (dX5_told 8 rfl) (by decide +kernel) ?_
        refine A_goto 46 (dX5_told 9 rfl) (by decide) ?_
        refine A_ri (dX5_told 23 rfl) rfl rfl ?_
        refine ⟨?_, rfl⟩
        unfold K_toldR
        first
          | (rw [if_pos (Or.inl h1), if_pos h13])
          | (rw [if_pos (Or.inr h6), if_pos h13])
          | (rw [if_pos (Or.inl h1), if_neg h13, if_pos h22])
          | (rw [if_pos (Or.inl h1), if_neg h13, if_neg h22])
          | (rw [if_pos (Or.inr h6), if_neg h13, if_pos h22])
          | (rw [if_pos (Or.inr h6), if_neg h13, if_neg h22])

set_option maxRecDepth 100000 in
set_option maxHeartbeats 400000 in
theorem K_mends (E : ag) (kq : Nat) (cg : Nat → Int32) (qf : Nat → Nat) (gf : Nat → Int32) (af : Nat → Nat → Int32) (qd : Nat → Nat) (gd : Nat → Int32) (ad : Nat → Nat → Int32) (qk : Nat → Nat) (gk : Nat → Int32) (ak : Nat → Nat → Int32) (ql : Nat → Nat) (gl : Nat → Int32) (al : Nat → Nat → Int32) (qr : Nat → Nat) (gr : Nat → Int32) (ar : Nat → Nat → Int32) (rx : Nat) (qm : Nat) (qx : Nat → Nat → Nat) (gx : Nat → Nat → Int32) (ax : Nat → Nat → Nat → Int32) (qs : Nat) (sx : Nat → Option Nat) (qo : Nat → Nat) (go : Nat → Int32) (ao : Nat → Nat → Int32) (qp : Nat → Nat) (gp_ : Nat → Int32) (ap : Nat → Nat → Int32) (L : va_W) (m : Nat) (hm5 : m ≤ 5) (hgm : gf 0 = nI m) (hb : ¬ gf 1 ≤ 0) (hM : ∀ i, i < m → MOK (af 2 i) (af 4 i) (af 5 i)) (i x : Int32) : CT E yX5_mends cX5_mends 3 mX5_mends.2.2.2.1 3 0 0 [.ref kq, .int i, .int x] (wK E kq cg qf gf af qd gd ad qk gk ak ql gl al qr gr ar rx qm qx gx ax qs sx qo go ao qp gp_ ap L) (ri (fun r ws => r = (if inI i 0 (gf 0 - 1) = 0 ∨ inI x (-240) 240 = 0 then -100000 else p_mnd (af 2 i.toNatClampNeg) (af 5 i.toNatClampNeg) x) ∧ ws = wK E kq cg qf gf af qd gd ad qk gk ak ql gl al qr gr ar rx qm qx gx ax qs sx qo go ao qp gp_ ap L)) := by
  refine CT.of (M := mX5_mends) (ls := [some (.ref kq), some (.int i), some (.int x)]) (by decide) rfl (by decide) rfl (Nat.le_of_ble_eq_true rfl) ?_
  refine A_aload_n (dX5_mends 0 rfl) rfl ?_
  refine A_iload_n (dX5_mends 1 rfl) rfl ?_
  refine A_callVWi 1 (dX5_mends 2 rfl) cbX5_isMan cwX5_110 (K_isMan E kq cg qf gf af qd gd ad qk gk ak ql gl al qr gr ar rx qm qx gx ax qs sx qo go ao qp gp_ ap L i m hm5 hgm) rfl rfl wK_0 rfl rfl (Nat.le_of_ble_eq_true rfl) (Nat.le_of_ble_eq_true rfl) (Nat.le_of_ble_eq_true rfl) (Nat.le_of_ble_eq_true rfl) (Nat.le_of_ble_eq_true rfl) ?_
  rintro r2 w1 ⟨rfl, rfl⟩
  refine AW.pcq (pc2 := 5) rfl ?_
  refine A_if_eq 22 (dX5_mends 3 rfl) (by decide) (fun h5 => ?_) (fun h5 => ?_)
  · refine A_ldc (dX5_mends 10 rfl) kcX5_142 ?_
    refine A_ri (dX5_mends 11 rfl) rfl rfl ?_
    exact ⟨(if_pos (by first | exact Or.inl (by assumption) | exact Or.inr (inI_lo (fun z => absurd z (Int32.not_le.mpr h12))) | exact Or.inr (inI_hi h19))).symm, rfl⟩
  · refine A_iload_n (dX5_mends 4 rfl) rfl ?_
    refine A_sipush (-240) (dX5_mends 5 rfl) (by decide +kernel) ?_
    refine A_icmp_lt 22 (dX5_mends 6 rfl) (by decide) (fun h12 => ?_) (fun h12 => ?_)
    · refine A_ldc (dX5_mends 10 rfl) kcX5_142 ?_
      refine A_ri (dX5_mends 11 rfl) rfl rfl ?_
      exact ⟨(if_pos (by first | exact Or.inl (by assumption) | exact Or.inr (inI_lo (fun z => absurd z (Int32.not_le.mpr h12))) | exact Or.inr (inI_hi h19))).symm, rfl⟩
    · refine A_iload_n (dX5_mends 7 rfl) rfl ?_
      refine A_sipush (240) (dX5_mends 8 rfl) (by decide +kernel) ?_
      refine A_icmp_le 25 (dX5_mends 9 rfl) (by decide) (fun h19 => ?_) (fun h19 => ?_)
      · obtain ⟨i0, hi0, hie⟩ := man_nI hm5 (hgm ▸ h5)
        have hbad : ¬ (inI i 0 (gf 0 - 1) = 0 ∨ inI x (-240) 240 = 0) := by
          rintro (z | z)
          · exact h5 z
          · rw [inI_of (Int32.not_lt.mp h12) h19] at z; exact absurd z (by decide)
        subst hie
        refine A_aload_n (dX5_mends 12 rfl) rfl ?_
        refine A_get (dX5_mends 13 rfl) fwX5_10 wK_0 cK_f0_0 ?_
        refine A_iload_n (dX5_mends 14 rfl) rfl ?_
        refine A_iload_n (dX5_mends 15 rfl) rfl ?_
        refine A_callVi 2 (dX5_mends 16 rfl) cbX1_mendsOf cwX5_143 (f_mendsOf E qf gf af i0 (by omega) x (hM i0 hi0)) rfl rfl wF_0 rfl rfl [1, 2, 3, 4, 5, 6, 7] rfl rfl (Nat.le_of_ble_eq_true rfl) (Nat.le_of_ble_eq_true rfl) (Nat.le_of_ble_eq_true rfl) (Nat.le_of_ble_eq_true rfl) (Nat.le_of_ble_eq_true rfl) (by rintro _ _ ⟨_, rfl⟩; exact (Nat.le_of_ble_eq_true rfl)) ?_
        rintro r31 w1 ⟨rfl, rfl⟩
        refine AW.world (ws2 := wK E kq cg qf gf af qd gd ad qk gk ak ql gl al qr gr ar rx qm qx gx ax qs sx qo go ao qp gp_ ap L) mK_f ?_
        refine AW.pcq (pc2 := 34) rfl ?_
        refine A_ri (dX5_mends 17 rfl) rfl rfl ?_
        exact ⟨by rw [if_neg hbad, nI_clamp (n := i0) (by omega)], rfl⟩
      · refine A_ldc (dX5_mends 10 rfl) kcX5_142 ?_
        refine A_ri (dX5_mends 11 rfl) rfl rfl ?_
        exact ⟨(if_pos (by first | exact Or.inl (by assumption) | exact Or.inr (inI_lo (fun z => absurd z (Int32.not_le.mpr h12))) | exact Or.inr (inI_hi h19))).symm, rfl⟩

set_option maxRecDepth 100000 in
set_option maxHeartbeats 400000 in
theorem K_feed (E : ag) (kq : Nat) (cg : Nat → Int32) (qf : Nat → Nat) (gf : Nat → Int32) (af : Nat → Nat → Int32) (qd : Nat → Nat) (gd : Nat → Int32) (ad : Nat → Nat → Int32) (qk : Nat → Nat) (gk : Nat → Int32) (ak : Nat → Nat → Int32) (ql : Nat → Nat) (gl : Nat → Int32) (al : Nat → Nat → Int32) (qr : Nat → Nat) (gr : Nat → Int32) (ar : Nat → Nat → Int32) (rx : Nat) (qm : Nat) (qx : Nat → Nat → Nat) (gx : Nat → Nat → Int32) (ax : Nat → Nat → Nat → Int32) (qs : Nat) (sx : Nat → Option Nat) (qo : Nat → Nat) (go : Nat → Int32) (ao : Nat → Nat → Int32) (qp : Nat → Nat) (gp_ : Nat → Int32) (ap : Nat → Nat → Int32) (L : va_W) (z : Nat) (hz : z ≤ 160) (hg : gr 0 = nI z) (x : Int32) : CT E yX5_feed cX5_feed 2 mX5_feed.2.2.2.1 2 0 0 [.ref kq, .int x] (wK E kq cg qf gf af qd gd ad qk gk ak ql gl al qr gr ar rx qm qx gx ax qs sx qo go ao qp gp_ ap L) (ri (fun r ws => (inI x 0 255 = 0 ∧ r = -2 ∧ ws = wK E kq cg qf gf af qd gd ad qk gk ak ql gl al qr gr ar rx qm qx gx ax qs sx qo go ao qp gp_ ap L) ∨ (¬ inI x 0 255 = 0 ∧ z = 160 ∧ r = -4 ∧ ws = wK E kq cg qf gf af qd gd ad qk gk ak ql gl al qr gr ar rx qm qx gx ax qs sx qo go ao qp gp_ ap L) ∨ (¬ inI x 0 255 = 0 ∧ z < 160 ∧ r = nI (z + 1) ∧ ws = wK E kq cg qf gf af qd gd ad qk gk ak ql gl al qr (upd gr 0 (nI (z + 1))) (va_up ar 0 (upd (ar 0) z x)) rx qm qx gx ax qs sx qo go ao qp gp_ ap L))) := by
  refine CT.of (M := mX5_feed) (ls := [some (.ref kq), some (.int x)]) (by decide) rfl (by decide) rfl (Nat.le_of_ble_eq_true rfl) ?_
  refine A_iload_n (dX5_feed 0 rfl) rfl ?_
  refine A_sipush (255) (dX5_feed 1 rfl) (by decide +kernel) ?_
  refine A_callSWi 2 (dX5_feed 2 rfl) cbX5_within cwX5_87 (k_within E _ x 255) rfl rfl (Nat.le_of_ble_eq_true rfl) (Nat.le_of_ble_eq_true rfl) (Nat.le_of_ble_eq_true rfl) (Nat.le_of_ble_eq_true rfl) (Nat.le_of_ble_eq_true rfl) ?_
  rintro r4 w1 ⟨rfl, rfl⟩
  refine AW.pcq (pc2 := 7) rfl ?_
  refine A_if_ne 13 (dX5_feed 3 rfl) (by decide) (fun h7 => ?_) (fun h7 => ?_)
  · refine A_aload_n (dX5_feed 6 rfl) rfl ?_
    refine A_get (dX5_feed 7 rfl) fwX5_36 wK_0 cK_f0_5 ?_
    refine A_iload_n (dX5_feed 8 rfl) rfl ?_
    refine A_callVi 1 (dX5_feed 9 rfl) cbX2_add cwX5_76 (r_add E qr gr ar rx x z hz hg) rfl rfl wR1_0 rfl rfl [25, 26] rfl rfl (Nat.le_of_ble_eq_true rfl) (Nat.le_of_ble_eq_true rfl) (Nat.le_of_ble_eq_true rfl) (Nat.le_of_ble_eq_true rfl) (Nat.le_of_ble_eq_true rfl) (by rintro _ _ (⟨_, _, rfl⟩ | ⟨_, _, rfl⟩) <;> exact (Nat.le_of_ble_eq_true rfl)) ?_
    rintro r18 w1 hw
    rcases hw with ⟨hlt, rfl, rfl⟩ | ⟨heq, rfl, rfl⟩
    · refine AW.world (ws2 := wK E kq cg qf gf af qd gd ad qk gk ak ql gl al qr (upd gr 0 (nI (z + 1))) (va_up ar 0 (upd (ar 0) z x)) rx qm qx gx ax qs sx qo go ao qp gp_ ap L) mK_r ?_
      refine AW.pcq (pc2 := 21) rfl ?_
      refine A_if_eq 34 (dX5_feed 10 rfl) (by decide) (fun h21 => absurd h21 (by decide)) (fun h21 => ?_)
      refine A_aload_n (dX5_feed 11 rfl) rfl ?_
      refine A_get (dX5_feed 12 rfl) fwX5_36 wK_0 cK_f0_5 ?_
      refine A_get (dX5_feed 13 rfl) fwX5_146 wK_25 cR_f0_1 ?_
      refine A_goto 36 (dX5_feed 14 rfl) (by decide) ?_
      refine A_ri (dX5_feed 16 rfl) rfl rfl ?_
      exact Or.inr (Or.inr ⟨h7, hlt, rfl, rfl⟩)
    · refine AW.world (ws2 := wK E kq cg qf gf af qd gd ad qk gk ak ql gl al qr gr ar rx qm qx gx ax qs sx qo go ao qp gp_ ap L) mK_r ?_
      refine AW.pcq (pc2 := 21) rfl ?_
      refine A_if_eq 34 (dX5_feed 10 rfl) (by decide) (fun h21 => ?_) (fun h21 => absurd (show (0 : Int32) = 0 from rfl) h21)
      refine A_bipush (-4) (dX5_feed 15 rfl) (by decide +kernel) ?_
      refine A_ri (dX5_feed 16 rfl) rfl rfl ?_
      exact Or.inr (Or.inl ⟨h7, heq, rfl, rfl⟩)
  · refine A_bipush (-2) (dX5_feed 4 rfl) (by decide +kernel) ?_
    refine A_ri (dX5_feed 5 rfl) rfl rfl ?_
    exact Or.inl ⟨by assumption, rfl, rfl⟩

theorem le_t1 {i : Int32} {m : Nat} (hm : m ≤ 6) : i < nI m ↔ i ≤ nI m - 1 := by
  have e : ∀ m, m ≤ 6 → (nI m - 1).toInt = (m : Int) - 1 := by decide +kernel
  rw [Int32.lt_iff_toInt_lt, Int32.le_iff_toInt_le, e m hm, nI_toInt (by omega)]
  omega
set_option maxRecDepth 100000 in
set_option maxHeartbeats 400000 in
theorem K_force (E : ag) (kq : Nat) (cg : Nat → Int32) (qf : Nat → Nat) (gf : Nat → Int32) (af : Nat → Nat → Int32) (qd : Nat → Nat) (gd : Nat → Int32) (ad : Nat → Nat → Int32) (qk : Nat → Nat) (gk : Nat → Int32) (ak : Nat → Nat → Int32) (ql : Nat → Nat) (gl : Nat → Int32) (al : Nat → Nat → Int32) (qr : Nat → Nat) (gr : Nat → Int32) (ar : Nat → Nat → Int32) (rx : Nat) (qm : Nat) (qx : Nat → Nat → Nat) (gx : Nat → Nat → Int32) (ax : Nat → Nat → Nat → Int32) (qs : Nat) (sx : Nat → Option Nat) (qo : Nat → Nat) (go : Nat → Int32) (ao : Nat → Nat → Int32) (qp : Nat → Nat) (gp_ : Nat → Int32) (ap : Nat → Nat → Int32) (L : va_W) (t : Nat) (ht : t ≤ 6) (hcg : cg 1 = nI t) (x : Int32) : CT E yX5_force cX5_force 3 mX5_force.2.2.2.1 1 0 0 [.ref kq, .int x] (wK E kq cg qf gf af qd gd ad qk gk ak ql gl al qr gr ar rx qm qx gx ax qs sx qo go ao qp gp_ ap L) (ri (fun r ws => (inI x 0 (cg 1 - 1) = 0 ∧ r = -2 ∧ ws = wK E kq cg qf gf af qd gd ad qk gk ak ql gl al qr gr ar rx qm qx gx ax qs sx qo go ao qp gp_ ap L) ∨ (¬ inI x 0 (cg 1 - 1) = 0 ∧ r = gf 4 ∧ ws = wK E kq cg qf (upd gf 4 x) af qd gd ad qk gk ak ql gl al qr gr ar rx qm qx gx ax qs sx qo go ao qp gp_ ap L))) := by
  refine CT.of (M := mX5_force) (ls := [some (.ref kq), some (.int x), none]) (by decide) rfl (by decide) rfl (Nat.le_of_ble_eq_true rfl) ?_
  refine A_iload_n (dX5_force 0 rfl) rfl ?_
  refine A_if_lt 12 (dX5_force 1 rfl) (by decide) (fun h1 => ?_) (fun h1 => ?_)
  · refine A_bipush (-2) (dX5_force 6 rfl) (by decide +kernel) ?_
    refine A_ri (dX5_force 7 rfl) rfl rfl ?_
    refine Or.inl ⟨?_, rfl, rfl⟩
    first
      | exact inI_lo (fun z => absurd z (Int32.not_le.mpr h1))
      | exact inI_hi (fun z => h9 (by rw [hcg] at z ⊢; exact (le_t1 ht).mpr z))
  · refine A_iload_n (dX5_force 2 rfl) rfl ?_
    refine A_aload_n (dX5_force 3 rfl) rfl ?_
    refine A_get (dX5_force 4 rfl) fwX5_46 wK_0 cK_f0_7 ?_
    refine A_icmp_lt 15 (dX5_force 5 rfl) (by decide) (fun h9 => ?_) (fun h9 => ?_)
    · refine A_aload_n (dX5_force 8 rfl) rfl ?_
      refine A_get (dX5_force 9 rfl) fwX5_10 wK_0 cK_f0_0 ?_
      refine A_get (dX5_force 10 rfl) fwX5_152 wK_1 cF_f0_10 ?_
      refine A_istore_n (ls2 := [_, _, _]) (dX5_force 11 rfl) (by decide) rfl rfl ?_
      refine A_aload_n (dX5_force 12 rfl) rfl ?_
      refine A_get (dX5_force 13 rfl) fwX5_10 wK_0 cK_f0_0 ?_
      refine A_iload_n (dX5_force 14 rfl) rfl ?_
      refine A_putO (dX5_force 15 rfl) fwX5_152 fcX1 ftX1_10 wK_1 rfl rfl cF_l0 (wK_p1_10 _) ?_
      refine AW.pcq (pc2 := 31) rfl ?_
      refine A_iload_n (dX5_force 16 rfl) rfl ?_
      refine A_ri (dX5_force 17 rfl) rfl rfl ?_
      exact Or.inr ⟨by rw [inI_of (Int32.not_lt.mp h1) (show x ≤ cg 1 - 1 by rw [hcg] at h9 ⊢; exact (le_t1 ht).mp h9)]; decide, rfl, rfl⟩
    · refine A_bipush (-2) (dX5_force 6 rfl) (by decide +kernel) ?_
      refine A_ri (dX5_force 7 rfl) rfl rfl ?_
      refine Or.inl ⟨?_, rfl, rfl⟩
      first
        | exact inI_lo (fun z => absurd z (Int32.not_le.mpr h1))
        | exact inI_hi (fun z => h9 (by rw [hcg] at z ⊢; exact (le_t1 ht).mpr z))

set_option maxRecDepth 100000 in
set_option maxHeartbeats 400000 in
theorem K_turn (E : ag) (kq : Nat) (cg : Nat → Int32) (qf : Nat → Nat) (gf : Nat → Int32) (af : Nat → Nat → Int32) (qd : Nat → Nat) (gd : Nat → Int32) (ad : Nat → Nat → Int32) (qk : Nat → Nat) (gk : Nat → Int32) (ak : Nat → Nat → Int32) (ql : Nat → Nat) (gl : Nat → Int32) (al : Nat → Nat → Int32) (qr : Nat → Nat) (gr : Nat → Int32) (ar : Nat → Nat → Int32) (rx : Nat) (qm : Nat) (qx : Nat → Nat → Nat) (gx : Nat → Nat → Int32) (ax : Nat → Nat → Nat → Int32) (qs : Nat) (sx : Nat → Option Nat) (qo : Nat → Nat) (go : Nat → Int32) (ao : Nat → Nat → Int32) (qp : Nat → Nat) (gp_ : Nat → Int32) (ap : Nat → Nat → Int32) (L : va_W) (hw : ∀ c, c < 12 → ∃ W, W ≤ 9 ∧ af 1 c = nI W) : CT E yX5_turn cX5_turn 1 mX5_turn.2.2.2.1 3 0 0 [.ref kq] (wK E kq cg qf gf af qd gd ad qk gk ak ql gl al qr gr ar rx qm qx gx ax qs sx qo go ao qp gp_ ap L) (ri (fun r ws => r = sm (cp 12 (fun k => dw (af 1 k)) (af 1)) 12 ∧ ws = wK E kq cg qf gf (va_up (va_up af 0 (rvc 6 (af 0))) 1 (cp 12 (fun k => dw (af 1 k)) (af 1))) qd gd ad qk gk ak ql gl al qr gr ar rx qm qx gx ax qs sx qo go ao qp gp_ ap L)) := by
  refine CT.of (M := mX5_turn) (ls := [some (.ref kq)]) (by decide) rfl (by decide) rfl (Nat.le_of_ble_eq_true rfl) ?_
  refine A_aload_n (dX5_turn 0 rfl) rfl ?_
  refine A_get (dX5_turn 1 rfl) fwX5_10 wK_0 cK_f0_0 ?_
  refine A_callVv 0 (dX5_turn 2 rfl) cbX1_turnStraw cwX5_187 (f_turnStraw E qf gf af hw) rfl rfl wF_0 rfl rfl [1, 2, 3, 4, 5, 6, 7] rfl rfl (Nat.le_of_ble_eq_true rfl) (Nat.le_of_ble_eq_true rfl) (Nat.le_of_ble_eq_true rfl) (Nat.le_of_ble_eq_true rfl) (Nat.le_of_ble_eq_true rfl) (by rintro _ rfl; exact (Nat.le_of_ble_eq_true rfl)) ?_
  rintro w1 rfl
  refine AW.world (ws2 := wK E kq cg qf gf (va_up (va_up af 0 (rvc 6 (af 0))) 1 (cp 12 (fun k => dw (af 1 k)) (af 1))) qd gd ad qk gk ak ql gl al qr gr ar rx qm qx gx ax qs sx qo go ao qp gp_ ap L) mK_f ?_
  refine AW.pcq (pc2 := 7) rfl ?_
  refine A_aload_n (dX5_turn 3 rfl) rfl ?_
  refine A_get (dX5_turn 4 rfl) fwX5_10 wK_0 cK_f0_0 ?_
  refine A_callVi 0 (dX5_turn 5 rfl) cbX1_allWet cwX5_190 (f_allWet E qf gf (va_up (va_up af 0 (rvc 6 (af 0))) 1 (cp 12 (fun k => dw (af 1 k)) (af 1)))) rfl rfl wF_0 rfl rfl [1, 2, 3, 4, 5, 6, 7] rfl rfl (Nat.le_of_ble_eq_true rfl) (Nat.le_of_ble_eq_true rfl) (Nat.le_of_ble_eq_true rfl) (Nat.le_of_ble_eq_true rfl) (Nat.le_of_ble_eq_true rfl) (by rintro _ _ ⟨_, rfl⟩; exact (Nat.le_of_ble_eq_true rfl)) ?_
  rintro r11 w1 ⟨rfl, rfl⟩
  refine AW.world (ws2 := wK E kq cg qf gf (va_up (va_up af 0 (rvc 6 (af 0))) 1 (cp 12 (fun k => dw (af 1 k)) (af 1))) qd gd ad qk gk ak ql gl al qr gr ar rx qm qx gx ax qs sx qo go ao qp gp_ ap L) mK_f ?_
  refine AW.pcq (pc2 := 14) rfl ?_
  refine A_ri (dX5_turn 6 rfl) rfl rfl ?_
  exact ⟨rfl, rfl⟩

set_option maxRecDepth 100000 in
set_option maxHeartbeats 400000 in
theorem K_image (E : ag) (kq : Nat) (cg : Nat → Int32) (qf : Nat → Nat) (gf : Nat → Int32) (af : Nat → Nat → Int32) (qd : Nat → Nat) (gd : Nat → Int32) (ad : Nat → Nat → Int32) (qk : Nat → Nat) (gk : Nat → Int32) (ak : Nat → Nat → Int32) (ql : Nat → Nat) (gl : Nat → Int32) (al : Nat → Nat → Int32) (qr : Nat → Nat) (gr : Nat → Int32) (ar : Nat → Nat → Int32) (rx : Nat) (qm : Nat) (qx : Nat → Nat → Nat) (gx : Nat → Nat → Int32) (ax : Nat → Nat → Nat → Int32) (qs : Nat) (sx : Nat → Option Nat) (qo : Nat → Nat) (go : Nat → Int32) (ao : Nat → Nat → Int32) (qp : Nat → Nat) (gp_ : Nat → Int32) (ap : Nat → Nat → Int32) (L : va_W) : CT E yX5_image cX5_image 1 mX5_image.2.2.2.1 3 0 0 [.ref kq] (wK E kq cg qf gf af qd gd ad qk gk ak ql gl al qr gr ar rx qm qx gx ax qs sx qo go ao qp gp_ ap L) (ri (fun r ws => r = gf 2 ∧ ws = wK E kq (upd cg 0 1) qf gf af qd gd ad qk (upd (upd (upd (upd (upd gk 0 (gf 0)) 1 (gf 1)) 2 (gf 2)) 3 (gf 3)) 4 (gf 4)) (va_up (va_up (va_up (va_up (va_up (va_up ak 0 (va_cpy (af 0) (ak 0) 0 0 12)) 1 (va_cpy (af 1) (ak 1) 0 0 12)) 2 (va_cpy (af 2) (ak 2) 0 0 5)) 3 (va_cpy (af 3) (ak 3) 0 0 5)) 4 (va_cpy (af 4) (ak 4) 0 0 5)) 5 (va_cpy (af 5) (ak 5) 0 0 5)) ql gl al qr gr ar rx qm qx gx ax qs sx qo go ao qp gp_ ap L)) := by
  refine CT.of (M := mX5_image) (ls := [some (.ref kq)]) (by decide) rfl (by decide) rfl (Nat.le_of_ble_eq_true rfl) ?_
  refine A_aload_n (dX5_image 0 rfl) rfl ?_
  refine A_get (dX5_image 1 rfl) fwX5_19 wK_0 cK_f0_2 ?_
  refine A_aload_n (dX5_image 2 rfl) rfl ?_
  refine A_get (dX5_image 3 rfl) fwX5_10 wK_0 cK_f0_0 ?_
  refine A_callVv 1 (dX5_image 4 rfl) cbX1_takeOver cwX5_213 (f_takeOver E qk gk ak qf gf af) rfl rfl wFF_0 rfl rfl [15, 16, 17, 18, 19, 20, 21, 1, 2, 3, 4, 5, 6, 7] rfl rfl (Nat.le_of_ble_eq_true rfl) (Nat.le_of_ble_eq_true rfl) (Nat.le_of_ble_eq_true rfl) (Nat.le_of_ble_eq_true rfl) (Nat.le_of_ble_eq_true rfl) (by rintro _ rfl; exact (Nat.le_of_ble_eq_true rfl)) ?_
  rintro w1 rfl
  refine AW.world (ws2 := wK E kq cg qf gf af qd gd ad qk (upd (upd (upd (upd (upd gk 0 (gf 0)) 1 (gf 1)) 2 (gf 2)) 3 (gf 3)) 4 (gf 4)) (va_up (va_up (va_up (va_up (va_up (va_up ak 0 (va_cpy (af 0) (ak 0) 0 0 12)) 1 (va_cpy (af 1) (ak 1) 0 0 12)) 2 (va_cpy (af 2) (ak 2) 0 0 5)) 3 (va_cpy (af 3) (ak 3) 0 0 5)) 4 (va_cpy (af 4) (ak 4) 0 0 5)) 5 (va_cpy (af 5) (ak 5) 0 0 5)) ql gl al qr gr ar rx qm qx gx ax qs sx qo go ao qp gp_ ap L) mK_kf ?_
  refine AW.pcq (pc2 := 11) rfl ?_
  refine A_aload_n (dX5_image 5 rfl) rfl ?_
  refine A_iconst (1) (dX5_image 6 rfl) (by decide +kernel) ?_
  refine A_put (dX5_image 7 rfl) fwX5_22 fcX5 ftX5_3 wK_0 (by decide) rfl cK_l0 (wK_p0_3 _) ?_
  refine A_aload_n (dX5_image 8 rfl) rfl ?_
  refine A_get (dX5_image 9 rfl) fwX5_10 wK_0 cK_f0_0 ?_
  refine A_get (dX5_image 10 rfl) fwX5_217 wK_1 cF_f0_8 ?_
  refine A_ri (dX5_image 11 rfl) rfl rfl ?_
  exact ⟨rfl, rfl⟩

set_option maxRecDepth 100000 in
set_option maxHeartbeats 400000 in
theorem K_back (E : ag) (kq : Nat) (cg : Nat → Int32) (qf : Nat → Nat) (gf : Nat → Int32) (af : Nat → Nat → Int32) (qd : Nat → Nat) (gd : Nat → Int32) (ad : Nat → Nat → Int32) (qk : Nat → Nat) (gk : Nat → Int32) (ak : Nat → Nat → Int32) (ql : Nat → Nat) (gl : Nat → Int32) (al : Nat → Nat → Int32) (qr : Nat → Nat) (gr : Nat → Int32) (ar : Nat → Nat → Int32) (rx : Nat) (qm : Nat) (qx : Nat → Nat → Nat) (gx : Nat → Nat → Int32) (ax : Nat → Nat → Nat → Int32) (qs : Nat) (sx : Nat → Option Nat) (qo : Nat → Nat) (go : Nat → Int32) (ao : Nat → Nat → Int32) (qp : Nat → Nat) (gp_ : Nat → Int32) (ap : Nat → Nat → Int32) (L : va_W) : CT E yX5_back cX5_back 1 mX5_back.2.2.2.1 3 0 0 [.ref kq] (wK E kq cg qf gf af qd gd ad qk gk ak ql gl al qr gr ar rx qm qx gx ax qs sx qo go ao qp gp_ ap L) (ri (fun r ws => (cg 0 = 0 ∧ r = -3 ∧ ws = wK E kq cg qf gf af qd gd ad qk gk ak ql gl al qr gr ar rx qm qx gx ax qs sx qo go ao qp gp_ ap L) ∨ (¬ cg 0 = 0 ∧ r = gk 2 ∧ ws = wK E kq cg qf (upd (upd (upd (upd (upd gf 0 (gk 0)) 1 (gk 1)) 2 (gk 2)) 3 (gk 3)) 4 (gk 4)) (va_up (va_up (va_up (va_up (va_up (va_up af 0 (va_cpy (ak 0) (af 0) 0 0 12)) 1 (va_cpy (ak 1) (af 1) 0 0 12)) 2 (va_cpy (ak 2) (af 2) 0 0 5)) 3 (va_cpy (ak 3) (af 3) 0 0 5)) 4 (va_cpy (ak 4) (af 4) 0 0 5)) 5 (va_cpy (ak 5) (af 5) 0 0 5)) qd gd ad qk gk ak ql gl al qr gr ar rx qm qx gx ax qs sx qo go ao qp gp_ ap L))) := by
  refine CT.of (M := mX5_back) (ls := [some (.ref kq)]) (by decide) rfl (by decide) rfl (Nat.le_of_ble_eq_true rfl) ?_
  refine A_aload_n (dX5_back 0 rfl) rfl ?_
  refine A_get (dX5_back 1 rfl) fwX5_22 wK_0 cK_f0_3 ?_
  refine A_if_ne 10 (dX5_back 2 rfl) (by decide) (fun h4 => ?_) (fun h4 => ?_)
  · refine A_aload_n (dX5_back 5 rfl) rfl ?_
    refine A_get (dX5_back 6 rfl) fwX5_10 wK_0 cK_f0_0 ?_
    refine A_aload_n (dX5_back 7 rfl) rfl ?_
    refine A_get (dX5_back 8 rfl) fwX5_19 wK_0 cK_f0_2 ?_
    refine A_callVv 1 (dX5_back 9 rfl) cbX1_takeOver cwX5_213 (f_takeOver E qf gf af qk gk ak) rfl rfl wFF_0 rfl rfl [1, 2, 3, 4, 5, 6, 7, 15, 16, 17, 18, 19, 20, 21] rfl rfl (Nat.le_of_ble_eq_true rfl) (Nat.le_of_ble_eq_true rfl) (Nat.le_of_ble_eq_true rfl) (Nat.le_of_ble_eq_true rfl) (Nat.le_of_ble_eq_true rfl) (by rintro _ rfl; exact (Nat.le_of_ble_eq_true rfl)) ?_
    rintro w1 rfl
    refine AW.world (ws2 := wK E kq cg qf (upd (upd (upd (upd (upd gf 0 (gk 0)) 1 (gk 1)) 2 (gk 2)) 3 (gk 3)) 4 (gk 4)) (va_up (va_up (va_up (va_up (va_up (va_up af 0 (va_cpy (ak 0) (af 0) 0 0 12)) 1 (va_cpy (ak 1) (af 1) 0 0 12)) 2 (va_cpy (ak 2) (af 2) 0 0 5)) 3 (va_cpy (ak 3) (af 3) 0 0 5)) 4 (va_cpy (ak 4) (af 4) 0 0 5)) 5 (va_cpy (ak 5) (af 5) 0 0 5)) qd gd ad qk gk ak ql gl al qr gr ar rx qm qx gx ax qs sx qo go ao qp gp_ ap L) mK_fk ?_
    refine AW.pcq (pc2 := 21) rfl ?_
    refine A_aload_n (dX5_back 10 rfl) rfl ?_
    refine A_get (dX5_back 11 rfl) fwX5_10 wK_0 cK_f0_0 ?_
    refine A_get (dX5_back 12 rfl) fwX5_217 wK_1 cF_f0_8 ?_
    refine A_ri (dX5_back 13 rfl) rfl rfl ?_
    exact Or.inr ⟨h4, rfl, rfl⟩
  · refine A_bipush (-3) (dX5_back 3 rfl) (by decide +kernel) ?_
    refine A_ri (dX5_back 4 rfl) rfl rfl ?_
    exact Or.inl ⟨by first | assumption | exact Classical.not_not.mp h4, rfl, rfl⟩

def K_cntR (cg gf gr : Nat → Int32) (t : Int32) : Int32 := if inI t 0 6 = 0 then -2 else if t = 0 then gf 0 else if t = 1 then gf 1 else if t = 2 then gf 2 else if t = 3 then gf 3 else if t = 4 then cg 1 else if t = 5 then gr 0 else gf 4
theorem cnt_out {x : Int32} (h : x.toInt < 0 ∨ 6 < x.toInt) : inI x 0 6 = 0 := by
  rcases h with h | h
  · exact inI_lo (fun z => by have := Int32.le_iff_toInt_le.mp z; have e : (0 : Int32).toInt = 0 := by decide
                              omega)
  · exact inI_hi (fun z => by have := Int32.le_iff_toInt_le.mp z; have e : (6 : Int32).toInt = 6 := by decide
                              omega)
set_option maxRecDepth 100000 in
set_option maxHeartbeats 400000 in
theorem K_count (E : ag) (kq : Nat) (cg : Nat → Int32) (qf : Nat → Nat) (gf : Nat → Int32) (af : Nat → Nat → Int32) (qd : Nat → Nat) (gd : Nat → Int32) (ad : Nat → Nat → Int32) (qk : Nat → Nat) (gk : Nat → Int32) (ak : Nat → Nat → Int32) (ql : Nat → Nat) (gl : Nat → Int32) (al : Nat → Nat → Int32) (qr : Nat → Nat) (gr : Nat → Int32) (ar : Nat → Nat → Int32) (rx : Nat) (qm : Nat) (qx : Nat → Nat → Nat) (gx : Nat → Nat → Int32) (ax : Nat → Nat → Nat → Int32) (qs : Nat) (sx : Nat → Option Nat) (qo : Nat → Nat) (go : Nat → Int32) (ao : Nat → Nat → Int32) (qp : Nat → Nat) (gp_ : Nat → Int32) (ap : Nat → Nat → Int32) (L : va_W) (x : Int32) : CT E yX5_count cX5_count 2 mX5_count.2.2.2.1 1 0 0 [.ref kq, .int x] (wK E kq cg qf gf af qd gd ad qk gk ak ql gl al qr gr ar rx qm qx gx ax qs sx qo go ao qp gp_ ap L) (ri (fun r ws => r = K_cntR cg gf gr x ∧ ws = wK E kq cg qf gf af qd gd ad qk gk ak ql gl al qr gr ar rx qm qx gx ax qs sx qo go ao qp gp_ ap L)) := by
  refine CT.of (M := mX5_count) (ls := [some (.ref kq), some (.int x)]) (by decide) rfl (by decide) rfl (Nat.le_of_ble_eq_true rfl) ?_
  refine A_iload_n (dX5_count 0 rfl) rfl ?_
  by_cases hs1 : (x : Int32).toInt < (0 : Int) ∨ (6 : Int) < (x : Int32).toInt
  · refine A_tableOut 97 (dX5_count 1 rfl) hs1 (by decide) ?_
    refine A_bipush (-2) (dX5_count 29 rfl) (by decide +kernel) ?_
    refine A_ri (dX5_count 30 rfl) rfl rfl ?_
    exact ⟨(if_pos (cnt_out hs1)).symm, rfl⟩
  by_cases hc1_0 : x = (0 : Int32)
  · refine A_tableIn (43) 44 (dX5_count 1 rfl) (by rw [hc1_0]; decide) (by rw [hc1_0]; decide) (by rw [hc1_0]; rfl) (by decide) ?_
    refine A_aload_n (dX5_count 2 rfl) rfl ?_
    refine A_get (dX5_count 3 rfl) fwX5_10 wK_0 cK_f0_0 ?_
    refine A_get (dX5_count 4 rfl) fwX5_91 wK_1 cF_f0_6 ?_
    refine A_ri (dX5_count 5 rfl) rfl rfl ?_
    refine ⟨?_, rfl⟩
    subst hc1_0
    rfl
  by_cases hc1_1 : x = (1 : Int32)
  · refine A_tableIn (51) 52 (dX5_count 1 rfl) (by rw [hc1_1]; decide) (by rw [hc1_1]; decide) (by rw [hc1_1]; rfl) (by decide) ?_
    refine A_aload_n (dX5_count 6 rfl) rfl ?_
    refine A_get (dX5_count 7 rfl) fwX5_10 wK_0 cK_f0_0 ?_
    refine A_get (dX5_count 8 rfl) fwX5_116 wK_1 cF_f0_7 ?_
    refine A_ri (dX5_count 9 rfl) rfl rfl ?_
    refine ⟨?_, rfl⟩
    subst hc1_1
    rfl
  by_cases hc1_2 : x = (2 : Int32)
  · refine A_tableIn (59) 60 (dX5_count 1 rfl) (by rw [hc1_2]; decide) (by rw [hc1_2]; decide) (by rw [hc1_2]; rfl) (by decide) ?_
    refine A_aload_n (dX5_count 10 rfl) rfl ?_
    refine A_get (dX5_count 11 rfl) fwX5_10 wK_0 cK_f0_0 ?_
    refine A_get (dX5_count 12 rfl) fwX5_217 wK_1 cF_f0_8 ?_
    refine A_ri (dX5_count 13 rfl) rfl rfl ?_
    refine ⟨?_, rfl⟩
    subst hc1_2
    rfl
  by_cases hc1_3 : x = (3 : Int32)
  · refine A_tableIn (67) 68 (dX5_count 1 rfl) (by rw [hc1_3]; decide) (by rw [hc1_3]; decide) (by rw [hc1_3]; rfl) (by decide) ?_
    refine A_aload_n (dX5_count 14 rfl) rfl ?_
    refine A_get (dX5_count 15 rfl) fwX5_10 wK_0 cK_f0_0 ?_
    refine A_get (dX5_count 16 rfl) fwX5_155 wK_1 cF_f0_9 ?_
    refine A_ri (dX5_count 17 rfl) rfl rfl ?_
    refine ⟨?_, rfl⟩
    subst hc1_3
    rfl
  by_cases hc1_4 : x = (4 : Int32)
  · refine A_tableIn (75) 76 (dX5_count 1 rfl) (by rw [hc1_4]; decide) (by rw [hc1_4]; decide) (by rw [hc1_4]; rfl) (by decide) ?_
    refine A_aload_n (dX5_count 18 rfl) rfl ?_
    refine A_get (dX5_count 19 rfl) fwX5_46 wK_0 cK_f0_7 ?_
    refine A_ri (dX5_count 20 rfl) rfl rfl ?_
    refine ⟨?_, rfl⟩
    subst hc1_4
    rfl
  by_cases hc1_5 : x = (5 : Int32)
  · refine A_tableIn (80) 81 (dX5_count 1 rfl) (by rw [hc1_5]; decide) (by rw [hc1_5]; decide) (by rw [hc1_5]; rfl) (by decide) ?_
    refine A_aload_n (dX5_count 21 rfl) rfl ?_
    refine A_get (dX5_count 22 rfl) fwX5_36 wK_0 cK_f0_5 ?_
    refine A_get (dX5_count 23 rfl) fwX5_146 wK_25 cR_f0_1 ?_
    refine A_ri (dX5_count 24 rfl) rfl rfl ?_
    refine ⟨?_, rfl⟩
    subst hc1_5
    rfl
  have hc1_6 : x = (6 : Int32) := by
    apply Int32.toInt_inj.mp
    have hq := not_or.mp hs1
    have e0 : (6 : Int32).toInt = 6 := by decide
    have n0 : ¬ (x : Int32).toInt = 0 := fun hh => hc1_0 (Int32.toInt_inj.mp (hh.trans (by decide)))
    have n1 : ¬ (x : Int32).toInt = 1 := fun hh => hc1_1 (Int32.toInt_inj.mp (hh.trans (by decide)))
    have n2 : ¬ (x : Int32).toInt = 2 := fun hh => hc1_2 (Int32.toInt_inj.mp (hh.trans (by decide)))
    have n3 : ¬ (x : Int32).toInt = 3 := fun hh => hc1_3 (Int32.toInt_inj.mp (hh.trans (by decide)))
    have n4 : ¬ (x : Int32).toInt = 4 := fun hh => hc1_4 (Int32.toInt_inj.mp (hh.trans (by decide)))
    have n5 : ¬ (x : Int32).toInt = 5 := fun hh => hc1_5 (Int32.toInt_inj.mp (hh.trans (by decide)))
    omega
  refine A_tableIn (88) 89 (dX5_count 1 rfl) (by rw [hc1_6]; decide) (by rw [hc1_6]; decide) (by rw [hc1_6]; rfl) (by decide) ?_
  refine A_aload_n (dX5_count 25 rfl) rfl ?_
  refine A_get (dX5_count 26 rfl) fwX5_10 wK_0 cK_f0_0 ?_
  refine A_get (dX5_count 27 rfl) fwX5_152 wK_1 cF_f0_10 ?_
  refine A_ri (dX5_count 28 rfl) rfl rfl ?_
  refine ⟨?_, rfl⟩
  rw [hc1_6]
  rfl

theorem k_under {E : ag} {ws : va_W} {x k : Int32} (h : x = 0 ∨ x = 1 ∨ x = 2 ∨ x = 3 ∨ x = 4 ∨ x = 5) : CT E yX5_isUnder cX5_isUnder 4 mX5_isUnder.2.2.2.1 1 0 0 [.int x, .int k] ws (ri (fun r w => ((und x k ∧ r = 1) ∨ (¬ und x k ∧ r = 0)) ∧ w = ws)) := by
  rcases h with rfl | rfl | rfl | rfl | rfl | rfl
  · exact k_under0 E ws k
  · exact k_under1 E ws k
  · exact k_under2 E ws k
  · exact k_under3 E ws k
  · exact k_under4 E ws k
  · exact k_under5 E ws k
set_option maxRecDepth 100000 in
set_option maxHeartbeats 400000 in
theorem K_taken (E : ag) (kq : Nat) (cg : Nat → Int32) (qf : Nat → Nat) (gf : Nat → Int32) (af : Nat → Nat → Int32) (qd : Nat → Nat) (gd : Nat → Int32) (ad : Nat → Nat → Int32) (qk : Nat → Nat) (gk : Nat → Int32) (ak : Nat → Nat → Int32) (ql : Nat → Nat) (gl : Nat → Int32) (al : Nat → Nat → Int32) (qr : Nat → Nat) (gr : Nat → Int32) (ar : Nat → Nat → Int32) (rx : Nat) (qm : Nat) (qx : Nat → Nat → Nat) (gx : Nat → Nat → Int32) (ax : Nat → Nat → Nat → Int32) (qs : Nat) (sx : Nat → Option Nat) (qo : Nat → Nat) (go : Nat → Int32) (ao : Nat → Nat → Int32) (qp : Nat → Nat) (gp_ : Nat → Int32) (ap : Nat → Nat → Int32) (L : va_W) (m : Nat) (hm5 : m ≤ 5) (hgm : gf 0 = nI m) (hM : ∀ i, i < m → MOK (af 2 i) (af 4 i) (af 5 i)) (i k : Int32) : CT E yX5_taken cX5_taken 3 mX5_taken.2.2.2.1 2 0 0 [.ref kq, .int i, .int k] (wK E kq cg qf gf af qd gd ad qk gk ak ql gl al qr gr ar rx qm qx gx ax qs sx qo go ao qp gp_ ap L) (ri (fun r ws => ((inI k 0 5 = 0 ∧ r = -2) ∨ (¬ inI k 0 5 = 0 ∧ inI i 0 (gf 0 - 1) = 0 ∧ r = -11) ∨ (¬ inI k 0 5 = 0 ∧ ¬ inI i 0 (gf 0 - 1) = 0 ∧ ((und (af 2 i.toNatClampNeg) k ∧ r = af 4 i.toNatClampNeg) ∨ (¬ und (af 2 i.toNatClampNeg) k ∧ r = -13)))) ∧ ws = wK E kq cg qf gf af qd gd ad qk gk ak ql gl al qr gr ar rx qm qx gx ax qs sx qo go ao qp gp_ ap L)) := by
  refine CT.of (M := mX5_taken) (ls := [some (.ref kq), some (.int i), some (.int k)]) (by decide) rfl (by decide) rfl (Nat.le_of_ble_eq_true rfl) ?_
  refine A_iload_n (dX5_taken 0 rfl) rfl ?_
  refine A_if_lt 9 (dX5_taken 1 rfl) (by decide) (fun h1 => ?_) (fun h1 => ?_)
  · refine A_bipush (-2) (dX5_taken 5 rfl) (by decide +kernel) ?_
    refine A_ri (dX5_taken 6 rfl) rfl rfl ?_
    exact ⟨Or.inl ⟨by first | exact inI_lo (fun z => absurd z (Int32.not_le.mpr h1)) | exact inI_hi h6, rfl⟩, rfl⟩
  · refine A_iload_n (dX5_taken 2 rfl) rfl ?_
    refine A_iconst (5) (dX5_taken 3 rfl) (by decide +kernel) ?_
    refine A_icmp_le 12 (dX5_taken 4 rfl) (by decide) (fun h6 => ?_) (fun h6 => ?_)
    · have hk5 : ¬ inI k 0 5 = 0 := by rw [inI_of (Int32.not_lt.mp h1) h6]; decide
      refine A_aload_n (dX5_taken 7 rfl) rfl ?_
      refine A_iload_n (dX5_taken 8 rfl) rfl ?_
      refine A_callVWi 1 (dX5_taken 9 rfl) cbX5_isMan cwX5_110 (K_isMan E kq cg qf gf af qd gd ad qk gk ak ql gl al qr gr ar rx qm qx gx ax qs sx qo go ao qp gp_ ap L i m hm5 hgm) rfl rfl wK_0 rfl rfl (Nat.le_of_ble_eq_true rfl) (Nat.le_of_ble_eq_true rfl) (Nat.le_of_ble_eq_true rfl) (Nat.le_of_ble_eq_true rfl) (Nat.le_of_ble_eq_true rfl) ?_
      rintro r14 w1 ⟨rfl, rfl⟩
      refine AW.pcq (pc2 := 17) rfl ?_
      refine A_if_ne 23 (dX5_taken 10 rfl) (by decide) (fun h17 => ?_) (fun h17 => ?_)
      · obtain ⟨i0, hi0, hie⟩ := man_nI hm5 (hgm ▸ h17)
        have hvp : vp_in i 5 := by rw [hie]; exact vp_in_nI (by omega) (by decide)
        have hkk : af 2 i.toNatClampNeg = 0 ∨ af 2 i.toNatClampNeg = 1 ∨ af 2 i.toNatClampNeg = 2 ∨ af 2 i.toNatClampNeg = 3 ∨ af 2 i.toNatClampNeg = 4 ∨ af 2 i.toNatClampNeg = 5 := by
          rw [hie, nI_clamp (n := i0) (by omega)]
          obtain ⟨⟨KK, hK1, hK2⟩, -, -⟩ := hM i0 hi0
          rw [hK2]
          exact k_cases hK1
        refine A_aload_n (dX5_taken 13 rfl) rfl ?_
        refine A_get (dX5_taken 14 rfl) fwX5_10 wK_0 cK_f0_0 ?_
        refine A_get (dX5_taken 15 rfl) fwX5_133 wK_1 cF_f0_2 ?_
        refine A_iload_n (dX5_taken 16 rfl) rfl ?_
        refine A_iald (dX5_taken 17 rfl) wK_4 hvp ?_
        refine A_iload_n (dX5_taken 18 rfl) rfl ?_
        refine A_callSWi 2 (dX5_taken 19 rfl) cbX5_isUnder cwX5_241 (k_under hkk) rfl rfl (Nat.le_of_ble_eq_true rfl) (Nat.le_of_ble_eq_true rfl) (Nat.le_of_ble_eq_true rfl) (Nat.le_of_ble_eq_true rfl) (Nat.le_of_ble_eq_true rfl) ?_
        rintro r33 w1 ⟨hu, rfl⟩
        refine AW.pcq (pc2 := 36) rfl ?_
        refine A_if_eq 51 (dX5_taken 20 rfl) (by decide) (fun h36 => ?_) (fun h36 => ?_)
        · have hu2 := hu.resolve_left (fun z => absurd (z.2.symm.trans h36) (by decide))
          refine A_bipush (-13) (dX5_taken 27 rfl) (by decide +kernel) ?_
          refine A_ri (dX5_taken 28 rfl) rfl rfl ?_
          first
            | exact ⟨Or.inr (Or.inr ⟨hk5, h17, Or.inl ⟨hu2.1, rfl⟩⟩), rfl⟩
            | exact ⟨Or.inr (Or.inr ⟨hk5, h17, Or.inr ⟨hu2.1, rfl⟩⟩), rfl⟩
        · have hu2 := hu.resolve_right (fun z => h36 z.2)
          refine A_aload_n (dX5_taken 21 rfl) rfl ?_
          refine A_get (dX5_taken 22 rfl) fwX5_10 wK_0 cK_f0_0 ?_
          refine A_get (dX5_taken 23 rfl) fwX5_123 wK_1 cF_f0_4 ?_
          refine A_iload_n (dX5_taken 24 rfl) rfl ?_
          refine A_iald (dX5_taken 25 rfl) wK_6 hvp ?_
          refine A_goto 53 (dX5_taken 26 rfl) (by decide) ?_
          refine A_ri (dX5_taken 28 rfl) rfl rfl ?_
          first
            | exact ⟨Or.inr (Or.inr ⟨hk5, h17, Or.inl ⟨hu2.1, rfl⟩⟩), rfl⟩
            | exact ⟨Or.inr (Or.inr ⟨hk5, h17, Or.inr ⟨hu2.1, rfl⟩⟩), rfl⟩
      · refine A_bipush (-11) (dX5_taken 11 rfl) (by decide +kernel) ?_
        refine A_ri (dX5_taken 12 rfl) rfl rfl ?_
        exact ⟨Or.inr (Or.inl ⟨hk5, by first | assumption | exact Classical.not_not.mp h17, rfl⟩), rfl⟩
    · refine A_bipush (-2) (dX5_taken 5 rfl) (by decide +kernel) ?_
      refine A_ri (dX5_taken 6 rfl) rfl rfl ?_
      exact ⟨Or.inl ⟨by first | exact inI_lo (fun z => absurd z (Int32.not_le.mpr h1)) | exact inI_hi h6, rfl⟩, rfl⟩

