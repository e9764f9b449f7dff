theorem dv_men {m : Nat} (h0 : 0 < m) (h : m ≤ 5) : ¬ nI m = 0 := nI_ne0 h0 (by omega)
theorem cell_c {r m i : Nat} (hr : r ≤ 999) (hm : m ≤ 5) (hi : i < 5) : nI r * nI m + nI i - (nI r * nI m + nI i) / 12 * 12 = nI ((r * m + i) % 12) := by
  have h1 : r * m ≤ 999 * 5 := Nat.mul_le_mul hr hm
  rw [pk_mul, nI_add]
  exact pk_rem (a := r * m + i) (d := 12) (by omega) (by decide) (by decide)
theorem mo_eq {x b : Int32} : (if ¬ 0 ≤ x - x / b * b then x - x / b * b + b else x - x / b * b) = mo x b := by
  unfold mo
  by_cases h : x - x / b * b < 0
  · rw [if_pos h, if_pos (fun z => absurd h (nlt_ge z))]
  · rw [if_neg h, if_neg (fun z => z (Int32.not_lt.mp h))]
theorem rfs0 {g : Nat → Int32} {a : Nat → Nat → Int32} : (rfs g a).1 0 = g 13 := rfl
section
variable {g g2 : Nat → Int32} {a : Nat → Nat → Int32} {C : Nat → List Int32} {i c : Nat} {gp lt v : Int32}
theorem rf_beat (hk : ∀ k, ¬ (17 ≤ k ∧ k ≤ 34) → g2 k = g k) (e1 : g2 33 = pev C 1 (p_env (rfs g a) i c gp)) : mo (a 7 i - p_mnd (a 6 i) (a 9 i) (gp - g2 14 / g2 13) + wiI (g2 33) (-99) 99 + lt) (g2 14) = p_beat C (rfs g a) i c gp lt := by
  rw [hk 14 (by decide), hk 13 (by decide), e1]
  rfl
theorem rf_kn (hk : ∀ k, ¬ (17 ≤ k ∧ k ≤ 34) → g2 k = g k) (hgp : p_gp (rfs g a) i = gp) (hc : p_cell (rfs g a) i = c) (hkn : gp < 8) (e1 : g2 33 = pev C 1 (p_env (rfs g a) i c gp)) (e2 : g2 34 = pev C 2 (p_env (rfs g a) i c gp)) (hv : v = if g2 34 = 0 then 0 else 1) :
    rfs (upd (upd g2 35 (g2 35 + 1)) 36 (g2 36 ||| (v <<< (nI i &&& 31)))) (va_up a 7 (upd (a 7) i (mo (a 7 i - p_mnd (a 6 i) (a 9 i) (gp - g2 14 / g2 13) + wiI (g2 33) (-99) 99 + lt) (g2 14)))) = p_turn C lt i (rfs g a) := by
  have hb := rf_beat (lt := lt) hk e1
  rw [hb]
  unfold p_turn
  rw [hgp, hc, if_pos hkn]
  refine rfs_eq (hk 13 (by decide)) (hk 14 (by decide)) (hk 15 (by decide)) (hk 16 (by decide)) ?_ ?_ (fun k hk2 => ?_) rfl rfl rfl rfl rfl rfl (fun k hk2 => ?_)
  · show g2 35 + 1 = g 35 + 1
    rw [hk 35 (by decide)]
  · show g2 36 ||| _ = p_hit C (rfs g a) i c gp
    rw [hk 36 (by decide), hv, e2]
    rfl
  · simp only [upd]
    rw [if_neg (by omega), if_neg (by omega)]
    exact rfs_z hk2
  · simp only [va_up]
    rw [if_neg (by omega)]
    exact rfs_az hk2
theorem rf_st (hk : ∀ k, ¬ (17 ≤ k ∧ k ≤ 34) → g2 k = g k) (hgp : p_gp (rfs g a) i = gp) (hc : p_cell (rfs g a) i = c) (hkn : ¬ gp < 8) (e0 : g2 32 = pev C 0 (p_env (rfs g a) i c gp)) (e1 : g2 33 = pev C 1 (p_env (rfs g a) i c gp)) :
    rfs (upd g2 16 (g2 16 + a 4 c * wiI (g2 32) 0 1000 / 1000)) (va_up (va_up a 4 (upd (a 4) c (a 4 c - a 4 c * wiI (g2 32) 0 1000 / 1000))) 7 (upd (a 7) i (mo (a 7 i - p_mnd (a 6 i) (a 9 i) (gp - g2 14 / g2 13) + wiI (g2 33) (-99) 99 + lt) (g2 14)))) = p_turn C lt i (rfs g a) := by
  have hb := rf_beat (lt := lt) hk e1
  rw [hb]
  have hgot : a 4 c * wiI (g2 32) 0 1000 / 1000 = p_got C (rfs g a) i c gp := by rw [e0]; rfl
  rw [hgot]
  unfold p_turn
  rw [hgp, hc, if_neg hkn]
  refine rfs_eq (hk 13 (by decide)) (hk 14 (by decide)) (hk 15 (by decide)) ?_ (hk 35 (by decide)) (hk 36 (by decide)) (fun k hk2 => ?_) rfl rfl rfl rfl rfl rfl (fun k hk2 => ?_)
  · show g2 16 + _ = g 16 + _
    rw [hk 16 (by decide)]
  · simp only [upd]
    rw [if_neg (by omega)]
    exact rfs_z hk2
  · simp only [va_up]
    rw [if_neg (by omega), if_neg (by omega)]
    exact rfs_az hk2
theorem ro_kn (hk : ∀ k, ¬ (17 ≤ k ∧ k ≤ 34) → g2 k = g k) {x y : Int32} {f : Nat → Int32} : RO g a (upd (upd g2 35 x) 36 y) (va_up a 7 f) := by
  refine ⟨fun k hk2 => ?_, fun j h4 h7 => ?_⟩
  · simp only [upd]
    rw [if_neg (by omega), if_neg (by omega)]
    exact hk k (by omega)
  · simp only [va_up]
    rw [if_neg h7]
theorem ro_st (hk : ∀ k, ¬ (17 ≤ k ∧ k ≤ 34) → g2 k = g k) {x : Int32} {f h : Nat → Int32} : RO g a (upd g2 16 x) (va_up (va_up a 4 f) 7 h) := by
  refine ⟨fun k hk2 => ?_, fun j h4 h7 => ?_⟩
  · simp only [upd]
    rw [if_neg (by omega)]
    exact hk k (by omega)
  · simp only [va_up]
    rw [if_neg h7, if_neg h4]
end
set_option maxRecDepth 100000 in
set_option maxHeartbeats 400000 in
theorem m_strT (E : ag) (q : Nat → Nat) (g3 : Nat → Int32) (tw : Int64) (a3 : Nat → Nat → Int32) (m i : Nat) (gp lt : Int32) (x4 x5 : Option Value) (hx : noL [x4, x5] = true) (hm : m ≤ 5) (hi : i < m) (h13 : g3 13 = nI m) (hb : ¬ g3 14 = 0) : AW E mX6_strikesOnce 45 0 0 120 [some (.ref (q 0)), some (.int (nI i)), some (.int lt), some (.int gp), x4, x5] [] (MW E q g3 tw a3) (rv (fun w => w = MW E q g3 tw (va_up a3 7 (upd (a3 7) i (mo (a3 7 i - p_mnd (a3 6 i) (a3 9 i) (gp - g3 14 / g3 13) + wiI (g3 33) (-99) 99 + lt) (g3 14)))))) := by
  refine A_aload_n (dX6_strikesOnce 69 rfl) rfl ?_
  refine A_get (dX6_strikesOnce 70 rfl) fwX6_32 MW_0 MF_10 ?_
  refine A_iload_n (dX6_strikesOnce 71 rfl) rfl ?_
  refine A_iald (dX6_strikesOnce 72 rfl) MW_7 (vp_in_nI (n := i) (by omega) (by decide)) ?_
  rw [nI_clamp (n := i) (by omega)]
  refine A_aload_n (dX6_strikesOnce 73 rfl) rfl ?_
  refine A_iload_n (dX6_strikesOnce 74 rfl) rfl ?_
  refine A_iload_n (dX6_strikesOnce 75 rfl) rfl ?_
  refine A_aload_n (dX6_strikesOnce 76 rfl) rfl ?_
  refine AW.pcq (pc2 := 130) rfl ?_
  refine A_get (dX6_strikesOnce 77 rfl) fwX6_41 MW_0 MF_14 ?_
  refine A_aload_n (dX6_strikesOnce 78 rfl) rfl ?_
  refine A_get (dX6_strikesOnce 79 rfl) fwX6_100 MW_0 MF_13 ?_
  refine A_idiv (dX6_strikesOnce 80 rfl) (by rw [h13]; exact dv_men (by omega) hm) ?_
  refine A_isub (dX6_strikesOnce 81 rfl) ?_
  refine A_callVWi 2 (dX6_strikesOnce 82 rfl) cbX6_mended cwX6_156 (m_mended E q g3 tw a3 (nI i) _ (vp_in_nI (n := i) (by omega) (by decide))) rfl rfl MW_0 rfl rfl (Nat.le_of_ble_eq_true rfl) (Nat.le_of_ble_eq_true rfl) (Nat.le_of_ble_eq_true rfl) (Nat.le_of_ble_eq_true rfl) (Nat.le_of_ble_eq_true rfl) ?_
  rintro r139 w1 ⟨rfl, rfl⟩
  simp only [nI_clamp (n := i) (by omega)]
  refine AW.pcq (pc2 := 142) rfl ?_
  refine A_isub (dX6_strikesOnce 83 rfl) ?_
  refine A_aload_n (dX6_strikesOnce 84 rfl) rfl ?_
  refine A_get (dX6_strikesOnce 85 rfl) fwX6_279 MW_0 MF_33 ?_
  refine A_bipush (-99) (dX6_strikesOnce 86 rfl) (by decide +kernel) ?_
  refine A_bipush (99) (dX6_strikesOnce 87 rfl) (by decide +kernel) ?_
  refine A_callSWi 3 (dX6_strikesOnce 88 rfl) cbX6_within cwX6_301 (m_within E _ (g3 33) (-99) 99) rfl rfl (Nat.le_of_ble_eq_true rfl) (Nat.le_of_ble_eq_true rfl) (Nat.le_of_ble_eq_true rfl) (Nat.le_of_ble_eq_true rfl) (Nat.le_of_ble_eq_true rfl) ?_
  rintro r151 w1 ⟨rfl, rfl⟩
  refine AW.pcq (pc2 := 154) rfl ?_
  refine A_iadd (dX6_strikesOnce 89 rfl) ?_
  refine A_iload_n (dX6_strikesOnce 90 rfl) rfl ?_
  refine A_iadd (dX6_strikesOnce 91 rfl) ?_
  refine A_aload_n (dX6_strikesOnce 92 rfl) rfl ?_
  refine A_get (dX6_strikesOnce 93 rfl) fwX6_41 MW_0 MF_14 ?_
  refine A_irem (dX6_strikesOnce 94 rfl) hb ?_
  refine A_istore (ls2 := [_, _, _, _, _, _]) (dX6_strikesOnce 95 rfl) (by decide) (by have := hx; simp_all [noL, Value.category]) rfl ?_
  refine A_aload_n (dX6_strikesOnce 96 rfl) rfl ?_
  refine AW.pcq (pc2 := 165) rfl ?_
  refine A_get (dX6_strikesOnce 97 rfl) fwX6_32 MW_0 MF_10 ?_
  refine A_iload_n (dX6_strikesOnce 98 rfl) rfl ?_
  refine A_iload (dX6_strikesOnce 99 rfl) rfl ?_
  refine A_if_ge 184 (dX6_strikesOnce 100 rfl) (by decide) (fun h171 => ?_) (fun h171 => ?_)
  · refine A_iload (dX6_strikesOnce 106 rfl) rfl ?_
    refine A_iast (dX6_strikesOnce 107 rfl) MW_7 (vp_in_nI (n := i) (by omega) (by decide)) (MS_7 _) ?_
    refine A_rv (dX6_strikesOnce 108 rfl) rfl ?_
    rw [nI_clamp (n := i) (by omega)]
    first
      | (have hx : ¬ 0 ≤ a3 7 i - p_mnd (a3 6 i) (a3 9 i) (gp - g3 14 / g3 13) + wiI (g3 33) (-99) 99 + lt - (a3 7 i - p_mnd (a3 6 i) (a3 9 i) (gp - g3 14 / g3 13) + wiI (g3 33) (-99) 99 + lt) / g3 14 * g3 14 := h171
         rw [← mo_eq, if_pos hx])
      | rw [← mo_eq, if_neg (fun z => z h171)]
  · refine A_iload (dX6_strikesOnce 101 rfl) rfl ?_
    refine A_aload_n (dX6_strikesOnce 102 rfl) rfl ?_
    refine A_get (dX6_strikesOnce 103 rfl) fwX6_41 MW_0 MF_14 ?_
    refine A_iadd (dX6_strikesOnce 104 rfl) ?_
    refine A_goto 186 (dX6_strikesOnce 105 rfl) (by decide) ?_
    refine A_iast (dX6_strikesOnce 107 rfl) MW_7 (vp_in_nI (n := i) (by omega) (by decide)) (MS_7 _) ?_
    refine A_rv (dX6_strikesOnce 108 rfl) rfl ?_
    rw [nI_clamp (n := i) (by omega)]
    first
      | (have hx : ¬ 0 ≤ a3 7 i - p_mnd (a3 6 i) (a3 9 i) (gp - g3 14 / g3 13) + wiI (g3 33) (-99) 99 + lt - (a3 7 i - p_mnd (a3 6 i) (a3 9 i) (gp - g3 14 / g3 13) + wiI (g3 33) (-99) 99 + lt) / g3 14 * g3 14 := h171
         rw [← mo_eq, if_pos hx])
      | rw [← mo_eq, if_neg (fun z => z h171)]
set_option maxRecDepth 100000 in
set_option maxHeartbeats 1000000 in
theorem m_strikesOnce (E : ag) (q : Nat → Nat) (g : Nat → Int32) (tw : Int64) (a : Nat → Nat → Int32) (t m r i : Nat) (lt : Int32) (C : Nat → List Int32) (hg4 : g 4 = nI t) (hK : TOK (a 1) (a 2) t C) (hm : m ≤ 5) (hgm : g 13 = nI m) (hr : r ≤ 999) (hgr : g 15 = nI r) (hb : ¬ g 14 = 0) (hi : i < m) : CT E yX6_strikesOnce cX6_strikesOnce 6 mX6_strikesOnce.2.2.2.1 45 0 0 [.ref (q 0), .int (nI i), .int lt] (MW E q g tw a) (rv (RW E q g a (p_turn C lt i (rfs g a)))) := by
  refine CT.of (M := mX6_strikesOnce) (ls := [some (.ref (q 0)), some (.int (nI i)), some (.int lt), none, none, none]) (by decide) rfl (by decide) rfl (Nat.le_of_ble_eq_true rfl) ?_
  refine A_aload_n (dX6_strikesOnce 0 rfl) rfl ?_
  refine A_iload_n (dX6_strikesOnce 1 rfl) rfl ?_
  refine A_callVWi 1 (dX6_strikesOnce 2 rfl) cbX6_gapOf cwX6_151 (m_gapOf E q g tw a (nI i) (vp_in_nI (n := i) (by omega) (by decide)) (by rw [hgm]; exact ix_ahead m hm (by omega)) (ix_pred i (by omega)) hb) rfl rfl MW_0 rfl rfl (Nat.le_of_ble_eq_true rfl) (Nat.le_of_ble_eq_true rfl) (Nat.le_of_ble_eq_true rfl) (Nat.le_of_ble_eq_true rfl) (Nat.le_of_ble_eq_true rfl) ?_
  rintro r2 w1 ⟨rfl, rfl⟩
  generalize hgp : (p_gap (g 13) (g 14) (a 7) (nI i)) = gp
  refine AW.pcq (pc2 := 5) rfl ?_
  refine A_istore_n (ls2 := [_, _, _, _, _, _]) (dX6_strikesOnce 3 rfl) (by decide) rfl rfl ?_
  refine A_aload_n (dX6_strikesOnce 4 rfl) rfl ?_
  refine A_get (dX6_strikesOnce 5 rfl) fwX6_142 MW_0 MF_15 ?_
  refine A_aload_n (dX6_strikesOnce 6 rfl) rfl ?_
  refine A_get (dX6_strikesOnce 7 rfl) fwX6_100 MW_0 MF_13 ?_
  refine A_imul (dX6_strikesOnce 8 rfl) ?_
  refine A_iload_n (dX6_strikesOnce 9 rfl) rfl ?_
  refine A_iadd (dX6_strikesOnce 10 rfl) ?_
  refine AW.pcq (pc2 := 17) rfl ?_
  refine A_bipush (12) (dX6_strikesOnce 11 rfl) (by decide +kernel) ?_
  refine A_irem (dX6_strikesOnce 12 rfl) (by decide) ?_
  rw [hgr, hgm, cell_c hr hm (by omega)]
  refine A_istore (ls2 := [_, _, _, _, _, _]) (dX6_strikesOnce 13 rfl) (by decide) rfl rfl ?_
  refine A_aload_n (dX6_strikesOnce 14 rfl) rfl ?_
  refine A_iload_n (dX6_strikesOnce 15 rfl) rfl ?_
  refine A_iload (dX6_strikesOnce 16 rfl) rfl ?_
  refine A_iload_n (dX6_strikesOnce 17 rfl) rfl ?_
  refine A_callVWv 3 (dX6_strikesOnce 18 rfl) cbX6_says cwX6_291 (m_says E q g tw a t i ((r * m + i) % 12) gp C hg4 hK (by omega) (Nat.mod_lt _ (by decide))) rfl rfl MW_0 rfl rfl (Nat.le_of_ble_eq_true rfl) (Nat.le_of_ble_eq_true rfl) (Nat.le_of_ble_eq_true rfl) (Nat.le_of_ble_eq_true rfl) (Nat.le_of_ble_eq_true rfl) ?_
  rintro w1 ⟨g2, tw2, rfl, hk, e0, e1, e2⟩
  have hcell : p_cell (rfs g a) i = ((r * m + i) % 12) := by
    show ((g 15).toNatClampNeg * (g 13).toNatClampNeg + i) % 12 = _
    rw [hgr, hgm, nI_clamp (by omega), nI_clamp (by omega)]
  have hgpe : p_gp (rfs g a) i = gp := hgp
  clear hgp
  have e0' : g2 32 = pev C 0 (p_env (rfs g a) i ((r * m + i) % 12) gp) := e0
  have e1' : g2 33 = pev C 1 (p_env (rfs g a) i ((r * m + i) % 12) gp) := e1
  have e2' : g2 34 = pev C 2 (p_env (rfs g a) i ((r * m + i) % 12) gp) := e2
  clear e0 e1 e2
  refine AW.pcq (pc2 := 30) rfl ?_
  refine A_iload_n (dX6_strikesOnce 19 rfl) rfl ?_
  refine A_bipush (8) (dX6_strikesOnce 20 rfl) (by decide +kernel) ?_
  refine A_icmp_ge 72 (dX6_strikesOnce 21 rfl) (by decide) (fun h33 => ?_) (fun h33 => ?_)
  · have hkn : ¬ gp < 8 := Int32.not_lt.mpr h33
    refine A_aload_n (dX6_strikesOnce 42 rfl) rfl ?_
    refine A_get (dX6_strikesOnce 43 rfl) fwX6_23 MW_0 MF_7 ?_
    refine A_iload (dX6_strikesOnce 44 rfl) rfl ?_
    refine A_iald (dX6_strikesOnce 45 rfl) MW_4 (vp_in_nI (n := ((r * m + i) % 12)) (Nat.mod_lt _ (by decide)) (by decide)) ?_
    rw [nI_clamp (n := ((r * m + i) % 12)) (by omega)]
    refine A_aload_n (dX6_strikesOnce 46 rfl) rfl ?_
    refine A_get (dX6_strikesOnce 47 rfl) fwX6_276 MW_0 MF_32 ?_
    refine A_iconst (0) (dX6_strikesOnce 48 rfl) (by decide +kernel) ?_
    refine A_sipush (1000) (dX6_strikesOnce 49 rfl) (by decide +kernel) ?_
    refine AW.pcq (pc2 := 87) rfl ?_
    refine A_callSWi 3 (dX6_strikesOnce 50 rfl) cbX6_within cwX6_301 (m_within E _ (g2 32) 0 1000) rfl rfl (Nat.le_of_ble_eq_true rfl) (Nat.le_of_ble_eq_true rfl) (Nat.le_of_ble_eq_true rfl) (Nat.le_of_ble_eq_true rfl) (Nat.le_of_ble_eq_true rfl) ?_
    rintro r87 w1 ⟨rfl, rfl⟩
    refine AW.pcq (pc2 := 90) rfl ?_
    refine A_imul (dX6_strikesOnce 51 rfl) ?_
    refine A_sipush (1000) (dX6_strikesOnce 52 rfl) (by decide +kernel) ?_
    refine A_idiv (dX6_strikesOnce 53 rfl) (by decide) ?_
    refine A_istore (ls2 := [_, _, _, _, _, _]) (dX6_strikesOnce 54 rfl) (by decide) rfl rfl ?_
    refine A_aload_n (dX6_strikesOnce 55 rfl) rfl ?_
    refine A_get (dX6_strikesOnce 56 rfl) fwX6_23 MW_0 MF_7 ?_
    refine A_iload (dX6_strikesOnce 57 rfl) rfl ?_
    refine A_dup2 (dX6_strikesOnce 58 rfl) rfl rfl ?_
    refine AW.pcq (pc2 := 104) rfl ?_
    refine A_iald (dX6_strikesOnce 59 rfl) MW_4 (vp_in_nI (n := ((r * m + i) % 12)) (Nat.mod_lt _ (by decide)) (by decide)) ?_
    rw [nI_clamp (n := ((r * m + i) % 12)) (by omega)]
    refine A_iload (dX6_strikesOnce 60 rfl) rfl ?_
    refine A_isub (dX6_strikesOnce 61 rfl) ?_
    refine A_iast (dX6_strikesOnce 62 rfl) MW_4 (vp_in_nI (n := ((r * m + i) % 12)) (Nat.mod_lt _ (by decide)) (by decide)) (MS_4 _) ?_
    rw [nI_clamp (n := ((r * m + i) % 12)) (by omega)]
    refine A_aload_n (dX6_strikesOnce 63 rfl) rfl ?_
    refine A_dup (dX6_strikesOnce 64 rfl) rfl ?_
    refine A_get (dX6_strikesOnce 65 rfl) fwX6_305 MW_0 MF_16 ?_
    refine A_iload (dX6_strikesOnce 66 rfl) rfl ?_
    refine AW.pcq (pc2 := 116) rfl ?_
    refine A_iadd (dX6_strikesOnce 67 rfl) ?_
    refine A_put (dX6_strikesOnce 68 rfl) fwX6_305 fcX6 ftX6_16 MW_0 rfl rfl ML_0 (MP_16 _) ?_
    refine AW.mono (m_strT E q (upd g2 16 (g2 16 + a 4 ((r * m + i) % 12) * wiI (g2 32) 0 1000 / 1000)) tw2 (va_up a 4 (upd (a 4) ((r * m + i) % 12) (a 4 ((r * m + i) % 12) - a 4 ((r * m + i) % 12) * wiI (g2 32) 0 1000 / 1000))) m i gp lt _ _ (by rfl) hm hi ((hk 13 (by decide)).trans hgm) (by show ¬ g2 14 = 0; rw [hk 14 (by decide)]; exact hb)) (fun v w hz => ?_)
    obtain ⟨h91, rfl⟩ := hz
    exact ⟨h91, _, tw2, _, rfl, rf_st hk hgpe hcell hkn e0' e1', ro_st hk⟩
  · have hkn : gp < 8 := Int32.not_le.mp h33
    refine A_aload_n (dX6_strikesOnce 22 rfl) rfl ?_
    refine A_dup (dX6_strikesOnce 23 rfl) rfl ?_
    refine A_get (dX6_strikesOnce 24 rfl) fwX6_295 MW_0 MF_35 ?_
    refine A_iconst (1) (dX6_strikesOnce 25 rfl) (by decide +kernel) ?_
    refine A_iadd (dX6_strikesOnce 26 rfl) ?_
    refine A_put (dX6_strikesOnce 27 rfl) fwX6_295 fcX6 ftX6_35 MW_0 rfl rfl ML_0 (MP_35 _) ?_
    refine A_aload_n (dX6_strikesOnce 28 rfl) rfl ?_
    refine A_dup (dX6_strikesOnce 29 rfl) rfl ?_
    refine AW.pcq (pc2 := 48) rfl ?_
    refine A_get (dX6_strikesOnce 30 rfl) fwX6_298 MW_0 MF_36 ?_
    refine A_aload_n (dX6_strikesOnce 31 rfl) rfl ?_
    refine A_get (dX6_strikesOnce 32 rfl) fwX6_282 MW_0 MF_34 ?_
    refine A_if_ne 62 (dX6_strikesOnce 33 rfl) (by decide) (fun h55 => ?_) (fun h55 => ?_)
    · refine A_iconst (1) (dX6_strikesOnce 36 rfl) (by decide +kernel) ?_
      refine A_iload_n (dX6_strikesOnce 37 rfl) rfl ?_
      refine A_ishl (dX6_strikesOnce 38 rfl) ?_
      refine A_ior (dX6_strikesOnce 39 rfl) ?_
      refine A_put (dX6_strikesOnce 40 rfl) fwX6_298 fcX6 ftX6_36 MW_0 rfl rfl ML_0 (MP_36 _) ?_
      refine A_goto 120 (dX6_strikesOnce 41 rfl) (by decide) ?_
      refine AW.mono (m_strT E q (upd (upd g2 35 (g2 35 + 1)) 36 (g2 36 ||| (1 <<< (nI i &&& 31)))) tw2 a m i gp lt _ _ (by rfl) hm hi ((hk 13 (by decide)).trans hgm) (by show ¬ g2 14 = 0; rw [hk 14 (by decide)]; exact hb)) (fun v w hz => ?_)
      obtain ⟨h91, rfl⟩ := hz
      exact ⟨h91, _, tw2, _, rfl, rf_kn hk hgpe hcell hkn e1' e2' ((if_neg h55).symm), ro_kn hk⟩
    · refine A_iconst (0) (dX6_strikesOnce 34 rfl) (by decide +kernel) ?_
      refine A_goto 63 (dX6_strikesOnce 35 rfl) (by decide) ?_
      refine A_iload_n (dX6_strikesOnce 37 rfl) rfl ?_
      refine A_ishl (dX6_strikesOnce 38 rfl) ?_
      refine A_ior (dX6_strikesOnce 39 rfl) ?_
      refine A_put (dX6_strikesOnce 40 rfl) fwX6_298 fcX6 ftX6_36 MW_0 rfl rfl ML_0 (MP_36 _) ?_
      refine A_goto 120 (dX6_strikesOnce 41 rfl) (by decide) ?_
      refine AW.mono (m_strT E q (upd (upd g2 35 (g2 35 + 1)) 36 (g2 36 ||| (0 <<< (nI i &&& 31)))) tw2 a m i gp lt _ _ (by rfl) hm hi ((hk 13 (by decide)).trans hgm) (by show ¬ g2 14 = 0; rw [hk 14 (by decide)]; exact hb)) (fun v w hz => ?_)
      obtain ⟨h91, rfl⟩ := hz
      exact ⟨h91, _, tw2, _, rfl, rf_kn hk hgpe hcell hkn e1' e2' ((if_pos h55).symm), ro_kn hk⟩

