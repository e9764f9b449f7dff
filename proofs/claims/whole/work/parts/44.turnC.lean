theorem evs_cg {e e2 : Nat → Int32} (h : ∀ k, k < 6 → e k = e2 k) : ∀ (c st : List Int32), evs e c st = evs e2 c st := by
  intro c
  induction c with
  | nil => intro st; rfl
  | cons s c ih =>
    intro st
    show evs e c (ev1 e s st) = evs e2 c (ev1 e2 s st)
    have e1 : ev1 e s st = ev1 e2 s st := by
      unfold ev1
      by_cases h6 : -6 ≤ s
      · rw [if_pos h6, if_pos h6]
        by_cases h0 : 0 ≤ s
        · rw [if_pos h0, if_pos h0]
        · rw [if_neg h0, if_neg h0]
          have hv := six h6 (Int32.not_le.mp h0)
          obtain ⟨j, hj, hj2⟩ := vp_in_of hv (by decide)
          rw [hj2, nI_clamp (by omega), h j hj]
      · rw [if_neg h6, if_neg h6]
    rw [e1]
    exact ih _
theorem pev_cg {C : Nat → List Int32} {p : Nat} {e e2 : Nat → Int32} (h : ∀ k, k < 6 → e k = e2 k) : pev C p e = pev C p e2 := by unfold pev; rw [evs_cg h]
theorem or0 (x s : Int32) : x ||| ((0 : Int32) <<< s) = x := by rw [← Int32.toBitVec_inj]; simp
def cfs (gf : Nat → Int32) (af : Nat → Nat → Int32) (gl : Nat → Int32) : FS := (fun k => if k < 4 then gf k else if k < 6 then gl (k - 2) else 0, fun k => if k < 6 then af k else fun _ => 0)
theorem cfs_eq {gf2 gl2 : Nat → Int32} {af2 : Nat → Nat → Int32} {s : FS} (h0 : gf2 0 = s.1 0) (h1 : gf2 1 = s.1 1) (h2 : gf2 2 = s.1 2) (h3 : gf2 3 = s.1 3) (h4 : gl2 2 = s.1 4) (h5 : gl2 3 = s.1 5) (hz : ∀ k, 6 ≤ k → s.1 k = 0)
    (b0 : af2 0 = s.2 0) (b1 : af2 1 = s.2 1) (b2 : af2 2 = s.2 2) (b3 : af2 3 = s.2 3) (b4 : af2 4 = s.2 4) (b5 : af2 5 = s.2 5) (bz : ∀ k, 6 ≤ k → s.2 k = fun _ => 0) : cfs gf2 af2 gl2 = s := by
  refine Prod.ext (funext fun k => ?_) (funext fun k => ?_)
  · show (if k < 4 then gf2 k else if k < 6 then gl2 (k - 2) else 0) = s.1 k
    match k with
    | 0 => exact h0
    | 1 => exact h1
    | 2 => exact h2
    | 3 => exact h3
    | 4 => exact h4
    | 5 => exact h5
    | k + 6 => rw [if_neg (by omega), if_neg (by omega)]; exact (hz _ (by omega)).symm
  · show (if k < 6 then af2 k else fun _ => 0) = s.2 k
    match k with
    | 0 => exact b0
    | 1 => exact b1
    | 2 => exact b2
    | 3 => exact b3
    | 4 => exact b4
    | 5 => exact b5
    | k + 6 => rw [if_neg (by omega)]; exact (bz _ (by omega)).symm
theorem cfs_z {gf gl : Nat → Int32} {af : Nat → Nat → Int32} {k : Nat} (hk : 6 ≤ k) : (cfs gf af gl).1 k = 0 := by show (if k < 4 then _ else _) = (0 : Int32); rw [if_neg (by omega), if_neg (by omega)]
theorem cfs_az {gf gl : Nat → Int32} {af : Nat → Nat → Int32} {k : Nat} (hk : 6 ≤ k) : (cfs gf af gl).2 k = fun _ => 0 := by show (if k < 6 then _ else _) = _; rw [if_neg (by omega)]
section
variable {gf gl gl2 : Nat → Int32} {af : Nat → Nat → Int32} {C : Nat → List Int32} {i c : Nat} {gp lt sh : Int32} {s : Nat → Int32}
theorem cf_beat (hs : ∀ k, k < 6 → s k = p_env (cfs gf af gl) i c gp k) (hb : ¬ gf 1 ≤ 0) (hsh : sh = gf 1 / gf 0) : hld (af 3 i - p_mnd (af 2 i) (af 5 i) (gp - sh) + (wiI (pev C 1 s) (-99) 99 + lt)) (gf 1) = p_beat C (cfs gf af gl) i c gp lt := by
  rw [hld_p hb, ← Int32.add_assoc, pev_cg hs, hsh]
  rfl
theorem cf_kn (hs : ∀ k, k < 6 → s k = p_env (cfs gf af gl) i c gp k) (hb : ¬ gf 1 ≤ 0) (hsh : sh = gf 1 / gf 0) (hgp : p_gp (cfs gf af gl) i = gp) (hc : p_cell (cfs gf af gl) i = c) (hkn : gp < 8) (h2 : gl2 2 = gl 2 + 1) (h3 : gl2 3 = gl 3 ||| ((if pev C 2 s = 0 then 0 else 1) <<< (nI i &&& 31))) :
    cfs gf (va_up af 3 (upd (af 3) i (hld (af 3 i - p_mnd (af 2 i) (af 5 i) (gp - sh) + (wiI (pev C 1 s) (-99) 99 + lt)) (gf 1)))) gl2 = p_turn C lt i (cfs gf af gl) := by
  rw [cf_beat hs hb hsh]
  unfold p_turn
  rw [hgp, hc, if_pos hkn]
  refine cfs_eq rfl rfl rfl rfl h2 ?_ (fun k hk2 => ?_) rfl rfl rfl rfl rfl rfl (fun k hk2 => ?_)
  · rw [h3, pev_cg hs]
    rfl
  · simp only [upd]
    rw [if_neg (by omega), if_neg (by omega)]
    exact cfs_z hk2
  · simp only [va_up]
    rw [if_neg (by omega)]
    exact cfs_az hk2
theorem cf_st (hs : ∀ k, k < 6 → s k = p_env (cfs gf af gl) i c gp k) (hb : ¬ gf 1 ≤ 0) (hsh : sh = gf 1 / gf 0) (hgp : p_gp (cfs gf af gl) i = gp) (hc : p_cell (cfs gf af gl) i = c) (hkn : ¬ gp < 8) (h2 : gl2 2 = gl 2) (h3 : gl2 3 = gl 3) :
    cfs (upd gf 3 (gf 3 + af 0 c * wiI (pev C 0 s) 0 1000 / 1000)) (va_up (va_up af 0 (upd (af 0) c (af 0 c - af 0 c * wiI (pev C 0 s) 0 1000 / 1000))) 3 (upd (af 3) i (hld (af 3 i - p_mnd (af 2 i) (af 5 i) (gp - sh) + (wiI (pev C 1 s) (-99) 99 + lt)) (gf 1)))) gl2 = p_turn C lt i (cfs gf af gl) := by
  rw [cf_beat hs hb hsh]
  have hgot : af 0 c * wiI (pev C 0 s) 0 1000 / 1000 = p_got C (cfs gf af gl) i c gp := by rw [pev_cg hs]; rfl
  rw [hgot]
  unfold p_turn
  rw [hgp, hc, if_neg hkn]
  refine cfs_eq rfl rfl rfl rfl h2 h3 (fun k hk2 => ?_) rfl rfl rfl rfl rfl rfl (fun k hk2 => ?_)
  · simp only [upd]
    rw [if_neg (by omega)]
    exact cfs_z hk2
  · simp only [va_up]
    rw [if_neg (by omega), if_neg (by omega)]
    exact cfs_az hk2
end
set_option maxRecDepth 100000 in
set_option maxHeartbeats 400000 in
theorem l_begin (E : ag) (ql : Nat → Nat) (gl : Nat → Int32) (al : Nat → Nat → Int32) : CT E yX0_begin cX0_begin 1 mX0_begin.2.2.2.1 1 0 0 [.ref (ql 0)] (wL E ql gl al) (rv (fun w => w = wL E ql (upd (upd (upd gl 0 0) 2 0) 3 0) al)) := by
  refine CT.of (M := mX0_begin) (ls := [some (.ref (ql 0))]) (by decide) rfl (by decide) rfl (Nat.le_of_ble_eq_true rfl) ?_
  refine A_aload_n (dX0_begin 0 rfl) rfl ?_
  refine A_iconst (0) (dX0_begin 1 rfl) (by decide +kernel) ?_
  refine A_put (dX0_begin 2 rfl) fwX0_18 fcX0 ftX0_2 wL_0 (by decide) rfl cL_l0 (wL_p0_2 _) ?_
  refine A_aload_n (dX0_begin 3 rfl) rfl ?_
  refine A_iconst (0) (dX0_begin 4 rfl) (by decide +kernel) ?_
  refine A_put (dX0_begin 5 rfl) fwX0_26 fcX0 ftX0_4 wL_0 rfl rfl cL_l0 (wL_p0_4 _) ?_
  refine A_aload_n (dX0_begin 6 rfl) rfl ?_
  refine A_iconst (0) (dX0_begin 7 rfl) (by decide +kernel) ?_
  refine AW.pcq (pc2 := 12) rfl ?_
  refine A_put (dX0_begin 8 rfl) fwX0_29 fcX0 ftX0_5 wL_0 rfl rfl cL_l0 (wL_p0_5 _) ?_
  refine A_rv (dX0_begin 9 rfl) rfl ?_
  exact rfl

set_option maxRecDepth 100000 in
set_option maxHeartbeats 400000 in
theorem l_draw (E : ag) (ql : Nat → Nat) (gl : Nat → Int32) (al : Nat → Nat → Int32) (z : Int32) : CT E yX0_draw cX0_draw 2 mX0_draw.2.2.2.1 1 0 0 [.ref (ql 0), .int z] (wL E ql gl al) (rv (fun w => w = wL E ql (upd (upd gl 0 1) 1 z) al)) := by
  refine CT.of (M := mX0_draw) (ls := [some (.ref (ql 0)), some (.int z)]) (by decide) rfl (by decide) rfl (Nat.le_of_ble_eq_true rfl) ?_
  refine A_aload_n (dX0_draw 0 rfl) rfl ?_
  refine A_iconst (1) (dX0_draw 1 rfl) (by decide +kernel) ?_
  refine A_put (dX0_draw 2 rfl) fwX0_18 fcX0 ftX0_2 wL_0 (by decide) rfl cL_l0 (wL_p0_2 _) ?_
  refine A_aload_n (dX0_draw 3 rfl) rfl ?_
  refine A_iload_n (dX0_draw 4 rfl) rfl ?_
  refine A_put (dX0_draw 5 rfl) fwX0_22 fcX0 ftX0_3 wL_0 rfl rfl cL_l0 (wL_p0_3 _) ?_
  refine A_rv (dX0_draw 6 rfl) rfl ?_
  exact rfl

set_option maxRecDepth 100000 in
set_option maxHeartbeats 400000 in
theorem l_knock (E : ag) (ql : Nat → Nat) (gl : Nat → Int32) (al : Nat → Nat → Int32) (i : Nat) (h : Int32) : CT E yX0_knock cX0_knock 3 mX0_knock.2.2.2.1 1 0 0 [.ref (ql 0), .int (nI i), .int h] (wL E ql gl al) (rv (fun w => ∃ g2 : Nat → Int32, w = wL E ql g2 al ∧ g2 0 = gl 0 ∧ g2 1 = gl 1 ∧ g2 2 = gl 2 + 1 ∧ g2 3 = gl 3 ||| ((if h = 0 then 0 else 1) <<< (nI i &&& 31)))) := by
  refine CT.of (M := mX0_knock) (ls := [some (.ref (ql 0)), some (.int (nI i)), some (.int h)]) (by decide) rfl (by decide) rfl (Nat.le_of_ble_eq_true rfl) ?_
  refine A_aload_n (dX0_knock 0 rfl) rfl ?_
  refine A_dup (dX0_knock 1 rfl) rfl ?_
  refine A_get (dX0_knock 2 rfl) fwX0_26 wL_0 cL_f0_4 ?_
  refine A_iconst (1) (dX0_knock 3 rfl) (by decide +kernel) ?_
  refine A_iadd (dX0_knock 4 rfl) ?_
  refine A_put (dX0_knock 5 rfl) fwX0_26 fcX0 ftX0_4 wL_0 rfl rfl cL_l0 (wL_p0_4 _) ?_
  refine A_iload_n (dX0_knock 6 rfl) rfl ?_
  refine A_if_eq 26 (dX0_knock 7 rfl) (by decide) (fun h11 => ?_) (fun h11 => ?_)
  · refine A_rv (dX0_knock 16 rfl) rfl ?_
    first
      | exact ⟨_, rfl, rfl, rfl, rfl, by rw [if_pos h11, or0]; rfl⟩
      | exact ⟨_, rfl, rfl, rfl, rfl, by rw [if_neg h11]; rfl⟩
  · refine A_aload_n (dX0_knock 8 rfl) rfl ?_
    refine A_dup (dX0_knock 9 rfl) rfl ?_
    refine A_get (dX0_knock 10 rfl) fwX0_29 wL_0 cL_f0_5 ?_
    refine A_iconst (1) (dX0_knock 11 rfl) (by decide +kernel) ?_
    refine A_iload_n (dX0_knock 12 rfl) rfl ?_
    refine A_ishl (dX0_knock 13 rfl) ?_
    refine A_ior (dX0_knock 14 rfl) ?_
    refine A_put (dX0_knock 15 rfl) fwX0_29 fcX0 ftX0_5 wL_0 rfl rfl cL_l0 (wL_p0_5 _) ?_
    refine AW.pcq (pc2 := 26) rfl ?_
    refine A_rv (dX0_knock 16 rfl) rfl ?_
    first
      | exact ⟨_, rfl, rfl, rfl, rfl, by rw [if_pos h11, or0]; rfl⟩
      | exact ⟨_, rfl, rfl, rfl, rfl, by rw [if_neg h11]; rfl⟩

set_option maxRecDepth 100000 in
set_option maxHeartbeats 400000 in
theorem l_nextDrawn (E : ag) (ql : Nat → Nat) (gl : Nat → Int32) (al : Nat → Nat → Int32) : CT E yX0_nextDrawn cX0_nextDrawn 1 mX0_nextDrawn.2.2.2.1 1 0 0 [.ref (ql 0)] (wL E ql gl al) (ri (fun r w => (gl 0 = 0 ∧ r = 0 ∧ w = wL E ql gl al) ∨ (¬ gl 0 = 0 ∧ r = dz (zn (gl 1)) ∧ w = wL E ql (upd gl 1 (zn (gl 1))) al))) := by
  refine CT.of (M := mX0_nextDrawn) (ls := [some (.ref (ql 0))]) (by decide) rfl (by decide) rfl (Nat.le_of_ble_eq_true rfl) ?_
  refine A_aload_n (dX0_nextDrawn 0 rfl) rfl ?_
  refine A_get (dX0_nextDrawn 1 rfl) fwX0_18 wL_0 cL_f0_2 ?_
  refine A_if_ne 9 (dX0_nextDrawn 2 rfl) (by decide) (fun h4 => ?_) (fun h4 => ?_)
  · refine A_aload_n (dX0_nextDrawn 5 rfl) rfl ?_
    refine A_aload_n (dX0_nextDrawn 6 rfl) rfl ?_
    refine A_get (dX0_nextDrawn 7 rfl) fwX0_22 wL_0 cL_f0_3 ?_
    refine A_ldc (dX0_nextDrawn 8 rfl) kcX0_106 ?_
    refine A_imul (dX0_nextDrawn 9 rfl) ?_
    refine A_sipush (12345) (dX0_nextDrawn 10 rfl) (by decide +kernel) ?_
    refine A_iadd (dX0_nextDrawn 11 rfl) ?_
    refine A_put (dX0_nextDrawn 12 rfl) fwX0_22 fcX0 ftX0_3 wL_0 rfl rfl cL_l0 (wL_p0_3 _) ?_
    refine AW.pcq (pc2 := 24) rfl ?_
    refine A_aload_n (dX0_nextDrawn 13 rfl) rfl ?_
    refine A_get (dX0_nextDrawn 14 rfl) fwX0_22 wL_0 cL_f0_3 ?_
    refine A_bipush (9) (dX0_nextDrawn 15 rfl) (by decide +kernel) ?_
    refine A_iushr (dX0_nextDrawn 16 rfl) ?_
    refine A_bipush (7) (dX0_nextDrawn 17 rfl) (by decide +kernel) ?_
    refine A_irem (dX0_nextDrawn 18 rfl) (by decide) ?_
    refine A_iconst (3) (dX0_nextDrawn 19 rfl) (by decide +kernel) ?_
    refine A_isub (dX0_nextDrawn 20 rfl) ?_
    refine AW.pcq (pc2 := 36) rfl ?_
    refine A_ri (dX0_nextDrawn 21 rfl) rfl rfl ?_
    exact Or.inr ⟨h4, rfl, rfl⟩
  · refine A_iconst (0) (dX0_nextDrawn 3 rfl) (by decide +kernel) ?_
    refine A_ri (dX0_nextDrawn 4 rfl) rfl rfl ?_
    exact Or.inl ⟨h4, rfl, rfl⟩

set_option maxRecDepth 100000 in
set_option maxHeartbeats 400000 in
theorem l_look (E : ag) (ql : Nat → Nat) (gl : Nat → Int32) (al : Nat → Nat → Int32) (qf : Nat → Nat) (gf : Nat → Int32) (af : Nat → Nat → Int32) (i c : Nat) (gp : Int32) (hi : i < 5) (hc : c < 12) (hk : MOK (af 2 i) (af 4 i) (af 5 i)) : CT E yX0_look cX0_look 5 mX0_look.2.2.2.1 2 0 0 [.ref (ql 0), .ref (qf 0), .int (nI i), .int (nI c), .int gp] (wLF E ql gl al qf gf af) (rv (fun w => ∃ s : Nat → Int32, (∀ k, k < 6 → s k = senv (p_str (af 2 i) (af 4 i) (af 5 i) (gf 2)) (af 1 c) gp (af 0 c) (gf 2) (af 5 i) k) ∧ w = wLF E ql gl (va_up al 0 s) qf gf af)) := by
  refine CT.of (M := mX0_look) (ls := [some (.ref (ql 0)), some (.ref (qf 0)), some (.int (nI i)), some (.int (nI c)), some (.int gp)]) (by decide) rfl (by decide) rfl (Nat.le_of_ble_eq_true rfl) ?_
  refine A_aload_n (dX0_look 0 rfl) rfl ?_
  refine A_get (dX0_look 1 rfl) fwX0_9 wLF_0 cL_f0_0 ?_
  refine A_iconst (0) (dX0_look 2 rfl) (by decide +kernel) ?_
  refine A_aload_n (dX0_look 3 rfl) rfl ?_
  refine A_iload_n (dX0_look 4 rfl) rfl ?_
  refine A_callVi 1 (dX0_look 5 rfl) cbX1_strikesOf cwX0_94 (f_strikesOf E qf gf af i hi hk) rfl rfl wF_0 rfl rfl [3, 4, 5, 6, 7, 8, 9] rfl rfl (Nat.le_of_ble_eq_true rfl) (Nat.le_of_ble_eq_true rfl) (Nat.le_of_ble_eq_true rfl) (Nat.le_of_ble_eq_true rfl) (Nat.le_of_ble_eq_true rfl) (by rintro _ _ ⟨_, rfl⟩; exact (Nat.le_of_ble_eq_true rfl)) ?_
  rintro r7 w1 ⟨rfl, rfl⟩
  refine AW.world (ws2 := wLF E ql gl al qf gf af) rfl ?_
  refine AW.pcq (pc2 := 10) rfl ?_
  refine A_iast (dX0_look 6 rfl) wLF_1 (by unfold vp_in; decide) (wLF_s1 _) ?_
  refine A_aload_n (dX0_look 7 rfl) rfl ?_
  refine A_get (dX0_look 8 rfl) fwX0_9 wLF_0 cL_f0_0 ?_
  refine A_iconst (1) (dX0_look 9 rfl) (by decide +kernel) ?_
  refine A_aload_n (dX0_look 10 rfl) rfl ?_
  refine A_get (dX0_look 11 rfl) fwX0_97 wLF_3 cF_f0_1 ?_
  refine A_iload_n (dX0_look 12 rfl) rfl ?_
  refine A_iald (dX0_look 13 rfl) wLF_5 (vp_in_nI (n := c) (by omega) (by decide)) ?_
  rw [nI_clamp (n := c) (by omega)]
  refine AW.pcq (pc2 := 22) rfl ?_
  refine A_iast (dX0_look 14 rfl) wLF_1 (by unfold vp_in; decide) (wLF_s1 _) ?_
  refine A_aload_n (dX0_look 15 rfl) rfl ?_
  refine A_get (dX0_look 16 rfl) fwX0_9 wLF_0 cL_f0_0 ?_
  refine A_iconst (2) (dX0_look 17 rfl) (by decide +kernel) ?_
  refine A_iload (dX0_look 18 rfl) rfl ?_
  refine A_iast (dX0_look 19 rfl) wLF_1 (by unfold vp_in; decide) (wLF_s1 _) ?_
  refine A_aload_n (dX0_look 20 rfl) rfl ?_
  refine A_get (dX0_look 21 rfl) fwX0_9 wLF_0 cL_f0_0 ?_
  refine AW.pcq (pc2 := 35) rfl ?_
  refine A_iconst (3) (dX0_look 22 rfl) (by decide +kernel) ?_
  refine A_aload_n (dX0_look 23 rfl) rfl ?_
  refine A_get (dX0_look 24 rfl) fwX0_100 wLF_3 cF_f0_0 ?_
  refine A_iload_n (dX0_look 25 rfl) rfl ?_
  refine A_iald (dX0_look 26 rfl) wLF_4 (vp_in_nI (n := c) (by omega) (by decide)) ?_
  rw [nI_clamp (n := c) (by omega)]
  refine A_iast (dX0_look 27 rfl) wLF_1 (by unfold vp_in; decide) (wLF_s1 _) ?_
  refine A_aload_n (dX0_look 28 rfl) rfl ?_
  refine A_get (dX0_look 29 rfl) fwX0_9 wLF_0 cL_f0_0 ?_
  refine AW.pcq (pc2 := 47) rfl ?_
  refine A_iconst (4) (dX0_look 30 rfl) (by decide +kernel) ?_
  refine A_aload_n (dX0_look 31 rfl) rfl ?_
  refine A_get (dX0_look 32 rfl) fwX0_44 wLF_3 cF_f0_8 ?_
  refine A_iast (dX0_look 33 rfl) wLF_1 (by unfold vp_in; decide) (wLF_s1 _) ?_
  refine A_aload_n (dX0_look 34 rfl) rfl ?_
  refine A_get (dX0_look 35 rfl) fwX0_9 wLF_0 cL_f0_0 ?_
  refine A_iconst (5) (dX0_look 36 rfl) (by decide +kernel) ?_
  refine A_aload_n (dX0_look 37 rfl) rfl ?_
  refine AW.pcq (pc2 := 59) rfl ?_
  refine A_get (dX0_look 38 rfl) fwX0_103 wLF_3 cF_f0_5 ?_
  refine A_iload_n (dX0_look 39 rfl) rfl ?_
  refine A_iald (dX0_look 40 rfl) wLF_9 (vp_in_nI (n := i) (by omega) (by decide)) ?_
  rw [nI_clamp (n := i) (by omega)]
  refine A_iast (dX0_look 41 rfl) wLF_1 (by unfold vp_in; decide) (wLF_s1 _) ?_
  refine A_rv (dX0_look 42 rfl) rfl ?_
  refine ⟨_, fun k hk => ?_, rfl⟩
  match k with
  | 0 => rfl
  | 1 => rfl
  | 2 => rfl
  | 3 => rfl
  | 4 => rfl
  | 5 => rfl
  | k + 6 => omega

set_option maxRecDepth 100000 in
set_option maxHeartbeats 400000 in
theorem l_turnT (E : ag) (ql : Nat → Nat) (gl : Nat → Int32) (al : Nat → Nat → Int32) (qf : Nat → Nat) (gf : Nat → Int32) (af : Nat → Nat → Int32) (qx : Nat → Nat) (gx : Nat → Int32) (ax : Nat → Nat → Int32) (i : Nat) (sh gp : Int32) (C : Nat → List Int32) (s : Nat → Int32) (hC : TKC ax C) (hi : i < 5) (hk : MOK (af 2 i) (af 4 i) (af 5 i)) (hs : al 0 = s) (x5 x7 : Option Value) (hx : noL [x5, x7] = true) : AW E mX0_takeTurn 3 0 0 71 [some (.ref (ql 0)), some (.ref (qf 0)), some (.ref (qx 0)), some (.int (nI i)), some (.int sh), x5, some (.int gp), x7] [] (wLT E ql gl al qf gf af qx gx ax) (rv (fun w => ∃ (g3 : Nat → Int32) (a3 : Nat → Nat → Int32), w = wLT E ql g3 a3 qf gf (va_up af 3 (upd (af 3) i (hld (af 3 i - p_mnd (af 2 i) (af 5 i) (gp - sh) + (wiI (pev C 1 s) (-99) 99 + (if gl 0 = 0 then 0 else dz (zn (gl 1))))) (gf 1)))) qx gx ax ∧ g3 0 = gl 0 ∧ g3 1 = (if gl 0 = 0 then gl 1 else zn (gl 1)) ∧ g3 2 = gl 2 ∧ g3 3 = gl 3)) := by
  refine A_aload_n (dX0_takeTurn 38 rfl) rfl ?_
  refine A_iconst (1) (dX0_takeTurn 39 rfl) (by decide +kernel) ?_
  refine A_aload_n (dX0_takeTurn 40 rfl) rfl ?_
  refine A_get (dX0_takeTurn 41 rfl) fwX0_9 wLT_0 cL_f0_0 ?_
  refine A_aload_n (dX0_takeTurn 42 rfl) rfl ?_
  refine A_get (dX0_takeTurn 43 rfl) fwX0_15 wLT_0 cL_f0_1 ?_
  refine A_callVi 3 (dX0_takeTurn 44 rfl) cbX4_tells cwX0_61 (k_tells E qx gx ax (fun k => ql (k + 1)) gl al 1 (by decide) C hC) rfl rfl wTS_0 rfl rfl [10, 11, 12, 1, 2] rfl rfl (Nat.le_of_ble_eq_true rfl) (Nat.le_of_ble_eq_true rfl) (Nat.le_of_ble_eq_true rfl) (Nat.le_of_ble_eq_true rfl) (Nat.le_of_ble_eq_true rfl) (by rintro _ _ ⟨_, _, rfl⟩; exact (Nat.le_of_ble_eq_true rfl)) ?_
  rintro rf2 w1 ⟨rfl, f2, rfl⟩
  rw [hs]
  refine AW.world (ws2 := wLT E ql gl (va_up al 1 f2) qf gf af qx gx ax) rfl ?_
  refine AW.pcq (pc2 := 84) rfl ?_
  refine A_bipush (-99) (dX0_takeTurn 45 rfl) (by decide +kernel) ?_
  refine A_bipush (99) (dX0_takeTurn 46 rfl) (by decide +kernel) ?_
  refine A_callSNWi 3 (dX0_takeTurn 47 rfl) cbX5_bounded cwX0_77 (k_bounded E _ (pev C 1 s) (-99) 99 (by decide)) rfl rfl (Nat.le_of_ble_eq_true rfl) (Nat.le_of_ble_eq_true rfl) (Nat.le_of_ble_eq_true rfl) (Nat.le_of_ble_eq_true rfl) (Nat.le_of_ble_eq_true rfl) ?_
  rintro r88 w1 ⟨rfl, rfl⟩
  refine AW.pcq (pc2 := 91) rfl ?_
  refine A_aload_n (dX0_takeTurn 48 rfl) rfl ?_
  refine A_callVi 0 (dX0_takeTurn 49 rfl) cbX0_nextDrawn cwX0_81 (l_nextDrawn E ql gl (va_up al 1 f2)) rfl rfl wL_0 rfl rfl [0, 1, 2] rfl rfl (Nat.le_of_ble_eq_true rfl) (Nat.le_of_ble_eq_true rfl) (Nat.le_of_ble_eq_true rfl) (Nat.le_of_ble_eq_true rfl) (Nat.le_of_ble_eq_true rfl) (by rintro _ _ (⟨_, _, rfl⟩ | ⟨_, _, rfl⟩) <;> exact (Nat.le_of_ble_eq_true rfl)) ?_
  rintro r92 w1 hn
  obtain ⟨g3, hw, hr92, h30, h31, h32, h33⟩ : ∃ g3 : Nat → Int32, w1 = wL E ql g3 (va_up al 1 f2) ∧ r92 = (if gl 0 = 0 then 0 else dz (zn (gl 1))) ∧ g3 0 = gl 0 ∧ g3 1 = (if gl 0 = 0 then gl 1 else zn (gl 1)) ∧ g3 2 = gl 2 ∧ g3 3 = gl 3 := by
    rcases hn with ⟨hd0, rfl, rfl⟩ | ⟨hd0, rfl, rfl⟩
    · exact ⟨gl, rfl, by rw [if_pos hd0], rfl, by rw [if_pos hd0], rfl, rfl⟩
    · exact ⟨_, rfl, by rw [if_neg hd0], rfl, by rw [if_neg hd0]; rfl, rfl, rfl⟩
  subst hw
  refine AW.world (ws2 := wLT E ql g3 (va_up al 1 f2) qf gf af qx gx ax) rfl ?_
  rw [hr92]
  refine AW.pcq (pc2 := 95) rfl ?_
  refine A_iadd (dX0_takeTurn 50 rfl) ?_
  refine A_istore (ls2 := [_, _, _, _, _, _, _, _]) (dX0_takeTurn 51 rfl) (by decide) (by have := hx; simp_all [noL, Value.category]) rfl ?_
  refine A_aload_n (dX0_takeTurn 52 rfl) rfl ?_
  refine A_get (dX0_takeTurn 53 rfl) fwX0_85 wLT_3 cF_f0_3 ?_
  refine A_iload_n (dX0_takeTurn 54 rfl) rfl ?_
  refine A_aload_n (dX0_takeTurn 55 rfl) rfl ?_
  refine A_get (dX0_takeTurn 56 rfl) fwX0_85 wLT_3 cF_f0_3 ?_
  refine A_iload_n (dX0_takeTurn 57 rfl) rfl ?_
  refine AW.pcq (pc2 := 108) rfl ?_
  refine A_iald (dX0_takeTurn 58 rfl) wLT_7 (vp_in_nI (n := i) (by omega) (by decide)) ?_
  rw [nI_clamp (n := i) (by omega)]
  refine A_aload_n (dX0_takeTurn 59 rfl) rfl ?_
  refine A_iload_n (dX0_takeTurn 60 rfl) rfl ?_
  refine A_iload (dX0_takeTurn 61 rfl) rfl ?_
  refine A_iload (dX0_takeTurn 62 rfl) rfl ?_
  refine A_isub (dX0_takeTurn 63 rfl) ?_
  refine A_callVi 2 (dX0_takeTurn 64 rfl) cbX1_mendsOf cwX0_88 (f_mendsOf E qf gf af i hi (gp - sh) hk) rfl rfl wF_0 rfl rfl [3, 4, 5, 6, 7, 8, 9] rfl rfl (Nat.le_of_ble_eq_true rfl) (Nat.le_of_ble_eq_true rfl) (Nat.le_of_ble_eq_true rfl) (Nat.le_of_ble_eq_true rfl) (Nat.le_of_ble_eq_true rfl) (by rintro _ _ ⟨_, rfl⟩; exact (Nat.le_of_ble_eq_true rfl)) ?_
  rintro r116 w1 ⟨rfl, rfl⟩
  refine AW.world (ws2 := wLT E ql g3 (va_up al 1 f2) qf gf af qx gx ax) rfl ?_
  refine AW.pcq (pc2 := 119) rfl ?_
  refine A_isub (dX0_takeTurn 65 rfl) ?_
  refine A_iload (dX0_takeTurn 66 rfl) rfl ?_
  refine A_iadd (dX0_takeTurn 67 rfl) ?_
  refine A_aload_n (dX0_takeTurn 68 rfl) rfl ?_
  refine A_get (dX0_takeTurn 69 rfl) fwX0_37 wLT_3 cF_f0_7 ?_
  refine A_callSNWi 2 (dX0_takeTurn 70 rfl) cbX5_held cwX0_91 (k_held E _ _ (gf 1)) rfl rfl (Nat.le_of_ble_eq_true rfl) (Nat.le_of_ble_eq_true rfl) (Nat.le_of_ble_eq_true rfl) (Nat.le_of_ble_eq_true rfl) (Nat.le_of_ble_eq_true rfl) ?_
  rintro r127 w1 ⟨rfl, rfl⟩
  refine AW.pcq (pc2 := 130) rfl ?_
  refine A_iast (dX0_takeTurn 71 rfl) wLT_7 (vp_in_nI (n := i) (by omega) (by decide)) (wLT_s7 _) ?_
  rw [nI_clamp (n := i) (by omega)]
  refine A_rv (dX0_takeTurn 72 rfl) rfl ?_
  exact ⟨g3, _, rfl, h30, h31, h32, h33⟩
set_option maxRecDepth 100000 in
set_option maxHeartbeats 2000000 in
theorem l_takeTurn (E : ag) (ql : Nat → Nat) (gl : Nat → Int32) (al : Nat → Nat → Int32) (qf : Nat → Nat) (gf : Nat → Int32) (af : Nat → Nat → Int32) (qx : Nat → Nat) (gx : Nat → Int32) (ax : Nat → Nat → Int32) (m r i : Nat) (sh : Int32) (C : Nat → List Int32) (hC : TKC ax C) (hm : m ≤ 5) (hgm : gf 0 = nI m) (hr : r ≤ 999) (hgr : gf 2 = nI r) (hb : ¬ gf 1 ≤ 0) (hi : i < m) (hk : MOK (af 2 i) (af 4 i) (af 5 i)) (hsh : sh = gf 1 / gf 0) : CT E yX0_takeTurn cX0_takeTurn 8 mX0_takeTurn.2.2.2.1 3 0 0 [.ref (ql 0), .ref (qf 0), .ref (qx 0), .int (nI i), .int sh] (wLT E ql gl al qf gf af qx gx ax) (rv (fun w => ∃ (gl2 : Nat → Int32) (al2 : Nat → Nat → Int32) (gf2 : Nat → Int32) (af2 : Nat → Nat → Int32), w = wLT E ql gl2 al2 qf gf2 af2 qx gx ax ∧ cfs gf2 af2 gl2 = p_turn C (if gl 0 = 0 then 0 else dz (zn (gl 1))) i (cfs gf af gl) ∧ gf2 4 = gf 4 ∧ gl2 0 = gl 0 ∧ gl2 1 = (if gl 0 = 0 then gl 1 else zn (gl 1)))) := by
  refine CT.of (M := mX0_takeTurn) (ls := [some (.ref (ql 0)), some (.ref (qf 0)), some (.ref (qx 0)), some (.int (nI i)), some (.int sh), none, none, none]) (by decide) rfl (by decide) rfl (Nat.le_of_ble_eq_true rfl) ?_
  refine A_aload_n (dX0_takeTurn 0 rfl) rfl ?_
  refine A_iload_n (dX0_takeTurn 1 rfl) rfl ?_
  refine A_callVi 1 (dX0_takeTurn 2 rfl) cbX1_cellOf cwX0_71 (f_cellOf E qf gf af (nI i)) rfl rfl wF_0 rfl rfl [3, 4, 5, 6, 7, 8, 9] rfl rfl (Nat.le_of_ble_eq_true rfl) (Nat.le_of_ble_eq_true rfl) (Nat.le_of_ble_eq_true rfl) (Nat.le_of_ble_eq_true rfl) (Nat.le_of_ble_eq_true rfl) (by rintro _ _ ⟨_, rfl⟩; exact (Nat.le_of_ble_eq_true rfl)) ?_
  rintro r2 w1 ⟨rfl, rfl⟩
  refine AW.world (ws2 := wLT E ql gl al qf gf af qx gx ax) rfl ?_
  rw [hgr, hgm, cell_c hr hm (by omega)]
  refine AW.pcq (pc2 := 5) rfl ?_
  refine A_istore (ls2 := [_, _, _, _, _, _, _, _]) (dX0_takeTurn 3 rfl) (by decide) rfl rfl ?_
  refine A_aload_n (dX0_takeTurn 4 rfl) rfl ?_
  refine A_iload_n (dX0_takeTurn 5 rfl) rfl ?_
  refine A_callVi 1 (dX0_takeTurn 6 rfl) cbX1_gapOf cwX0_53 (f_gapOf E qf gf af (nI i) (vp_in_nI (n := i) (by omega) (by decide)) (by rw [hgm]; exact ix_ahead m hm (by omega)) (ix_pred i (by omega)) hb) rfl rfl wF_0 rfl rfl [3, 4, 5, 6, 7, 8, 9] rfl rfl (Nat.le_of_ble_eq_true rfl) (Nat.le_of_ble_eq_true rfl) (Nat.le_of_ble_eq_true rfl) (Nat.le_of_ble_eq_true rfl) (Nat.le_of_ble_eq_true rfl) (by rintro _ _ ⟨_, rfl⟩; exact (Nat.le_of_ble_eq_true rfl)) ?_
  rintro r9 w1 ⟨rfl, rfl⟩
  refine AW.world (ws2 := wLT E ql gl al qf gf af qx gx ax) rfl ?_
  generalize hgp : p_gap (gf 0) (gf 1) (af 3) (nI i) = gp
  refine AW.pcq (pc2 := 12) rfl ?_
  refine A_istore (ls2 := [_, _, _, _, _, _, _, _]) (dX0_takeTurn 7 rfl) (by decide) rfl rfl ?_
  refine A_aload_n (dX0_takeTurn 8 rfl) rfl ?_
  refine A_aload_n (dX0_takeTurn 9 rfl) rfl ?_
  refine A_iload_n (dX0_takeTurn 10 rfl) rfl ?_
  refine A_iload (dX0_takeTurn 11 rfl) rfl ?_
  refine A_iload (dX0_takeTurn 12 rfl) rfl ?_
  refine A_callVv 4 (dX0_takeTurn 13 rfl) cbX0_look cwX0_57 (l_look E ql gl al qf gf af i ((r * m + i) % 12) gp (by omega) (Nat.mod_lt _ (by decide)) hk) rfl rfl wLF_0 rfl rfl [0, 1, 2, 3, 4, 5, 6, 7, 8, 9] rfl rfl (Nat.le_of_ble_eq_true rfl) (Nat.le_of_ble_eq_true rfl) (Nat.le_of_ble_eq_true rfl) (Nat.le_of_ble_eq_true rfl) (Nat.le_of_ble_eq_true rfl) (by rintro _ ⟨_, _, rfl⟩; exact (Nat.le_of_ble_eq_true rfl)) ?_
  rintro w1 ⟨s, hs0, rfl⟩
  refine AW.world (ws2 := wLT E ql gl (va_up al 0 s) qf gf af qx gx ax) rfl ?_
  have hcell : p_cell (cfs gf af gl) i = ((r * m + i) % 12) := by
    show ((gf 2).toNatClampNeg * (gf 0).toNatClampNeg + i) % 12 = _
    rw [hgr, hgm, nI_clamp (by omega), nI_clamp (by omega)]
  have hgpe : p_gp (cfs gf af gl) i = gp := hgp
  have hs : ∀ k, k < 6 → s k = p_env (cfs gf af gl) i ((r * m + i) % 12) gp k := hs0
  clear hs0 hgp
  refine AW.pcq (pc2 := 24) rfl ?_
  refine A_iload (dX0_takeTurn 14 rfl) rfl ?_
  refine A_bipush (8) (dX0_takeTurn 15 rfl) (by decide +kernel) ?_
  refine A_icmp_lt 53 (dX0_takeTurn 16 rfl) (by decide) (fun h28 => ?_) (fun h28 => ?_)
  · have hkn : gp < 8 := h28
    refine A_aload_n (dX0_takeTurn 28 rfl) rfl ?_
    refine A_iload_n (dX0_takeTurn 29 rfl) rfl ?_
    refine A_aload_n (dX0_takeTurn 30 rfl) rfl ?_
    refine A_iconst (2) (dX0_takeTurn 31 rfl) (by decide +kernel) ?_
    refine A_aload_n (dX0_takeTurn 32 rfl) rfl ?_
    refine A_get (dX0_takeTurn 33 rfl) fwX0_9 wLT_0 cL_f0_0 ?_
    refine A_aload_n (dX0_takeTurn 34 rfl) rfl ?_
    refine A_get (dX0_takeTurn 35 rfl) fwX0_15 wLT_0 cL_f0_1 ?_
    refine AW.pcq (pc2 := 65) rfl ?_
    refine A_callVi 3 (dX0_takeTurn 36 rfl) cbX4_tells cwX0_61 (k_tells E qx gx ax (fun k => ql (k + 1)) gl (va_up al 0 s) 2 (by decide) C hC) rfl rfl wTS_0 rfl rfl [10, 11, 12, 1, 2] rfl rfl (Nat.le_of_ble_eq_true rfl) (Nat.le_of_ble_eq_true rfl) (Nat.le_of_ble_eq_true rfl) (Nat.le_of_ble_eq_true rfl) (Nat.le_of_ble_eq_true rfl) (by rintro _ _ ⟨_, _, rfl⟩; exact (Nat.le_of_ble_eq_true rfl)) ?_
    rintro rf1 w1 ⟨rfl, f1, rfl⟩
    refine AW.world (ws2 := wLT E ql gl (va_up (va_up al 0 s) 1 f1) qf gf af qx gx ax) rfl ?_
    refine AW.pcq (pc2 := 68) rfl ?_
    refine A_callVv 2 (dX0_takeTurn 37 rfl) cbX0_knock cwX0_74 (l_knock E ql gl (va_up (va_up al 0 s) 1 f1) i (pev C 2 s)) rfl rfl wL_0 rfl rfl [0, 1, 2] rfl rfl (Nat.le_of_ble_eq_true rfl) (Nat.le_of_ble_eq_true rfl) (Nat.le_of_ble_eq_true rfl) (Nat.le_of_ble_eq_true rfl) (Nat.le_of_ble_eq_true rfl) (by rintro _ ⟨_, rfl, _⟩; exact (Nat.le_of_ble_eq_true rfl)) ?_
    rintro w1 ⟨g2, rfl, hg0, hg1, hg2, hg3⟩
    refine AW.world (ws2 := wLT E ql g2 (va_up (va_up al 0 s) 1 f1) qf gf af qx gx ax) rfl ?_
    refine AW.pcq (pc2 := 71) rfl ?_
    first
      | (refine AW.mono (l_turnT E ql g2 (va_up (va_up al 0 s) 1 f1) qf gf af qx gx ax i sh gp C s hC (by omega) hk rfl _ _ (by rfl)) (fun v w hz => ?_)
         obtain ⟨h91, g3, a3, rfl, h30, h31, h32, h33⟩ := hz
         rw [hg0, hg1]
         exact ⟨h91, g3, a3, _, _, rfl, cf_kn hs hb hsh hgpe hcell hkn (h32.trans hg2) (h33.trans hg3), rfl, h30.trans hg0, by rw [h31, hg0, hg1]⟩)
      | (refine AW.mono (l_turnT E ql gl (va_up (va_up al 0 s) 1 f1) qf (upd gf 3 (gf 3 + af 0 ((r * m + i) % 12) * wiI (pev C 0 s) 0 1000 / 1000)) (va_up af 0 (upd (af 0) ((r * m + i) % 12) (af 0 ((r * m + i) % 12) - af 0 ((r * m + i) % 12) * wiI (pev C 0 s) 0 1000 / 1000))) qx gx ax i sh gp C s hC (by omega) hk rfl _ _ (by rfl)) (fun v w hz => ?_)
         obtain ⟨h91, g3, a3, rfl, h30, h31, h32, h33⟩ := hz
         exact ⟨h91, g3, a3, _, _, rfl, cf_st hs hb hsh hgpe hcell hkn h32 h33, rfl, h30, h31⟩)
  · have hkn : ¬ gp < 8 := h28
    refine A_aload_n (dX0_takeTurn 17 rfl) rfl ?_
    refine A_iload (dX0_takeTurn 18 rfl) rfl ?_
    refine A_aload_n (dX0_takeTurn 19 rfl) rfl ?_
    refine A_iconst (0) (dX0_takeTurn 20 rfl) (by decide +kernel) ?_
    refine A_aload_n (dX0_takeTurn 21 rfl) rfl ?_
    refine A_get (dX0_takeTurn 22 rfl) fwX0_9 wLT_0 cL_f0_0 ?_
    refine A_aload_n (dX0_takeTurn 23 rfl) rfl ?_
    refine A_get (dX0_takeTurn 24 rfl) fwX0_15 wLT_0 cL_f0_1 ?_
    refine AW.pcq (pc2 := 44) rfl ?_
    refine A_callVi 3 (dX0_takeTurn 25 rfl) cbX4_tells cwX0_61 (k_tells E qx gx ax (fun k => ql (k + 1)) gl (va_up al 0 s) 0 (by decide) C hC) rfl rfl wTS_0 rfl rfl [10, 11, 12, 1, 2] rfl rfl (Nat.le_of_ble_eq_true rfl) (Nat.le_of_ble_eq_true rfl) (Nat.le_of_ble_eq_true rfl) (Nat.le_of_ble_eq_true rfl) (Nat.le_of_ble_eq_true rfl) (by rintro _ _ ⟨_, _, rfl⟩; exact (Nat.le_of_ble_eq_true rfl)) ?_
    rintro rf1 w1 ⟨rfl, f1, rfl⟩
    refine AW.world (ws2 := wLT E ql gl (va_up (va_up al 0 s) 1 f1) qf gf af qx gx ax) rfl ?_
    refine AW.pcq (pc2 := 47) rfl ?_
    refine A_callVv 2 (dX0_takeTurn 26 rfl) cbX1_getOut cwX0_67 (f_getOut E qf gf af ((r * m + i) % 12) (Nat.mod_lt _ (by decide)) (pev C 0 s)) rfl rfl wF_0 rfl rfl [3, 4, 5, 6, 7, 8, 9] rfl rfl (Nat.le_of_ble_eq_true rfl) (Nat.le_of_ble_eq_true rfl) (Nat.le_of_ble_eq_true rfl) (Nat.le_of_ble_eq_true rfl) (Nat.le_of_ble_eq_true rfl) (by rintro _ rfl; exact (Nat.le_of_ble_eq_true rfl)) ?_
    rintro w1 rfl
    refine AW.world (ws2 := wLT E ql gl (va_up (va_up al 0 s) 1 f1) qf (upd gf 3 (gf 3 + af 0 ((r * m + i) % 12) * wiI (pev C 0 s) 0 1000 / 1000)) (va_up af 0 (upd (af 0) ((r * m + i) % 12) (af 0 ((r * m + i) % 12) - af 0 ((r * m + i) % 12) * wiI (pev C 0 s) 0 1000 / 1000))) qx gx ax) rfl ?_
    refine AW.pcq (pc2 := 50) rfl ?_
    refine A_goto 71 (dX0_takeTurn 27 rfl) (by decide) ?_
    first
      | (refine AW.mono (l_turnT E ql g2 (va_up (va_up al 0 s) 1 f1) qf gf af qx gx ax i sh gp C s hC (by omega) hk rfl _ _ (by rfl)) (fun v w hz => ?_)
         obtain ⟨h91, g3, a3, rfl, h30, h31, h32, h33⟩ := hz
         rw [hg0, hg1]
         exact ⟨h91, g3, a3, _, _, rfl, cf_kn hs hb hsh hgpe hcell hkn (h32.trans hg2) (h33.trans hg3), rfl, h30.trans hg0, by rw [h31, hg0, hg1]⟩)
      | (refine AW.mono (l_turnT E ql gl (va_up (va_up al 0 s) 1 f1) qf (upd gf 3 (gf 3 + af 0 ((r * m + i) % 12) * wiI (pev C 0 s) 0 1000 / 1000)) (va_up af 0 (upd (af 0) ((r * m + i) % 12) (af 0 ((r * m + i) % 12) - af 0 ((r * m + i) % 12) * wiI (pev C 0 s) 0 1000 / 1000))) qx gx ax i sh gp C s hC (by omega) hk rfl _ _ (by rfl)) (fun v w hz => ?_)
         obtain ⟨h91, g3, a3, rfl, h30, h31, h32, h33⟩ := hz
         exact ⟨h91, g3, a3, _, _, rfl, cf_st hs hb hsh hgpe hcell hkn h32 h33, rfl, h30, h31⟩)

