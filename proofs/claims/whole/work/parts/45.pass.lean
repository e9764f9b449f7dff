theorem A_putO {E : ag} {M : am} {d bc bs pc : Nat} {ls : List (Option Value)} {rest : List Value} {ws : va_W} {post : Option Value → va_W → Prop} {own2 : String} {q0 a ci k index : Nat} {fs : List Value} {v : Value} {ty : FieldType} {ws2 : va_W} (hd : decode M.2.1 pc = .ok (.putfield index, 3)) (hf : FW M.1 index ci k) (hcl : FC ci) (hft : FT ci k ty false own2) (he : ws[q0]? = some (a, .inr (ci, fs))) (hnr : narrow ty v = v) (hfit : fits ty v = true) (hlen : k < fs.length) (hw : ws.set q0 (a, .inr (ci, fs.set k v)) = ws2) (kk : AW E M d bc bs (pc + 3) ls (rest) ws2 post) : AW E M d bc bs (pc) ls (v :: .ref a :: rest) ws post := by
  subst hw
  intro p l e s m args below meth c H locs cells slots mc ms A la X hl hP hD hS hbc hbs
  obtain ⟨hx, hb, hml, hown, hts, hr, hlk, hin, hC, hA⟩ := id X
  obtain ⟨C, T, N, hc, hk, hin2, hli⟩ := hf
  obtain ⟨C2, T2, N2, ty0, hc2, hty, hnm⟩ := hcl
  obtain ⟨C3, T3, N3, hc3, hpt, hfin, hdecl⟩ := hft
  have e2 := Option.some.inj (hc.symm.trans hc2)
  cases e2
  have e3 := Option.some.inj (hc.symm.trans hc3)
  cases e3
  refine va_put hx hb hts hin2 ty0 hty hnm hown hC.1 hP hD hS q0 he hc k hk (hts _ hli) (fun _ h9 => h9) hfin hpt hnr hfit hlen hd (fun H1 locs1 hP1 hD1 hS1 => ?_)
  exact kk p l e s m args below meth c H1 locs1 cells slots mc ms A la X hl hP1 hD1 hS1 hbc hbs
theorem p_turn_A {C : Nat → List Int32} {lt : Int32} {i : Nat} {s : FS} {j : Nat} (h0 : j ≠ 0) (h3 : j ≠ 3) : (p_turn C lt i s).2 j = s.2 j := by
  unfold p_turn
  split
  · simp only [va_up]
    rw [if_neg h3]
  · simp only [va_up]
    rw [if_neg h3, if_neg h0]
theorem p_turns_A {C : Nat → List Int32} {lt : Nat → Int32} {s : FS} {j : Nat} (h0 : j ≠ 0) (h3 : j ≠ 3) : ∀ n, (p_turns C lt n s).2 j = s.2 j := by
  intro n
  induction n with
  | zero => rfl
  | succ n ih => exact (p_turn_A h0 h3).trans ih
def MEN (s : FS) (m : Nat) : Prop := ∀ i, i < m → MOK (s.2 2 i) (s.2 4 i) (s.2 5 i)
theorem MEN.turns {s : FS} {m : Nat} (h : MEN s m) (C : Nat → List Int32) (lt : Nat → Int32) (n : Nat) : MEN (p_turns C lt n s) m := by
  intro i hi
  rw [p_turns_A (by decide) (by decide), p_turns_A (by decide) (by decide), p_turns_A (by decide) (by decide)]
  exact h i hi
theorem cG {gf gl : Nat → Int32} {af : Nat → Nat → Int32} {s : FS} (h : cfs gf af gl = s) : gf 0 = s.1 0 ∧ gf 1 = s.1 1 ∧ gf 2 = s.1 2 ∧ gf 3 = s.1 3 ∧ gl 2 = s.1 4 ∧ gl 3 = s.1 5 := by subst h; exact ⟨rfl, rfl, rfl, rfl, rfl, rfl⟩
theorem cA {gf gl : Nat → Int32} {af : Nat → Nat → Int32} {s : FS} (h : cfs gf af gl = s) : af 0 = s.2 0 ∧ af 1 = s.2 1 ∧ af 2 = s.2 2 ∧ af 3 = s.2 3 ∧ af 4 = s.2 4 ∧ af 5 = s.2 5 := by subst h; exact ⟨rfl, rfl, rfl, rfl, rfl, rfl⟩
theorem cf_next {gf gl : Nat → Int32} {af : Nat → Nat → Int32} {r : Nat} (hr : r ≤ 999) (hg : gf 2 = nI r) : cfs (upd gf 2 (if 999 < gf 2 + 1 then 999 else gf 2 + 1)) af gl = p_next (cfs gf af gl) := by
  have e : (if 999 < gf 2 + 1 then 999 else gf 2 + 1) = if gf 2 < 999 then gf 2 + 1 else 999 := by
    rw [hg, nI_1]
    by_cases h : r < 999
    · rw [if_neg (show ¬ (999 : Int32) < nI (r + 1) from nI_nlt (a := 999) (by omega) (by omega)), if_pos (show nI r < 999 from nI_lt (b := 999) h (by decide))]
    · rw [if_pos (show (999 : Int32) < nI (r + 1) from nI_lt (a := 999) (by omega) (by omega)), if_neg (show ¬ nI r < 999 from nI_nlt (b := 999) (by omega) (by omega))]
  rw [e]
  refine cfs_eq rfl rfl rfl rfl rfl rfl (fun k hk => ?_) rfl rfl rfl rfl rfl rfl (fun k hk => cfs_az (gf := gf) (gl := gl) hk)
  show upd (cfs gf af gl).1 2 _ k = 0
  simp only [upd]
  rw [if_neg (by omega)]
  exact cfs_z hk
def p_al (C : Nat → List Int32) (c i : Nat) (s : FS) : FS := (upd s.1 3 (s.1 3 + p_got C s i c (p_gp s i)), va_up s.2 0 (upd (s.2 0) c (s.2 0 c - p_got C s i c (p_gp s i))))
def p_als (C : Nat → List Int32) (c : Nat) : Nat → FS → FS
  | 0, s => s
  | n + 1, s => p_al C c n (p_als C c n s)
theorem p_als_G {C : Nat → List Int32} {c : Nat} {s : FS} {k : Nat} (hk : k ≠ 3) : ∀ n, (p_als C c n s).1 k = s.1 k := by
  intro n
  induction n with
  | zero => rfl
  | succ n ih =>
    show upd (p_als C c n s).1 3 _ k = _
    simp only [upd]
    rw [if_neg hk]
    exact ih
theorem p_als_A {C : Nat → List Int32} {c : Nat} {s : FS} {j : Nat} (hj : j ≠ 0) : ∀ n, (p_als C c n s).2 j = s.2 j := by
  intro n
  induction n with
  | zero => rfl
  | succ n ih =>
    show va_up (p_als C c n s).2 0 _ j = _
    simp only [va_up]
    rw [if_neg hj]
    exact ih
theorem cf_al {gf gl : Nat → Int32} {af : Nat → Nat → Int32} {C : Nat → List Int32} {i c : Nat} {s : Nat → Int32} (hs : ∀ k, k < 6 → s k = p_env (cfs gf af gl) i c (p_gp (cfs gf af gl) i) k) : cfs (upd gf 3 (gf 3 + af 0 c * wiI (pev C 0 s) 0 1000 / 1000)) (va_up af 0 (upd (af 0) c (af 0 c - af 0 c * wiI (pev C 0 s) 0 1000 / 1000))) gl = p_al C c i (cfs gf af gl) := by
  have hgot : af 0 c * wiI (pev C 0 s) 0 1000 / 1000 = p_got C (cfs gf af gl) i c (p_gp (cfs gf af gl) i) := by rw [pev_cg hs]; rfl
  rw [hgot]
  refine cfs_eq rfl rfl rfl rfl rfl rfl (fun k hk2 => ?_) rfl rfl rfl rfl rfl rfl (fun k hk2 => ?_)
  · show upd (cfs gf af gl).1 3 _ k = 0
    simp only [upd]
    rw [if_neg (by omega)]
    exact cfs_z hk2
  · show va_up (cfs gf af gl).2 0 _ k = _
    simp only [va_up]
    rw [if_neg (by omega)]
    exact cfs_az (gf := gf) (gl := gl) hk2
def p_lt (gl : Nat → Int32) : Nat → Int32 := if gl 0 = 0 then zro else dzs (gl 1)
def p_zt (gl : Nat → Int32) (n : Nat) : Int32 := if gl 0 = 0 then gl 1 else zit n (gl 1)
set_option maxRecDepth 100000 in
set_option maxHeartbeats 400000 in
theorem l_passL (E : ag) (ql : Nat → Nat) (gl : Nat → Int32) (al : Nat → Nat → Int32) (qf : Nat → Nat) (gf : Nat → Int32) (af : Nat → Nat → Int32) (qx : Nat → Nat) (gx : Nat → Int32) (ax : Nat → Nat → Int32) (m : Nat) (C : Nat → List Int32) (hC : TKC ax C) (hF : FI (cfs gf af gl) m) (hb : ¬ gf 1 ≤ 0) (hM : MEN (cfs gf af gl) m) (sh : Int32) (hsh : 0 < m → sh = gf 1 / gf 0) : ∀ (n c : Nat), c + n = m → ∀ (gl1 : Nat → Int32) (al1 : Nat → Nat → Int32) (gf1 : Nat → Int32) (af1 : Nat → Nat → Int32), cfs gf1 af1 gl1 = p_turns C (p_lt gl) c (cfs gf af gl) → gf1 4 = gf 4 → gl1 0 = gl 0 → gl1 1 = p_zt gl c → AW E mX0_pass 4 0 0 24 [some (.ref (ql 0)), some (.ref (qf 0)), some (.ref (qx 0)), some (.int sh), some (.int (nI c))] [] (wLT E ql gl1 al1 qf gf1 af1 qx gx ax) (rv (fun w => ∃ (gl2 : Nat → Int32) (al2 : Nat → Nat → Int32) (gf2 : Nat → Int32) (af2 : Nat → Nat → Int32), w = wLT E ql gl2 al2 qf gf2 af2 qx gx ax ∧ cfs gf2 af2 gl2 = p_round C (p_lt gl) (cfs gf af gl) ∧ gf2 4 = gf 4 ∧ gl2 0 = gl 0 ∧ gl2 1 = p_zt gl m)) := by
  intro n
  induction n with
  | zero =>
    intro c hc
    have hF0 := hF
    intro gl1 al1 gf1 af1 hc1 h4 hd hz
    obtain ⟨e0, e1, e2, e3, -, -⟩ := cG hc1
    obtain ⟨hm, hgm, hbb, r, hr, hgr⟩ := hF
    rw [p_turns_G (by decide)] at e0 e1 e2
    obtain rfl : m = c := by omega
    refine A_iload (dX0_pass 13 rfl) rfl ?_
    refine A_aload_n (dX0_pass 14 rfl) rfl ?_
    refine A_get (dX0_pass 15 rfl) fwX0_32 wLT_3 cF_f0_6 ?_
    refine A_icmp_ge 48 (dX0_pass 16 rfl) (by decide) (fun h30 => ?_) (fun h30 => absurd (show gf1 0 ≤ nI m by rw [e0, hgm]; exact nI_le (Nat.le_refl _) (by omega)) h30)
    refine A_aload_n (dX0_pass 25 rfl) rfl ?_
    refine A_aload_n (dX0_pass 26 rfl) rfl ?_
    refine A_get (dX0_pass 27 rfl) fwX0_44 wLT_3 cF_f0_8 ?_
    refine A_iconst (1) (dX0_pass 28 rfl) (by decide +kernel) ?_
    refine A_iadd (dX0_pass 29 rfl) ?_
    refine A_sipush (999) (dX0_pass 30 rfl) (by decide +kernel) ?_
    refine A_min (dX0_pass 31 rfl) mmX0_47 (Nat.le_of_ble_eq_true rfl) (Nat.le_of_ble_eq_true rfl) ?_
    refine A_putO (dX0_pass 32 rfl) fwX0_44 fcX1 ftX1_8 wLT_3 rfl rfl cF_l0 (wLT_p3_8 _) ?_
    refine AW.pcq (pc2 := 64) rfl ?_
    refine A_rv (dX0_pass 33 rfl) rfl ?_
    exact ⟨gl1, al1, _, af1, rfl, by rw [cf_next hr (e2.trans hgr), hc1, p_round_m hF0], h4, hd, hz⟩
  | succ n ih =>
    intro c hc
    have hlt : c < m := by omega
    intro gl1 al1 gf1 af1 hc1 h4 hd hz
    obtain ⟨e0, e1, e2, e3, -, -⟩ := cG hc1
    obtain ⟨hm, hgm, hbb, r, hr, hgr⟩ := hF
    rw [p_turns_G (by decide)] at e0 e1 e2
    refine A_iload (dX0_pass 13 rfl) rfl ?_
    refine A_aload_n (dX0_pass 14 rfl) rfl ?_
    refine A_get (dX0_pass 15 rfl) fwX0_32 wLT_3 cF_f0_6 ?_
    refine A_icmp_ge 48 (dX0_pass 16 rfl) (by decide) (fun h30 => absurd h30 (show ¬ gf1 0 ≤ nI c by rw [e0, hgm]; exact nI_ge hlt (by omega))) (fun h30 => ?_)
    refine A_aload_n (dX0_pass 17 rfl) rfl ?_
    refine A_aload_n (dX0_pass 18 rfl) rfl ?_
    refine A_aload_n (dX0_pass 19 rfl) rfl ?_
    refine A_iload (dX0_pass 20 rfl) rfl ?_
    refine AW.pcq (pc2 := 38) rfl ?_
    refine A_iload_n (dX0_pass 21 rfl) rfl ?_
    refine A_callVWv 4 (dX0_pass 22 rfl) cbX0_takeTurn cwX0_40 (l_takeTurn E ql gl1 al1 qf gf1 af1 qx gx ax m r c sh C hC hm (e0.trans hgm) hr (e2.trans hgr) (by rw [e1]; exact hb) hlt (by obtain ⟨-, -, z2, -, z4, z5⟩ := cA hc1; rw [z2, z4, z5]; exact (hM.turns C (p_lt gl) c) c hlt) (by rw [e1, e0]; exact hsh (by omega))) rfl rfl wLT_0 rfl rfl (Nat.le_of_ble_eq_true rfl) (Nat.le_of_ble_eq_true rfl) (Nat.le_of_ble_eq_true rfl) (Nat.le_of_ble_eq_true rfl) (Nat.le_of_ble_eq_true rfl) ?_
    rintro w1 ⟨gl2, al2, gf2, af2, rfl, hc2, h42, hd2, hz2⟩
    refine AW.pcq (pc2 := 42) rfl ?_
    refine A_iinc (ls2 := [_, _, _, _, _]) (nI (c + 1)) (dX0_pass 23 rfl) rfl (nI_1 c) (by decide) rfl rfl ?_
    refine A_goto 24 (dX0_pass 24 rfl) (by decide) ?_
    refine ih (c + 1) (by omega) gl2 al2 gf2 af2 ?_ (h42.trans h4) (hd2.trans hd) ?_
    · rw [hc2, hc1, hd, hz]
      refine congrArg (fun z => p_turn C z c (p_turns C (p_lt gl) c (cfs gf af gl))) ?_
      unfold p_lt p_zt
      by_cases hd0 : gl 0 = 0
      · rw [if_pos hd0, if_pos hd0]; rfl
      · rw [if_neg hd0, if_neg hd0, if_neg hd0]; rfl
    · rw [hz2, hd, hz]
      unfold p_zt
      by_cases hd0 : gl 0 = 0
      · rw [if_pos hd0, if_pos hd0, if_pos hd0]
      · rw [if_neg hd0, if_neg hd0, if_neg hd0]; rfl

set_option maxRecDepth 100000 in
set_option maxHeartbeats 400000 in
theorem l_pass (E : ag) (ql : Nat → Nat) (gl : Nat → Int32) (al : Nat → Nat → Int32) (qf : Nat → Nat) (gf : Nat → Int32) (af : Nat → Nat → Int32) (qx : Nat → Nat) (gx : Nat → Int32) (ax : Nat → Nat → Int32) (m : Nat) (C : Nat → List Int32) (hC : TKC ax C) (hF : FI (cfs gf af gl) m) (hb : ¬ gf 1 ≤ 0) (hM : MEN (cfs gf af gl) m) : CT E yX0_pass cX0_pass 5 mX0_pass.2.2.2.1 4 0 0 [.ref (ql 0), .ref (qf 0), .ref (qx 0)] (wLT E ql gl al qf gf af qx gx ax) (rv (fun w => ∃ (gl2 : Nat → Int32) (al2 : Nat → Nat → Int32) (gf2 : Nat → Int32) (af2 : Nat → Nat → Int32), w = wLT E ql gl2 al2 qf gf2 af2 qx gx ax ∧ cfs gf2 af2 gl2 = p_round C (p_lt gl) (cfs gf af gl) ∧ gf2 4 = gf 4 ∧ gl2 0 = gl 0 ∧ gl2 1 = p_zt gl m)) := by
  refine CT.of (M := mX0_pass) (ls := [some (.ref (ql 0)), some (.ref (qf 0)), some (.ref (qx 0)), none, none]) (by decide) rfl (by decide) rfl (Nat.le_of_ble_eq_true rfl) ?_
  refine A_aload_n (dX0_pass 0 rfl) rfl ?_
  refine A_get (dX0_pass 1 rfl) fwX0_32 wLT_3 cF_f0_6 ?_
  refine A_if_le 19 (dX0_pass 2 rfl) (by decide) (fun h4 => ?_) (fun h4 => ?_)
  · have hm0 : m = 0 := by
      rcases Nat.eq_zero_or_pos m with z | z
      · exact z
      · exact absurd h4 (by rw [show gf 0 = nI m from hF.2.1]; exact nI_nle z (by have := hF.1; omega))
    refine A_iconst (0) (dX0_pass 9 rfl) (by decide +kernel) ?_
    refine A_istore_n (ls2 := [_, _, _, _, _]) (dX0_pass 10 rfl) (by decide) rfl rfl ?_
    refine A_iconst (0) (dX0_pass 11 rfl) (by decide +kernel) ?_
    refine A_istore (ls2 := [_, _, _, _, _]) (dX0_pass 12 rfl) (by decide) rfl rfl ?_
    first
      | exact l_passL E ql gl al qf gf af qx gx ax m C hC hF hb hM _ (fun z => by omega) m 0 (by omega) gl al gf af rfl rfl rfl (by unfold p_zt; split <;> rfl)
      | exact l_passL E ql gl al qf gf af qx gx ax m C hC hF hb hM _ (fun z => rfl) m 0 (by omega) gl al gf af rfl rfl rfl (by unfold p_zt; split <;> rfl)
  · have hm0 : 0 < m := by
      rcases Nat.eq_zero_or_pos m with z | z
      · exact absurd (show gf 0 ≤ 0 by rw [show gf 0 = nI m from hF.2.1, z]; decide) h4
      · exact z
    refine A_aload_n (dX0_pass 3 rfl) rfl ?_
    refine A_get (dX0_pass 4 rfl) fwX0_37 wLT_3 cF_f0_7 ?_
    refine A_aload_n (dX0_pass 5 rfl) rfl ?_
    refine A_get (dX0_pass 6 rfl) fwX0_32 wLT_3 cF_f0_6 ?_
    refine A_idiv (dX0_pass 7 rfl) (by rw [show gf 0 = nI m from hF.2.1]; exact dv_men hm0 hF.1) ?_
    refine A_goto 20 (dX0_pass 8 rfl) (by decide) ?_
    refine A_istore_n (ls2 := [_, _, _, _, _]) (dX0_pass 10 rfl) (by decide) rfl rfl ?_
    refine A_iconst (0) (dX0_pass 11 rfl) (by decide +kernel) ?_
    refine A_istore (ls2 := [_, _, _, _, _]) (dX0_pass 12 rfl) (by decide) rfl rfl ?_
    first
      | exact l_passL E ql gl al qf gf af qx gx ax m C hC hF hb hM _ (fun z => by omega) m 0 (by omega) gl al gf af rfl rfl rfl (by unfold p_zt; split <;> rfl)
      | exact l_passL E ql gl al qf gf af qx gx ax m C hC hF hb hM _ (fun z => rfl) m 0 (by omega) gl al gf af rfl rfl rfl (by unfold p_zt; split <;> rfl)

set_option maxRecDepth 100000 in
set_option maxHeartbeats 400000 in
theorem l_allL (E : ag) (ql : Nat → Nat) (gl : Nat → Int32) (al : Nat → Nat → Int32) (qf : Nat → Nat) (gf : Nat → Int32) (af : Nat → Nat → Int32) (qx : Nat → Nat) (gx : Nat → Int32) (ax : Nat → Nat → Int32) (m cl : Nat) (C : Nat → List Int32) (hC : TKC ax C) (hF : FI (cfs gf af gl) m) (hb : ¬ gf 1 ≤ 0) (hM : MEN (cfs gf af gl) m) (hcl : cl < 12) : ∀ (n c : Nat), c + n = m → ∀ (al1 : Nat → Nat → Int32) (gf1 : Nat → Int32) (af1 : Nat → Nat → Int32), cfs gf1 af1 gl = p_als C cl c (cfs gf af gl) → AW E mX0_allStrike 3 0 0 3 [some (.ref (ql 0)), some (.ref (qf 0)), some (.ref (qx 0)), some (.int (nI cl)), some (.int (nI c))] [] (wLT E ql gl al1 qf gf1 af1 qx gx ax) (rv (fun w => ∃ (al2 : Nat → Nat → Int32) (gf2 : Nat → Int32) (af2 : Nat → Nat → Int32), w = wLT E ql gl al2 qf gf2 af2 qx gx ax ∧ cfs gf2 af2 gl = p_als C cl m (cfs gf af gl))) := by
  intro n
  induction n with
  | zero =>
    intro c hc
    intro al1 gf1 af1 hc1
    obtain ⟨e0, e1, e2, e3, -, -⟩ := cG hc1
    obtain ⟨hm, hgm, hbb, r, hr, hgr⟩ := hF
    rw [p_als_G (by decide)] at e0 e1 e2
    obtain rfl : m = c := by omega
    refine A_iload (dX0_allStrike 2 rfl) rfl ?_
    refine A_aload_n (dX0_allStrike 3 rfl) rfl ?_
    refine A_get (dX0_allStrike 4 rfl) fwX0_32 wLT_3 cF_f0_6 ?_
    refine A_icmp_ge 50 (dX0_allStrike 5 rfl) (by decide) (fun h9 => ?_) (fun h9 => absurd (show gf1 0 ≤ nI m by rw [e0, hgm]; exact nI_le (Nat.le_refl _) (by omega)) h9)
    refine A_rv (dX0_allStrike 26 rfl) rfl ?_
    exact ⟨al1, gf1, af1, rfl, hc1⟩
  | succ n ih =>
    intro c hc
    have hlt : c < m := by omega
    intro al1 gf1 af1 hc1
    obtain ⟨e0, e1, e2, e3, -, -⟩ := cG hc1
    obtain ⟨hm, hgm, hbb, r, hr, hgr⟩ := hF
    rw [p_als_G (by decide)] at e0 e1 e2
    have hk : MOK (af1 2 c) (af1 4 c) (af1 5 c) := by obtain ⟨-, -, z2, -, z4, z5⟩ := cA hc1; rw [z2, z4, z5, p_als_A (by decide), p_als_A (by decide), p_als_A (by decide)]; exact hM c hlt
    refine A_iload (dX0_allStrike 2 rfl) rfl ?_
    refine A_aload_n (dX0_allStrike 3 rfl) rfl ?_
    refine A_get (dX0_allStrike 4 rfl) fwX0_32 wLT_3 cF_f0_6 ?_
    refine A_icmp_ge 50 (dX0_allStrike 5 rfl) (by decide) (fun h9 => absurd h9 (show ¬ gf1 0 ≤ nI c by rw [e0, hgm]; exact nI_ge hlt (by omega))) (fun h9 => ?_)
    refine A_aload_n (dX0_allStrike 6 rfl) rfl ?_
    refine A_aload_n (dX0_allStrike 7 rfl) rfl ?_
    refine A_iload (dX0_allStrike 8 rfl) rfl ?_
    refine A_iload_n (dX0_allStrike 9 rfl) rfl ?_
    refine AW.pcq (pc2 := 17) rfl ?_
    refine A_aload_n (dX0_allStrike 10 rfl) rfl ?_
    refine A_iload (dX0_allStrike 11 rfl) rfl ?_
    refine A_callVi 1 (dX0_allStrike 12 rfl) cbX1_gapOf cwX0_53 (f_gapOf E qf gf1 af1 (nI c) (vp_in_nI (by omega) (by decide)) (by rw [e0, hgm]; exact ix_ahead m hm (by omega)) (ix_pred c (by omega)) (by rw [e1]; exact hb)) rfl rfl wF_0 rfl rfl [3, 4, 5, 6, 7, 8, 9] rfl rfl (Nat.le_of_ble_eq_true rfl) (Nat.le_of_ble_eq_true rfl) (Nat.le_of_ble_eq_true rfl) (Nat.le_of_ble_eq_true rfl) (Nat.le_of_ble_eq_true rfl) (by rintro _ _ ⟨_, rfl⟩; exact (Nat.le_of_ble_eq_true rfl)) ?_
    rintro r20 w1 ⟨rfl, rfl⟩
    refine AW.world (ws2 := wLT E ql gl al1 qf gf1 af1 qx gx ax) rfl ?_
    generalize hgp : p_gap (gf1 0) (gf1 1) (af1 3) (nI c) = gp
    refine AW.pcq (pc2 := 23) rfl ?_
    refine A_callVv 4 (dX0_allStrike 13 rfl) cbX0_look cwX0_57 (l_look E ql gl al1 qf gf1 af1 c cl gp (by omega) hcl hk) rfl rfl wLF_0 rfl rfl [0, 1, 2, 3, 4, 5, 6, 7, 8, 9] rfl rfl (Nat.le_of_ble_eq_true rfl) (Nat.le_of_ble_eq_true rfl) (Nat.le_of_ble_eq_true rfl) (Nat.le_of_ble_eq_true rfl) (Nat.le_of_ble_eq_true rfl) (by rintro _ ⟨_, _, rfl⟩; exact (Nat.le_of_ble_eq_true rfl)) ?_
    rintro w1 ⟨s, hs0, rfl⟩
    refine AW.world (ws2 := wLT E ql gl (va_up al1 0 s) qf gf1 af1 qx gx ax) rfl ?_
    refine AW.pcq (pc2 := 26) rfl ?_
    refine A_aload_n (dX0_allStrike 14 rfl) rfl ?_
    refine A_iload_n (dX0_allStrike 15 rfl) rfl ?_
    refine A_aload_n (dX0_allStrike 16 rfl) rfl ?_
    refine A_iconst (0) (dX0_allStrike 17 rfl) (by decide +kernel) ?_
    refine A_aload_n (dX0_allStrike 18 rfl) rfl ?_
    refine A_get (dX0_allStrike 19 rfl) fwX0_9 wLT_0 cL_f0_0 ?_
    refine A_aload_n (dX0_allStrike 20 rfl) rfl ?_
    refine A_get (dX0_allStrike 21 rfl) fwX0_15 wLT_0 cL_f0_1 ?_
    refine AW.pcq (pc2 := 38) rfl ?_
    refine A_callVi 3 (dX0_allStrike 22 rfl) cbX4_tells cwX0_61 (k_tells E qx gx ax (fun k => ql (k + 1)) gl (va_up al1 0 s) 0 (by decide) C hC) rfl rfl wTS_0 rfl rfl [10, 11, 12, 1, 2] rfl rfl (Nat.le_of_ble_eq_true rfl) (Nat.le_of_ble_eq_true rfl) (Nat.le_of_ble_eq_true rfl) (Nat.le_of_ble_eq_true rfl) (Nat.le_of_ble_eq_true rfl) (by rintro _ _ ⟨_, _, rfl⟩; exact (Nat.le_of_ble_eq_true rfl)) ?_
    rintro rf w1 ⟨rfl, f2, rfl⟩
    refine AW.world (ws2 := wLT E ql gl (va_up (va_up al1 0 s) 1 f2) qf gf1 af1 qx gx ax) rfl ?_
    refine AW.pcq (pc2 := 41) rfl ?_
    refine A_callVv 2 (dX0_allStrike 23 rfl) cbX1_getOut cwX0_67 (f_getOut E qf gf1 af1 cl hcl (pev C 0 s)) rfl rfl wF_0 rfl rfl [3, 4, 5, 6, 7, 8, 9] rfl rfl (Nat.le_of_ble_eq_true rfl) (Nat.le_of_ble_eq_true rfl) (Nat.le_of_ble_eq_true rfl) (Nat.le_of_ble_eq_true rfl) (Nat.le_of_ble_eq_true rfl) (by rintro _ rfl; exact (Nat.le_of_ble_eq_true rfl)) ?_
    rintro w1 rfl
    refine AW.world (ws2 := wLT E ql gl (va_up (va_up al1 0 s) 1 f2) qf (upd gf1 3 (gf1 3 + af1 0 cl * wiI (pev C 0 s) 0 1000 / 1000)) (va_up af1 0 (upd (af1 0) cl (af1 0 cl - af1 0 cl * wiI (pev C 0 s) 0 1000 / 1000))) qx gx ax) rfl ?_
    refine AW.pcq (pc2 := 44) rfl ?_
    refine A_iinc (ls2 := [_, _, _, _, _]) (nI (c + 1)) (dX0_allStrike 24 rfl) rfl (nI_1 c) (by decide) rfl rfl ?_
    refine A_goto 3 (dX0_allStrike 25 rfl) (by decide) ?_
    exact ih (c + 1) (by omega) _ _ _ (by rw [cf_al (i := c) (fun k hk => by rw [hs0 k hk, ← hgp]; rfl), hc1]; rfl)

set_option maxRecDepth 100000 in
set_option maxHeartbeats 400000 in
theorem l_allStrike (E : ag) (ql : Nat → Nat) (gl : Nat → Int32) (al : Nat → Nat → Int32) (qf : Nat → Nat) (gf : Nat → Int32) (af : Nat → Nat → Int32) (qx : Nat → Nat) (gx : Nat → Int32) (ax : Nat → Nat → Int32) (m cl : Nat) (C : Nat → List Int32) (hC : TKC ax C) (hF : FI (cfs gf af gl) m) (hb : ¬ gf 1 ≤ 0) (hM : MEN (cfs gf af gl) m) (hcl : cl < 12) : CT E yX0_allStrike cX0_allStrike 5 mX0_allStrike.2.2.2.1 3 0 0 [.ref (ql 0), .ref (qf 0), .ref (qx 0), .int (nI cl)] (wLT E ql gl al qf gf af qx gx ax) (rv (fun w => ∃ (al2 : Nat → Nat → Int32) (gf2 : Nat → Int32) (af2 : Nat → Nat → Int32), w = wLT E ql gl al2 qf gf2 af2 qx gx ax ∧ cfs gf2 af2 gl = p_als C cl m (cfs gf af gl))) := by
  refine CT.of (M := mX0_allStrike) (ls := [some (.ref (ql 0)), some (.ref (qf 0)), some (.ref (qx 0)), some (.int (nI cl)), none]) (by decide) rfl (by decide) rfl (Nat.le_of_ble_eq_true rfl) ?_
  refine A_iconst (0) (dX0_allStrike 0 rfl) (by decide +kernel) ?_
  refine A_istore (ls2 := [_, _, _, _, _]) (dX0_allStrike 1 rfl) (by decide) rfl rfl ?_
  exact l_allL E ql gl al qf gf af qx gx ax m cl C hC hF hb hM hcl m 0 (by omega) al gf af rfl

