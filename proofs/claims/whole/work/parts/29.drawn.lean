theorem A_ldcw {E : ag} {M : am} {d bc bs pc : Nat} {ls : List (Option Value)} {rest : List Value} {ws : va_W} {post : Option Value → va_W → Prop} {v : Int32} {index : Nat} (hd : decode M.2.1 pc = .ok (.ldc_w index, 3)) (hw : Cond.constant M.1 index v ∈ gtbl) (k : AW E M d bc bs (pc + 3) ls (.int v :: rest) ws post) : AW E M d bc bs pc ls rest ws post := by
  intro p l e s m args below meth c H locs cells slots mc ms A la X hl hP hD hS hbc hbs
  obtain ⟨hx, hb, hml, hown, hts, hr, hlk, hin, hC, hA⟩ := id X
  refine lv_ldcw hx hb hown (hts _ hw) hd ?_
  exact k p l e s m args below meth c H locs cells slots mc ms A la X hl hP hD hS hbc hbs
def zn (z : Int32) : Int32 := z * 1103515245 + 12345
def zit : Nat → Int32 → Int32
  | 0, z => z
  | n + 1, z => zn (zit n z)
def dz (z : Int32) : Int32 := (z.toUInt32 >>> (Int32.toUInt32 9 &&& Int32.toUInt32 31)).toInt32 - (z.toUInt32 >>> (Int32.toUInt32 9 &&& Int32.toUInt32 31)).toInt32 / 7 * 7 - 3
def dzs (z : Int32) : Nat → Int32 := fun i => dz (zit (i + 1) z)
def p_draws (C : Nat → List Int32) (m : Nat) (z : Int32) : Nat → FS → FS
  | 0, s => s
  | n + 1, s => p_round C (dzs (zit (n * m) z)) (p_draws C m z n s)
theorem zit_add (z : Int32) (k : Nat) : ∀ n, zit n (zit k z) = zit (k + n) z := by
  intro n
  induction n with
  | zero => rfl
  | succ n ih => exact congrArg zn ih
theorem FI.draws {s : FS} {m : Nat} (h : FI s m) (C : Nat → List Int32) (z : Int32) : ∀ n, FI (p_draws C m z n s) m := by
  intro n
  induction n with
  | zero => exact h
  | succ n ih => exact ih.round C _
theorem p_round_m {C : Nat → List Int32} {lt : Nat → Int32} {s : FS} {m : Nat} (h : FI s m) : p_round C lt s = p_next (p_turns C lt m s) := by unfold p_round; rw [h.2.1, nI_clamp (by have := h.1; omega)]
set_option maxRecDepth 100000 in
set_option maxHeartbeats 400000 in
theorem m_drawnI (E : ag) (q : Nat → Nat) (g : Nat → Int32) (tw : Int64) (a : Nat → Nat → Int32) (t m : Nat) (C : Nat → List Int32) (hg4 : g 4 = nI t) (hK : TOK (a 1) (a 2) t C) (hF : FI (rfs g a) m) (seed z : Int32) (nn k : Nat) (s : FS) (hs : FI s m) (post : Option Value → va_W → Prop) (K : ∀ (h3 : Nat → Int32) (tw3 : Int64) (b3 : Nat → Nat → Int32), rfs h3 b3 = p_round C (dzs z) s → AD g a h3 b3 → AW E mX6_drawn 48 0 0 24 [some (.ref (q 0)), some (.int seed), some (.int (nI nn)), some (.int (zit m z)), some (.int (nI (k + 1))), some (.int (nI m))] [] (MW E q h3 tw3 b3) post) : ∀ (n c : Nat), c + n = m → ∀ (h1 : Nat → Int32) (tw1 : Int64) (b1 : Nat → Nat → Int32), rfs h1 b1 = p_turns C (dzs z) c s → AD g a h1 b1 → AW E mX6_drawn 48 0 0 33 [some (.ref (q 0)), some (.int seed), some (.int (nI nn)), some (.int (zit c z)), some (.int (nI k)), some (.int (nI c))] [] (MW E q h1 tw1 b1) (post) := by
  intro n
  induction n with
  | zero =>
    intro c hc
    have hs0 := hs
    intro h1 tw1 b1 hf1 hd1
    obtain ⟨hm, hgm, hb, r, hr, hgr⟩ := hs
    obtain rfl : m = c := by omega
    refine A_iload (dX6_drawn 19 rfl) rfl ?_
    refine A_aload_n (dX6_drawn 20 rfl) rfl ?_
    refine A_get (dX6_drawn 21 rfl) fwX6_100 MW_0 MF_13 ?_
    refine A_icmp_ge 73 (dX6_drawn 22 rfl) (by decide) (fun h39 => ?_) (fun h39 => absurd (show h1 13 ≤ nI m by rw [(show h1 13 = nI m from (congrArg (fun s => s.1 0) hf1).trans ((p_turns_G (k := 0) (by decide) m).trans hgm))]; exact nI_le (Nat.le_refl _) (by omega)) h39)
    refine A_aload_n (dX6_drawn 41 rfl) rfl ?_
    refine A_aload_n (dX6_drawn 42 rfl) rfl ?_
    refine A_get (dX6_drawn 43 rfl) fwX6_142 MW_0 MF_15 ?_
    refine A_sipush (999) (dX6_drawn 44 rfl) (by decide +kernel) ?_
    refine A_icmp_ge 93 (dX6_drawn 45 rfl) (by decide) (fun h81 => ?_) (fun h81 => ?_)
    · refine A_sipush (999) (dX6_drawn 51 rfl) (by decide +kernel) ?_
      refine A_put (dX6_drawn 52 rfl) fwX6_142 fcX6 ftX6_15 MW_0 rfl rfl ML_0 (MP_15 _) ?_
      refine A_iinc (ls2 := [_, _, _, _, _, _]) (nI (k + 1)) (dX6_drawn 53 rfl) rfl (nI_1 k) (by decide) rfl rfl ?_
      refine A_goto 24 (dX6_drawn 54 rfl) (by decide) ?_
      refine K _ tw1 b1 ?_ (AD.up hd1 (k := 15) (by decide))
      rw [p_round_m hs0, ← hf1]
      first
        | (have z := rf_next (g := h1) (a := b1); rw [if_pos (Int32.not_le.mp h81)] at z; exact z)
        | (have z := rf_next (g := h1) (a := b1); rw [if_neg (Int32.not_lt.mpr h81)] at z; exact z)
    · refine A_aload_n (dX6_drawn 46 rfl) rfl ?_
      refine A_get (dX6_drawn 47 rfl) fwX6_142 MW_0 MF_15 ?_
      refine A_iconst (1) (dX6_drawn 48 rfl) (by decide +kernel) ?_
      refine A_iadd (dX6_drawn 49 rfl) ?_
      refine A_goto 96 (dX6_drawn 50 rfl) (by decide) ?_
      refine A_put (dX6_drawn 52 rfl) fwX6_142 fcX6 ftX6_15 MW_0 rfl rfl ML_0 (MP_15 _) ?_
      refine A_iinc (ls2 := [_, _, _, _, _, _]) (nI (k + 1)) (dX6_drawn 53 rfl) rfl (nI_1 k) (by decide) rfl rfl ?_
      refine A_goto 24 (dX6_drawn 54 rfl) (by decide) ?_
      refine K _ tw1 b1 ?_ (AD.up hd1 (k := 15) (by decide))
      rw [p_round_m hs0, ← hf1]
      first
        | (have z := rf_next (g := h1) (a := b1); rw [if_pos (Int32.not_le.mp h81)] at z; exact z)
        | (have z := rf_next (g := h1) (a := b1); rw [if_neg (Int32.not_lt.mpr h81)] at z; exact z)
  | succ n ih =>
    intro c hc
    have hlt : c < m := by omega
    intro h1 tw1 b1 hf1 hd1
    obtain ⟨hm, hgm, hb, r, hr, hgr⟩ := hs
    refine A_iload (dX6_drawn 19 rfl) rfl ?_
    refine A_aload_n (dX6_drawn 20 rfl) rfl ?_
    refine A_get (dX6_drawn 21 rfl) fwX6_100 MW_0 MF_13 ?_
    refine A_icmp_ge 73 (dX6_drawn 22 rfl) (by decide) (fun h39 => absurd h39 (show ¬ h1 13 ≤ nI c by rw [(show h1 13 = nI m from (congrArg (fun s => s.1 0) hf1).trans ((p_turns_G (k := 0) (by decide) c).trans hgm))]; exact nI_ge hlt (by omega))) (fun h39 => ?_)
    refine A_iload_n (dX6_drawn 23 rfl) rfl ?_
    refine A_ldcw (dX6_drawn 24 rfl) kcX6_375 ?_
    refine A_imul (dX6_drawn 25 rfl) ?_
    refine A_sipush (12345) (dX6_drawn 26 rfl) (by decide +kernel) ?_
    refine AW.pcq (pc2 := 50) rfl ?_
    refine A_iadd (dX6_drawn 27 rfl) ?_
    refine A_istore_n (ls2 := [_, _, _, _, _, _]) (dX6_drawn 28 rfl) (by decide) rfl rfl ?_
    refine A_aload_n (dX6_drawn 29 rfl) rfl ?_
    refine A_iload (dX6_drawn 30 rfl) rfl ?_
    refine A_iload_n (dX6_drawn 31 rfl) rfl ?_
    refine A_bipush (9) (dX6_drawn 32 rfl) (by decide +kernel) ?_
    refine A_iushr (dX6_drawn 33 rfl) ?_
    refine A_bipush (7) (dX6_drawn 34 rfl) (by decide +kernel) ?_
    refine AW.pcq (pc2 := 61) rfl ?_
    refine A_irem (dX6_drawn 35 rfl) (by decide) ?_
    refine A_iconst (3) (dX6_drawn 36 rfl) (by decide +kernel) ?_
    refine A_isub (dX6_drawn 37 rfl) ?_
    refine A_callVWv 2 (dX6_drawn 38 rfl) cbX6_strikesOnce cwX6_308 (m_strikesOnce E q h1 tw1 b1 t m r c (dz (zit (c + 1) z)) C (hd1.g4.trans hg4) (hd1.tok hK) hm (show h1 13 = nI m from (congrArg (fun s => s.1 0) hf1).trans ((p_turns_G (k := 0) (by decide) c).trans hgm)) hr ((rf15 hf1).trans ((p_turns_G (by decide) c).trans hgr)) (by rw [show h1 14 = s.1 1 from (congrArg (fun s => s.1 1) hf1).trans (p_turns_G (k := 1) (by decide) c)]; exact hb) hlt) rfl rfl MW_0 rfl rfl (Nat.le_of_ble_eq_true rfl) (Nat.le_of_ble_eq_true rfl) (Nat.le_of_ble_eq_true rfl) (Nat.le_of_ble_eq_true rfl) (Nat.le_of_ble_eq_true rfl) ?_
    rintro w1 ⟨h2, tw2, b2, rfl, hf2, ho2⟩
    refine AW.pcq (pc2 := 67) rfl ?_
    refine A_iinc (ls2 := [_, _, _, _, _, _]) (nI (c + 1)) (dX6_drawn 39 rfl) rfl (nI_1 c) (by decide) rfl rfl ?_
    refine A_goto 33 (dX6_drawn 40 rfl) (by decide) ?_
    exact ih (c + 1) (by omega) h2 tw2 b2 (by rw [hf2, hf1]; rfl) (hd1.ro ho2)

set_option maxRecDepth 100000 in
set_option maxHeartbeats 400000 in
theorem m_drawnL (E : ag) (q : Nat → Nat) (g : Nat → Int32) (tw : Int64) (a : Nat → Nat → Int32) (t m : Nat) (C : Nat → List Int32) (hg4 : g 4 = nI t) (hK : TOK (a 1) (a 2) t C) (hF : FI (rfs g a) m) (seed : Int32) (nn : Nat) (hnn : nn < 2 ^ 31) : ∀ (n c : Nat), c + n = nn → ∀ (h1 : Nat → Int32) (tw1 : Int64) (b1 : Nat → Nat → Int32) (x5 : Option Value), noL [x5] = true → rfs h1 b1 = p_draws C m seed c (p_try (rfs g a)) → AD g a h1 b1 → AW E mX6_drawn 48 0 0 24 [some (.ref (q 0)), some (.int seed), some (.int (nI nn)), some (.int (zit (c * m) seed)), some (.int (nI c)), x5] [] (MW E q h1 tw1 b1) (ri (fun r w => r = (p_draws C m seed nn (p_try (rfs g a))).1 4 ∧ QW E q g a w)) := by
  intro n
  induction n with
  | zero =>
    intro c hc
    intro h1 tw1 b1 x5 hx hf1 hd1
    obtain rfl : nn = c := by omega
    refine A_iload (dX6_drawn 14 rfl) rfl ?_
    refine A_iload_n (dX6_drawn 15 rfl) rfl ?_
    refine A_icmp_ge 105 (dX6_drawn 16 rfl) (by decide) (fun h27 => ?_) (fun h27 => absurd (nI_le (a := nn) (b := nn) (Nat.le_refl _) hnn) h27)
    refine A_aload_n (dX6_drawn 55 rfl) rfl ?_
    refine A_get (dX6_drawn 56 rfl) fwX6_295 MW_0 MF_35 ?_
    refine A_istore (ls2 := [_, _, _, _, _, _]) (dX6_drawn 57 rfl) (by decide) (by have := hx; simp_all [noL, Value.category]) rfl ?_
    refine A_aload_n (dX6_drawn 58 rfl) rfl ?_
    refine A_callVWv 0 (dX6_drawn 59 rfl) cbX6_laysBack cwX6_343 (m_backQ E q g tw1 a h1 b1 hd1) rfl rfl MW_0 rfl rfl (Nat.le_of_ble_eq_true rfl) (Nat.le_of_ble_eq_true rfl) (Nat.le_of_ble_eq_true rfl) (Nat.le_of_ble_eq_true rfl) (Nat.le_of_ble_eq_true rfl) ?_
    rintro w1 hB
    refine AW.pcq (pc2 := 115) rfl ?_
    refine A_iload (dX6_drawn 60 rfl) rfl ?_
    refine A_ri (dX6_drawn 61 rfl) rfl rfl ?_
    exact ⟨rf35 hf1, hB.qw⟩
  | succ n ih =>
    intro c hc
    have hlt : c < nn := by omega
    intro h1 tw1 b1 x5 hx hf1 hd1
    refine A_iload (dX6_drawn 14 rfl) rfl ?_
    refine A_iload_n (dX6_drawn 15 rfl) rfl ?_
    refine A_icmp_ge 105 (dX6_drawn 16 rfl) (by decide) (fun h27 => absurd h27 (nI_ge hlt (by omega))) (fun h27 => ?_)
    refine A_iconst (0) (dX6_drawn 17 rfl) (by decide +kernel) ?_
    refine A_istore (ls2 := [_, _, _, _, _, _]) (dX6_drawn 18 rfl) (by decide) (by have := hx; simp_all [noL, Value.category]) rfl ?_
    refine m_drawnI E q g tw a t m C hg4 hK hF seed (zit (c * m) seed) nn c (p_draws C m seed c (p_try (rfs g a))) (hF.try.draws C seed c) _ (fun h3 tw3 b3 hf3 hd3 => ?_) m 0 (by omega) h1 tw1 b1 hf1 hd1
    rw [zit_add, show c * m + m = (c + 1) * m by rw [Nat.succ_mul]]
    exact ih (c + 1) (by omega) h3 tw3 b3 _ (by rfl) hf3 hd3

set_option maxRecDepth 100000 in
set_option maxHeartbeats 400000 in
theorem m_drawn (E : ag) (q : Nat → Nat) (g : Nat → Int32) (tw : Int64) (a : Nat → Nat → Int32) (t m : Nat) (C : Nat → List Int32) (hg4 : g 4 = nI t) (hK : TOK (a 1) (a 2) t C) (hF : FI (rfs g a) m) (seed n : Int32) : CT E yX6_drawn cX6_drawn 6 mX6_drawn.2.2.2.1 48 0 0 [.ref (q 0), .int seed, .int n] (MW E q g tw a) (ri (fun r w => r = (if inI n 0 40 = 0 then -2 else (p_draws C m seed n.toNatClampNeg (p_try (rfs g a))).1 4) ∧ QW E q g a w)) := by
  refine CT.of (M := mX6_drawn) (ls := [some (.ref (q 0)), some (.int seed), some (.int n), none, none, none]) (by decide) rfl (by decide) rfl (Nat.le_of_ble_eq_true rfl) ?_
  refine A_iload_n (dX6_drawn 0 rfl) rfl ?_
  refine A_i2l (dX6_drawn 1 rfl) ?_
  refine A_lconst (0) (dX6_drawn 2 rfl) (by decide +kernel) ?_
  refine A_ldc2 (dX6_drawn 3 rfl) kcX6_330 ?_
  refine A_callSWi 3 (dX6_drawn 4 rfl) cbX6_in cwX6_103 (m_in E _ n 0 40 _ _ _ rfl (by decide) (by decide)) rfl rfl (Nat.le_of_ble_eq_true rfl) (Nat.le_of_ble_eq_true rfl) (Nat.le_of_ble_eq_true rfl) (Nat.le_of_ble_eq_true rfl) (Nat.le_of_ble_eq_true rfl) ?_
  rintro r6 w1 ⟨rfl, rfl⟩
  refine AW.pcq (pc2 := 9) rfl ?_
  refine A_if_ne 15 (dX6_drawn 5 rfl) (by decide) (fun h9 => ?_) (fun h9 => ?_)
  · rw [if_neg h9]
    obtain ⟨j, hj, rfl⟩ := in40 h9
    rw [nI_clamp (by omega)]
    refine A_aload_n (dX6_drawn 8 rfl) rfl ?_
    refine A_callVWv 0 (dX6_drawn 9 rfl) cbX6_laysAside cwX6_334 (m_asideQ E q g tw a) rfl rfl MW_0 rfl rfl (Nat.le_of_ble_eq_true rfl) (Nat.le_of_ble_eq_true rfl) (Nat.le_of_ble_eq_true rfl) (Nat.le_of_ble_eq_true rfl) (Nat.le_of_ble_eq_true rfl) ?_
    rintro w1 ⟨h1, tw1, b1, rfl, hf1, hd1, hb1⟩
    refine AW.pcq (pc2 := 19) rfl ?_
    refine A_iload_n (dX6_drawn 10 rfl) rfl ?_
    refine A_istore_n (ls2 := [_, _, _, _, _, _]) (dX6_drawn 11 rfl) (by decide) rfl rfl ?_
    refine A_iconst (0) (dX6_drawn 12 rfl) (by decide +kernel) ?_
    refine A_istore (ls2 := [_, _, _, _, _, _]) (dX6_drawn 13 rfl) (by decide) rfl rfl ?_
    have h9 := m_drawnL E q g tw a t m C hg4 hK hF seed j (by omega) j 0 (by omega) h1 tw1 b1 none rfl hf1 hd1
    rw [Nat.zero_mul] at h9
    exact h9
  · refine A_bipush (-2) (dX6_drawn 6 rfl) (by decide +kernel) ?_
    refine A_ri (dX6_drawn 7 rfl) rfl rfl ?_
    exact ⟨by rw [if_pos (by assumption)], QW.rf⟩

def p_on (C : Nat → List Int32) (c i : Nat) (s : FS) : FS := (s.1, va_up s.2 0 (upd (s.2 0) c (s.2 0 c - p_got C s i c (p_gp s i))))
def p_ons (C : Nat → List Int32) (c : Nat) : Nat → FS → FS
  | 0, s => s
  | n + 1, s => p_on C c n (p_ons C c n s)
theorem p_ons_G {C : Nat → List Int32} {c : Nat} {s : FS} : ∀ n, (p_ons C c n s).1 = s.1 := by
  intro n
  induction n with
  | zero => rfl
  | succ n ih => exact ih
theorem p_ons_A {C : Nat → List Int32} {c : Nat} {s : FS} {j : Nat} (hj : j ≠ 0) : ∀ n, (p_ons C c n s).2 j = s.2 j := by
  intro n
  induction n with
  | zero => rfl
  | succ n ih =>
    show va_up (p_ons C c n s).2 0 _ j = _
    simp only [va_up]
    rw [if_neg hj]
    exact ih
theorem p_ons_0 {C : Nat → List Int32} {c : Nat} {s : FS} {k : Nat} (hk : k ≠ c) : ∀ n, (p_ons C c n s).2 0 k = s.2 0 k := by
  intro n
  induction n with
  | zero => rfl
  | succ n ih =>
    show upd ((p_ons C c n s).2 0) c _ k = _
    simp only [upd]
    rw [if_neg hk]
    exact ih
theorem rf_on {g g2 : Nat → Int32} {a : Nat → Nat → Int32} {C : Nat → List Int32} {i c : Nat} (hk : ∀ k, ¬ (17 ≤ k ∧ k ≤ 34) → g2 k = g k) (e0 : g2 32 = pev C 0 (p_env (rfs g a) i c (p_gp (rfs g a) i))) : rfs g2 (va_up a 4 (upd (a 4) c (a 4 c - a 4 c * wiI (g2 32) 0 1000 / 1000))) = p_on C c i (rfs g a) := by
  rw [e0]
  refine rfs_eq (hk 13 (by decide)) (hk 14 (by decide)) (hk 15 (by decide)) (hk 16 (by decide)) (hk 35 (by decide)) (hk 36 (by decide)) (fun k hk2 => rfs_z (a := a) (g := g) hk2) rfl rfl rfl rfl rfl rfl (fun k hk2 => ?_)
  show va_up (rfs g a).2 0 _ k = _
  simp only [va_up]
  rw [if_neg (by omega)]
  exact rfs_az (g := g) hk2
theorem upd_back {f h : Nat → Int32} {c : Nat} (e : ∀ k, k ≠ c → f k = h k) : upd f c (h c) = h := by
  funext k
  simp only [upd]
  split
  · rename_i z; rw [z]
  · exact e k (by assumption)
set_option maxRecDepth 100000 in
set_option maxHeartbeats 400000 in
theorem m_onceL (E : ag) (q : Nat → Nat) (g : Nat → Int32) (tw : Int64) (a : Nat → Nat → Int32) (t m : Nat) (C : Nat → List Int32) (hg4 : g 4 = nI t) (hK : TOK (a 1) (a 2) t C) (hF : FI (rfs g a) m) (cl : Nat) (hcl : cl < 12) (part : Int32) : ∀ (n c : Nat), c + n = m → ∀ (h1 : Nat → Int32) (tw1 : Int64) (b1 : Nat → Nat → Int32), rfs h1 b1 = p_ons C cl c (rfs g a) → RO g a h1 b1 → AW E mX6_once 45 0 0 31 [some (.ref (q 0)), some (.int (nI cl)), some (.int part), some (.int (a 4 cl)), some (.int (nI c))] [] (MW E q h1 tw1 b1) (rl (fun r w => r = (if part = 0 then ((p_ons C cl m (rfs g a)).2 0 cl).toInt64 else (a 4 cl - (p_ons C cl m (rfs g a)).2 0 cl).toInt64) ∧ QW E q g a w)) := by
  intro n
  induction n with
  | zero =>
    intro c hc
    intro h1 tw1 b1 hf1 ho1
    obtain ⟨hm, hgm, hb, r, hr, hgr⟩ := hF
    obtain rfl : m = c := by omega
    refine A_iload (dX6_once 18 rfl) rfl ?_
    refine A_aload_n (dX6_once 19 rfl) rfl ?_
    refine A_get (dX6_once 20 rfl) fwX6_100 MW_0 MF_13 ?_
    refine A_icmp_ge 90 (dX6_once 21 rfl) (by decide) (fun h37 => ?_) (fun h37 => absurd (show h1 13 ≤ nI m by rw [(show h1 13 = nI m from (ho1.1 13 (by decide)).trans hgm)]; exact nI_le (Nat.le_refl _) (by omega)) h37)
    refine A_aload_n (dX6_once 50 rfl) rfl ?_
    refine A_get (dX6_once 51 rfl) fwX6_23 MW_0 MF_7 ?_
    refine A_iload_n (dX6_once 52 rfl) rfl ?_
    refine A_iald (dX6_once 53 rfl) MW_4 (vp_in_nI (n := cl) (by omega) (by decide)) ?_
    rw [nI_clamp (n := cl) (by omega)]
    refine A_istore (ls2 := [_, _, _, _, _]) (dX6_once 54 rfl) (by decide) rfl rfl ?_
    refine A_aload_n (dX6_once 55 rfl) rfl ?_
    refine A_get (dX6_once 56 rfl) fwX6_23 MW_0 MF_7 ?_
    refine A_iload_n (dX6_once 57 rfl) rfl ?_
    refine AW.pcq (pc2 := 103) rfl ?_
    refine A_iload_n (dX6_once 58 rfl) rfl ?_
    refine A_iast (dX6_once 59 rfl) MW_4 (vp_in_nI (n := cl) (by omega) (by decide)) (MS_4 _) ?_
    rw [nI_clamp (n := cl) (by omega)]
    refine A_iload_n (dX6_once 60 rfl) rfl ?_
    refine A_if_ne 115 (dX6_once 61 rfl) (by decide) (fun h106 => ?_) (fun h106 => ?_)
    · refine A_iload_n (dX6_once 65 rfl) rfl ?_
      refine A_iload (dX6_once 66 rfl) rfl ?_
      refine A_isub (dX6_once 67 rfl) ?_
      refine A_i2l (dX6_once 68 rfl) ?_
      refine A_rl (dX6_once 69 rfl) rfl ?_
      refine ⟨?_, _, tw1, _, rfl, fun k hk => ?_, fun j hj => ?_⟩
      · first | rw [if_pos h106, rfA0 hf1] | rw [if_neg h106, rfA0 hf1]
      · rcases Nat.lt_or_ge k 15 with z | z
        · exact ho1.1 k (by omega)
        · by_cases z2 : k = 15
          · rw [z2, rf15 hf1, p_ons_G]; rfl
          by_cases z3 : k = 16
          · rw [z3, rf16 hf1, p_ons_G]; rfl
          exact ho1.1 k (by omega)
      · by_cases z2 : j = 4
        · rw [z2]
          show upd (b1 4) cl (a 4 cl) = a 4
          exact upd_back (fun k hk => by rw [rfA0 hf1]; exact p_ons_0 hk m)
        · simp only [va_up]
          rw [if_neg z2]
          by_cases z3 : j = 7
          · rw [z3, rfA3 hf1]; exact p_ons_A (by decide) m
          · exact ho1.2 j z2 z3
    · refine A_iload (dX6_once 62 rfl) rfl ?_
      refine A_i2l (dX6_once 63 rfl) ?_
      refine A_goto 120 (dX6_once 64 rfl) (by decide) ?_
      refine A_rl (dX6_once 69 rfl) rfl ?_
      refine ⟨?_, _, tw1, _, rfl, fun k hk => ?_, fun j hj => ?_⟩
      · first | rw [if_pos h106, rfA0 hf1] | rw [if_neg h106, rfA0 hf1]
      · rcases Nat.lt_or_ge k 15 with z | z
        · exact ho1.1 k (by omega)
        · by_cases z2 : k = 15
          · rw [z2, rf15 hf1, p_ons_G]; rfl
          by_cases z3 : k = 16
          · rw [z3, rf16 hf1, p_ons_G]; rfl
          exact ho1.1 k (by omega)
      · by_cases z2 : j = 4
        · rw [z2]
          show upd (b1 4) cl (a 4 cl) = a 4
          exact upd_back (fun k hk => by rw [rfA0 hf1]; exact p_ons_0 hk m)
        · simp only [va_up]
          rw [if_neg z2]
          by_cases z3 : j = 7
          · rw [z3, rfA3 hf1]; exact p_ons_A (by decide) m
          · exact ho1.2 j z2 z3
  | succ n ih =>
    intro c hc
    have hlt : c < m := by omega
    intro h1 tw1 b1 hf1 ho1
    obtain ⟨hm, hgm, hb, r, hr, hgr⟩ := hF
    have hgp : p_gap (h1 13) (h1 14) (b1 7) (nI c) = p_gp (rfs h1 b1) c := rfl
    refine A_iload (dX6_once 18 rfl) rfl ?_
    refine A_aload_n (dX6_once 19 rfl) rfl ?_
    refine A_get (dX6_once 20 rfl) fwX6_100 MW_0 MF_13 ?_
    refine A_icmp_ge 90 (dX6_once 21 rfl) (by decide) (fun h37 => absurd h37 (show ¬ h1 13 ≤ nI c by rw [(show h1 13 = nI m from (ho1.1 13 (by decide)).trans hgm)]; exact nI_ge hlt (by omega))) (fun h37 => ?_)
    refine A_aload_n (dX6_once 22 rfl) rfl ?_
    refine A_iload (dX6_once 23 rfl) rfl ?_
    refine A_iload_n (dX6_once 24 rfl) rfl ?_
    refine A_aload_n (dX6_once 25 rfl) rfl ?_
    refine AW.pcq (pc2 := 45) rfl ?_
    refine A_iload (dX6_once 26 rfl) rfl ?_
    refine A_callVWi 1 (dX6_once 27 rfl) cbX6_gapOf cwX6_151 (m_gapOf E q h1 tw1 b1 (nI c) (vp_in_nI (by omega) (by decide)) (by rw [(show h1 13 = nI m from (ho1.1 13 (by decide)).trans hgm)]; exact ix_ahead m hm (by omega)) (ix_pred c (by omega)) (by rw [ho1.1 14 (by decide)]; exact hb)) rfl rfl MW_0 rfl rfl (Nat.le_of_ble_eq_true rfl) (Nat.le_of_ble_eq_true rfl) (Nat.le_of_ble_eq_true rfl) (Nat.le_of_ble_eq_true rfl) (Nat.le_of_ble_eq_true rfl) ?_
    rintro r47 w1 ⟨rfl, rfl⟩
    rw [hgp]
    refine AW.pcq (pc2 := 50) rfl ?_
    refine A_callVWv 3 (dX6_once 28 rfl) cbX6_says cwX6_291 (m_says E q h1 tw1 b1 t c cl (p_gp (rfs h1 b1) c) C ((ho1.1 4 (by decide)).trans hg4) (ho1.tok hK) (by omega) hcl) rfl rfl MW_0 rfl rfl (Nat.le_of_ble_eq_true rfl) (Nat.le_of_ble_eq_true rfl) (Nat.le_of_ble_eq_true rfl) (Nat.le_of_ble_eq_true rfl) (Nat.le_of_ble_eq_true rfl) ?_
    rintro w1 ⟨g2, tw2, rfl, hk, e0, e1, e2⟩
    refine AW.pcq (pc2 := 53) rfl ?_
    refine A_aload_n (dX6_once 29 rfl) rfl ?_
    refine A_get (dX6_once 30 rfl) fwX6_23 MW_0 MF_7 ?_
    refine A_iload_n (dX6_once 31 rfl) rfl ?_
    refine A_dup2 (dX6_once 32 rfl) rfl rfl ?_
    refine A_iald (dX6_once 33 rfl) MW_4 (vp_in_nI (n := cl) (by omega) (by decide)) ?_
    rw [nI_clamp (n := cl) (by omega)]
    refine A_aload_n (dX6_once 34 rfl) rfl ?_
    refine A_get (dX6_once 35 rfl) fwX6_23 MW_0 MF_7 ?_
    refine A_iload_n (dX6_once 36 rfl) rfl ?_
    refine AW.pcq (pc2 := 65) rfl ?_
    refine A_iald (dX6_once 37 rfl) MW_4 (vp_in_nI (n := cl) (by omega) (by decide)) ?_
    rw [nI_clamp (n := cl) (by omega)]
    refine A_aload_n (dX6_once 38 rfl) rfl ?_
    refine A_get (dX6_once 39 rfl) fwX6_276 MW_0 MF_32 ?_
    refine A_iconst (0) (dX6_once 40 rfl) (by decide +kernel) ?_
    refine A_sipush (1000) (dX6_once 41 rfl) (by decide +kernel) ?_
    refine A_callSWi 3 (dX6_once 42 rfl) cbX6_within cwX6_301 (m_within E _ (g2 32) 0 1000) rfl rfl (Nat.le_of_ble_eq_true rfl) (Nat.le_of_ble_eq_true rfl) (Nat.le_of_ble_eq_true rfl) (Nat.le_of_ble_eq_true rfl) (Nat.le_of_ble_eq_true rfl) ?_
    rintro r74 w1 ⟨rfl, rfl⟩
    refine AW.pcq (pc2 := 77) rfl ?_
    refine A_imul (dX6_once 43 rfl) ?_
    refine A_sipush (1000) (dX6_once 44 rfl) (by decide +kernel) ?_
    refine A_idiv (dX6_once 45 rfl) (by decide) ?_
    refine A_isub (dX6_once 46 rfl) ?_
    refine A_iast (dX6_once 47 rfl) MW_4 (vp_in_nI (n := cl) (by omega) (by decide)) (MS_4 _) ?_
    rw [nI_clamp (n := cl) (by omega)]
    refine A_iinc (ls2 := [_, _, _, _, _]) (nI (c + 1)) (dX6_once 48 rfl) rfl (nI_1 c) (by decide) rfl rfl ?_
    refine A_goto 31 (dX6_once 49 rfl) (by decide) ?_
    refine ih (c + 1) (by omega) _ tw2 _ (by rw [rf_on hk e0, hf1]; rfl) (ho1.tr ⟨fun k hk2 => hk k (by omega), fun j h4 h7 => ?_⟩)
    simp only [va_up]
    rw [if_neg h4]

set_option maxRecDepth 100000 in
set_option maxHeartbeats 400000 in
theorem m_once (E : ag) (q : Nat → Nat) (g : Nat → Int32) (tw : Int64) (a : Nat → Nat → Int32) (t m : Nat) (C : Nat → List Int32) (hg4 : g 4 = nI t) (hK : TOK (a 1) (a 2) t C) (hF : FI (rfs g a) m) (cl part : Int32) : CT E yX6_once cX6_once 5 mX6_once.2.2.2.1 45 0 0 [.ref (q 0), .int cl, .int part] (MW E q g tw a) (rl (fun r w => r = (if inI cl 0 11 = 0 ∨ inI part 0 1 = 0 then -4611686018427387904 else if part = 0 then ((p_ons C cl.toNatClampNeg m (rfs g a)).2 0 cl.toNatClampNeg).toInt64 else (a 4 cl.toNatClampNeg - (p_ons C cl.toNatClampNeg m (rfs g a)).2 0 cl.toNatClampNeg).toInt64) ∧ QW E q g a w)) := by
  refine CT.of (M := mX6_once) (ls := [some (.ref (q 0)), some (.int cl), some (.int part), none, none]) (by decide) rfl (by decide) rfl (Nat.le_of_ble_eq_true rfl) ?_
  refine A_iload_n (dX6_once 0 rfl) rfl ?_
  refine A_callSWi 1 (dX6_once 1 rfl) cbX6_isCell cwX6_115 (m_isCell E _ cl) rfl rfl (Nat.le_of_ble_eq_true rfl) (Nat.le_of_ble_eq_true rfl) (Nat.le_of_ble_eq_true rfl) (Nat.le_of_ble_eq_true rfl) (Nat.le_of_ble_eq_true rfl) ?_
  rintro r1 w1 ⟨rfl, rfl⟩
  refine AW.pcq (pc2 := 4) rfl ?_
  refine A_if_eq 17 (dX6_once 2 rfl) (by decide) (fun h4 => ?_) (fun h4 => ?_)
  · refine A_ldc2 (dX6_once 9 rfl) kcX6_376 ?_
    refine A_rl (dX6_once 10 rfl) rfl ?_
    exact ⟨by rw [if_pos (by first | exact Or.inl (by assumption) | exact Or.inr (by assumption))], QW.rf⟩
  · refine A_iload_n (dX6_once 3 rfl) rfl ?_
    refine A_i2l (dX6_once 4 rfl) ?_
    refine A_lconst (0) (dX6_once 5 rfl) (by decide +kernel) ?_
    refine A_lconst (1) (dX6_once 6 rfl) (by decide +kernel) ?_
    refine A_callSWi 3 (dX6_once 7 rfl) cbX6_in cwX6_103 (m_in E _ part 0 1 _ _ _ rfl (by decide) (by decide)) rfl rfl (Nat.le_of_ble_eq_true rfl) (Nat.le_of_ble_eq_true rfl) (Nat.le_of_ble_eq_true rfl) (Nat.le_of_ble_eq_true rfl) (Nat.le_of_ble_eq_true rfl) ?_
    rintro r11 w1 ⟨rfl, rfl⟩
    refine AW.pcq (pc2 := 14) rfl ?_
    refine A_if_ne 21 (dX6_once 8 rfl) (by decide) (fun h14 => ?_) (fun h14 => ?_)
    · rw [if_neg (fun z => z.elim h4 h14)]
      obtain ⟨j, hj, rfl⟩ := cell_nI h4
      simp only [nI_clamp (n := j) (by omega)]
      refine A_aload_n (dX6_once 11 rfl) rfl ?_
      refine A_get (dX6_once 12 rfl) fwX6_23 MW_0 MF_7 ?_
      refine A_iload_n (dX6_once 13 rfl) rfl ?_
      refine A_iald (dX6_once 14 rfl) MW_4 (vp_in_nI (n := j) (by omega) (by decide)) ?_
      rw [nI_clamp (n := j) (by omega)]
      refine A_istore_n (ls2 := [_, _, _, _, _]) (dX6_once 15 rfl) (by decide) rfl rfl ?_
      refine A_iconst (0) (dX6_once 16 rfl) (by decide +kernel) ?_
      refine A_istore (ls2 := [_, _, _, _, _]) (dX6_once 17 rfl) (by decide) rfl rfl ?_
      exact m_onceL E q g tw a t m C hg4 hK hF j hj part m 0 (by omega) g tw a rfl RO.rf
    · refine A_ldc2 (dX6_once 9 rfl) kcX6_376 ?_
      refine A_rl (dX6_once 10 rfl) rfl ?_
      exact ⟨by rw [if_pos (by first | exact Or.inl (by assumption) | exact Or.inr (by assumption))], QW.rf⟩

