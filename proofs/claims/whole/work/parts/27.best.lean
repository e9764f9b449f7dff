def bst (f : Nat → Int32) : Nat → Nat → Int32 → Int32 → Int32 × Int32
  | 0, _, x, y => (x, y)
  | n + 1, k, x, y => if y < f k then bst f n (k + 1) (nI k) (f k) else bst f n (k + 1) x y
def p_turned (s : FS) : FS := (s.1, va_up (va_up s.2 0 (fun k => s.2 0 (11 - k))) 1 (fun k => dw (s.2 1 k)))
theorem rf_turned {g : Nat → Int32} {a : Nat → Nat → Int32} : rfs g (turnA a) = p_turned (rfs g a) := by
  refine rfs_eq rfl rfl rfl rfl rfl rfl (fun k hk => rfs_z (a := a) hk) rfl rfl rfl rfl rfl rfl (fun k hk => ?_)
  show va_up (va_up (rfs g a).2 0 _) 1 _ k = _
  simp only [va_up]
  rw [if_neg (by omega), if_neg (by omega)]
  exact rfs_az (g := g) hk
theorem AD.turn {g h : Nat → Int32} {a b : Nat → Nat → Int32} (d : AD g a h b) : AD g a h (turnA b) := (d.ua (by decide)).ua (by decide)
def p_whenV (C : Nat → List Int32) (s : FS) (k : Nat) : Int32 := (p_rounds C (12 - k) (p_turned (p_rounds C k (p_try s)))).1 3 - s.1 3
def p_gain (C : Nat → List Int32) (n : Nat) (s : FS) : Int32 := (p_rounds C n (p_try s)).1 3 - s.1 3
theorem n12 {c : Nat} (h : c ≤ 12) : (12 : Int32) - nI c = nI (12 - c) := pk_sub (a := 12) h
/-- the men without who -/
def p_lv (c who : Nat) (f : Nat → Int32) : Nat → Int32 := fun k => if who ≤ k ∧ k + 1 < c then f (k + 1) else f k
def p_lvA (c who : Nat) (A : Nat → Nat → Int32) : Nat → Nat → Int32 := va_up (va_up (va_up (va_up A 2 (p_lv c who (A 2))) 3 (p_lv c who (A 3))) 4 (p_lv c who (A 4))) 5 (p_lv c who (A 5))
def p_leave (m who : Nat) (s : FS) : FS := (upd s.1 0 (nI (m - 1)), p_lvA m who s.2)
def p_homeV (C : Nat → List Int32) (m : Nat) (s : FS) (who : Nat) : Int32 := (p_rounds C 12 (p_leave m who (p_try s))).1 3 - s.1 3
theorem p_lv_0 {c who : Nat} (h : c ≤ who + 1) (f : Nat → Int32) : p_lv c who f = f := by
  funext k
  simp only [p_lv]
  rw [if_neg (by omega)]
theorem p_lv_a {c who : Nat} (h : c < who) (f : Nat → Int32) : upd (p_lv c who f) c (f c) = p_lv (c + 1) who f := by
  rw [p_lv_0 (by omega), p_lv_0 (by omega)]
  funext k
  simp only [upd]
  split
  · rename_i e; rw [e]
  · rfl
theorem p_lv_b {c who : Nat} (h : who < c) (f : Nat → Int32) : upd (p_lv c who f) (c - 1) (f c) = p_lv (c + 1) who f := by
  funext k
  simp only [upd, p_lv]
  by_cases e : k = c - 1
  · subst e
    rw [if_pos rfl, if_pos (by omega), show c - 1 + 1 = c by omega]
  · rw [if_neg e]
    by_cases e2 : who ≤ k ∧ k + 1 < c
    · rw [if_pos e2, if_pos (by omega)]
    · rw [if_neg e2, if_neg (by omega)]
def mLv (c who : Nat) (b : Nat → Nat → Int32) : Nat → Nat → Int32 := va_up (va_up (va_up (va_up b 6 (p_lv c who (b 6))) 7 (p_lv c who (b 7))) 8 (p_lv c who (b 8))) 9 (p_lv c who (b 9))
theorem mLv_0 {c who : Nat} (h : c ≤ who + 1) (b : Nat → Nat → Int32) : mLv c who b = b := by
  unfold mLv
  rw [p_lv_0 h, p_lv_0 h, p_lv_0 h, p_lv_0 h]
  funext i
  simp only [va_up]
  repeat (split; (rename_i e; rw [e]))
  rfl
theorem AD.lv {g h : Nat → Int32} {a b : Nat → Nat → Int32} (d : AD g a h b) {c who : Nat} : AD g a h (mLv c who b) := (((d.ua (by decide)).ua (by decide)).ua (by decide)).ua (by decide)
theorem rf_leave {g : Nat → Int32} {a : Nat → Nat → Int32} {m who : Nat} : rfs (upd g 13 (nI (m - 1))) (mLv m who a) = p_leave m who (rfs g a) := by
  refine rfs_eq rfl rfl rfl rfl rfl rfl (fun k hk => ?_) rfl rfl rfl rfl rfl rfl (fun k hk => ?_)
  · show upd (rfs g a).1 0 _ k = 0
    simp only [upd]
    rw [if_neg (by omega)]
    exact rfs_z hk
  · show p_lvA m who (rfs g a).2 k = _
    simp only [p_lvA, va_up]
    rw [if_neg (by omega), if_neg (by omega), if_neg (by omega), if_neg (by omega)]
    exact rfs_az (g := g) hk
theorem FI.leave {s : FS} {m who : Nat} (h : FI s m) : FI (p_leave m who s) (m - 1) := ⟨by have := h.1; omega, rfl, h.2.2.1, h.2.2.2⟩
set_option maxRecDepth 100000 in
set_option maxHeartbeats 400000 in
theorem m_whenL (E : ag) (q : Nat → Nat) (g : Nat → Int32) (tw : Int64) (a : Nat → Nat → Int32) (t m : Nat) (C : Nat → List Int32) (hg4 : g 4 = nI t) (hK : TOK (a 1) (a 2) t C) (hF : FI (rfs g a) m) : ∀ (n c : Nat), c + n = 12 → ∀ (h1 : Nat → Int32) (tw1 : Int64) (b1 : Nat → Nat → Int32) (x y : Int32) (x4 : Option Value), noL [x4] = true → rfs h1 b1 = p_try (rfs g a) → AD g a h1 b1 → BK g a h1 b1 → AW E mX6_when 48 0 0 28 [some (.ref (q 0)), some (.int y), some (.int x), some (.int (nI c)), x4] [] (MW E q h1 tw1 b1) (ri (fun r w => r = (bst (p_whenV C (rfs g a)) n c x y).1 ∧ QW E q g a w)) := by
  intro n
  induction n with
  | zero =>
    intro c hc
    intro h1 tw1 b1 x y x4 hx hf1 hd1 hb1
    obtain rfl : c = 12 := by omega
    refine A_iload_n (dX6_when 17 rfl) rfl ?_
    refine A_bipush (12) (dX6_when 18 rfl) (by decide +kernel) ?_
    refine A_icmp_ge 83 (dX6_when 19 rfl) (by decide) (fun h31 => ?_) (fun h31 => absurd (show (12 : Int32) ≤ nI 12 by decide) h31)
    refine A_iload_n (dX6_when 47 rfl) rfl ?_
    refine A_ri (dX6_when 48 rfl) rfl rfl ?_
    exact ⟨rfl, h1, tw1, b1, rfl, hb1⟩
  | succ n ih =>
    intro c hc
    have hlt : c < 12 := by omega
    intro h1 tw1 b1 x y x4 hx hf1 hd1 hb1
    refine A_iload_n (dX6_when 17 rfl) rfl ?_
    refine A_bipush (12) (dX6_when 18 rfl) (by decide +kernel) ?_
    refine A_icmp_ge 83 (dX6_when 19 rfl) (by decide) (fun h31 => absurd h31 (nI_ge (a := c) (b := 12) hlt (by decide))) (fun h31 => ?_)
    refine A_aload_n (dX6_when 20 rfl) rfl ?_
    refine A_iload_n (dX6_when 21 rfl) rfl ?_
    refine A_callVWv 1 (dX6_when 22 rfl) cbX6_goesOn cwX6_337 (m_goesOnT E q g a t m C hg4 hK h1 tw1 b1 _ hf1 hd1 hF.try c (by omega)) rfl rfl MW_0 rfl rfl (Nat.le_of_ble_eq_true rfl) (Nat.le_of_ble_eq_true rfl) (Nat.le_of_ble_eq_true rfl) (Nat.le_of_ble_eq_true rfl) (Nat.le_of_ble_eq_true rfl) ?_
    rintro w1 ⟨h2, tw2, b2, rfl, hf2, hd2⟩
    refine AW.pcq (pc2 := 39) rfl ?_
    refine A_aload_n (dX6_when 23 rfl) rfl ?_
    refine A_callVWv 0 (dX6_when 24 rfl) cbX6_turns cwX6_365 (m_turns E q h2 tw2 b2) rfl rfl MW_0 rfl rfl (Nat.le_of_ble_eq_true rfl) (Nat.le_of_ble_eq_true rfl) (Nat.le_of_ble_eq_true rfl) (Nat.le_of_ble_eq_true rfl) (Nat.le_of_ble_eq_true rfl) ?_
    rintro w1 rfl
    refine AW.pcq (pc2 := 43) rfl ?_
    refine A_aload_n (dX6_when 25 rfl) rfl ?_
    refine A_bipush (12) (dX6_when 26 rfl) (by decide +kernel) ?_
    refine A_iload_n (dX6_when 27 rfl) rfl ?_
    refine A_isub (dX6_when 28 rfl) ?_
    rw [n12 (by omega)]
    refine A_callVWv 1 (dX6_when 29 rfl) cbX6_goesOn cwX6_337 (m_goesOnT E q g a t m C hg4 hK h2 tw2 (turnA b2) (p_turned (p_rounds C c (p_try (rfs g a)))) (by rw [rf_turned, hf2]) hd2.turn (hF.try.rounds C c) (12 - c) (by omega)) rfl rfl MW_0 rfl rfl (Nat.le_of_ble_eq_true rfl) (Nat.le_of_ble_eq_true rfl) (Nat.le_of_ble_eq_true rfl) (Nat.le_of_ble_eq_true rfl) (Nat.le_of_ble_eq_true rfl) ?_
    rintro w1 ⟨h4, tw4, b4, rfl, hf4, hd4⟩
    refine AW.pcq (pc2 := 51) rfl ?_
    refine A_aload_n (dX6_when 30 rfl) rfl ?_
    refine A_get (dX6_when 31 rfl) fwX6_305 MW_0 MF_16 ?_
    refine A_aload_n (dX6_when 32 rfl) rfl ?_
    refine A_get (dX6_when 33 rfl) fwX6_324 MW_0 MF_46 ?_
    refine A_isub (dX6_when 34 rfl) ?_
    refine A_istore (ls2 := [_, _, _, _, _]) (dX6_when 35 rfl) (by decide) (by have := hx; simp_all [noL, Value.category]) rfl ?_
    refine A_aload_n (dX6_when 36 rfl) rfl ?_
    refine A_callVWv 0 (dX6_when 37 rfl) cbX6_laysBack cwX6_343 (m_backQ E q g tw4 a h4 b4 hd4) rfl rfl MW_0 rfl rfl (Nat.le_of_ble_eq_true rfl) (Nat.le_of_ble_eq_true rfl) (Nat.le_of_ble_eq_true rfl) (Nat.le_of_ble_eq_true rfl) (Nat.le_of_ble_eq_true rfl) ?_
    rintro w1 ⟨h3, tw3, b3, rfl, hf3, hd3, hb3⟩
    have hv : h4 16 - h4 46 = p_whenV C (rfs g a) c := by unfold p_whenV; rw [rf16 hf4, hd4.1.2.2.2]; rfl
    rw [hv]
    refine AW.pcq (pc2 := 66) rfl ?_
    refine A_iload (dX6_when 38 rfl) rfl ?_
    refine A_iload_n (dX6_when 39 rfl) rfl ?_
    refine A_icmp_le 77 (dX6_when 40 rfl) (by decide) (fun h69 => ?_) (fun h69 => ?_)
    · rw [show bst (p_whenV C (rfs g a)) (n + 1) c x y = bst (p_whenV C (rfs g a)) n (c + 1) x y from if_neg (Int32.not_lt.mpr h69)]
      refine A_iinc (ls2 := [_, _, _, _, _]) (nI (c + 1)) (dX6_when 45 rfl) rfl (nI_1 c) (by decide) rfl rfl ?_
      refine A_goto 28 (dX6_when 46 rfl) (by decide) ?_
      exact ih (c + 1) (by omega) h3 tw3 b3 _ _ _ (by rfl) hf3 hd3 hb3
    · rw [show bst (p_whenV C (rfs g a)) (n + 1) c x y = bst (p_whenV C (rfs g a)) n (c + 1) (nI c) (p_whenV C (rfs g a) c) from if_pos (Int32.not_le.mp h69)]
      refine A_iload_n (dX6_when 41 rfl) rfl ?_
      refine A_istore_n (ls2 := [_, _, _, _, _]) (dX6_when 42 rfl) (by decide) (by have := hx; simp_all [noL, Value.category]) rfl ?_
      refine A_iload (dX6_when 43 rfl) rfl ?_
      refine A_istore_n (ls2 := [_, _, _, _, _]) (dX6_when 44 rfl) (by decide) (by have := hx; simp_all [noL, Value.category]) rfl ?_
      refine A_iinc (ls2 := [_, _, _, _, _]) (nI (c + 1)) (dX6_when 45 rfl) rfl (nI_1 c) (by decide) rfl rfl ?_
      refine A_goto 28 (dX6_when 46 rfl) (by decide) ?_
      exact ih (c + 1) (by omega) h3 tw3 b3 _ _ _ (by rfl) hf3 hd3 hb3

set_option maxRecDepth 100000 in
set_option maxHeartbeats 400000 in
theorem m_when (E : ag) (q : Nat → Nat) (g : Nat → Int32) (tw : Int64) (a : Nat → Nat → Int32) (t m : Nat) (C : Nat → List Int32) (hg4 : g 4 = nI t) (hK : TOK (a 1) (a 2) t C) (hF : FI (rfs g a) m) : CT E yX6_when cX6_when 5 mX6_when.2.2.2.1 48 0 0 [.ref (q 0)] (MW E q g tw a) (ri (fun r w => r = (bst (p_whenV C (rfs g a)) 12 0 (-1) (p_gain C 12 (rfs g a))).1 ∧ QW E q g a w)) := by
  refine CT.of (M := mX6_when) (ls := [some (.ref (q 0)), none, none, none, none]) (by decide) rfl (by decide) rfl (Nat.le_of_ble_eq_true rfl) ?_
  refine A_aload_n (dX6_when 0 rfl) rfl ?_
  refine A_callVWv 0 (dX6_when 1 rfl) cbX6_laysAside cwX6_334 (m_asideQ E q g tw a) rfl rfl MW_0 rfl rfl (Nat.le_of_ble_eq_true rfl) (Nat.le_of_ble_eq_true rfl) (Nat.le_of_ble_eq_true rfl) (Nat.le_of_ble_eq_true rfl) (Nat.le_of_ble_eq_true rfl) ?_
  rintro w1 ⟨h1, tw1, b1, rfl, hf1, hd1, hb1⟩
  refine AW.pcq (pc2 := 4) rfl ?_
  refine A_aload_n (dX6_when 2 rfl) rfl ?_
  refine A_bipush (12) (dX6_when 3 rfl) (by decide +kernel) ?_
  refine A_callVWv 1 (dX6_when 4 rfl) cbX6_goesOn cwX6_337 (m_goesOnT E q g a t m C hg4 hK h1 tw1 b1 _ hf1 hd1 hF.try 12 (by decide)) rfl rfl MW_0 rfl rfl (Nat.le_of_ble_eq_true rfl) (Nat.le_of_ble_eq_true rfl) (Nat.le_of_ble_eq_true rfl) (Nat.le_of_ble_eq_true rfl) (Nat.le_of_ble_eq_true rfl) ?_
  rintro w1 ⟨h2, tw2, b2, rfl, hf2, hd2⟩
  refine AW.pcq (pc2 := 10) rfl ?_
  refine A_aload_n (dX6_when 5 rfl) rfl ?_
  refine A_get (dX6_when 6 rfl) fwX6_305 MW_0 MF_16 ?_
  refine A_aload_n (dX6_when 7 rfl) rfl ?_
  refine A_get (dX6_when 8 rfl) fwX6_324 MW_0 MF_46 ?_
  refine A_isub (dX6_when 9 rfl) ?_
  refine A_istore_n (ls2 := [_, _, _, _, _]) (dX6_when 10 rfl) (by decide) rfl rfl ?_
  refine A_aload_n (dX6_when 11 rfl) rfl ?_
  refine A_callVWv 0 (dX6_when 12 rfl) cbX6_laysBack cwX6_343 (m_backQ E q g tw2 a h2 b2 hd2) rfl rfl MW_0 rfl rfl (Nat.le_of_ble_eq_true rfl) (Nat.le_of_ble_eq_true rfl) (Nat.le_of_ble_eq_true rfl) (Nat.le_of_ble_eq_true rfl) (Nat.le_of_ble_eq_true rfl) ?_
  rintro w1 ⟨h3, tw3, b3, rfl, hf3, hd3, hb3⟩
  have hv : h2 16 - h2 46 = p_gain C 12 (rfs g a) := by unfold p_gain; rw [rf16 hf2, hd2.1.2.2.2]; rfl
  rw [hv]
  refine AW.pcq (pc2 := 24) rfl ?_
  refine A_iconst (-1) (dX6_when 13 rfl) (by decide +kernel) ?_
  refine A_istore_n (ls2 := [_, _, _, _, _]) (dX6_when 14 rfl) (by decide) rfl rfl ?_
  refine A_iconst (0) (dX6_when 15 rfl) (by decide +kernel) ?_
  refine A_istore_n (ls2 := [_, _, _, _, _]) (dX6_when 16 rfl) (by decide) rfl rfl ?_
  exact m_whenL E q g tw a t m C hg4 hK hF 12 0 rfl h3 tw3 b3 _ _ none rfl hf3 hd3 hb3

set_option maxRecDepth 100000 in
set_option maxHeartbeats 400000 in
theorem m_homeI3 (E : ag) (q : Nat → Nat) (g : Nat → Int32) (tw : Int64) (a : Nat → Nat → Int32) (t m : Nat) (C : Nat → List Int32) (hg4 : g 4 = nI t) (hK : TOK (a 1) (a 2) t C) (hF : FI (rfs g a) m) (h1 : Nat → Int32) (tw1 : Int64) (b1 : Nat → Nat → Int32) (hf1 : rfs h1 b1 = p_try (rfs g a)) (hd1 : AD g a h1 b1) (hb1 : BK g a h1 b1) (who : Nat) (hwho : who < m) (x y : Int32) (post : Option Value → va_W → Prop) (K : AW E mX6_home 48 0 0 74 [some (.ref (q 0)), some (.int y), some (.int x), some (.int (nI who)), some (.int (nI (m - 1))), some (.int (nI m))] [] (MW E q h1 tw1 (mLv m who b1)) post) : ∀ (n c : Nat), c + n = m → who < c → AW E mX6_home 48 0 0 42 [some (.ref (q 0)), some (.int y), some (.int x), some (.int (nI who)), some (.int (nI (c - 1))), some (.int (nI c))] [] (MW E q h1 tw1 (mLv c who b1)) post := by
  have hm5 := hF.1
  have e12 : b1 12 = b1 6 := by rw [hd1.2.1 2 (by decide), hb1.2 6 (by decide)]
  have e13 : b1 13 = b1 7 := by rw [hd1.2.1 3 (by decide), hb1.2 7 (by decide)]
  have e14 : b1 14 = b1 8 := by rw [hd1.2.1 4 (by decide), hb1.2 8 (by decide)]
  have e15 : b1 15 = b1 9 := by rw [hd1.2.1 5 (by decide), hb1.2 9 (by decide)]
  intro n
  induction n with
  | zero =>
    intro c hc hcw
    obtain rfl : m = c := by omega
    refine A_iload (dX6_home 25 rfl) rfl ?_
    refine A_aload_n (dX6_home 26 rfl) rfl ?_
    refine A_get (dX6_home 27 rfl) fwX6_315 MW_0 MF_43 ?_
    refine A_icmp_ge 74 (dX6_home 28 rfl) (by decide) (fun h48 => ?_) (fun h48 => absurd (show h1 43 ≤ nI m by rw [(show h1 43 = nI m by rw [hd1.1.1]; exact hF.2.1)]; exact nI_le (Nat.le_refl _) (by omega)) h48)
    exact K
  | succ n ih =>
    intro c hc hcw
    have hlt : c < m := by omega
    refine A_iload (dX6_home 25 rfl) rfl ?_
    refine A_aload_n (dX6_home 26 rfl) rfl ?_
    refine A_get (dX6_home 27 rfl) fwX6_315 MW_0 MF_43 ?_
    refine A_icmp_ge 74 (dX6_home 28 rfl) (by decide) (fun h48 => absurd h48 (show ¬ h1 43 ≤ nI c by rw [(show h1 43 = nI m by rw [hd1.1.1]; exact hF.2.1)]; exact nI_ge hlt (by omega))) (fun h48 => ?_)
    refine A_iload (dX6_home 29 rfl) rfl ?_
    refine A_iload_n (dX6_home 30 rfl) rfl ?_
    refine A_icmp_eq 68 (dX6_home 31 rfl) (by decide) (fun h54 => absurd ((nI_eq (a := c) (b := who) (by omega) (by omega)).mp h54) (by omega)) (fun h54 => ?_)
    refine A_aload_n (dX6_home 32 rfl) rfl ?_
    refine AW.pcq (pc2 := 58) rfl ?_
    refine A_iload (dX6_home 33 rfl) rfl ?_
    refine A_iload (dX6_home 34 rfl) rfl ?_
    refine A_callVWv 2 (dX6_home 35 rfl) cbX6_comes cwX6_327 (m_comes E q h1 tw1 (mLv c who b1) (nI (c - 1)) (nI c) (vp_in_nI (by omega) (by decide)) (vp_in_nI (by omega) (by decide))) rfl rfl MW_0 rfl rfl (Nat.le_of_ble_eq_true rfl) (Nat.le_of_ble_eq_true rfl) (Nat.le_of_ble_eq_true rfl) (Nat.le_of_ble_eq_true rfl) (Nat.le_of_ble_eq_true rfl) ?_
    rintro w1 rfl
    simp only [nI_clamp (n := c - 1) (by omega), nI_clamp (n := c) (by omega)]
    refine AW.world (ws2 := MW E q h1 tw1 (mLv (c + 1) who b1)) ?_ ?_
    · refine congrArg (MW E q h1 tw1) ?_
      funext i
      simp only [mLv, va_up]
      by_cases z6 : i = 6
      · subst z6; simp; rw [show b1 12 = b1 6 from e12]; exact p_lv_b hcw _
      by_cases z7 : i = 7
      · subst z7; simp; rw [show b1 13 = b1 7 from e13]; exact p_lv_b hcw _
      by_cases z8 : i = 8
      · subst z8; simp; rw [show b1 14 = b1 8 from e14]; exact p_lv_b hcw _
      by_cases z9 : i = 9
      · subst z9; simp; rw [show b1 15 = b1 9 from e15]; exact p_lv_b hcw _
      simp [z6, z7, z8, z9]
    refine AW.pcq (pc2 := 65) rfl ?_
    refine A_iinc (ls2 := [_, _, _, _, _, _]) (nI (c + 1 - 1)) (dX6_home 36 rfl) rfl (show nI (c - 1) + 1 = nI (c + 1 - 1) by rw [nI_1]; congr 1; omega) (by decide) rfl rfl ?_
    refine A_iinc (ls2 := [_, _, _, _, _, _]) (nI (c + 1)) (dX6_home 37 rfl) rfl (nI_1 c) (by decide) rfl rfl ?_
    refine A_goto 42 (dX6_home 38 rfl) (by decide) ?_
    exact ih (c + 1) (by omega) (by omega)
set_option maxRecDepth 100000 in
set_option maxHeartbeats 400000 in
theorem m_homeI1 (E : ag) (q : Nat → Nat) (g : Nat → Int32) (tw : Int64) (a : Nat → Nat → Int32) (t m : Nat) (C : Nat → List Int32) (hg4 : g 4 = nI t) (hK : TOK (a 1) (a 2) t C) (hF : FI (rfs g a) m) (h1 : Nat → Int32) (tw1 : Int64) (b1 : Nat → Nat → Int32) (hf1 : rfs h1 b1 = p_try (rfs g a)) (hd1 : AD g a h1 b1) (hb1 : BK g a h1 b1) (who : Nat) (hwho : who < m) (x y : Int32) (post : Option Value → va_W → Prop) (K : AW E mX6_home 48 0 0 74 [some (.ref (q 0)), some (.int y), some (.int x), some (.int (nI who)), some (.int (nI (m - 1))), some (.int (nI m))] [] (MW E q h1 tw1 (mLv m who b1)) post) : ∀ (n c : Nat), c + n = who → AW E mX6_home 48 0 0 42 [some (.ref (q 0)), some (.int y), some (.int x), some (.int (nI who)), some (.int (nI c)), some (.int (nI c))] [] (MW E q h1 tw1 (mLv c who b1)) post := by
  have hm5 := hF.1
  have e12 : b1 12 = b1 6 := by rw [hd1.2.1 2 (by decide), hb1.2 6 (by decide)]
  have e13 : b1 13 = b1 7 := by rw [hd1.2.1 3 (by decide), hb1.2 7 (by decide)]
  have e14 : b1 14 = b1 8 := by rw [hd1.2.1 4 (by decide), hb1.2 8 (by decide)]
  have e15 : b1 15 = b1 9 := by rw [hd1.2.1 5 (by decide), hb1.2 9 (by decide)]
  intro n
  induction n with
  | zero =>
    intro c hc
    obtain rfl : c = who := by omega
    refine A_iload (dX6_home 25 rfl) rfl ?_
    refine A_aload_n (dX6_home 26 rfl) rfl ?_
    refine A_get (dX6_home 27 rfl) fwX6_315 MW_0 MF_43 ?_
    refine A_icmp_ge 74 (dX6_home 28 rfl) (by decide) (fun h48 => absurd h48 (show ¬ h1 43 ≤ nI c by rw [(show h1 43 = nI m by rw [hd1.1.1]; exact hF.2.1)]; exact nI_ge hwho (by omega))) (fun h48 => ?_)
    refine A_iload (dX6_home 29 rfl) rfl ?_
    refine A_iload_n (dX6_home 30 rfl) rfl ?_
    refine A_icmp_eq 68 (dX6_home 31 rfl) (by decide) (fun h54 => ?_) (fun h54 => absurd rfl h54)
    refine A_iinc (ls2 := [_, _, _, _, _, _]) (nI (c + 1)) (dX6_home 37 rfl) rfl (nI_1 c) (by decide) rfl rfl ?_
    refine A_goto 42 (dX6_home 38 rfl) (by decide) ?_
    have h9 := m_homeI3 E q g tw a t m C hg4 hK hF h1 tw1 b1 hf1 hd1 hb1 c hwho x y post K (m - (c + 1)) (c + 1) (by omega) (by omega)
    rw [show c + 1 - 1 = c by omega, mLv_0 (Nat.le_refl _)] at h9
    rw [mLv_0 (Nat.le_succ _)]
    exact h9
  | succ n ih =>
    intro c hc
    have hlt : c < m := by omega
    refine A_iload (dX6_home 25 rfl) rfl ?_
    refine A_aload_n (dX6_home 26 rfl) rfl ?_
    refine A_get (dX6_home 27 rfl) fwX6_315 MW_0 MF_43 ?_
    refine A_icmp_ge 74 (dX6_home 28 rfl) (by decide) (fun h48 => absurd h48 (show ¬ h1 43 ≤ nI c by rw [(show h1 43 = nI m by rw [hd1.1.1]; exact hF.2.1)]; exact nI_ge hlt (by omega))) (fun h48 => ?_)
    refine A_iload (dX6_home 29 rfl) rfl ?_
    refine A_iload_n (dX6_home 30 rfl) rfl ?_
    refine A_icmp_eq 68 (dX6_home 31 rfl) (by decide) (fun h54 => absurd ((nI_eq (a := c) (b := who) (by omega) (by omega)).mp h54) (by omega)) (fun h54 => ?_)
    refine A_aload_n (dX6_home 32 rfl) rfl ?_
    refine AW.pcq (pc2 := 58) rfl ?_
    refine A_iload (dX6_home 33 rfl) rfl ?_
    refine A_iload (dX6_home 34 rfl) rfl ?_
    refine A_callVWv 2 (dX6_home 35 rfl) cbX6_comes cwX6_327 (m_comes E q h1 tw1 (mLv c who b1) (nI c) (nI c) (vp_in_nI (by omega) (by decide)) (vp_in_nI (by omega) (by decide))) rfl rfl MW_0 rfl rfl (Nat.le_of_ble_eq_true rfl) (Nat.le_of_ble_eq_true rfl) (Nat.le_of_ble_eq_true rfl) (Nat.le_of_ble_eq_true rfl) (Nat.le_of_ble_eq_true rfl) ?_
    rintro w1 rfl
    simp only [nI_clamp (n := c) (by omega)]
    refine AW.world (ws2 := MW E q h1 tw1 (mLv (c + 1) who b1)) ?_ ?_
    · refine congrArg (MW E q h1 tw1) ?_
      funext i
      simp only [mLv, va_up]
      by_cases z6 : i = 6
      · subst z6; simp; rw [show b1 12 = b1 6 from e12]; exact p_lv_a (by omega) _
      by_cases z7 : i = 7
      · subst z7; simp; rw [show b1 13 = b1 7 from e13]; exact p_lv_a (by omega) _
      by_cases z8 : i = 8
      · subst z8; simp; rw [show b1 14 = b1 8 from e14]; exact p_lv_a (by omega) _
      by_cases z9 : i = 9
      · subst z9; simp; rw [show b1 15 = b1 9 from e15]; exact p_lv_a (by omega) _
      simp [z6, z7, z8, z9]
    refine AW.pcq (pc2 := 65) rfl ?_
    refine A_iinc (ls2 := [_, _, _, _, _, _]) (nI (c + 1)) (dX6_home 36 rfl) rfl (nI_1 c) (by decide) rfl rfl ?_
    refine A_iinc (ls2 := [_, _, _, _, _, _]) (nI (c + 1)) (dX6_home 37 rfl) rfl (nI_1 c) (by decide) rfl rfl ?_
    refine A_goto 42 (dX6_home 38 rfl) (by decide) ?_
    exact ih (c + 1) (by omega)
