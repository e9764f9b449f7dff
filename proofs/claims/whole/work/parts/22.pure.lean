/-! PURE: a text's bytes, what a rule tells, a floor (G: men, bar, round, out, knocks, hit; A: ears, wet, kinds, beats, forces, numbers), a turn, rounds -/
def Bof (f : Nat → Int32) (s n : Nat) : Nat → Int32 := fun k => if k < n then f (s + k) else -1
def TOK (a1 a2 : Nat → Int32) (t : Nat) (C : Nat → List Int32) : Prop := t < 6 ∧ ∃ n f j : Nat, n ≤ 160 ∧ a2 t = nI n ∧ (∀ k, k < n → ¬ a1 (160 * t + k) < 0) ∧ txt (Bof a1 (160 * t) n) f = some (true, j, C 0, C 1, C 2)
theorem TXC_of {g : Nat → Int32} {a : Nat → Nat → Int32} {t n : Nat} (ht : t < 6) (hn : n ≤ 160) (hb : ∀ k, k < n → ¬ a 1 (160 * t + k) < 0) (h23 : g 23 = nI (160 * t)) (h24 : g 24 = nI n) : TXC g a (160 * t) n (Bof (a 1) (160 * t) n) :=
  ⟨h23, h24, by omega, hn, fun k hk => if_pos hk, fun k hk => if_neg (by omega), fun k hk => by rw [show Bof (a 1) (160 * t) n k = a 1 (160 * t + k) from if_pos hk]; exact hb k hk⟩
def pev (C : Nat → List Int32) (k : Nat) (e : Nat → Int32) : Int32 := (evs e (C k) []).headD 0
def senv (f w gp er rd nm : Int32) : Nat → Int32 := fun k => if k = 0 then f else if k = 1 then w else if k = 2 then gp else if k = 3 then er else if k = 4 then rd else if k = 5 then nm else 0
abbrev FS : Type := (Nat → Int32) × (Nat → Nat → Int32)
def p_cell (s : FS) (i : Nat) : Nat := ((s.1 2).toNatClampNeg * (s.1 0).toNatClampNeg + i) % 12
def p_gp (s : FS) (i : Nat) : Int32 := p_gap (s.1 0) (s.1 1) (s.2 3) (nI i)
def p_env (s : FS) (i c : Nat) (gp : Int32) : Nat → Int32 := senv (p_str (s.2 2 i) (s.2 4 i) (s.2 5 i) (s.1 2)) (s.2 1 c) gp (s.2 0 c) (s.1 2) (s.2 5 i)
def p_got (C : Nat → List Int32) (s : FS) (i c : Nat) (gp : Int32) : Int32 := s.2 0 c * wiI (pev C 0 (p_env s i c gp)) 0 1000 / 1000
def p_hit (C : Nat → List Int32) (s : FS) (i c : Nat) (gp : Int32) : Int32 := s.1 5 ||| ((if pev C 2 (p_env s i c gp) = 0 then 0 else 1) <<< (nI i &&& 31))
def p_beat (C : Nat → List Int32) (s : FS) (i c : Nat) (gp lt : Int32) : Int32 := mo (s.2 3 i - p_mnd (s.2 2 i) (s.2 5 i) (gp - s.1 1 / s.1 0) + wiI (pev C 1 (p_env s i c gp)) (-99) 99 + lt) (s.1 1)
def p_turn (C : Nat → List Int32) (lt : Int32) (i : Nat) (s : FS) : FS :=
  if p_gp s i < 8 then (upd (upd s.1 4 (s.1 4 + 1)) 5 (p_hit C s i (p_cell s i) (p_gp s i)), va_up s.2 3 (upd (s.2 3) i (p_beat C s i (p_cell s i) (p_gp s i) lt)))
  else (upd s.1 3 (s.1 3 + p_got C s i (p_cell s i) (p_gp s i)), va_up (va_up s.2 0 (upd (s.2 0) (p_cell s i) (s.2 0 (p_cell s i) - p_got C s i (p_cell s i) (p_gp s i)))) 3 (upd (s.2 3) i (p_beat C s i (p_cell s i) (p_gp s i) lt)))
def p_turns (C : Nat → List Int32) (lt : Nat → Int32) : Nat → FS → FS
  | 0, s => s
  | n + 1, s => p_turn C (lt n) n (p_turns C lt n s)
def p_next (s : FS) : FS := (upd s.1 2 (if s.1 2 < 999 then s.1 2 + 1 else 999), s.2)
def p_round (C : Nat → List Int32) (lt : Nat → Int32) (s : FS) : FS := p_next (p_turns C lt (s.1 0).toNatClampNeg s)
def zro : Nat → Int32 := fun _ => 0
def p_rounds (C : Nat → List Int32) : Nat → FS → FS
  | 0, s => s
  | n + 1, s => p_round C zro (p_rounds C n s)
/-- what is asked of a floor that rounds are gone through on: men, bar, the round -/
def FI (s : FS) (m : Nat) : Prop := m ≤ 5 ∧ s.1 0 = nI m ∧ ¬ s.1 1 = 0 ∧ ∃ r, r ≤ 999 ∧ s.1 2 = nI r
theorem p_turn_G {C : Nat → List Int32} {lt : Int32} {i : Nat} {s : FS} {k : Nat} (hk : k < 3) : (p_turn C lt i s).1 k = s.1 k := by
  unfold p_turn
  split
  · show upd (upd s.1 4 _) 5 _ k = _
    simp only [upd]
    rw [if_neg (by omega), if_neg (by omega)]
  · show upd s.1 3 _ k = _
    simp only [upd]
    rw [if_neg (by omega)]
theorem p_turns_G {C : Nat → List Int32} {lt : Nat → Int32} {s : FS} {k : Nat} (hk : k < 3) : ∀ n, (p_turns C lt n s).1 k = s.1 k := by
  intro n
  induction n with
  | zero => rfl
  | succ n ih => exact (p_turn_G hk).trans ih
theorem FI.turns {s : FS} {m : Nat} (h : FI s m) (C : Nat → List Int32) (lt : Nat → Int32) (n : Nat) : FI (p_turns C lt n s) m := by
  obtain ⟨h1, h2, h3, r, h4, h5⟩ := h
  exact ⟨h1, (p_turns_G (by decide) n).trans h2, by rw [p_turns_G (by decide) n]; exact h3, r, h4, (p_turns_G (by decide) n).trans h5⟩
theorem next_r : ∀ r, r ≤ 999 → ∃ r2, r2 ≤ 999 ∧ (if nI r < 999 then nI r + 1 else 999) = nI r2 := by
  intro r hr
  by_cases h : r < 999
  · refine ⟨r + 1, by omega, ?_⟩
    rw [if_pos (show nI r < 999 from nI_lt (b := 999) h (by decide)), nI_1]
  · refine ⟨999, by omega, ?_⟩
    rw [if_neg (show ¬ nI r < 999 from nI_nlt (b := 999) (by omega) (by omega))]
    rfl
theorem FI.next {s : FS} {m : Nat} (h : FI s m) : FI (p_next s) m := by
  obtain ⟨h1, h2, h3, r, h4, h5⟩ := h
  obtain ⟨r2, q1, q2⟩ := next_r r h4
  exact ⟨h1, h2, h3, r2, q1, by show (if s.1 2 < 999 then s.1 2 + 1 else 999) = nI r2; rw [h5]; exact q2⟩
theorem FI.round {s : FS} {m : Nat} (h : FI s m) (C : Nat → List Int32) (lt : Nat → Int32) : FI (p_round C lt s) m := (h.turns C lt _).next
theorem FI.rounds {s : FS} {m : Nat} (h : FI s m) (C : Nat → List Int32) : ∀ n, FI (p_rounds C n s) m := by
  intro n
  induction n with
  | zero => exact h
  | succ n ih => exact ih.round C zro
def rfs (g : Nat → Int32) (a : Nat → Nat → Int32) : FS := (fun k => if k < 4 then g (13 + k) else if k < 6 then g (31 + k) else 0, fun k => if k < 6 then a (4 + k) else fun _ => 0)
theorem rfs_eq {g2 : Nat → Int32} {a2 : Nat → Nat → Int32} {s : FS} (h0 : g2 13 = s.1 0) (h1 : g2 14 = s.1 1) (h2 : g2 15 = s.1 2) (h3 : g2 16 = s.1 3) (h4 : g2 35 = s.1 4) (h5 : g2 36 = s.1 5) (hz : ∀ k, 6 ≤ k → s.1 k = 0)
    (b0 : a2 4 = s.2 0) (b1 : a2 5 = s.2 1) (b2 : a2 6 = s.2 2) (b3 : a2 7 = s.2 3) (b4 : a2 8 = s.2 4) (b5 : a2 9 = s.2 5) (bz : ∀ k, 6 ≤ k → s.2 k = fun _ => 0) : rfs g2 a2 = s := by
  refine Prod.ext (funext fun k => ?_) (funext fun k => ?_)
  · show (if k < 4 then g2 (13 + k) else if k < 6 then g2 (31 + k) else 0) = s.1 k
    match k with
    | 0 => exact h0
    | 1 => exact h1
    | 2 => exact h2
    | 3 => exact h3
    | 4 => exact h4
    | 5 => exact h5
    | k + 6 => rw [if_neg (by omega), if_neg (by omega)]; exact (hz _ (by omega)).symm
  · show (if k < 6 then a2 (4 + k) else fun _ => 0) = s.2 k
    match k with
    | 0 => exact b0
    | 1 => exact b1
    | 2 => exact b2
    | 3 => exact b3
    | 4 => exact b4
    | 5 => exact b5
    | k + 6 => rw [if_neg (by omega)]; exact (bz _ (by omega)).symm
theorem rfs_z {g : Nat → Int32} {a : Nat → Nat → Int32} {k : Nat} (hk : 6 ≤ k) : (rfs g a).1 k = 0 := by show (if k < 4 then _ else _) = (0 : Int32); rw [if_neg (by omega), if_neg (by omega)]
theorem rfs_az {g : Nat → Int32} {a : Nat → Nat → Int32} {k : Nat} (hk : 6 ≤ k) : (rfs g a).2 k = fun _ => 0 := by show (if k < 6 then _ else _) = _; rw [if_neg (by omega)]
/-- what the reference's rounds leave as it was -/
def RO (g : Nat → Int32) (a : Nat → Nat → Int32) (g2 : Nat → Int32) (a2 : Nat → Nat → Int32) : Prop := (∀ k, ¬ (15 ≤ k ∧ k ≤ 36) → g2 k = g k) ∧ (∀ j, j ≠ 4 → j ≠ 7 → a2 j = a j)
theorem RO.rf {g : Nat → Int32} {a : Nat → Nat → Int32} : RO g a g a := ⟨fun _ _ => rfl, fun _ _ _ => rfl⟩
theorem RO.tr {g g2 g3 : Nat → Int32} {a a2 a3 : Nat → Nat → Int32} (h : RO g a g2 a2) (k : RO g2 a2 g3 a3) : RO g a g3 a3 := ⟨fun j hj => (k.1 j hj).trans (h.1 j hj), fun j h4 h7 => (k.2 j h4 h7).trans (h.2 j h4 h7)⟩
theorem RO.tok {g g2 : Nat → Int32} {a a2 : Nat → Nat → Int32} (h : RO g a g2 a2) {t : Nat} {C : Nat → List Int32} (hT : TOK (a 1) (a 2) t C) : TOK (a2 1) (a2 2) t C := by rw [h.2 1 (by decide) (by decide), h.2 2 (by decide) (by decide)]; exact hT
/-- the reference's world behind rounds that make s2 of the floor -/
def RW (E : ag) (q : Nat → Nat) (g : Nat → Int32) (a : Nat → Nat → Int32) (s2 : FS) (w : va_W) : Prop := ∃ (g2 : Nat → Int32) (tw2 : Int64) (a2 : Nat → Nat → Int32), w = MW E q g2 tw2 a2 ∧ rfs g2 a2 = s2 ∧ RO g a g2 a2
theorem ME_says {g : Nat → Int32} {x0 x1 x2 x3 x4 x5 : Int32} : ME (upd (upd (upd (upd (upd (upd g 17 x0) 18 x1) 19 x2) 20 x3) 21 x4) 22 x5) = senv x0 x1 x2 x3 x4 x5 := by
  funext k
  match k with
  | 0 => rfl
  | 1 => rfl
  | 2 => rfl
  | 3 => rfl
  | 4 => rfl
  | 5 => rfl
  | k + 6 =>
    simp only [ME, senv]
    rw [if_neg (by omega), if_neg (by omega), if_neg (by omega), if_neg (by omega), if_neg (by omega), if_neg (by omega), if_neg (by omega)]
set_option maxRecDepth 100000 in
set_option maxHeartbeats 400000 in
theorem m_says (E : ag) (q : Nat → Nat) (g : Nat → Int32) (tw : Int64) (a : Nat → Nat → Int32) (t i c : Nat) (gp : Int32) (C : Nat → List Int32) (hg4 : g 4 = nI t) (hK : TOK (a 1) (a 2) t C) (hi : i < 5) (hc : c < 12) : CT E yX6_says cX6_says 4 mX6_says.2.2.2.1 44 0 0 [.ref (q 0), .int (nI i), .int (nI c), .int gp] (MW E q g tw a) (rv (fun w => ∃ (g2 : Nat → Int32) (tw2 : Int64), w = MW E q g2 tw2 a ∧ (∀ k, ¬ (17 ≤ k ∧ k ≤ 34) → g2 k = g k) ∧ g2 32 = pev C 0 (senv (p_str (a 6 i) (a 8 i) (a 9 i) (g 15)) (a 5 c) gp (a 4 c) (g 15) (a 9 i)) ∧ g2 33 = pev C 1 (senv (p_str (a 6 i) (a 8 i) (a 9 i) (g 15)) (a 5 c) gp (a 4 c) (g 15) (a 9 i)) ∧ g2 34 = pev C 2 (senv (p_str (a 6 i) (a 8 i) (a 9 i) (g 15)) (a 5 c) gp (a 4 c) (g 15) (a 9 i)))) := by
  refine CT.of (M := mX6_says) (ls := [some (.ref (q 0)), some (.int (nI i)), some (.int (nI c)), some (.int gp)]) (by decide) rfl (by decide) rfl (Nat.le_of_ble_eq_true rfl) ?_
  obtain ⟨ht, n, f, j, hn, h2t, hbt, hpp⟩ := hK
  refine A_aload_n (dX6_says 0 rfl) rfl ?_
  refine A_aload_n (dX6_says 1 rfl) rfl ?_
  refine A_iload_n (dX6_says 2 rfl) rfl ?_
  refine A_callVWi 1 (dX6_says 3 rfl) cbX6_strikes cwX6_147 (m_strikes E q g tw a (nI i) (vp_in_nI (by omega) (by decide))) rfl rfl MW_0 rfl rfl (Nat.le_of_ble_eq_true rfl) (Nat.le_of_ble_eq_true rfl) (Nat.le_of_ble_eq_true rfl) (Nat.le_of_ble_eq_true rfl) (Nat.le_of_ble_eq_true rfl) ?_
  rintro r3 w1 ⟨rfl, rfl⟩
  simp only [nI_clamp (n := i) (by omega)]
  refine AW.pcq (pc2 := 6) rfl ?_
  refine A_put (dX6_says 4 rfl) fwX6_221 fcX6 ftX6_17 MW_0 rfl rfl ML_0 (MP_17 _) ?_
  refine A_aload_n (dX6_says 5 rfl) rfl ?_
  refine A_aload_n (dX6_says 6 rfl) rfl ?_
  refine A_get (dX6_says 7 rfl) fwX6_26 MW_0 MF_8 ?_
  refine A_iload_n (dX6_says 8 rfl) rfl ?_
  refine A_iald (dX6_says 9 rfl) MW_5 (vp_in_nI (n := c) (by omega) (by decide)) ?_
  rw [nI_clamp (n := c) (by omega)]
  refine A_put (dX6_says 10 rfl) fwX6_224 fcX6 ftX6_18 MW_0 rfl rfl ML_0 (MP_18 _) ?_
  refine A_aload_n (dX6_says 11 rfl) rfl ?_
  refine AW.pcq (pc2 := 20) rfl ?_
  refine A_iload_n (dX6_says 12 rfl) rfl ?_
  refine A_put (dX6_says 13 rfl) fwX6_227 fcX6 ftX6_19 MW_0 rfl rfl ML_0 (MP_19 _) ?_
  refine A_aload_n (dX6_says 14 rfl) rfl ?_
  refine A_aload_n (dX6_says 15 rfl) rfl ?_
  refine A_get (dX6_says 16 rfl) fwX6_23 MW_0 MF_7 ?_
  refine A_iload_n (dX6_says 17 rfl) rfl ?_
  refine A_iald (dX6_says 18 rfl) MW_4 (vp_in_nI (n := c) (by omega) (by decide)) ?_
  rw [nI_clamp (n := c) (by omega)]
  refine A_put (dX6_says 19 rfl) fwX6_230 fcX6 ftX6_20 MW_0 rfl rfl ML_0 (MP_20 _) ?_
  refine AW.pcq (pc2 := 34) rfl ?_
  refine A_aload_n (dX6_says 20 rfl) rfl ?_
  refine A_aload_n (dX6_says 21 rfl) rfl ?_
  refine A_get (dX6_says 22 rfl) fwX6_142 MW_0 MF_15 ?_
  refine A_put (dX6_says 23 rfl) fwX6_233 fcX6 ftX6_21 MW_0 rfl rfl ML_0 (MP_21 _) ?_
  refine A_aload_n (dX6_says 24 rfl) rfl ?_
  refine A_aload_n (dX6_says 25 rfl) rfl ?_
  refine A_get (dX6_says 26 rfl) fwX6_38 MW_0 MF_12 ?_
  refine A_iload_n (dX6_says 27 rfl) rfl ?_
  refine AW.pcq (pc2 := 48) rfl ?_
  refine A_iald (dX6_says 28 rfl) MW_9 (vp_in_nI (n := i) (by omega) (by decide)) ?_
  rw [nI_clamp (n := i) (by omega)]
  refine A_put (dX6_says 29 rfl) fwX6_236 fcX6 ftX6_22 MW_0 rfl rfl ML_0 (MP_22 _) ?_
  refine A_aload_n (dX6_says 30 rfl) rfl ?_
  refine A_aload_n (dX6_says 31 rfl) rfl ?_
  refine A_get (dX6_says 32 rfl) fwX6_288 MW_0 MF_4 ?_
  refine A_iconst (0) (dX6_says 33 rfl) (by decide +kernel) ?_
  refine AW.stack (st2 := [.int 0, .int (nI t), .ref (q 0)]) (by show [Value.int 0, .int (g 4), _] = _; rw [hg4]) ?_
  refine A_callVWi 2 (dX6_says 34 rfl) cbX6_read cwX6_285 (m_read E q (upd (upd (upd (upd (upd (upd g 17 (p_str (a 6 i) (a 8 i) (a 9 i) (g 15))) 18 (a 5 c)) 19 gp) 20 (a 4 c)) 21 (g 15)) 22 (a 9 i)) tw a (160 * t) n t f (Bof (a 1) (160 * t) n) 0 (true, j, C 0, C 1, C 2) ht h2t (TXC_of ht hn hbt rfl rfl) hpp) rfl rfl MW_0 rfl rfl (Nat.le_of_ble_eq_true rfl) (Nat.le_of_ble_eq_true rfl) (Nat.le_of_ble_eq_true rfl) (Nat.le_of_ble_eq_true rfl) (Nat.le_of_ble_eq_true rfl) ?_
  rintro y0 w1 ⟨rfl, g2, tw2, rfl, hk, hok, -⟩
  refine AW.pcq (pc2 := 61) rfl ?_
  refine A_pop (dX6_says 35 rfl) rfl ?_
  refine A_rv (dX6_says 36 rfl) rfl ?_
  obtain ⟨-, e0, e1, e2⟩ := hok rfl
  rw [ME_says] at e0 e1 e2
  refine ⟨g2, tw2, rfl, fun k hk2 => ?_, ?_, ?_, ?_⟩
  · rw [hk k (by omega)]
    simp only [upd]
    repeat rw [if_neg (by omega)]
  · unfold pev; rw [e0]; rfl
  · unfold pev; rw [e1]; rfl
  · unfold pev; rw [e2]; rfl

