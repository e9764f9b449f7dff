theorem try_turn {C : Nat → List Int32} {lt : Int32} {i : Nat} {s : FS} : p_try (p_turn C lt i (p_try s)) = p_try (p_turn C lt i s) := by
  have e1 : p_gp (p_try s) i = p_gp s i := rfl
  have e2 : p_cell (p_try s) i = p_cell s i := rfl
  have e3 : ∀ c gp, p_got C (p_try s) i c gp = p_got C s i c gp := fun _ _ => rfl
  have e4 : ∀ c gp, p_beat C (p_try s) i c gp lt = p_beat C s i c gp lt := fun _ _ => rfl
  unfold p_turn
  rw [e1, e2, e3, e4]
  by_cases h : p_gp s i < 8
  · rw [if_pos h, if_pos h]
    refine Prod.ext (funext fun k => ?_) rfl
    simp only [p_try, upd]
    by_cases h5 : k = 5
    · rw [if_pos h5, if_pos h5]
    · rw [if_neg h5, if_neg h5]
      by_cases h4 : k = 4
      · simp only [if_pos h4, if_neg h5]
      · simp only [if_neg h4, if_neg h5]
  · rw [if_neg h, if_neg h]
    refine Prod.ext (funext fun k => ?_) rfl
    simp only [p_try, upd]
    by_cases h5 : k = 5
    · rw [if_pos h5, if_pos h5]
    · rw [if_neg h5, if_neg h5]
      by_cases h4 : k = 4
      · simp only [if_pos h4, if_neg h5]
      · simp only [if_neg h4, if_neg h5]
        rfl
theorem try_try {s : FS} : p_try (p_try s) = p_try s := by
  refine Prod.ext (funext fun k => ?_) rfl
  simp only [p_try, upd]
  by_cases h5 : k = 5
  · rw [if_pos h5, if_pos h5]
  · simp only [if_neg h5]
    by_cases h4 : k = 4
    · rw [if_pos h4, if_pos h4]
    · simp only [if_neg h4]
theorem try_turns {C : Nat → List Int32} {lt : Nat → Int32} {s : FS} : ∀ n, p_try (p_turns C lt n (p_try s)) = p_try (p_turns C lt n s) := by
  intro n
  induction n with
  | zero => exact try_try
  | succ n ih =>
    rw [p_turns, p_turns, ← try_turn (s := p_turns C lt n (p_try s)), ih, try_turn]
theorem try_next {s : FS} : p_try (p_next s) = p_next (p_try s) := by
  refine Prod.ext (funext fun k => ?_) rfl
  show upd (upd (upd s.1 2 _) 4 0) 5 0 k = upd (upd (upd s.1 4 0) 5 0) 2 (if s.1 2 < 999 then s.1 2 + 1 else 999) k
  simp only [upd]
  by_cases h2 : k = 2
  · subst h2; rfl
  · simp only [if_neg h2]
theorem FEQ.round {m : Nat} {s t : FS} (h : FEQ m s t) (hF : FI s m) (C : Nat → List Int32) : FEQ m (p_round C zro (p_try s)) (p_round C zro t) := by
  have h1 : EQ m 0 (p_round C zro (p_try s)) (p_round C zro (p_try t)) := EQ.round (C := C) h (show FI (p_try s) m from hF) zro
  have h2 := h1.tryE
  have e : p_try (p_round C zro (p_try t)) = p_try (p_round C zro t) := by
    rw [p_round_m (show FI (p_try t) m from h.fi hF), p_round_m (h.fi hF), try_next, try_next, try_turns]
  unfold FEQ at h2 ⊢
  rw [← e]
  exact h2

theorem mo_n {x : Int32} {V : Nat} (h1 : 12 ≤ V) (h2 : V ≤ 240) : ∃ B, B ≤ 239 ∧ mo x (nI V) = nI B := by
  have hV : (nI V).toInt = (V : Int) := nI_toInt (by omega)
  have hne : nI V ≠ -1 := nIm1n (by omega)
  have hd : (x - x / nI V * nI V).toInt = x.toInt.tmod V := by
    rw [Int32.toInt_sub, Int32.toInt_mul, Int32.toInt_div_of_ne_right _ _ hne, hV, Int.sub_bmod_bmod]
    have e := Int.tdiv_mul_add_tmod x.toInt V
    rw [show x.toInt - x.toInt.tdiv V * V = x.toInt.tmod V by omega]
    have l1 := Int.tmod_lt_of_pos x.toInt (b := (V : Int)) (by omega)
    have l2 := Int.lt_tmod_of_pos x.toInt (b := (V : Int)) (by omega)
    exact Int.bmod_eq_of_le (by omega) (by omega)
  have l1 := Int.tmod_lt_of_pos x.toInt (b := (V : Int)) (by omega)
  have l2 := Int.lt_tmod_of_pos x.toInt (b := (V : Int)) (by omega)
  have h0 : (0 : Int32).toInt = 0 := by decide
  unfold mo
  generalize x - x / nI V * nI V = y at hd ⊢
  by_cases hy : y < 0
  · rw [if_pos hy]
    have hy2 := Int32.lt_iff_toInt_lt.mp hy
    have hs : (y + nI V).toInt = y.toInt + V := by
      rw [Int32.toInt_add, hV]
      exact Int.bmod_eq_of_le (by omega) (by omega)
    obtain ⟨B, hB, e⟩ := nI_of (x := y + nI V) (fun z => by have := Int32.lt_iff_toInt_lt.mp z; omega)
    refine ⟨B, ?_, e⟩
    have := congrArg Int32.toInt e
    rw [hs, nI_toInt hB] at this
    omega
  · rw [if_neg hy]
    obtain ⟨B, hB, e⟩ := nI_of hy
    refine ⟨B, ?_, e⟩
    have := congrArg Int32.toInt e
    rw [nI_toInt hB] at this
    omega
theorem INV.turn {m : Nat} {s : FS} (h : INV m s) (C : Nat → List Int32) (lt : Int32) (i : Nat) : INV m (p_turn C lt i s) := by
  obtain ⟨⟨f, g2, g3⟩, h2, h3, h4, V, v1, v2, v3⟩ := h
  have hb : ∀ c gp j, j < m → ∃ B, B ≤ 239 ∧ upd (s.2 3) i (p_beat C s i c gp lt) j = nI B := fun c gp j hj => upd_P (P := fun x => ∃ B, B ≤ 239 ∧ x = nI B) (by rw [p_beat, v3]; exact mo_n v1 v2) (h2 j hj)
  unfold p_turn
  split
  · exact ⟨⟨⟨f.1, f.2.1, f.2.2.1, f.2.2.2⟩, g2, g3⟩, fun j hj => hb _ _ j hj, h3, h4, V, v1, v2, v3⟩
  · have hc := p_cell_lt s i
    refine ⟨⟨⟨f.1, f.2.1, f.2.2.1, f.2.2.2⟩, g2, g3⟩, fun j hj => hb _ _ j hj, h3, fun c hc2 => ?_, V, v1, v2, v3⟩
    show ∃ E, E ≤ 9999 ∧ upd (s.2 0) (p_cell s i) (s.2 0 (p_cell s i) - p_got C s i (p_cell s i) (p_gp s i)) c = nI E
    obtain ⟨E, e1, e2⟩ := h4 _ hc
    obtain ⟨x, hx, hg⟩ := got_n (C := C) (i := i) (gp := p_gp s i) e2 e1
    exact upd_P (P := fun x => ∃ E, E ≤ 9999 ∧ x = nI E) ⟨E - x, by omega, by rw [e2, hg, pk_sub hx]⟩ (h4 c hc2)
theorem INV.turns {m : Nat} {s : FS} (h : INV m s) (C : Nat → List Int32) (lt : Nat → Int32) : ∀ n, INV m (p_turns C lt n s) := by
  intro n
  induction n with
  | zero => exact h
  | succ n ih => exact ih.turn C (lt n) n
theorem INV.next {m : Nat} {s : FS} (h : INV m s) : INV m (p_next s) := by
  obtain ⟨⟨⟨f1, f2, f3, r, f4, f5⟩, g2, g3⟩, h2, h3, h4, hV⟩ := h
  refine ⟨⟨⟨f1, f2, f3, ?_⟩, g2, g3⟩, h2, h3, h4, hV⟩
  show ∃ r, r ≤ 999 ∧ (if s.1 2 < 999 then s.1 2 + 1 else 999) = nI r
  by_cases z : s.1 2 < 999
  · rw [if_pos z, f5, nI_1]
    refine ⟨r + 1, ?_, rfl⟩
    rw [f5] at z
    rcases Nat.lt_or_ge r 999 with y | y
    · omega
    · exact absurd z (nI_nlt (a := r) (b := 999) y (by omega))
  · rw [if_neg z]; exact ⟨999, by decide, rfl⟩
theorem INV.round {m : Nat} {s : FS} (h : INV m s) (C : Nat → List Int32) (lt : Nat → Int32) : INV m (p_round C lt s) := by
  rw [p_round_m h.1.1]
  exact (h.turns C lt m).next
theorem dw_n {x : Int32} (h : ∃ W, W ≤ 9 ∧ x = nI W) : ∃ W, W ≤ 9 ∧ dw x = nI W := by
  obtain ⟨W, h1, rfl⟩ := h
  unfold dw
  by_cases z : nI W ≤ 0
  · rw [if_pos z]; exact ⟨0, by decide, rfl⟩
  · rw [if_neg z]
    obtain ⟨k, rfl⟩ : ∃ k, W = k + 1 := ⟨W - 1, by rcases Nat.eq_zero_or_pos W with y | y; exact absurd (by rw [y]; decide) z; omega⟩
    exact ⟨k, by omega, nI_pred k⟩
theorem INV.turned {m : Nat} {s : FS} (h : INV m s) : INV m (p_turned s) := ⟨h.1, h.2.1, fun c hc => dw_n (h.2.2.1 c hc), fun c hc => h.2.2.2.1 (11 - c) (by omega), h.2.2.2.2⟩
theorem FEQ.turned {m : Nat} {s t : FS} (h : FEQ m s t) : FEQ m (p_turned s) (p_turned t) := EQ.turned h
theorem FEQ.bars {m : Nat} {s t : FS} (h : FEQ m s t) (v : Int32) : FEQ m (p_bars m v s) (p_bars m v t) := by
  obtain ⟨a0, a1, a2, a3, a4, a5⟩ := h.a
  refine FEQ.mk ⟨h.g.1, rfl, h.g.2.2.1, h.g.2.2.2⟩ ⟨a0, a1, a2, fun i hi => ?_, a4, a5⟩
  show cp m (rmf v (s.2 3)) (s.2 3) i = cp m (rmf v (t.2 3)) (t.2 3) i
  rw [cp_in hi, cp_in hi]
  unfold rmf
  rw [a3 i hi]
theorem INV.bars {m V : Nat} {s : FS} (h : INV m s) (h1 : 12 ≤ V) (h2 : V ≤ 240) : INV m (p_bars m (nI V) s) := by
  obtain ⟨g, hb, h3, h4, -⟩ := h
  refine ⟨g.bars h1 h2, fun i hi => ?_, h3, h4, V, h1, h2, rfl⟩
  show ∃ B, B ≤ 239 ∧ cp m (rmf (nI V) (s.2 3)) (s.2 3) i = nI B
  rw [cp_in hi]
  obtain ⟨B, b1, b2⟩ := hb i hi
  unfold rmf
  rw [b2, pk_rem (by omega) (by omega) (by omega)]
  exact ⟨B % V, by have := Nat.mod_lt B (show 0 < V by omega); omega, rfl⟩
/-! the image -/
def rkf (g : Nat → Int32) (a : Nat → Nat → Int32) : FS := (fun k => if k < 4 then g (55 + k) else 0, fun k => if k = 0 then a 16 else if k = 1 then a 17 else if k = 2 then a 6 else if k = 3 then a 18 else if k = 4 then a 19 else if k = 5 then a 20 else fun _ => 0)
theorem FEQ.le {m k : Nat} {s t : FS} (h : FEQ m s t) (hk : k ≤ m) : FEQ k s t := by
  obtain ⟨a0, a1, a2, a3, a4, a5⟩ := h.a
  exact FEQ.mk h.g ⟨a0, a1, fun i hi => a2 i (by omega), fun i hi => a3 i (by omega), fun i hi => a4 i (by omega), fun i hi => a5 i (by omega)⟩
theorem rkf_keep {m : Nat} {g g2 : Nat → Int32} {a a2 : Nat → Nat → Int32} {s : FS} (h : FEQ m s (rkf g a)) (hg : ∀ k, k < 4 → g2 (55 + k) = g (55 + k)) (ha : ∀ j, 16 ≤ j → j ≤ 20 → a2 j = a j) (h6 : ∀ i, i < m → a2 6 i = a 6 i) : FEQ m s (rkf g2 a2) := by
  obtain ⟨g0, g1, g3, g4⟩ := h.g
  obtain ⟨a0, a1, b2, a3, a4, a5⟩ := h.a
  refine FEQ.mk ⟨g0.trans (hg 0 (by decide)).symm, g1.trans (hg 1 (by decide)).symm, g3.trans (hg 2 (by decide)).symm, g4.trans (hg 3 (by decide)).symm⟩ ⟨fun c hc => (a0 c hc).trans ?_, fun c hc => (a1 c hc).trans ?_, fun i hi => (b2 i hi).trans ?_, fun i hi => (a3 i hi).trans ?_, fun i hi => (a4 i hi).trans ?_, fun i hi => (a5 i hi).trans ?_⟩
  · show a 16 c = a2 16 c; rw [ha 16 (by decide) (by decide)]
  · show a 17 c = a2 17 c; rw [ha 17 (by decide) (by decide)]
  · exact (h6 i hi).symm
  · show a 18 i = a2 18 i; rw [ha 18 (by decide) (by decide)]
  · show a 19 i = a2 19 i; rw [ha 19 (by decide) (by decide)]
  · show a 20 i = a2 20 i; rw [ha 20 (by decide) (by decide)]
theorem img_C {gf gk gl : Nat → Int32} {af ak : Nat → Nat → Int32} {m : Nat} (hm : m ≤ 5) : EQ m 0 (cfs (upd (upd (upd (upd (upd gk 0 (gf 0)) 1 (gf 1)) 2 (gf 2)) 3 (gf 3)) 4 (gf 4)) (va_up (va_up (va_up (va_up (va_up (va_up ak 0 (va_cpy (af 0) (ak 0) 0 0 12)) 1 (va_cpy (af 1) (ak 1) 0 0 12)) 2 (va_cpy (af 2) (ak 2) 0 0 5)) 3 (va_cpy (af 3) (ak 3) 0 0 5)) 4 (va_cpy (af 4) (ak 4) 0 0 5)) 5 (va_cpy (af 5) (ak 5) 0 0 5)) gl) (cfs gf af gl) :=
  ⟨⟨rfl, rfl, rfl, Int32.add_zero _, rfl, rfl⟩, fun c hc => va_c0 hc, fun c hc => va_c0 hc, fun i hi => va_c0 (Nat.lt_of_lt_of_le hi hm), fun i hi => va_c0 (Nat.lt_of_lt_of_le hi hm), fun i hi => va_c0 (Nat.lt_of_lt_of_le hi hm), fun i hi => va_c0 (Nat.lt_of_lt_of_le hi hm)⟩
theorem img_R {g : Nat → Int32} {a : Nat → Nat → Int32} {m : Nat} : FEQ m (rfs g a) (rkf (upd (upd (upd (upd (upd g 55 (g 13)) 56 (g 14)) 57 (g 15)) 58 (g 16)) 59 (g 4)) (va_up (va_up (va_up (va_up (va_up a 16 (a 4)) 17 (a 5)) 18 (a 7)) 19 (a 8)) 20 (a 9))) :=
  FEQ.mk ⟨rfl, rfl, rfl, rfl⟩ ⟨fun _ _ => rfl, fun _ _ => rfl, fun _ _ => rfl, fun _ _ => rfl, fun _ _ => rfl, fun _ _ => rfl⟩
theorem back_R {g : Nat → Int32} {a : Nat → Nat → Int32} {m : Nat} : FEQ m (rkf g a) (rfs (upd (upd (upd (upd (upd g 13 (g 55)) 14 (g 56)) 15 (g 57)) 16 (g 58)) 4 (g 59)) (va_up (va_up (va_up (va_up (va_up a 4 (a 16)) 5 (a 17)) 7 (cp m (a 18) (a 7))) 8 (cp m (a 19) (a 8))) 9 (cp m (a 20) (a 9)))) :=
  FEQ.mk ⟨rfl, rfl, rfl, rfl⟩ ⟨fun _ _ => rfl, fun _ _ => rfl, fun _ _ => rfl, fun i hi => (cp_in hi).symm, fun i hi => (cp_in hi).symm, fun i hi => (cp_in hi).symm⟩
