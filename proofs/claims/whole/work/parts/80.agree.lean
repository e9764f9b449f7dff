/-! THE TWO AGREE: what the class answers, from its trial's start, is what the reference answers, from its own -/
def FEQ (m : Nat) (s t : FS) : Prop := EQ m 0 (p_try s) (p_try t)
theorem FEQ.beg {m : Nat} {s t : FS} (h : FEQ m s t) : EQ m (t.1 3) (p_beg s) (p_try t) := by
  obtain ⟨⟨g0, g1, g2, g3, g4, g5⟩, a⟩ := h
  exact ⟨⟨g0, g1, g2, by show (0 : Int32) + t.1 3 = t.1 3; rw [Int32.zero_add], rfl, rfl⟩, a⟩
theorem i32_c (a b d : Int32) : (a - d) - (b - d) = a - b := by
  have e : b = (b - d) + d := (Int32.sub_add_cancel b d).symm
  generalize b - d = x at e ⊢
  subst e
  rw [Int32.sub_eq_add_neg, Int32.sub_eq_add_neg, Int32.sub_eq_add_neg, Int32.neg_add, Int32.add_assoc, Int32.add_comm (-d)]
  try rw [← Int32.sub_eq_add_neg]
section
variable {m : Nat} {d : Int32} {C : Nat → List Int32}
theorem EQ.hold {s t : FS} (h : EQ m d s t) (hF : FI s m) : ∀ n k, p_hold C n k s = p_hold C n k t := by
  intro n
  induction n generalizing s t with
  | zero => intro k; rw [p_hold, p_hold]
  | succ n ih =>
    intro k
    have h2 := h.round (C := C) hF zro
    rw [p_hold, p_hold, h2.1.2.2.2.2.1, ih h2 (hF.round C zro)]
theorem EQ.stopE {s t : FS} (h : EQ m d s t) (hF : FI s m) (less : Int32) : ∀ n k, p_stop C less n k s = p_stop C less n k t := by
  intro n
  induction n generalizing s t with
  | zero => intro k; rw [p_stop, p_stop]
  | succ n ih =>
    intro k
    have h2 := h.round (C := C) hF zro
    rw [p_stop, p_stop, ih h2 (hF.round C zro), h2.out, h.out, i32_c]
theorem EQ.judgeE {s t : FS} (h : EQ m d s t) (hF : FI s m) {i N : Nat} (hi : i < m) {f f2 : Nat → Int32} (hf : ∀ k, k < N → f k = f2 k) : ∀ n k, k + n = N → p_judge C i f n k s = p_judge C i f2 n k t := by
  intro n
  induction n generalizing s t with
  | zero => intro k _; rw [p_judge, p_judge]
  | succ n ih =>
    intro k hk
    have h2 := h.round (C := C) hF zro
    rw [p_judge, p_judge, ih h2 (hF.round C zro) (k + 1) (by omega), hf k (by omega), h2.2.2.2.2.1 i hi]
variable {s r : FS}
theorem few_E (hE : EQ m (r.1 3) s (p_try r)) (hG : GOOD s m) (want : Int32) : ∀ n k, k + n = m + 1 → p_fewC C want s n k = p_few C want r n k := by
  intro n
  induction n with
  | zero => intro k _; rw [p_fewC, p_few]
  | succ n ih =>
    intro k hk
    have h2 := ((hE.men (k := k) (by omega)).rounds (C := C) (hG.men (by omega)).1 12).out
    rw [p_fewC, p_few, ih (k + 1) (by omega), h2]
theorem bst_ag {f h : Nat → Int32} : ∀ n k (x y : Int32), (∀ j, k ≤ j → j < k + n → f j = h j) → bst f n k x y = bst h n k x y := by
  intro n
  induction n with
  | zero => intro k x y _; rw [bst, bst]
  | succ n ih =>
    intro k x y e
    rw [bst, bst, e k (Nat.le_refl _) (by omega), ih (k + 1) _ _ (fun j h1 h2 => e j (by omega) (by omega)), ih (k + 1) _ _ (fun j h1 h2 => e j (by omega) (by omega))]
theorem home_E (hE : EQ m (r.1 3) s (p_try r)) (hG : GOOD s m) : (bst (p_homeC C m s) m 0 (-1) ((p_rounds C 12 s).1 3)).1 = (bst (p_homeV C m r) m 0 (-1) (p_gain C 12 r)).1 := by
  have h1 : (p_rounds C 12 s).1 3 = p_gain C 12 r := by rw [(hE.rounds (C := C) hG.1 12).out, p_gain]
  rw [h1]
  refine congrArg Prod.fst (bst_ag m 0 _ _ (fun j _ hj => ?_))
  rw [p_homeC, p_homeV, ((hE.leave j).rounds (C := C) (hG.leave (by omega)).1 12).out]
theorem when_E (hE : EQ m (r.1 3) s (p_try r)) (hG : GOOD s m) (nw : Nat) (hnw : nw = 12) : (bst (fun k => (p_ahd C s k 12).1 3) nw 0 (-1) ((p_rounds C 12 s).1 3)).1 = (bst (p_whenV C r) nw 0 (-1) (p_gain C 12 r)).1 := by
  have h1 : (p_rounds C 12 s).1 3 = p_gain C 12 r := by rw [(hE.rounds (C := C) hG.1 12).out, p_gain]
  rw [h1]
  refine congrArg Prod.fst (bst_ag nw 0 _ _ (fun j _ hj => ?_))
  have h2 := (((hE.rounds (C := C) hG.1 j).turned).rounds (C := C) (GOOD.turned (hG.rounds j)).1 (12 - j)).out
  rw [p_ahd, if_neg (by omega), p_whenV, h2]
theorem run_E (hE : EQ m (r.1 3) s (p_try r)) (hG : GOOD s m) (j : Nat) (what : Int32) : p_runC C s j what = p_runV C r j what := by
  have h := hE.rounds (C := C) hG.1 j
  rw [p_runC, p_runV, h.out, h.1.2.2.2.2.1, h.1.2.2.2.2.2, h.sum]
theorem slow_E (hE : EQ m (r.1 3) s (p_try r)) (hG : GOOD s m) (i : Nat) : p_slowC C i s = p_slow C i r := by
  rw [p_slowC, p_slow, ((hE.idle i).rounds (C := C) (hG.idle i).1 12).sum, (hE.rounds (C := C) hG.1 12).sum]
end
/-! what comes out of a trial is never more than lies there -/
def sN (e : Nat → Nat) : Nat → Nat
  | 0 => 0
  | n + 1 => sN e n + e n
theorem sN_un {e : Nat → Nat} {c x : Nat} (hx : x ≤ e c) : ∀ n, sN (un e c (e c - x)) n + (if c < n then x else 0) = sN e n := by
  intro n
  induction n with
  | zero => rw [if_neg (by omega)]; rfl
  | succ n ih =>
    show sN (un e c (e c - x)) n + un e c (e c - x) n + _ = sN e n + e n
    unfold un at ih ⊢
    by_cases h1 : c < n
    · rw [if_pos h1] at ih
      rw [if_neg (show ¬ n = c by omega), if_pos (show c < n + 1 by omega)]
      omega
    · rw [if_neg h1] at ih
      by_cases h2 : n = c
      · subst h2
        rw [if_pos (show n < n + 1 by omega)]
        have e0 : (if n = n then e n - x else e n) = e n - x := if_pos rfl
        rw [e0]
        omega
      · rw [if_neg h2, if_neg (by omega)]
        omega
def OUB (s : FS) : Prop := ∃ (O : Nat) (e : Nat → Nat), s.1 3 = nI O ∧ (∀ c, c < 12 → s.2 0 c = nI (e c) ∧ e c ≤ 9999) ∧ O + sN e 12 ≤ 119988
theorem wi_n (v : Int32) : ∃ V, V ≤ 1000 ∧ wiI v 0 1000 = nI V := by
  unfold wiI
  by_cases h1 : v < 0
  · rw [if_pos h1]; exact ⟨0, by omega, rfl⟩
  · rw [if_neg h1]
    by_cases h2 : 1000 < v
    · rw [if_pos h2]; exact ⟨1000, by omega, rfl⟩
    · rw [if_neg h2]
      obtain ⟨j, hj, rfl⟩ := nI_of h1
      refine ⟨j, ?_, rfl⟩
      rcases Nat.lt_or_ge 1000 j with z | z
      · exact absurd (nI_lt (a := 1000) z hj) h2
      · exact z
theorem got_n {C : Nat → List Int32} {s : FS} {i c E : Nat} {gp : Int32} (h : s.2 0 c = nI E) (hE : E ≤ 9999) : ∃ x, x ≤ E ∧ p_got C s i c gp = nI x := by
  obtain ⟨V, hV, hv⟩ := wi_n (pev C 0 (p_env s i c gp))
  have hb : E * V ≤ 9999 * 1000 := Nat.mul_le_mul hE hV
  refine ⟨E * V / 1000, ?_, ?_⟩
  · have : E * V ≤ E * 1000 := Nat.mul_le_mul_left E hV
    exact Nat.div_le_of_le_mul (by rw [Nat.mul_comm 1000]; exact this)
  · rw [p_got, h, hv, pk_mul]
    exact pk_div (a := E * V) (d := 1000) (by omega) (by decide) (by decide)
theorem OUB.turn {C : Nat → List Int32} {lt : Int32} {i : Nat} {s : FS} (h : OUB s) : OUB (p_turn C lt i s) := by
  obtain ⟨O, e, h1, h2, h3⟩ := h
  unfold p_turn
  split
  · exact ⟨O, e, h1, h2, h3⟩
  · have hc := p_cell_lt s i
    obtain ⟨x, hx, hg⟩ := got_n (C := C) (i := i) (gp := p_gp s i) (h2 _ hc).1 (h2 _ hc).2
    have hs := sN_un (e := e) hx 12
    rw [if_pos hc] at hs
    refine ⟨O + x, un e (p_cell s i) (e (p_cell s i) - x), ?_, fun c hc2 => ?_, by omega⟩
    · show s.1 3 + _ = _
      rw [h1, hg, nI_add]
    · show upd (s.2 0) _ _ c = _ ∧ _
      simp only [upd, un]
      by_cases hk : c = p_cell s i
      · rw [if_pos hk, if_pos hk, hg, (h2 _ hc).1, pk_sub hx]
        exact ⟨rfl, by have := (h2 _ hc).2; omega⟩
      · rw [if_neg hk, if_neg hk]
        exact h2 c hc2
theorem OUB.turns {C : Nat → List Int32} {lt : Nat → Int32} {s : FS} (h : OUB s) : ∀ n, OUB (p_turns C lt n s) := by
  intro n
  induction n with
  | zero => exact h
  | succ n ih => exact ih.turn
theorem OUB.round {C : Nat → List Int32} {lt : Nat → Int32} {s : FS} (h : OUB s) : OUB (p_round C lt s) := h.turns _
theorem OUB.rounds {C : Nat → List Int32} {s : FS} (h : OUB s) : ∀ n, OUB (p_rounds C n s) := by
  intro n
  induction n with
  | zero => exact h
  | succ n ih => exact ih.round
def EARS (s : FS) : Prop := ∀ c, c < 12 → ∃ E, E ≤ 9999 ∧ s.2 0 c = nI E
theorem sN_le {e : Nat → Nat} (h : ∀ c, c < 12 → e c ≤ 9999) : sN e 12 ≤ 119988 := by
  have h0 := h 0 (by decide)
  have h1 := h 1 (by decide)
  have h2 := h 2 (by decide)
  have h3 := h 3 (by decide)
  have h4 := h 4 (by decide)
  have h5 := h 5 (by decide)
  have h6 := h 6 (by decide)
  have h7 := h 7 (by decide)
  have h8 := h 8 (by decide)
  have h9 := h 9 (by decide)
  have h10 := h 10 (by decide)
  have h11 := h 11 (by decide)
  simp only [sN]
  omega
theorem EARS.oub {s : FS} (h : EARS s) (h0 : s.1 3 = 0) : OUB s := by
  obtain ⟨e, he⟩ := Classical.axiomOfChoice (fun c : Nat => (show ∃ E : Nat, c < 12 → E ≤ 9999 ∧ s.2 0 c = nI E from by
    by_cases hc : c < 12
    · obtain ⟨E, h1, h2⟩ := h c hc; exact ⟨E, fun _ => ⟨h1, h2⟩⟩
    · exact ⟨0, fun z => absurd z hc⟩))
  exact ⟨0, e, h0, fun c hc => ⟨(he c hc).2, (he c hc).1⟩, by have := sN_le (fun c hc => (he c hc).1); omega⟩
theorem EARS.bars {s : FS} {m : Nat} {v : Int32} (h : EARS s) : EARS (p_bars m v s) := h
theorem bst_1 {f : Nat → Int32} {n k : Nat} {x x2 y : Int32} (h : y < f k) : bst f (n + 1) k x y = bst f (n + 1) k x2 y := by
  rw [bst, if_pos h, bst, if_pos h]
theorem bar_E {m : Nat} {C : Nat → List Int32} {s r : FS} (hE : EQ m (r.1 3) s (p_try r)) (hG : GOOD s m) (h0 : s.1 3 = 0) (hW : EARS s) (nn : Nat) (hn : nn + 1 = 229) : bst (p_barC C m s) (nn + 1) 12 (-1) (-1) = bst (p_barV C m r) (nn + 1) 12 12 (-1) := by
  have key : ∀ b, 12 ≤ b → b ≤ 240 → p_barC C m s b = p_barV C m r b ∧ ¬ p_barC C m s b < 0 := by
    intro b hb1 hb2
    have h2 := ((hE.bars (nI b)).rounds (C := C) (hG.bars hb1 hb2).1 12).out
    obtain ⟨O, e, o1, o2, o3⟩ := OUB.rounds (C := C) (EARS.oub (s := p_bars m (nI b) s) hW.bars h0) 12
    have hO : O ≤ 119988 := by omega
    rw [p_barC, p_barV, ← h2, o1, nI_l (by omega)]
    have e1 : (12 : Int32) * nI b = nI (12 * b) := pk_mul 12 b
    have e2 : nI O * 1000 = nI (O * 1000) := pk_mul O 1000
    have e3 : lN O * 1000 = lN (O * 1000) := lN_mul O 1000
    rw [e1, e2, nI_l (by omega), e3, pk_lDiv (by omega) (by omega) (by omega), lN_i, pk_div (by omega) (by omega) (by omega)]
    exact ⟨rfl, nI_pos (Nat.lt_of_le_of_lt (Nat.div_le_self _ _) (by omega))⟩
  have h12 := key 12 (by omega) (by omega)
  have hlt : (-1 : Int32) < p_barC C m s 12 := by
    have := h12.2
    rw [Int32.lt_iff_toInt_lt] at this ⊢
    rw [show (0 : Int32).toInt = 0 from by decide] at this
    rw [show (-1 : Int32).toInt = -1 from by decide]
    omega
  rw [bst_1 (x2 := 12) hlt]
  exact bst_ag _ _ _ _ (fun j h1 h2 => (key j h1 (by omega)).1)
