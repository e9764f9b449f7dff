theorem drawn_E {m : Nat} {C : Nat → List Int32} {s r : FS} (hE : EQ m (r.1 3) s (p_try r)) (hG : GOOD s m) (z : Int32) (n : Nat) : (p_draws C m z n s).1 4 = (p_draws C m z n (p_try r)).1 4 := (hE.draws (C := C) hG.1 z n).1.2.2.2.2.1
/-! all on one another's stroke -/
theorem ons_try {C : Nat → List Int32} {c : Nat} {r : FS} : ∀ n, p_ons C c n (p_try r) = p_try (p_ons C c n r) := by
  intro n
  induction n with
  | zero => rfl
  | succ n ih => rw [p_ons, p_ons, ih]; rfl
theorem i32_a (a b d : Int32) : a + b + (d - b) = a + d := by
  rw [Int32.sub_eq_add_neg, Int32.add_comm d, Int32.add_assoc, ← Int32.add_assoc b, Int32.add_right_neg, Int32.zero_add]
theorem als_ons {m : Nat} {C : Nat → List Int32} {c : Nat} (hc : c < 12) {s : FS} (hF : FI s m) : ∀ n, n ≤ m → (∃ d, EQ m d (p_als C c n s) (p_ons C c n s)) ∧ (p_als C c n s).1 3 + (p_als C c n s).2 0 c = s.1 3 + s.2 0 c := by
  intro n
  induction n with
  | zero => intro _; exact ⟨⟨0, EQ.refl m s⟩, rfl⟩
  | succ n ih =>
    intro hn
    obtain ⟨⟨d, h⟩, h2⟩ := ih (by omega)
    have hF2 := hF.als C c n
    have hgp := h.gp hF2 (i := n) (by omega)
    have hgt := h.got (C := C) (i := n) (by omega) hc (p_gp (p_ons C c n s) n)
    constructor
    · obtain ⟨⟨g0, g1, g2, g3, g4, g5⟩, a0, a1, a2, a3, a4, a5⟩ := h
      refine ⟨(p_ons C c n s).1 3 - ((p_als C c n s).1 3 + p_got C (p_als C c n s) n c (p_gp (p_als C c n s) n)), ⟨g0, g1, g2, ?_, g4, g5⟩, ?_, a1, a2, a3, a4, a5⟩
      · show ((p_als C c n s).1 3 + p_got C (p_als C c n s) n c (p_gp (p_als C c n s) n)) + ((p_ons C c n s).1 3 - ((p_als C c n s).1 3 + p_got C (p_als C c n s) n c (p_gp (p_als C c n s) n))) = (p_ons C c n s).1 3
        rw [Int32.sub_eq_add_neg, Int32.add_comm, Int32.add_assoc, Int32.add_comm (- _), Int32.add_right_neg, Int32.add_zero]
      · exact upd_ag a0 (by rw [hgp, hgt, a0 c hc])
    · show ((p_als C c n s).1 3 + p_got C (p_als C c n s) n c (p_gp (p_als C c n s) n)) + upd ((p_als C c n s).2 0) c ((p_als C c n s).2 0 c - p_got C (p_als C c n s) n c (p_gp (p_als C c n s) n)) c = _
      rw [pk_us, i32_a, h2]
theorem once_E {m : Nat} {C : Nat → List Int32} {s r : FS} (hE : EQ m (r.1 3) s (p_try r)) (hG : GOOD s m) (h0 : s.1 3 = 0) {c : Nat} (hc : c < 12) : (p_als C c m s).2 0 c = (p_ons C c m r).2 0 c ∧ (p_als C c m s).1 3 = r.2 0 c - (p_ons C c m r).2 0 c := by
  obtain ⟨⟨d, h⟩, h2⟩ := als_ons (C := C) hc (hE.fi hG.1) m (Nat.le_refl _)
  have h3 := hE.als (C := C) hG.1 hc m (Nat.le_refl _)
  have e1 : (p_als C c m s).2 0 c = (p_ons C c m r).2 0 c := by
    rw [h3.2.1 c hc, h.2.1 c hc, ons_try]
    rfl
  refine ⟨e1, ?_⟩
  obtain ⟨-, h4⟩ := als_ons (C := C) hc hG.1 m (Nat.le_refl _)
  have e2 : s.2 0 c = r.2 0 c := hE.2.1 c hc
  rw [h0, Int32.zero_add, e1, e2] at h4
  rw [← h4, Int32.sub_eq_add_neg, Int32.add_assoc, Int32.add_right_neg, Int32.add_zero]
/-! orders -/
theorem bs_E {m : Nat} {C : Nat → List Int32} {s r : FS} (hE : EQ m (r.1 3) (p_beg s) (p_try r)) (hG : GOOD (p_beg s) m) (B : BT) {d : Nat} (hd : ∀ p, p < m → dgt d p < m) : p_bs C m (p_beg s) B d = p_bs C m r B d := by
  have h := (hE.stand hd).rounds (C := C) (hG.stand hd).1 12
  rw [pbs_S, p_bs, h.1.2.2.2.2.1, h.out]
theorem chk_g {m d : Nat} {l : List Nat} (h : chk m (d :: l) = true) : ∀ p, p < m → dgt d p < m := by
  have h2 : (List.range m).all (fun k => decide (dv m d k < m)) = true := by
    cases l with
    | nil => simp only [chk, Bool.and_eq_true] at h; exact h.1.2
    | cons e l => simp only [chk, Bool.and_eq_true] at h; exact h.1.1.1.2
  intro p hp
  have := of_decide_eq_true ((List.all_eq_true.mp h2) (m - 1 - p) (List.mem_range.mpr (by omega)))
  unfold dv at this
  rwa [show m - 1 - (m - 1 - p) = p by omega] at this
theorem chk_t {m d : Nat} {l : List Nat} (h : chk m (d :: l) = true) : chk m l = true := by
  cases l with
  | nil => rfl
  | cons e l => exact (chk_2 h).2.2
theorem fold_E {m : Nat} {C : Nat → List Int32} {s r : FS} (hE : EQ m (r.1 3) (p_beg s) (p_try r)) (hG : GOOD (p_beg s) m) : ∀ (l : List Nat) (B : BT), chk m l = true → p_fold C m (p_beg s) l B = p_fold C m r l B := by
  intro l
  induction l with
  | nil => intro B _; rw [pf_nil, pf_nil]
  | cons d l ih => intro B h; rw [pf_cons, pf_cons, bs_E hE hG B (chk_g h), ih _ (chk_t h)]
theorem fold_1 {m : Nat} {C : Nat → List Int32} {r : FS} {d : Nat} {l : List Nat} {x y x2 y2 : Int32} : p_fold C m r (d :: l) (-1, x, y) = p_fold C m r (d :: l) (-1, x2, y2) := by
  rw [pf_cons, pf_cons, p_bs, if_pos (Or.inl rfl), p_bs, if_pos (Or.inl rfl)]
theorem dvn_n : ∀ n e, e < 2 ^ 31 → dvn n (nI e) = nI (e / 10 ^ n) := by
  intro n
  induction n with
  | zero => intro e _; rw [Nat.pow_zero, Nat.div_one]; rfl
  | succ n ih =>
    intro e he
    show dvn n (nI e) / 10 = _
    rw [ih e he, show (10 : Int32) = nI 10 from rfl, pk_div (Nat.lt_of_le_of_lt (Nat.div_le_self _ _) he) (by decide) (by decide), Nat.div_div_eq_div_mul, ← Nat.pow_succ]
theorem order_d {e n : Nat} (he : e < 100000) : dvn n (nI e) - dvn n (nI e) / 10 * 10 = nI (dgt e n) := by
  rw [dvn_n n e (by omega), show (10 : Int32) = nI 10 from rfl, pk_rem (Nat.lt_of_le_of_lt (Nat.div_le_self _ _) (by omega)) (by decide) (by decide)]
  rfl
theorem rounds_0 {C : Nat → List Int32} {s : FS} (h : FI s 0) : ∀ n, (p_rounds C n s).1 4 = s.1 4 := by
  intro n
  induction n with
  | zero => rw [p_rounds]
  | succ n ih =>
    rw [p_rounds, p_round_m (h.rounds C n)]
    exact ih
theorem order_0 {C : Nat → List Int32} {s : FS} (h : FI (p_beg s) 0) : (p_fold C 0 (p_beg s) (lvs 0 0 0 0) (-1, 0, 0)).2.1 = 0 := by
  rw [show lvs 0 0 0 0 = [0] from rfl, pf_cons, pf_nil, pbs_S, if_pos (Or.inl rfl)]
  rw [rounds_0 (show FI (p_stand 0 0 (p_beg s)) 0 from h.stand) 12]
  dsimp only
  rfl
theorem order_E {m : Nat} {C : Nat → List Int32} {s r : FS} (hE : EQ m (r.1 3) (p_beg s) (p_try r)) (hG : GOOD (p_beg s) m) (x y : Int32) (n : Nat) (hn : n = m) : p_fold C m (p_beg s) (lvs n n 0 0) (-1, 0, 0) = p_fold C m r (lvs n n 0 0) (-1, x, y) := by
  subst hn
  obtain ⟨k1, k2, d, l, k3, k4⟩ := chk_all n hG.1.1
  rw [fold_E hE hG _ _ k1, k3]
  exact fold_1
