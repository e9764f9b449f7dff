/-! TWO FLOORS THAT AGREE on their men and cells; what came out differs by d -/
def EQ (m : Nat) (d : Int32) (s t : FS) : Prop := (s.1 0 = t.1 0 ∧ s.1 1 = t.1 1 ∧ s.1 2 = t.1 2 ∧ s.1 3 + d = t.1 3 ∧ s.1 4 = t.1 4 ∧ s.1 5 = t.1 5) ∧ (∀ c, c < 12 → s.2 0 c = t.2 0 c) ∧ (∀ c, c < 12 → s.2 1 c = t.2 1 c) ∧ (∀ i, i < m → s.2 2 i = t.2 2 i) ∧ (∀ i, i < m → s.2 3 i = t.2 3 i) ∧ (∀ i, i < m → s.2 4 i = t.2 4 i) ∧ (∀ i, i < m → s.2 5 i = t.2 5 i)
theorem ah_lt : ∀ m, m ≤ 5 → ∀ i, i < m → (if nI i = 0 then nI m - 1 else nI i - 1).toNatClampNeg < m := by decide +kernel
section
variable {m : Nat} {d : Int32} {s t : FS} {C : Nat → List Int32}
theorem EQ.gp (h : EQ m d s t) (hF : FI s m) {i : Nat} (hi : i < m) : p_gp s i = p_gp t i := by
  obtain ⟨⟨g0, g1, g2, g3, g4, g5⟩, a0, a1, a2, a3, a4, a5⟩ := h
  have hm := hF.1
  unfold p_gp p_gap
  rw [← g0, ← g1, nI_clamp (by omega), a3 i hi, a3 _ (by rw [hF.2.1]; exact ah_lt m hm i hi)]
theorem EQ.cell (h : EQ m d s t) (i : Nat) : p_cell s i = p_cell t i := by
  unfold p_cell
  rw [h.1.1, h.1.2.2.1]
theorem p_cell_lt (s : FS) (i : Nat) : p_cell s i < 12 := Nat.mod_lt _ (by decide)
theorem EQ.env (h : EQ m d s t) {i c : Nat} (hi : i < m) (hc : c < 12) (gp : Int32) : p_env s i c gp = p_env t i c gp := by
  obtain ⟨⟨g0, g1, g2, g3, g4, g5⟩, a0, a1, a2, a3, a4, a5⟩ := h
  unfold p_env
  rw [a2 i hi, a4 i hi, a5 i hi, g2, a1 c hc, a0 c hc]
theorem EQ.got (h : EQ m d s t) {i c : Nat} (hi : i < m) (hc : c < 12) (gp : Int32) : p_got C s i c gp = p_got C t i c gp := by
  unfold p_got
  rw [h.env hi hc, h.2.1 c hc]
theorem EQ.beat (h : EQ m d s t) {i c : Nat} (hi : i < m) (hc : c < 12) (gp lt : Int32) : p_beat C s i c gp lt = p_beat C t i c gp lt := by
  unfold p_beat
  rw [h.env hi hc]
  obtain ⟨⟨g0, g1, g2, g3, g4, g5⟩, a0, a1, a2, a3, a4, a5⟩ := h
  rw [a3 i hi, a2 i hi, a5 i hi, g0, g1]
theorem add_r (a b d : Int32) : a + b + d = a + d + b := by rw [Int32.add_assoc, Int32.add_comm b d, ← Int32.add_assoc]
theorem upd_ag {f h : Nat → Int32} {n : Nat} (e : ∀ k, k < n → f k = h k) {j : Nat} {x y : Int32} (hxy : x = y) : ∀ k, k < n → upd f j x k = upd h j y k := by
  intro k hk
  simp only [upd]
  split
  · exact hxy
  · exact e k hk
theorem EQ.turn (h : EQ m d s t) (hF : FI s m) {i : Nat} (hi : i < m) (lt : Int32) : EQ m d (p_turn C lt i s) (p_turn C lt i t) := by
  have hgp := h.gp hF hi
  have hcl := h.cell i
  have hc := p_cell_lt t i
  have hbt := h.beat (C := C) hi hc (p_gp t i) lt
  have hgt := h.got (C := C) hi hc (p_gp t i)
  have hen := h.env hi hc (p_gp t i)
  obtain ⟨⟨g0, g1, g2, g3, g4, g5⟩, a0, a1, a2, a3, a4, a5⟩ := h
  unfold p_turn
  rw [hgp, hcl]
  by_cases hk : p_gp t i < 8
  · rw [if_pos hk, if_pos hk]
    refine ⟨⟨g0, g1, g2, g3, ?_, ?_⟩, a0, a1, a2, ?_, a4, a5⟩
    · show s.1 4 + 1 = t.1 4 + 1
      rw [g4]
    · show p_hit C s i _ _ = p_hit C t i _ _
      unfold p_hit
      rw [g5, hen]
    · exact upd_ag a3 hbt
  · rw [if_neg hk, if_neg hk]
    refine ⟨⟨g0, g1, g2, ?_, g4, g5⟩, ?_, a1, a2, ?_, a4, a5⟩
    · show s.1 3 + _ + d = t.1 3 + _
      rw [add_r, g3, hgt]
    · exact upd_ag a0 (by rw [hgt, a0 _ hc])
    · exact upd_ag a3 hbt
theorem EQ.turns (h : EQ m d s t) (hF : FI s m) (lt : Nat → Int32) : ∀ n, n ≤ m → EQ m d (p_turns C lt n s) (p_turns C lt n t) := by
  intro n
  induction n with
  | zero => intro _; exact h
  | succ n ih => intro hn; exact (ih (by omega)).turn (hF.turns C lt n) (by omega) (lt n)
theorem EQ.next (h : EQ m d s t) : EQ m d (p_next s) (p_next t) := by
  obtain ⟨⟨g0, g1, g2, g3, g4, g5⟩, a⟩ := h
  refine ⟨⟨g0, g1, ?_, g3, g4, g5⟩, a⟩
  show (if s.1 2 < 999 then s.1 2 + 1 else 999) = (if t.1 2 < 999 then t.1 2 + 1 else 999)
  rw [g2]
theorem EQ.fi (h : EQ m d s t) (hF : FI s m) : FI t m := by
  obtain ⟨⟨g0, g1, g2, g3, g4, g5⟩, a⟩ := h
  obtain ⟨h1, h2, h3, r, h4, h5⟩ := hF
  exact ⟨h1, g0 ▸ h2, g1 ▸ h3, r, h4, g2 ▸ h5⟩
theorem EQ.round (h : EQ m d s t) (hF : FI s m) (lt : Nat → Int32) : EQ m d (p_round C lt s) (p_round C lt t) := by
  rw [p_round_m hF, p_round_m (h.fi hF)]
  exact (h.turns hF lt m (Nat.le_refl _)).next
theorem EQ.rounds (h : EQ m d s t) (hF : FI s m) : ∀ n, EQ m d (p_rounds C n s) (p_rounds C n t) := by
  intro n
  induction n with
  | zero => exact h
  | succ n ih => exact ih.round (hF.rounds C n) zro
theorem EQ.draws (h : EQ m d s t) (hF : FI s m) (z : Int32) : ∀ n, EQ m d (p_draws C m z n s) (p_draws C m z n t) := by
  intro n
  induction n with
  | zero => exact h
  | succ n ih => exact ih.round (hF.draws C z n) _
theorem EQ.refl (m : Nat) (s : FS) : EQ m 0 s s := ⟨⟨rfl, rfl, rfl, by rw [Int32.add_zero], rfl, rfl⟩, fun _ _ => rfl, fun _ _ => rfl, fun _ _ => rfl, fun _ _ => rfl, fun _ _ => rfl, fun _ _ => rfl⟩
theorem EQ.sum (h : EQ m d s t) : sm (s.2 0) 12 = sm (t.2 0) 12 := by
  have : ∀ n, n ≤ 12 → sm (s.2 0) n = sm (t.2 0) n := by
    intro n
    induction n with
    | zero => intro _; rfl
    | succ n ih => intro hn; rw [sm_s, sm_s, ih (by omega), h.2.1 n (by omega)]
  exact this 12 (Nat.le_refl _)
theorem EQ.turned (h : EQ m d s t) : EQ m d (p_turned s) (p_turned t) := by
  obtain ⟨g, a0, a1, a2, a3, a4, a5⟩ := h
  exact ⟨g, fun c hc => a0 (11 - c) (by omega), fun c hc => by show dw (s.2 1 c) = dw (t.2 1 c); rw [a1 c hc], a2, a3, a4, a5⟩
theorem EQ.idle (h : EQ m d s t) (i : Nat) : EQ m d (p_idle i s) (p_idle i t) := by
  obtain ⟨g, a0, a1, a2, a3, a4, a5⟩ := h
  exact ⟨g, a0, a1, a2, a3, upd_ag a4 rfl, a5⟩
theorem EQ.men (h : EQ m d s t) {k : Nat} (hk : k ≤ m) : EQ k d (p_men (nI k) s) (p_men (nI k) t) := by
  obtain ⟨⟨g0, g1, g2, g3, g4, g5⟩, a0, a1, a2, a3, a4, a5⟩ := h
  exact ⟨⟨rfl, g1, g2, g3, g4, g5⟩, a0, a1, fun i hi => a2 i (by omega), fun i hi => a3 i (by omega), fun i hi => a4 i (by omega), fun i hi => a5 i (by omega)⟩
theorem lv_ag {f h : Nat → Int32} {m who : Nat} (e : ∀ k, k < m → f k = h k) : ∀ k, k < m - 1 → p_lv m who f k = p_lv m who h k := by
  intro k hk
  simp only [p_lv]
  split
  · exact e _ (by omega)
  · exact e _ (by omega)
theorem EQ.leave (h : EQ m d s t) (who : Nat) : EQ (m - 1) d (p_leave m who s) (p_leave m who t) := by
  obtain ⟨⟨g0, g1, g2, g3, g4, g5⟩, a0, a1, a2, a3, a4, a5⟩ := h
  exact ⟨⟨rfl, g1, g2, g3, g4, g5⟩, a0, a1, lv_ag a2, lv_ag a3, lv_ag a4, lv_ag a5⟩
theorem EQ.bars (h : EQ m d s t) (v : Int32) : EQ m d (p_bars m v s) (p_bars m v t) := by
  obtain ⟨⟨g0, g1, g2, g3, g4, g5⟩, a0, a1, a2, a3, a4, a5⟩ := h
  refine ⟨⟨g0, rfl, g2, g3, g4, g5⟩, a0, a1, a2, fun i hi => ?_, a4, a5⟩
  show cp m (rmf v (s.2 3)) (s.2 3) i = cp m (rmf v (t.2 3)) (t.2 3) i
  rw [cp_in hi, cp_in hi]
  unfold rmf
  rw [a3 i hi]
theorem stA_ag {f h : Nat → Int32} {m dg : Nat} (e : ∀ k, k < m → f k = h k) (hd : ∀ p, p < m → dgt dg p < m) : ∀ k, k < m → p_stA m dg f k = p_stA m dg h k := by
  intro k hk
  simp only [p_stA]
  rw [if_pos hk, if_pos hk]
  exact e _ (hd _ (by omega))
theorem EQ.stand (h : EQ m d s t) {dg : Nat} (hd : ∀ p, p < m → dgt dg p < m) : EQ m d (p_stand m dg s) (p_stand m dg t) := by
  obtain ⟨g, a0, a1, a2, a3, a4, a5⟩ := h
  exact ⟨g, a0, a1, stA_ag a2 hd, stA_ag a3 hd, stA_ag a4 hd, stA_ag a5 hd⟩
theorem EQ.out (h : EQ m d s t) : s.1 3 = t.1 3 - d := by
  rw [← h.1.2.2.2.1, Int32.add_sub_cancel]
theorem EQ.tr0 {u : FS} (h : EQ m 0 s t) (k : EQ m d t u) : EQ m d s u := by
  obtain ⟨⟨g0, g1, g2, g3, g4, g5⟩, a0, a1, a2, a3, a4, a5⟩ := h
  obtain ⟨⟨k0, k1, k2, k3, k4, k5⟩, b0, b1, b2, b3, b4, b5⟩ := k
  rw [Int32.add_zero] at g3
  exact ⟨⟨g0.trans k0, g1.trans k1, g2.trans k2, by rw [g3]; exact k3, g4.trans k4, g5.trans k5⟩, fun c hc => (a0 c hc).trans (b0 c hc), fun c hc => (a1 c hc).trans (b1 c hc), fun i hi => (a2 i hi).trans (b2 i hi), fun i hi => (a3 i hi).trans (b3 i hi), fun i hi => (a4 i hi).trans (b4 i hi), fun i hi => (a5 i hi).trans (b5 i hi)⟩
/-- what a trial begins with -/
def p_beg (s : FS) : FS := (upd (upd (upd s.1 3 0) 4 0) 5 0, s.2)
def GOOD (s : FS) (m : Nat) : Prop := FI s m ∧ ¬ s.1 1 ≤ 0 ∧ MEN s m
theorem GOOD.round (h : GOOD s m) (lt : Nat → Int32) : GOOD (p_round C lt s) m := ⟨h.1.round C lt, by rw [p_round_1]; exact h.2.1, h.2.2.round C lt⟩
theorem GOOD.rounds (h : GOOD s m) : ∀ n, GOOD (p_rounds C n s) m := by
  intro n
  induction n with
  | zero => exact h
  | succ n ih => exact ih.round zro
theorem GOOD.eq (h : GOOD t m) (e : EQ m d s t) : GOOD s m := by
  obtain ⟨⟨g0, g1, g2, g3, g4, g5⟩, a0, a1, a2, a3, a4, a5⟩ := e
  obtain ⟨⟨h1, h2, h3, r, h4, h5⟩, hb, hM⟩ := h
  exact ⟨⟨h1, g0.trans h2, by rw [g1]; exact h3, r, h4, g2.trans h5⟩, by rw [g1]; exact hb, fun i hi => by rw [a2 i hi, a4 i hi, a5 i hi]; exact hM i hi⟩
theorem GOOD.beg (h : GOOD s m) : GOOD (p_beg s) m := h
end
theorem va_c0 {f g : Nat → Int32} {n k : Nat} (h : k < n) : va_cpy f g 0 0 n k = f k := by unfold va_cpy; rw [if_pos ⟨Nat.zero_le _, by omega⟩]; congr 1; omega
theorem kb_EQ {gd gf gl gl0 : Nat → Int32} {ad af : Nat → Nat → Int32} {m : Nat} (hm : m ≤ 5) : EQ m 0 (cfs (kbG gd gf) (kbA ad af) (kbL gl)) (p_beg (cfs gf af gl0)) :=
  ⟨⟨rfl, rfl, rfl, rfl, rfl, rfl⟩, fun c hc => va_c0 hc, fun c hc => va_c0 hc, fun i hi => va_c0 (by omega), fun i hi => va_c0 (by omega), fun i hi => va_c0 (by omega), fun i hi => va_c0 (by omega)⟩
theorem K_tryT (E : ag) (kq : Nat) (cg : Nat → Int32) (qf : Nat → Nat) (gf : Nat → Int32) (af : Nat → Nat → Int32) (qd : Nat → Nat) (gd : Nat → Int32) (ad : Nat → Nat → Int32) (qk : Nat → Nat) (gk : Nat → Int32) (ak : Nat → Nat → Int32) (ql : Nat → Nat) (gl : Nat → Int32) (al : Nat → Nat → Int32) (qr : Nat → Nat) (gr : Nat → Int32) (ar : Nat → Nat → Int32) (rx : Nat) (qm : Nat) (qx : Nat → Nat → Nat) (gx : Nat → Nat → Int32) (ax : Nat → Nat → Nat → Int32) (qs : Nat) (sx : Nat → Option Nat) (qo : Nat → Nat) (go : Nat → Int32) (ao : Nat → Nat → Int32) (qp : Nat → Nat) (gp_ : Nat → Int32) (ap : Nat → Nat → Int32) (L : va_W) (t m : Nat) (ht : t < 6) (C : Nat → List Int32) (hr4 : gf 4 = nI t) (hC : TKC (ax t) C) (nn : Nat) (hnn : nn < 2 ^ 31) (s : FS) (hs : cfs gd ad gl = s) (hl : gl 0 = 0) (hG : GOOD s m) : CT E yX5_tryRounds cX5_tryRounds 4 mX5_tryRounds.2.2.2.1 5 0 0 [.ref kq, .int (nI nn)] (wK E kq cg qf gf af qd gd ad qk gk ak ql gl al qr gr ar rx qm qx gx ax qs sx qo go ao qp gp_ ap L) (rv (fun w => ∃ (gd2 : Nat → Int32) (ad2 : Nat → Nat → Int32) (gl2 : Nat → Int32) (al2 : Nat → Nat → Int32), w = wK E kq cg qf gf af qd gd2 ad2 qk gk ak ql gl2 al2 qr gr ar rx qm qx gx ax qs sx qo go ao qp gp_ ap L ∧ cfs gd2 ad2 gl2 = p_rounds C nn s ∧ gl2 0 = 0)) := by
  subst hs
  refine (K_try E kq cg qf gf af qd gd ad qk gk ak ql gl al qr gr ar rx qm qx gx ax qs sx qo go ao qp gp_ ap L m nn hnn C t ht hr4 hC hG.1 hG.2.1 hG.2.2).mono (fun v w hz => ?_)
  obtain ⟨h1, gd2, ad2, gl2, al2, rfl, h2, h3, h4, h5⟩ := hz
  exact ⟨h1, gd2, ad2, gl2, al2, rfl, by rw [h2]; unfold p_cr; rw [if_pos hl], h4.trans hl⟩
