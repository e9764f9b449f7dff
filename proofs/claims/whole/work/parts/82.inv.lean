/-! WHAT HOLDS OF A FLOOR at every call, and that it holds on -/
def INV (m : Nat) (s : FS) : Prop := GOOD s m ∧ BTS s m ∧ WET s ∧ EARS s ∧ ∃ V, 12 ≤ V ∧ V ≤ 240 ∧ s.1 1 = nI V
theorem INV.eq {m : Nat} {x s : FS} (h : INV m s) (e : EQ m 0 x s) : INV m x := by
  obtain ⟨h1, h2, h3, h4, V, v1, v2, v3⟩ := h
  refine ⟨h1.eq e, fun i hi => ?_, fun c hc => ?_, fun c hc => ?_, V, v1, v2, e.1.2.1.trans v3⟩
  · rw [e.2.2.2.2.1 i hi]; exact h2 i hi
  · rw [e.2.2.1 c hc]; exact h3 c hc
  · rw [e.2.1 c hc]; exact h4 c hc
theorem INV.m5 {m : Nat} {s : FS} (h : INV m s) : m ≤ 5 := h.1.1.1
theorem INV.g0 {m : Nat} {s : FS} (h : INV m s) : s.1 0 = nI m := h.1.1.2.1
theorem EQ.tryE {m : Nat} {x s : FS} (e : EQ m 0 x s) : FEQ m x s := by
  obtain ⟨⟨g0, g1, g2, g3, g4, g5⟩, a⟩ := e
  exact ⟨⟨g0, g1, g2, g3, rfl, rfl⟩, a⟩
theorem FEQ.tr {m : Nat} {x y z : FS} (h : FEQ m x y) (k : FEQ m y z) : FEQ m x z := EQ.tr0 h k
theorem FEQ.g {m : Nat} {s t : FS} (h : FEQ m s t) : s.1 0 = t.1 0 ∧ s.1 1 = t.1 1 ∧ s.1 2 = t.1 2 ∧ s.1 3 = t.1 3 := ⟨h.1.1, h.1.2.1, h.1.2.2.1, by have := h.1.2.2.2.1; rw [Int32.add_zero] at this; exact this⟩
theorem FEQ.a {m : Nat} {s t : FS} (h : FEQ m s t) : (∀ c, c < 12 → s.2 0 c = t.2 0 c) ∧ (∀ c, c < 12 → s.2 1 c = t.2 1 c) ∧ (∀ i, i < m → s.2 2 i = t.2 2 i) ∧ (∀ i, i < m → s.2 3 i = t.2 3 i) ∧ (∀ i, i < m → s.2 4 i = t.2 4 i) ∧ (∀ i, i < m → s.2 5 i = t.2 5 i) := h.2
theorem FEQ.mk {m : Nat} {s t : FS} (g : s.1 0 = t.1 0 ∧ s.1 1 = t.1 1 ∧ s.1 2 = t.1 2 ∧ s.1 3 = t.1 3) (a : (∀ c, c < 12 → s.2 0 c = t.2 0 c) ∧ (∀ c, c < 12 → s.2 1 c = t.2 1 c) ∧ (∀ i, i < m → s.2 2 i = t.2 2 i) ∧ (∀ i, i < m → s.2 3 i = t.2 3 i) ∧ (∀ i, i < m → s.2 4 i = t.2 4 i) ∧ (∀ i, i < m → s.2 5 i = t.2 5 i)) : FEQ m s t := ⟨⟨g.1, g.2.1, g.2.2.1, by rw [Int32.add_zero]; exact g.2.2.2, rfl, rfl⟩, a⟩
theorem FEQ.fi {m : Nat} {s t : FS} (h : FEQ m s t) (hF : FI s m) : FI t m := by
  obtain ⟨g0, g1, g2, g3⟩ := h.g
  obtain ⟨h1, h2, h3, r, h4, h5⟩ := hF
  exact ⟨h1, g0 ▸ h2, g1 ▸ h3, r, h4, g2 ▸ h5⟩
/-- one number of a row set -/
def p_put (j c : Nat) (v : Int32) (s : FS) : FS := (s.1, va_up s.2 j (upd (s.2 j) c v))
theorem cf_put {gf gl : Nat → Int32} {af : Nat → Nat → Int32} {j c : Nat} {v : Int32} (hj : j < 6) : cfs gf (va_up af j (upd (af j) c v)) gl = p_put j c v (cfs gf af gl) := by
  refine Prod.ext rfl (funext fun k => ?_)
  show (if k < 6 then va_up af j (upd (af j) c v) k else fun _ => 0) = va_up (cfs gf af gl).2 j (upd ((cfs gf af gl).2 j) c v) k
  simp only [va_up]
  by_cases e : k = j
  · rw [if_pos e, if_pos e, if_pos (by omega), show (cfs gf af gl).2 j = af j from if_pos hj]
  · rw [if_neg e, if_neg e]; rfl
theorem rf_put {g : Nat → Int32} {a : Nat → Nat → Int32} {j c : Nat} {v : Int32} (hj : j < 6) : rfs g (va_up a (4 + j) (upd (a (4 + j)) c v)) = p_put j c v (rfs g a) := by
  refine Prod.ext rfl (funext fun k => ?_)
  show (if k < 6 then va_up a (4 + j) (upd (a (4 + j)) c v) (4 + k) else fun _ => 0) = va_up (rfs g a).2 j (upd ((rfs g a).2 j) c v) k
  simp only [va_up]
  by_cases e : k = j
  · rw [if_pos (show 4 + k = 4 + j by omega), if_pos e, if_pos (by omega), show (rfs g a).2 j = a (4 + j) from if_pos hj]
  · rw [if_neg (show ¬ 4 + k = 4 + j by omega), if_neg e]; rfl
theorem put_ag {s t : FS} {j c j2 n : Nat} {v : Int32} (h : ∀ i, i < n → s.2 j2 i = t.2 j2 i) : ∀ i, i < n → (p_put j c v s).2 j2 i = (p_put j c v t).2 j2 i := by
  intro i hi
  simp only [p_put, va_up]
  by_cases e : j2 = j
  · subst e
    rw [if_pos rfl, if_pos rfl]
    exact upd_ag h rfl i hi
  · rw [if_neg e, if_neg e]; exact h i hi
theorem FEQ.put {m : Nat} {s t : FS} (h : FEQ m s t) (j c : Nat) (v : Int32) : FEQ m (p_put j c v s) (p_put j c v t) := by
  obtain ⟨a0, a1, a2, a3, a4, a5⟩ := h.a
  exact FEQ.mk h.g ⟨put_ag a0, put_ag a1, put_ag a2, put_ag a3, put_ag a4, put_ag a5⟩
theorem upd_P {P : Int32 → Prop} {f : Nat → Int32} {c i : Nat} {v : Int32} (h1 : P v) (h2 : P (f i)) : P (upd f c v i) := by
  simp only [upd]
  split
  · exact h1
  · exact h2
theorem INV.put0 {m c : Nat} {s : FS} {v : Int32} (h : INV m s) (hv : ∃ E, E ≤ 9999 ∧ v = nI E) : INV m (p_put 0 c v s) := ⟨h.1, h.2.1, h.2.2.1, fun i hi => upd_P (P := fun x => ∃ E, E ≤ 9999 ∧ x = nI E) hv (h.2.2.2.1 i hi), h.2.2.2.2⟩
theorem INV.put1 {m c : Nat} {s : FS} {v : Int32} (h : INV m s) (hv : ∃ E, E ≤ 9 ∧ v = nI E) : INV m (p_put 1 c v s) := ⟨h.1, h.2.1, fun i hi => upd_P (P := fun x => ∃ E, E ≤ 9 ∧ x = nI E) hv (h.2.2.1 i hi), h.2.2.2.1, h.2.2.2.2⟩
theorem INV.put3 {m c : Nat} {s : FS} {v : Int32} (h : INV m s) (hv : ∃ E, E ≤ 239 ∧ v = nI E) : INV m (p_put 3 c v s) := ⟨h.1, fun i hi => upd_P (P := fun x => ∃ E, E ≤ 239 ∧ x = nI E) hv (h.2.1 i hi), h.2.2.1, h.2.2.2.1, h.2.2.2.2⟩
theorem INV.put4 {m c : Nat} {s : FS} {v : Int32} (h : INV m s) (hv : ∃ E, E ≤ 9 ∧ v = nI E) : INV m (p_put 4 c v s) := ⟨⟨h.1.1, h.1.2.1, fun i hi => ⟨(h.1.2.2 i hi).1, upd_P (P := fun x => ∃ E, E ≤ 9 ∧ x = nI E) hv (h.1.2.2 i hi).2.1, (h.1.2.2 i hi).2.2⟩⟩, h.2⟩
theorem INV.put5 {m c : Nat} {s : FS} {v : Int32} (h : INV m s) (hv : ∃ E, E ≤ 9 ∧ v = nI E) : INV m (p_put 5 c v s) := ⟨⟨h.1.1, h.1.2.1, fun i hi => ⟨(h.1.2.2 i hi).1, (h.1.2.2 i hi).2.1, upd_P (P := fun x => ∃ E, E ≤ 9 ∧ x = nI E) hv (h.1.2.2 i hi).2.2⟩⟩, h.2⟩
theorem inI_n {x : Int32} {N : Nat} (hN : N < 2 ^ 31) (h : ¬ inI x 0 (nI N) = 0) : ∃ j, j ≤ N ∧ x = nI j := by
  obtain ⟨a, b⟩ := inI_yes h
  have h0 : (0 : Int32).toInt = 0 := by decide
  obtain ⟨B, hB, rfl⟩ := nI_of (x := x) (fun z => by have := Int32.lt_iff_toInt_lt.mp z; omega)
  rw [nI_toInt hB, nI_toInt hN] at b
  exact ⟨B, by omega, rfl⟩
/-- a man added -/
theorem FEQ.add {m : Nat} {s t : FS} (h : FEQ m s t) (hm : m < 5) (hs : s.1 0 = nI m) (k b w : Int32) : FEQ (m + 1) (p_add k b w s) (p_add k b w t) := by
  have ht : t.1 0 = nI m := h.g.1.symm.trans hs
  have hc : (s.1 0).toNatClampNeg = m := by rw [hs, nI_clamp (by omega)]
  have hc2 : (t.1 0).toNatClampNeg = m := by rw [ht, nI_clamp (by omega)]
  obtain ⟨a0, a1, a2, a3, a4, a5⟩ := h.a
  have key : ∀ {f g : Nat → Int32} {x y : Int32}, (∀ i, i < m → f i = g i) → x = y → ∀ i, i < m + 1 → upd f (s.1 0).toNatClampNeg x i = upd g (t.1 0).toNatClampNeg y i := by
    intro f g x y e hxy i hi
    rw [hc, hc2]
    simp only [upd]
    by_cases z : i = m
    · rw [if_pos z, if_pos z, hxy]
    · rw [if_neg z, if_neg z, e i (by omega)]
  refine FEQ.mk ⟨?_, h.g.2.1, h.g.2.2.1, h.g.2.2.2⟩ ⟨a0, a1, key a2 rfl, key a3 ?_, key a4 rfl, key a5 rfl⟩
  · show s.1 0 + 1 = t.1 0 + 1
    rw [h.g.1]
  · rw [h.g.2.1]
theorem INV.add {m : Nat} {s : FS} (h : INV m s) (hm : m < 5) {k b w : Int32} (hb : ¬ bad3 k b w) : INV (m + 1) (p_add k b w s) := by
  obtain ⟨⟨⟨f1, f2, f3, f4⟩, g2, g3⟩, h2, h3, h4, V, v1, v2, v3⟩ := h
  have hc : (s.1 0).toNatClampNeg = m := by rw [f2, nI_clamp (by omega)]
  obtain ⟨K, hK, rfl⟩ := inI_n (N := 5) (by decide) (fun z => hb (Or.inl z))
  obtain ⟨B, hB, rfl⟩ := inI_n (N := 239) (by decide) (fun z => hb (Or.inr (Or.inl z)))
  obtain ⟨W, hW, rfl⟩ := inI_n (N := 99) (by decide) (fun z => hb (Or.inr (Or.inr z)))
  have e1 : nI B - nI B / s.1 1 * s.1 1 = nI (B % V) := by rw [v3, pk_rem (by omega) (by omega) (by omega)]
  have e2 : nI W / 10 = nI (W / 10) := pk_div (a := W) (d := 10) (by omega) (by decide) (by decide)
  have e3 : nI W - nI W / 10 * 10 = nI (W % 10) := pk_rem (a := W) (d := 10) (by omega) (by decide) (by decide)
  have key : ∀ {P : Int32 → Prop} {f : Nat → Int32} {x : Int32}, P x → (∀ i, i < m → P (f i)) → ∀ i, i < m + 1 → P (upd f (s.1 0).toNatClampNeg x i) := by
    intro P f x hx e i hi
    rw [hc]
    simp only [upd]
    by_cases z : i = m
    · rw [if_pos z]; exact hx
    · rw [if_neg z]; exact e i (by omega)
  refine ⟨⟨⟨hm, ?_, f3, f4⟩, g2, fun i hi => ⟨?_, ?_, ?_⟩⟩, ?_, h3, h4, V, v1, v2, v3⟩
  · show s.1 0 + 1 = _
    rw [f2, nI_1]
  · exact key (P := fun x => ∃ K, K ≤ 5 ∧ x = nI K) ⟨K, hK, rfl⟩ (fun i hi => (g3 i hi).1) i hi
  · exact key (P := fun x => ∃ K, K ≤ 9 ∧ x = nI K) ⟨W / 10, by omega, e2⟩ (fun i hi => (g3 i hi).2.1) i hi
  · exact key (P := fun x => ∃ K, K ≤ 9 ∧ x = nI K) ⟨W % 10, by omega, e3⟩ (fun i hi => (g3 i hi).2.2) i hi
  · exact fun i hi => key (P := fun x => ∃ K, K ≤ 239 ∧ x = nI K) ⟨B % V, by have := Nat.mod_lt B (show 0 < V by omega); omega, e1⟩ h2 i hi
theorem man_E {m : Nat} {s t : FS} (h : FEQ m s t) (hI : INV m s) (k b w : Int32) : ∃ m2, m ≤ m2 ∧ FEQ m2 (p_man k b w s).1 (p_man k b w t).1 ∧ (p_man k b w s).2 = (p_man k b w t).2 ∧ INV m2 (p_man k b w s).1 := by
  rw [p_man, p_man]
  by_cases hb : inI k 0 5 = 0 ∨ inI b 0 239 = 0 ∨ inI w 0 99 = 0
  · rw [if_pos hb, if_pos hb]; exact ⟨m, Nat.le_refl _, h, rfl, hI⟩
  · rw [if_neg hb, if_neg hb, h.g.1]
    by_cases h5 : t.1 0 = 5
    · rw [if_pos h5, if_pos h5]; exact ⟨m, Nat.le_refl _, h, rfl, hI⟩
    · rw [if_neg h5, if_neg h5]
      have hm : m < 5 := by
        rcases Nat.lt_or_ge m 5 with z | z
        · exact z
        · have : m = 5 := by have := hI.m5; omega
          subst this
          exact absurd (h.g.1.symm.trans hI.g0) h5
      exact ⟨m + 1, by omega, h.add hm hI.g0 k b w, rfl, hI.add hm hb⟩
theorem mens_E {f f2 : Nat → Int32} {at0 : Int32} {N : Nat} (hf : ∀ k, k < N → f k = f2 k) : ∀ n k (s t : FS) (m : Nat) (c : Int32), FEQ m s t → INV m s → ∃ m2, m ≤ m2 ∧ FEQ m2 (p_mens f at0 N n k s c).1 (p_mens f2 at0 N n k t c).1 ∧ (p_mens f at0 N n k s c).2 = (p_mens f2 at0 N n k t c).2 ∧ INV m2 (p_mens f at0 N n k s c).1 := by
  intro n
  induction n with
  | zero => intro k s t m c h hI; rw [p_mens, p_mens]; exact ⟨m, Nat.le_refl _, h, rfl, hI⟩
  | succ n ih =>
    intro k s t m c h hI
    rw [p_mens, p_mens]
    by_cases hb : at0 < 0 ∨ N < at0.toNatClampNeg + 3 * k + 3
    · rw [if_pos hb, if_pos hb]; exact ⟨m, Nat.le_refl _, h, rfl, hI⟩
    · rw [if_neg hb, if_neg hb, hf (at0.toNatClampNeg + 3 * k) (by omega), hf (at0.toNatClampNeg + 3 * k + 1) (by omega), hf (at0.toNatClampNeg + 3 * k + 2) (by omega)]
      obtain ⟨m2, l1, l2, l3, l4⟩ := man_E h hI (f2 (at0.toNatClampNeg + 3 * k)) (f2 (at0.toNatClampNeg + 3 * k + 1)) (f2 (at0.toNatClampNeg + 3 * k + 2))
      rw [l3]
      obtain ⟨m3, n1, n2, n3, n4⟩ := ih (k + 1) _ _ m2 (c + if 0 ≤ (p_man (f2 (at0.toNatClampNeg + 3 * k)) (f2 (at0.toNatClampNeg + 3 * k + 1)) (f2 (at0.toNatClampNeg + 3 * k + 2)) t).2 then 1 else 0) l2 l4
      exact ⟨m3, by omega, n2, n3, n4⟩
