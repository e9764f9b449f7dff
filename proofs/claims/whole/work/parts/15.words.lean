def b01 (p : Prop) [Decidable p] : Int32 := if p then 1 else 0
theorem b01_0 {p : Prop} [Decidable p] : b01 p = 0 ↔ ¬ p := by unfold b01; split <;> simp_all
theorem b01_n {p : Prop} [Decidable p] : ¬ b01 p = 0 ↔ p := by unfold b01; split <;> simp_all
theorem b01_t {p : Prop} [Decidable p] (h : p) : b01 p = 1 := if_pos h
theorem b01_f {p : Prop} [Decidable p] (h : ¬ p) : b01 p = 0 := if_neg h
theorem b01_nar {p : Prop} [Decidable p] : narrow .boolean (.int (b01 p)) = .int (b01 p) := by unfold b01; split <;> decide
def vec (B : Nat → Int32) (s e k : Nat) : Int32 := if s + k < e then B (s + k) else 0
abbrev isW8 (B : Nat → Int32) (s e : Nat) (c0 c1 c2 c3 c4 c5 c6 c7 : Int32) : Prop := e ≤ s + 8 ∧ vec B s e 0 = c0 ∧ vec B s e 1 = c1 ∧ vec B s e 2 = c2 ∧ vec B s e 3 = c3 ∧ vec B s e 4 = c4 ∧ vec B s e 5 = c5 ∧ vec B s e 6 = c6 ∧ vec B s e 7 = c7

def wcode (B : Nat → Int32) (s e : Nat) : Int32 := if isW8 B s e 103 105 118 101 115 0 0 0 then 3 else if isW8 B s e 100 114 105 102 116 115 0 0 then 4 else if isW8 B s e 104 117 114 116 115 0 0 0 then 5 else if isW8 B s e 111 114 0 0 0 0 0 0 then 6 else if isW8 B s e 97 110 100 0 0 0 0 0 then 7 else if isW8 B s e 110 111 116 0 0 0 0 0 then 8 else if isW8 B s e 102 111 114 99 101 0 0 0 then 9 else if isW8 B s e 119 101 116 0 0 0 0 0 then 10 else if isW8 B s e 103 97 112 0 0 0 0 0 then 11 else if isW8 B s e 101 97 114 115 0 0 0 0 then 12 else if isW8 B s e 114 111 117 110 100 0 0 0 then 13 else if isW8 B s e 116 105 114 101 100 0 0 0 then 14 else 2
theorem wc_3 {B : Nat → Int32} {s e : Nat} (h : isW8 B s e 103 105 118 101 115 0 0 0) : wcode B s e = 3 := by
  obtain ⟨h0, h1, h2, h3, h4, h5, h6, h7, h8⟩ := h
  simp [wcode, isW8, h0, h1, h2, h3, h4, h5, h6, h7, h8]
theorem wc_4 {B : Nat → Int32} {s e : Nat} (h : isW8 B s e 100 114 105 102 116 115 0 0) : wcode B s e = 4 := by
  obtain ⟨h0, h1, h2, h3, h4, h5, h6, h7, h8⟩ := h
  simp [wcode, isW8, h0, h1, h2, h3, h4, h5, h6, h7, h8]
theorem wc_5 {B : Nat → Int32} {s e : Nat} (h : isW8 B s e 104 117 114 116 115 0 0 0) : wcode B s e = 5 := by
  obtain ⟨h0, h1, h2, h3, h4, h5, h6, h7, h8⟩ := h
  simp [wcode, isW8, h0, h1, h2, h3, h4, h5, h6, h7, h8]
theorem wc_6 {B : Nat → Int32} {s e : Nat} (h : isW8 B s e 111 114 0 0 0 0 0 0) : wcode B s e = 6 := by
  obtain ⟨h0, h1, h2, h3, h4, h5, h6, h7, h8⟩ := h
  simp [wcode, isW8, h0, h1, h2, h3, h4, h5, h6, h7, h8]
theorem wc_7 {B : Nat → Int32} {s e : Nat} (h : isW8 B s e 97 110 100 0 0 0 0 0) : wcode B s e = 7 := by
  obtain ⟨h0, h1, h2, h3, h4, h5, h6, h7, h8⟩ := h
  simp [wcode, isW8, h0, h1, h2, h3, h4, h5, h6, h7, h8]
theorem wc_8 {B : Nat → Int32} {s e : Nat} (h : isW8 B s e 110 111 116 0 0 0 0 0) : wcode B s e = 8 := by
  obtain ⟨h0, h1, h2, h3, h4, h5, h6, h7, h8⟩ := h
  simp [wcode, isW8, h0, h1, h2, h3, h4, h5, h6, h7, h8]
theorem wc_9 {B : Nat → Int32} {s e : Nat} (h : isW8 B s e 102 111 114 99 101 0 0 0) : wcode B s e = 9 := by
  obtain ⟨h0, h1, h2, h3, h4, h5, h6, h7, h8⟩ := h
  simp [wcode, isW8, h0, h1, h2, h3, h4, h5, h6, h7, h8]
theorem wc_10 {B : Nat → Int32} {s e : Nat} (h : isW8 B s e 119 101 116 0 0 0 0 0) : wcode B s e = 10 := by
  obtain ⟨h0, h1, h2, h3, h4, h5, h6, h7, h8⟩ := h
  simp [wcode, isW8, h0, h1, h2, h3, h4, h5, h6, h7, h8]
theorem wc_11 {B : Nat → Int32} {s e : Nat} (h : isW8 B s e 103 97 112 0 0 0 0 0) : wcode B s e = 11 := by
  obtain ⟨h0, h1, h2, h3, h4, h5, h6, h7, h8⟩ := h
  simp [wcode, isW8, h0, h1, h2, h3, h4, h5, h6, h7, h8]
theorem wc_12 {B : Nat → Int32} {s e : Nat} (h : isW8 B s e 101 97 114 115 0 0 0 0) : wcode B s e = 12 := by
  obtain ⟨h0, h1, h2, h3, h4, h5, h6, h7, h8⟩ := h
  simp [wcode, isW8, h0, h1, h2, h3, h4, h5, h6, h7, h8]
theorem wc_13 {B : Nat → Int32} {s e : Nat} (h : isW8 B s e 114 111 117 110 100 0 0 0) : wcode B s e = 13 := by
  obtain ⟨h0, h1, h2, h3, h4, h5, h6, h7, h8⟩ := h
  simp [wcode, isW8, h0, h1, h2, h3, h4, h5, h6, h7, h8]
theorem wc_14 {B : Nat → Int32} {s e : Nat} (h : isW8 B s e 116 105 114 101 100 0 0 0) : wcode B s e = 14 := by
  obtain ⟨h0, h1, h2, h3, h4, h5, h6, h7, h8⟩ := h
  simp [wcode, isW8, h0, h1, h2, h3, h4, h5, h6, h7, h8]
theorem wc_in (B : Nat → Int32) (s e : Nat) : wcode B s e = 3 ∧ isW8 B s e 103 105 118 101 115 0 0 0 ∨ wcode B s e = 4 ∧ isW8 B s e 100 114 105 102 116 115 0 0 ∨ wcode B s e = 5 ∧ isW8 B s e 104 117 114 116 115 0 0 0 ∨ wcode B s e = 6 ∧ isW8 B s e 111 114 0 0 0 0 0 0 ∨ wcode B s e = 7 ∧ isW8 B s e 97 110 100 0 0 0 0 0 ∨ wcode B s e = 8 ∧ isW8 B s e 110 111 116 0 0 0 0 0 ∨ wcode B s e = 9 ∧ isW8 B s e 102 111 114 99 101 0 0 0 ∨ wcode B s e = 10 ∧ isW8 B s e 119 101 116 0 0 0 0 0 ∨ wcode B s e = 11 ∧ isW8 B s e 103 97 112 0 0 0 0 0 ∨ wcode B s e = 12 ∧ isW8 B s e 101 97 114 115 0 0 0 0 ∨ wcode B s e = 13 ∧ isW8 B s e 114 111 117 110 100 0 0 0 ∨ wcode B s e = 14 ∧ isW8 B s e 116 105 114 101 100 0 0 0 ∨ wcode B s e = 2 := by
  unfold wcode
  by_cases k0 : isW8 B s e 103 105 118 101 115 0 0 0
  · rw [if_pos k0]; exact Or.inl ⟨rfl, k0⟩
  rw [if_neg k0]
  by_cases k1 : isW8 B s e 100 114 105 102 116 115 0 0
  · rw [if_pos k1]; exact Or.inr (Or.inl ⟨rfl, k1⟩)
  rw [if_neg k1]
  by_cases k2 : isW8 B s e 104 117 114 116 115 0 0 0
  · rw [if_pos k2]; exact Or.inr (Or.inr (Or.inl ⟨rfl, k2⟩))
  rw [if_neg k2]
  by_cases k3 : isW8 B s e 111 114 0 0 0 0 0 0
  · rw [if_pos k3]; exact Or.inr (Or.inr (Or.inr (Or.inl ⟨rfl, k3⟩)))
  rw [if_neg k3]
  by_cases k4 : isW8 B s e 97 110 100 0 0 0 0 0
  · rw [if_pos k4]; exact Or.inr (Or.inr (Or.inr (Or.inr (Or.inl ⟨rfl, k4⟩))))
  rw [if_neg k4]
  by_cases k5 : isW8 B s e 110 111 116 0 0 0 0 0
  · rw [if_pos k5]; exact Or.inr (Or.inr (Or.inr (Or.inr (Or.inr (Or.inl ⟨rfl, k5⟩)))))
  rw [if_neg k5]
  by_cases k6 : isW8 B s e 102 111 114 99 101 0 0 0
  · rw [if_pos k6]; exact Or.inr (Or.inr (Or.inr (Or.inr (Or.inr (Or.inr (Or.inl ⟨rfl, k6⟩))))))
  rw [if_neg k6]
  by_cases k7 : isW8 B s e 119 101 116 0 0 0 0 0
  · rw [if_pos k7]; exact Or.inr (Or.inr (Or.inr (Or.inr (Or.inr (Or.inr (Or.inr (Or.inl ⟨rfl, k7⟩)))))))
  rw [if_neg k7]
  by_cases k8 : isW8 B s e 103 97 112 0 0 0 0 0
  · rw [if_pos k8]; exact Or.inr (Or.inr (Or.inr (Or.inr (Or.inr (Or.inr (Or.inr (Or.inr (Or.inl ⟨rfl, k8⟩))))))))
  rw [if_neg k8]
  by_cases k9 : isW8 B s e 101 97 114 115 0 0 0 0
  · rw [if_pos k9]; exact Or.inr (Or.inr (Or.inr (Or.inr (Or.inr (Or.inr (Or.inr (Or.inr (Or.inr (Or.inl ⟨rfl, k9⟩)))))))))
  rw [if_neg k9]
  by_cases k10 : isW8 B s e 114 111 117 110 100 0 0 0
  · rw [if_pos k10]; exact Or.inr (Or.inr (Or.inr (Or.inr (Or.inr (Or.inr (Or.inr (Or.inr (Or.inr (Or.inr (Or.inl ⟨rfl, k10⟩))))))))))
  rw [if_neg k10]
  by_cases k11 : isW8 B s e 116 105 114 101 100 0 0 0
  · rw [if_pos k11]; exact Or.inr (Or.inr (Or.inr (Or.inr (Or.inr (Or.inr (Or.inr (Or.inr (Or.inr (Or.inr (Or.inr (Or.inl ⟨rfl, k11⟩)))))))))))
  rw [if_neg k11]
  exact Or.inr (Or.inr (Or.inr (Or.inr (Or.inr (Or.inr (Or.inr (Or.inr (Or.inr (Or.inr (Or.inr (Or.inr rfl)))))))))))
theorem wci_3 {B : Nat → Int32} {s e : Nat} : wcode B s e = 3 ↔ isW8 B s e 103 105 118 101 115 0 0 0 := by
  refine ⟨fun h => ?_, wc_3⟩
  rcases wc_in B s e with ⟨z, y⟩ | ⟨z, y⟩ | ⟨z, y⟩ | ⟨z, y⟩ | ⟨z, y⟩ | ⟨z, y⟩ | ⟨z, y⟩ | ⟨z, y⟩ | ⟨z, y⟩ | ⟨z, y⟩ | ⟨z, y⟩ | ⟨z, y⟩ | ⟨z⟩
  · first | exact y | (rw [h] at z; exact absurd z (by decide))
  · first | exact y | (rw [h] at z; exact absurd z (by decide))
  · first | exact y | (rw [h] at z; exact absurd z (by decide))
  · first | exact y | (rw [h] at z; exact absurd z (by decide))
  · first | exact y | (rw [h] at z; exact absurd z (by decide))
  · first | exact y | (rw [h] at z; exact absurd z (by decide))
  · first | exact y | (rw [h] at z; exact absurd z (by decide))
  · first | exact y | (rw [h] at z; exact absurd z (by decide))
  · first | exact y | (rw [h] at z; exact absurd z (by decide))
  · first | exact y | (rw [h] at z; exact absurd z (by decide))
  · first | exact y | (rw [h] at z; exact absurd z (by decide))
  · first | exact y | (rw [h] at z; exact absurd z (by decide))
  · rw [h] at z; exact absurd z (by decide)
theorem wci_4 {B : Nat → Int32} {s e : Nat} : wcode B s e = 4 ↔ isW8 B s e 100 114 105 102 116 115 0 0 := by
  refine ⟨fun h => ?_, wc_4⟩
  rcases wc_in B s e with ⟨z, y⟩ | ⟨z, y⟩ | ⟨z, y⟩ | ⟨z, y⟩ | ⟨z, y⟩ | ⟨z, y⟩ | ⟨z, y⟩ | ⟨z, y⟩ | ⟨z, y⟩ | ⟨z, y⟩ | ⟨z, y⟩ | ⟨z, y⟩ | ⟨z⟩
  · first | exact y | (rw [h] at z; exact absurd z (by decide))
  · first | exact y | (rw [h] at z; exact absurd z (by decide))
  · first | exact y | (rw [h] at z; exact absurd z (by decide))
  · first | exact y | (rw [h] at z; exact absurd z (by decide))
  · first | exact y | (rw [h] at z; exact absurd z (by decide))
  · first | exact y | (rw [h] at z; exact absurd z (by decide))
  · first | exact y | (rw [h] at z; exact absurd z (by decide))
  · first | exact y | (rw [h] at z; exact absurd z (by decide))
  · first | exact y | (rw [h] at z; exact absurd z (by decide))
  · first | exact y | (rw [h] at z; exact absurd z (by decide))
  · first | exact y | (rw [h] at z; exact absurd z (by decide))
  · first | exact y | (rw [h] at z; exact absurd z (by decide))
  · rw [h] at z; exact absurd z (by decide)
theorem wci_5 {B : Nat → Int32} {s e : Nat} : wcode B s e = 5 ↔ isW8 B s e 104 117 114 116 115 0 0 0 := by
  refine ⟨fun h => ?_, wc_5⟩
  rcases wc_in B s e with ⟨z, y⟩ | ⟨z, y⟩ | ⟨z, y⟩ | ⟨z, y⟩ | ⟨z, y⟩ | ⟨z, y⟩ | ⟨z, y⟩ | ⟨z, y⟩ | ⟨z, y⟩ | ⟨z, y⟩ | ⟨z, y⟩ | ⟨z, y⟩ | ⟨z⟩
  · first | exact y | (rw [h] at z; exact absurd z (by decide))
  · first | exact y | (rw [h] at z; exact absurd z (by decide))
  · first | exact y | (rw [h] at z; exact absurd z (by decide))
  · first | exact y | (rw [h] at z; exact absurd z (by decide))
  · first | exact y | (rw [h] at z; exact absurd z (by decide))
  · first | exact y | (rw [h] at z; exact absurd z (by decide))
  · first | exact y | (rw [h] at z; exact absurd z (by decide))
  · first | exact y | (rw [h] at z; exact absurd z (by decide))
  · first | exact y | (rw [h] at z; exact absurd z (by decide))
  · first | exact y | (rw [h] at z; exact absurd z (by decide))
  · first | exact y | (rw [h] at z; exact absurd z (by decide))
  · first | exact y | (rw [h] at z; exact absurd z (by decide))
  · rw [h] at z; exact absurd z (by decide)
theorem wci_6 {B : Nat → Int32} {s e : Nat} : wcode B s e = 6 ↔ isW8 B s e 111 114 0 0 0 0 0 0 := by
  refine ⟨fun h => ?_, wc_6⟩
  rcases wc_in B s e with ⟨z, y⟩ | ⟨z, y⟩ | ⟨z, y⟩ | ⟨z, y⟩ | ⟨z, y⟩ | ⟨z, y⟩ | ⟨z, y⟩ | ⟨z, y⟩ | ⟨z, y⟩ | ⟨z, y⟩ | ⟨z, y⟩ | ⟨z, y⟩ | ⟨z⟩
  · first | exact y | (rw [h] at z; exact absurd z (by decide))
  · first | exact y | (rw [h] at z; exact absurd z (by decide))
  · first | exact y | (rw [h] at z; exact absurd z (by decide))
  · first | exact y | (rw [h] at z; exact absurd z (by decide))
  · first | exact y | (rw [h] at z; exact absurd z (by decide))
  · first | exact y | (rw [h] at z; exact absurd z (by decide))
  · first | exact y | (rw [h] at z; exact absurd z (by decide))
  · first | exact y | (rw [h] at z; exact absurd z (by decide))
  · first | exact y | (rw [h] at z; exact absurd z (by decide))
  · first | exact y | (rw [h] at z; exact absurd z (by decide))
  · first | exact y | (rw [h] at z; exact absurd z (by decide))
  · first | exact y | (rw [h] at z; exact absurd z (by decide))
  · rw [h] at z; exact absurd z (by decide)
theorem wci_7 {B : Nat → Int32} {s e : Nat} : wcode B s e = 7 ↔ isW8 B s e 97 110 100 0 0 0 0 0 := by
  refine ⟨fun h => ?_, wc_7⟩
  rcases wc_in B s e with ⟨z, y⟩ | ⟨z, y⟩ | ⟨z, y⟩ | ⟨z, y⟩ | ⟨z, y⟩ | ⟨z, y⟩ | ⟨z, y⟩ | ⟨z, y⟩ | ⟨z, y⟩ | ⟨z, y⟩ | ⟨z, y⟩ | ⟨z, y⟩ | ⟨z⟩
  · first | exact y | (rw [h] at z; exact absurd z (by decide))
  · first | exact y | (rw [h] at z; exact absurd z (by decide))
  · first | exact y | (rw [h] at z; exact absurd z (by decide))
  · first | exact y | (rw [h] at z; exact absurd z (by decide))
  · first | exact y | (rw [h] at z; exact absurd z (by decide))
  · first | exact y | (rw [h] at z; exact absurd z (by decide))
  · first | exact y | (rw [h] at z; exact absurd z (by decide))
  · first | exact y | (rw [h] at z; exact absurd z (by decide))
  · first | exact y | (rw [h] at z; exact absurd z (by decide))
  · first | exact y | (rw [h] at z; exact absurd z (by decide))
  · first | exact y | (rw [h] at z; exact absurd z (by decide))
  · first | exact y | (rw [h] at z; exact absurd z (by decide))
  · rw [h] at z; exact absurd z (by decide)
theorem wci_8 {B : Nat → Int32} {s e : Nat} : wcode B s e = 8 ↔ isW8 B s e 110 111 116 0 0 0 0 0 := by
  refine ⟨fun h => ?_, wc_8⟩
  rcases wc_in B s e with ⟨z, y⟩ | ⟨z, y⟩ | ⟨z, y⟩ | ⟨z, y⟩ | ⟨z, y⟩ | ⟨z, y⟩ | ⟨z, y⟩ | ⟨z, y⟩ | ⟨z, y⟩ | ⟨z, y⟩ | ⟨z, y⟩ | ⟨z, y⟩ | ⟨z⟩
  · first | exact y | (rw [h] at z; exact absurd z (by decide))
  · first | exact y | (rw [h] at z; exact absurd z (by decide))
  · first | exact y | (rw [h] at z; exact absurd z (by decide))
  · first | exact y | (rw [h] at z; exact absurd z (by decide))
  · first | exact y | (rw [h] at z; exact absurd z (by decide))
  · first | exact y | (rw [h] at z; exact absurd z (by decide))
  · first | exact y | (rw [h] at z; exact absurd z (by decide))
  · first | exact y | (rw [h] at z; exact absurd z (by decide))
  · first | exact y | (rw [h] at z; exact absurd z (by decide))
  · first | exact y | (rw [h] at z; exact absurd z (by decide))
  · first | exact y | (rw [h] at z; exact absurd z (by decide))
  · first | exact y | (rw [h] at z; exact absurd z (by decide))
  · rw [h] at z; exact absurd z (by decide)
theorem wci_9 {B : Nat → Int32} {s e : Nat} : wcode B s e = 9 ↔ isW8 B s e 102 111 114 99 101 0 0 0 := by
  refine ⟨fun h => ?_, wc_9⟩
  rcases wc_in B s e with ⟨z, y⟩ | ⟨z, y⟩ | ⟨z, y⟩ | ⟨z, y⟩ | ⟨z, y⟩ | ⟨z, y⟩ | ⟨z, y⟩ | ⟨z, y⟩ | ⟨z, y⟩ | ⟨z, y⟩ | ⟨z, y⟩ | ⟨z, y⟩ | ⟨z⟩
  · first | exact y | (rw [h] at z; exact absurd z (by decide))
  · first | exact y | (rw [h] at z; exact absurd z (by decide))
  · first | exact y | (rw [h] at z; exact absurd z (by decide))
  · first | exact y | (rw [h] at z; exact absurd z (by decide))
  · first | exact y | (rw [h] at z; exact absurd z (by decide))
  · first | exact y | (rw [h] at z; exact absurd z (by decide))
  · first | exact y | (rw [h] at z; exact absurd z (by decide))
  · first | exact y | (rw [h] at z; exact absurd z (by decide))
  · first | exact y | (rw [h] at z; exact absurd z (by decide))
  · first | exact y | (rw [h] at z; exact absurd z (by decide))
  · first | exact y | (rw [h] at z; exact absurd z (by decide))
  · first | exact y | (rw [h] at z; exact absurd z (by decide))
  · rw [h] at z; exact absurd z (by decide)
theorem wci_10 {B : Nat → Int32} {s e : Nat} : wcode B s e = 10 ↔ isW8 B s e 119 101 116 0 0 0 0 0 := by
  refine ⟨fun h => ?_, wc_10⟩
  rcases wc_in B s e with ⟨z, y⟩ | ⟨z, y⟩ | ⟨z, y⟩ | ⟨z, y⟩ | ⟨z, y⟩ | ⟨z, y⟩ | ⟨z, y⟩ | ⟨z, y⟩ | ⟨z, y⟩ | ⟨z, y⟩ | ⟨z, y⟩ | ⟨z, y⟩ | ⟨z⟩
  · first | exact y | (rw [h] at z; exact absurd z (by decide))
  · first | exact y | (rw [h] at z; exact absurd z (by decide))
  · first | exact y | (rw [h] at z; exact absurd z (by decide))
  · first | exact y | (rw [h] at z; exact absurd z (by decide))
  · first | exact y | (rw [h] at z; exact absurd z (by decide))
  · first | exact y | (rw [h] at z; exact absurd z (by decide))
  · first | exact y | (rw [h] at z; exact absurd z (by decide))
  · first | exact y | (rw [h] at z; exact absurd z (by decide))
  · first | exact y | (rw [h] at z; exact absurd z (by decide))
  · first | exact y | (rw [h] at z; exact absurd z (by decide))
  · first | exact y | (rw [h] at z; exact absurd z (by decide))
  · first | exact y | (rw [h] at z; exact absurd z (by decide))
  · rw [h] at z; exact absurd z (by decide)
theorem wci_11 {B : Nat → Int32} {s e : Nat} : wcode B s e = 11 ↔ isW8 B s e 103 97 112 0 0 0 0 0 := by
  refine ⟨fun h => ?_, wc_11⟩
  rcases wc_in B s e with ⟨z, y⟩ | ⟨z, y⟩ | ⟨z, y⟩ | ⟨z, y⟩ | ⟨z, y⟩ | ⟨z, y⟩ | ⟨z, y⟩ | ⟨z, y⟩ | ⟨z, y⟩ | ⟨z, y⟩ | ⟨z, y⟩ | ⟨z, y⟩ | ⟨z⟩
  · first | exact y | (rw [h] at z; exact absurd z (by decide))
  · first | exact y | (rw [h] at z; exact absurd z (by decide))
  · first | exact y | (rw [h] at z; exact absurd z (by decide))
  · first | exact y | (rw [h] at z; exact absurd z (by decide))
  · first | exact y | (rw [h] at z; exact absurd z (by decide))
  · first | exact y | (rw [h] at z; exact absurd z (by decide))
  · first | exact y | (rw [h] at z; exact absurd z (by decide))
  · first | exact y | (rw [h] at z; exact absurd z (by decide))
  · first | exact y | (rw [h] at z; exact absurd z (by decide))
  · first | exact y | (rw [h] at z; exact absurd z (by decide))
  · first | exact y | (rw [h] at z; exact absurd z (by decide))
  · first | exact y | (rw [h] at z; exact absurd z (by decide))
  · rw [h] at z; exact absurd z (by decide)
theorem wci_12 {B : Nat → Int32} {s e : Nat} : wcode B s e = 12 ↔ isW8 B s e 101 97 114 115 0 0 0 0 := by
  refine ⟨fun h => ?_, wc_12⟩
  rcases wc_in B s e with ⟨z, y⟩ | ⟨z, y⟩ | ⟨z, y⟩ | ⟨z, y⟩ | ⟨z, y⟩ | ⟨z, y⟩ | ⟨z, y⟩ | ⟨z, y⟩ | ⟨z, y⟩ | ⟨z, y⟩ | ⟨z, y⟩ | ⟨z, y⟩ | ⟨z⟩
  · first | exact y | (rw [h] at z; exact absurd z (by decide))
  · first | exact y | (rw [h] at z; exact absurd z (by decide))
  · first | exact y | (rw [h] at z; exact absurd z (by decide))
  · first | exact y | (rw [h] at z; exact absurd z (by decide))
  · first | exact y | (rw [h] at z; exact absurd z (by decide))
  · first | exact y | (rw [h] at z; exact absurd z (by decide))
  · first | exact y | (rw [h] at z; exact absurd z (by decide))
  · first | exact y | (rw [h] at z; exact absurd z (by decide))
  · first | exact y | (rw [h] at z; exact absurd z (by decide))
  · first | exact y | (rw [h] at z; exact absurd z (by decide))
  · first | exact y | (rw [h] at z; exact absurd z (by decide))
  · first | exact y | (rw [h] at z; exact absurd z (by decide))
  · rw [h] at z; exact absurd z (by decide)
theorem wci_13 {B : Nat → Int32} {s e : Nat} : wcode B s e = 13 ↔ isW8 B s e 114 111 117 110 100 0 0 0 := by
  refine ⟨fun h => ?_, wc_13⟩
  rcases wc_in B s e with ⟨z, y⟩ | ⟨z, y⟩ | ⟨z, y⟩ | ⟨z, y⟩ | ⟨z, y⟩ | ⟨z, y⟩ | ⟨z, y⟩ | ⟨z, y⟩ | ⟨z, y⟩ | ⟨z, y⟩ | ⟨z, y⟩ | ⟨z, y⟩ | ⟨z⟩
  · first | exact y | (rw [h] at z; exact absurd z (by decide))
  · first | exact y | (rw [h] at z; exact absurd z (by decide))
  · first | exact y | (rw [h] at z; exact absurd z (by decide))
  · first | exact y | (rw [h] at z; exact absurd z (by decide))
  · first | exact y | (rw [h] at z; exact absurd z (by decide))
  · first | exact y | (rw [h] at z; exact absurd z (by decide))
  · first | exact y | (rw [h] at z; exact absurd z (by decide))
  · first | exact y | (rw [h] at z; exact absurd z (by decide))
  · first | exact y | (rw [h] at z; exact absurd z (by decide))
  · first | exact y | (rw [h] at z; exact absurd z (by decide))
  · first | exact y | (rw [h] at z; exact absurd z (by decide))
  · first | exact y | (rw [h] at z; exact absurd z (by decide))
  · rw [h] at z; exact absurd z (by decide)
theorem wci_14 {B : Nat → Int32} {s e : Nat} : wcode B s e = 14 ↔ isW8 B s e 116 105 114 101 100 0 0 0 := by
  refine ⟨fun h => ?_, wc_14⟩
  rcases wc_in B s e with ⟨z, y⟩ | ⟨z, y⟩ | ⟨z, y⟩ | ⟨z, y⟩ | ⟨z, y⟩ | ⟨z, y⟩ | ⟨z, y⟩ | ⟨z, y⟩ | ⟨z, y⟩ | ⟨z, y⟩ | ⟨z, y⟩ | ⟨z, y⟩ | ⟨z⟩
  · first | exact y | (rw [h] at z; exact absurd z (by decide))
  · first | exact y | (rw [h] at z; exact absurd z (by decide))
  · first | exact y | (rw [h] at z; exact absurd z (by decide))
  · first | exact y | (rw [h] at z; exact absurd z (by decide))
  · first | exact y | (rw [h] at z; exact absurd z (by decide))
  · first | exact y | (rw [h] at z; exact absurd z (by decide))
  · first | exact y | (rw [h] at z; exact absurd z (by decide))
  · first | exact y | (rw [h] at z; exact absurd z (by decide))
  · first | exact y | (rw [h] at z; exact absurd z (by decide))
  · first | exact y | (rw [h] at z; exact absurd z (by decide))
  · first | exact y | (rw [h] at z; exact absurd z (by decide))
  · first | exact y | (rw [h] at z; exact absurd z (by decide))
  · rw [h] at z; exact absurd z (by decide)
set_option maxRecDepth 100000 in
set_option maxHeartbeats 400000 in
theorem m_isSign (E : ag) (q : Nat → Nat) (g : Nat → Int32) (tw : Int64) (a : Nat → Nat → Int32) (x : Int32) : CT E yX6_isSign cX6_isSign 2 mX6_isSign.2.2.2.1 1 0 0 [.ref (q 0), .int x] (MW E q g tw a) (ri (fun r w => r = b01 (g 30 = 0 ∧ g 26 = 3 ∧ tw = x.toInt64) ∧ w = MW E q g tw a)) := by
  refine CT.of (M := mX6_isSign) (ls := [some (.ref (q 0)), some (.int x)]) (by decide) rfl (by decide) rfl (Nat.le_of_ble_eq_true rfl) ?_
  refine A_aload_n (dX6_isSign 0 rfl) rfl ?_
  refine A_get (dX6_isSign 1 rfl) fwX6_197 MW_0 MF_30 ?_
  refine A_if_ne 29 (dX6_isSign 2 rfl) (by decide) (fun h4 => ?_) (fun h4 => ?_)
  · refine A_iconst (0) (dX6_isSign 15 rfl) (by decide +kernel) ?_
    refine A_ri (dX6_isSign 16 rfl) rfl (by decide) ?_
    refine ⟨?_, rfl⟩
    simp_all [b01]
  · refine A_aload_n (dX6_isSign 3 rfl) rfl ?_
    refine A_get (dX6_isSign 4 rfl) fwX6_180 MW_0 MF_26 ?_
    refine A_iconst (3) (dX6_isSign 5 rfl) (by decide +kernel) ?_
    refine A_icmp_ne 29 (dX6_isSign 6 rfl) (by decide) (fun h12 => ?_) (fun h12 => ?_)
    · refine A_iconst (0) (dX6_isSign 15 rfl) (by decide +kernel) ?_
      refine A_ri (dX6_isSign 16 rfl) rfl (by decide) ?_
      refine ⟨?_, rfl⟩
      simp_all [b01]
    · refine A_aload_n (dX6_isSign 7 rfl) rfl ?_
      refine A_get (dX6_isSign 8 rfl) fwX6_191 MW_0 MF_28 ?_
      refine A_iload_n (dX6_isSign 9 rfl) rfl ?_
      refine A_i2l (dX6_isSign 10 rfl) ?_
      refine A_lcmp (dX6_isSign 11 rfl) ?_
      refine A_if_ne 29 (dX6_isSign 12 rfl) (by decide) (fun h22 => ?_) (fun h22 => ?_)
      · have hc : ¬ tw = x.toInt64 := fun z => h22 ((cmp_z _ _).mpr z)
        refine A_iconst (0) (dX6_isSign 15 rfl) (by decide +kernel) ?_
        refine A_ri (dX6_isSign 16 rfl) rfl (by decide) ?_
        refine ⟨?_, rfl⟩
        simp_all [b01]
      · have hc : tw = x.toInt64 := (cmp_z _ _).mp h22
        refine A_iconst (1) (dX6_isSign 13 rfl) (by decide +kernel) ?_
        refine A_goto 30 (dX6_isSign 14 rfl) (by decide) ?_
        refine A_ri (dX6_isSign 16 rfl) rfl (by decide) ?_
        refine ⟨?_, rfl⟩
        simp_all [b01]

set_option maxRecDepth 100000 in
set_option maxHeartbeats 400000 in
theorem m_isLetter (E : ag) (q : Nat → Nat) (g : Nat → Int32) (tw : Int64) (a : Nat → Nat → Int32) (fr n s e k : Nat) (B : Nat → Int32) (hT : TXC g a fr n B) (hs : g 27 = nI s) (he : g 25 = nI e) (hen : e ≤ n) (hsn : s ≤ n) (hk : k < 8) (x : Int32) : CT E yX6_isLetter cX6_isLetter 3 mX6_isLetter.2.2.2.1 2 0 0 [.ref (q 0), .int (nI k), .int x] (MW E q g tw a) (ri (fun r w => r = b01 (vec B s e k = x) ∧ w = MW E q g tw a)) := by
  refine CT.of (M := mX6_isLetter) (ls := [some (.ref (q 0)), some (.int (nI k)), some (.int x)]) (by decide) rfl (by decide) rfl (Nat.le_of_ble_eq_true rfl) ?_
  refine A_aload_n (dX6_isLetter 0 rfl) rfl ?_
  refine A_get (dX6_isLetter 1 rfl) fwX6_177 MW_0 MF_27 ?_
  refine A_iload_n (dX6_isLetter 2 rfl) rfl ?_
  refine A_iadd (dX6_isLetter 3 rfl) ?_
  refine A_aload_n (dX6_isLetter 4 rfl) rfl ?_
  refine A_get (dX6_isLetter 5 rfl) fwX6_171 MW_0 MF_25 ?_
  refine A_icmp_ge 35 (dX6_isLetter 6 rfl) (by decide) (fun h10 => ?_) (fun h10 => ?_)
  · have hke : e ≤ s + k := by
      rcases Nat.lt_or_ge (s + k) e with z | z
      · rw [hs, he, nI_add] at h10; exact absurd h10 (nI_ge z (by have := hT.2.2.2.1; omega))
      · exact z
    have hv : vec B s e k = 0 := if_neg (by omega)
    refine A_iload_n (dX6_isLetter 19 rfl) rfl ?_
    refine A_if_ne 43 (dX6_isLetter 20 rfl) (by decide) (fun h36 => ?_) (fun h36 => ?_)
    · refine A_iconst (0) (dX6_isLetter 23 rfl) (by decide +kernel) ?_
      refine A_ri (dX6_isLetter 24 rfl) rfl (by decide) ?_
      refine ⟨?_, rfl⟩
      rw [hv]
      first | exact (b01_t (by assumption)).symm | exact (b01_f (by assumption)).symm | exact (b01_t (Eq.symm (by assumption))).symm | exact (b01_f (fun z => absurd z.symm (by assumption))).symm
    · refine A_iconst (1) (dX6_isLetter 21 rfl) (by decide +kernel) ?_
      refine A_goto 44 (dX6_isLetter 22 rfl) (by decide) ?_
      refine A_ri (dX6_isLetter 24 rfl) rfl (by decide) ?_
      refine ⟨?_, rfl⟩
      rw [hv]
      first | exact (b01_t (by assumption)).symm | exact (b01_f (by assumption)).symm | exact (b01_t (Eq.symm (by assumption))).symm | exact (b01_f (fun z => absurd z.symm (by assumption))).symm
  · have hke : s + k < e := by
      rcases Nat.lt_or_ge (s + k) e with z | z
      · exact z
      · rw [hs, he, nI_add] at h10; exact absurd (nI_le z (by have := hT.2.2.2.1; omega)) h10
    have hv : vec B s e k = B (s + k) := if_pos hke
    refine A_aload_n (dX6_isLetter 7 rfl) rfl ?_
    refine A_aload_n (dX6_isLetter 8 rfl) rfl ?_
    refine A_get (dX6_isLetter 9 rfl) fwX6_177 MW_0 MF_27 ?_
    refine A_iload_n (dX6_isLetter 10 rfl) rfl ?_
    refine A_iadd (dX6_isLetter 11 rfl) ?_
    refine AW.stack (st2 := [.int (nI (s + k)), .ref (q 0)]) (by rw [hs, nI_add]) ?_
    refine A_callVWi 1 (dX6_isLetter 12 rfl) cbX6_byteAt cwX6_174 (m_byteAt E q g tw a fr n (s + k) B hT (by omega)) rfl rfl MW_0 rfl rfl (Nat.le_of_ble_eq_true rfl) (Nat.le_of_ble_eq_true rfl) (Nat.le_of_ble_eq_true rfl) (Nat.le_of_ble_eq_true rfl) (Nat.le_of_ble_eq_true rfl) ?_
    rintro r20 w1 ⟨rfl, rfl⟩
    refine AW.pcq (pc2 := 23) rfl ?_
    refine A_iload_n (dX6_isLetter 13 rfl) rfl ?_
    refine A_icmp_ne 31 (dX6_isLetter 14 rfl) (by decide) (fun h24 => ?_) (fun h24 => ?_)
    · refine A_iconst (0) (dX6_isLetter 17 rfl) (by decide +kernel) ?_
      refine A_goto 44 (dX6_isLetter 18 rfl) (by decide) ?_
      refine A_ri (dX6_isLetter 24 rfl) rfl (by decide) ?_
      refine ⟨?_, rfl⟩
      rw [hv]
      first | exact (b01_t (by assumption)).symm | exact (b01_f (by assumption)).symm | exact (b01_t (Eq.symm (by assumption))).symm | exact (b01_f (fun z => absurd z.symm (by assumption))).symm
    · refine A_iconst (1) (dX6_isLetter 15 rfl) (by decide +kernel) ?_
      refine A_goto 44 (dX6_isLetter 16 rfl) (by decide) ?_
      refine A_ri (dX6_isLetter 24 rfl) rfl (by decide) ?_
      refine ⟨?_, rfl⟩
      rw [hv]
      first | exact (b01_t (by assumption)).symm | exact (b01_f (by assumption)).symm | exact (b01_t (Eq.symm (by assumption))).symm | exact (b01_f (fun z => absurd z.symm (by assumption))).symm

set_option maxRecDepth 100000 in
set_option maxHeartbeats 400000 in
theorem m_isWord (E : ag) (q : Nat → Nat) (g : Nat → Int32) (tw : Int64) (a : Nat → Nat → Int32) (fr n s e : Nat) (B : Nat → Int32) (hT : TXC g a fr n B) (hs : g 27 = nI s) (he : g 25 = nI e) (hen : e ≤ n) (hsn : s ≤ n) (x0 x1 x2 x3 x4 x5 x6 x7 : Int32) : CT E yX6_isWord cX6_isWord 9 mX6_isWord.2.2.2.1 3 0 0 [.ref (q 0), .int x0, .int x1, .int x2, .int x3, .int x4, .int x5, .int x6, .int x7] (MW E q g tw a) (ri (fun r w => r = b01 (g 30 = 0 ∧ g 26 = 1 ∧ isW8 B s e x0 x1 x2 x3 x4 x5 x6 x7) ∧ w = MW E q g tw a)) := by
  refine CT.of (M := mX6_isWord) (ls := [some (.ref (q 0)), some (.int x0), some (.int x1), some (.int x2), some (.int x3), some (.int x4), some (.int x5), some (.int x6), some (.int x7)]) (by decide) rfl (by decide) rfl (Nat.le_of_ble_eq_true rfl) ?_
  refine A_aload_n (dX6_isWord 0 rfl) rfl ?_
  refine A_get (dX6_isWord 1 rfl) fwX6_197 MW_0 MF_30 ?_
  refine A_if_ne 112 (dX6_isWord 2 rfl) (by decide) (fun h4 => ?_) (fun h4 => ?_)
  · refine A_iconst (0) (dX6_isWord 56 rfl) (by decide +kernel) ?_
    refine A_ri (dX6_isWord 57 rfl) rfl (by decide) ?_
    refine ⟨?_, rfl⟩
    first | exact (b01_t ⟨by assumption, by assumption, hge, v0, v1, v2, v3, v4, v5, v6, v7⟩).symm | exact (b01_f (fun z => hge z.2.2.1)).symm | exact (b01_f (by simp_all)).symm | exact (b01_f (fun z => by simp_all)).symm
  · refine A_aload_n (dX6_isWord 3 rfl) rfl ?_
    refine A_get (dX6_isWord 4 rfl) fwX6_180 MW_0 MF_26 ?_
    refine A_iconst (1) (dX6_isWord 5 rfl) (by decide +kernel) ?_
    refine A_icmp_ne 112 (dX6_isWord 6 rfl) (by decide) (fun h12 => ?_) (fun h12 => ?_)
    · refine A_iconst (0) (dX6_isWord 56 rfl) (by decide +kernel) ?_
      refine A_ri (dX6_isWord 57 rfl) rfl (by decide) ?_
      refine ⟨?_, rfl⟩
      first | exact (b01_t ⟨by assumption, by assumption, hge, v0, v1, v2, v3, v4, v5, v6, v7⟩).symm | exact (b01_f (fun z => hge z.2.2.1)).symm | exact (b01_f (by simp_all)).symm | exact (b01_f (fun z => by simp_all)).symm
    · refine A_aload_n (dX6_isWord 7 rfl) rfl ?_
      refine A_get (dX6_isWord 8 rfl) fwX6_171 MW_0 MF_25 ?_
      refine A_aload_n (dX6_isWord 9 rfl) rfl ?_
      refine A_get (dX6_isWord 10 rfl) fwX6_177 MW_0 MF_27 ?_
      refine A_bipush (8) (dX6_isWord 11 rfl) (by decide +kernel) ?_
      refine A_iadd (dX6_isWord 12 rfl) ?_
      refine A_icmp_gt 112 (dX6_isWord 13 rfl) (by decide) (fun h26 => ?_) (fun h26 => ?_)
      · have hge : ¬ e ≤ s + 8 := by
          intro z
          rw [hs, he, show nI s + 8 = nI (s + 8) from nI_add s 8] at h26
          exact absurd (nI_le z (by have := hT.2.2.2.1; omega)) (Int32.not_le.mpr h26)
        refine A_iconst (0) (dX6_isWord 56 rfl) (by decide +kernel) ?_
        refine A_ri (dX6_isWord 57 rfl) rfl (by decide) ?_
        refine ⟨?_, rfl⟩
        first | exact (b01_t ⟨by assumption, by assumption, hge, v0, v1, v2, v3, v4, v5, v6, v7⟩).symm | exact (b01_f (fun z => hge z.2.2.1)).symm | exact (b01_f (by simp_all)).symm | exact (b01_f (fun z => by simp_all)).symm
      · have hge : e ≤ s + 8 := by
          rcases Nat.lt_or_ge (s + 8) e with z | z
          · rw [hs, he, show nI s + 8 = nI (s + 8) from nI_add s 8] at h26
            exact absurd (nI_lt z (by have := hT.2.2.2.1; omega)) h26
          · exact z
        refine A_aload_n (dX6_isWord 14 rfl) rfl ?_
        refine A_iconst (0) (dX6_isWord 15 rfl) (by decide +kernel) ?_
        refine A_iload_n (dX6_isWord 16 rfl) rfl ?_
        refine A_callVWi 2 (dX6_isWord 17 rfl) cbX6_isLetter cwX6_204 (m_isLetter E q g tw a fr n s e 0 B hT hs he hen hsn (by decide) x0) rfl rfl MW_0 rfl rfl (Nat.le_of_ble_eq_true rfl) (Nat.le_of_ble_eq_true rfl) (Nat.le_of_ble_eq_true rfl) (Nat.le_of_ble_eq_true rfl) (Nat.le_of_ble_eq_true rfl) ?_
        rintro r32 w1 ⟨rfl, rfl⟩
        refine AW.pcq (pc2 := 35) rfl ?_
        refine A_if_eq 112 (dX6_isWord 18 rfl) (by decide) (fun h35 => ?_) (fun h35 => ?_)
        · have v0 : ¬ vec B s e 0 = x0 := b01_0.mp h35
          refine A_iconst (0) (dX6_isWord 56 rfl) (by decide +kernel) ?_
          refine A_ri (dX6_isWord 57 rfl) rfl (by decide) ?_
          refine ⟨?_, rfl⟩
          first | exact (b01_t ⟨by assumption, by assumption, hge, v0, v1, v2, v3, v4, v5, v6, v7⟩).symm | exact (b01_f (fun z => hge z.2.2.1)).symm | exact (b01_f (by simp_all)).symm | exact (b01_f (fun z => by simp_all)).symm
        · have v0 : vec B s e 0 = x0 := b01_n.mp h35
          refine A_aload_n (dX6_isWord 19 rfl) rfl ?_
          refine A_iconst (1) (dX6_isWord 20 rfl) (by decide +kernel) ?_
          refine A_iload_n (dX6_isWord 21 rfl) rfl ?_
          refine A_callVWi 2 (dX6_isWord 22 rfl) cbX6_isLetter cwX6_204 (m_isLetter E q g tw a fr n s e 1 B hT hs he hen hsn (by decide) x1) rfl rfl MW_0 rfl rfl (Nat.le_of_ble_eq_true rfl) (Nat.le_of_ble_eq_true rfl) (Nat.le_of_ble_eq_true rfl) (Nat.le_of_ble_eq_true rfl) (Nat.le_of_ble_eq_true rfl) ?_
          rintro r41 w1 ⟨rfl, rfl⟩
          refine AW.pcq (pc2 := 44) rfl ?_
          refine A_if_eq 112 (dX6_isWord 23 rfl) (by decide) (fun h44 => ?_) (fun h44 => ?_)
          · have v1 : ¬ vec B s e 1 = x1 := b01_0.mp h44
            refine A_iconst (0) (dX6_isWord 56 rfl) (by decide +kernel) ?_
            refine A_ri (dX6_isWord 57 rfl) rfl (by decide) ?_
            refine ⟨?_, rfl⟩
            first | exact (b01_t ⟨by assumption, by assumption, hge, v0, v1, v2, v3, v4, v5, v6, v7⟩).symm | exact (b01_f (fun z => hge z.2.2.1)).symm | exact (b01_f (by simp_all)).symm | exact (b01_f (fun z => by simp_all)).symm
          · have v1 : vec B s e 1 = x1 := b01_n.mp h44
            refine A_aload_n (dX6_isWord 24 rfl) rfl ?_
            refine A_iconst (2) (dX6_isWord 25 rfl) (by decide +kernel) ?_
            refine A_iload_n (dX6_isWord 26 rfl) rfl ?_
            refine A_callVWi 2 (dX6_isWord 27 rfl) cbX6_isLetter cwX6_204 (m_isLetter E q g tw a fr n s e 2 B hT hs he hen hsn (by decide) x2) rfl rfl MW_0 rfl rfl (Nat.le_of_ble_eq_true rfl) (Nat.le_of_ble_eq_true rfl) (Nat.le_of_ble_eq_true rfl) (Nat.le_of_ble_eq_true rfl) (Nat.le_of_ble_eq_true rfl) ?_
            rintro r50 w1 ⟨rfl, rfl⟩
            refine AW.pcq (pc2 := 53) rfl ?_
            refine A_if_eq 112 (dX6_isWord 28 rfl) (by decide) (fun h53 => ?_) (fun h53 => ?_)
            · have v2 : ¬ vec B s e 2 = x2 := b01_0.mp h53
              refine A_iconst (0) (dX6_isWord 56 rfl) (by decide +kernel) ?_
              refine A_ri (dX6_isWord 57 rfl) rfl (by decide) ?_
              refine ⟨?_, rfl⟩
              first | exact (b01_t ⟨by assumption, by assumption, hge, v0, v1, v2, v3, v4, v5, v6, v7⟩).symm | exact (b01_f (fun z => hge z.2.2.1)).symm | exact (b01_f (by simp_all)).symm | exact (b01_f (fun z => by simp_all)).symm
            · have v2 : vec B s e 2 = x2 := b01_n.mp h53
              refine A_aload_n (dX6_isWord 29 rfl) rfl ?_
              refine A_iconst (3) (dX6_isWord 30 rfl) (by decide +kernel) ?_
              refine A_iload (dX6_isWord 31 rfl) rfl ?_
              refine A_callVWi 2 (dX6_isWord 32 rfl) cbX6_isLetter cwX6_204 (m_isLetter E q g tw a fr n s e 3 B hT hs he hen hsn (by decide) x3) rfl rfl MW_0 rfl rfl (Nat.le_of_ble_eq_true rfl) (Nat.le_of_ble_eq_true rfl) (Nat.le_of_ble_eq_true rfl) (Nat.le_of_ble_eq_true rfl) (Nat.le_of_ble_eq_true rfl) ?_
              rintro r60 w1 ⟨rfl, rfl⟩
              refine AW.pcq (pc2 := 63) rfl ?_
              refine A_if_eq 112 (dX6_isWord 33 rfl) (by decide) (fun h63 => ?_) (fun h63 => ?_)
              · have v3 : ¬ vec B s e 3 = x3 := b01_0.mp h63
                refine A_iconst (0) (dX6_isWord 56 rfl) (by decide +kernel) ?_
                refine A_ri (dX6_isWord 57 rfl) rfl (by decide) ?_
                refine ⟨?_, rfl⟩
                first | exact (b01_t ⟨by assumption, by assumption, hge, v0, v1, v2, v3, v4, v5, v6, v7⟩).symm | exact (b01_f (fun z => hge z.2.2.1)).symm | exact (b01_f (by simp_all)).symm | exact (b01_f (fun z => by simp_all)).symm
              · have v3 : vec B s e 3 = x3 := b01_n.mp h63
                refine A_aload_n (dX6_isWord 34 rfl) rfl ?_
                refine A_iconst (4) (dX6_isWord 35 rfl) (by decide +kernel) ?_
                refine A_iload (dX6_isWord 36 rfl) rfl ?_
                refine A_callVWi 2 (dX6_isWord 37 rfl) cbX6_isLetter cwX6_204 (m_isLetter E q g tw a fr n s e 4 B hT hs he hen hsn (by decide) x4) rfl rfl MW_0 rfl rfl (Nat.le_of_ble_eq_true rfl) (Nat.le_of_ble_eq_true rfl) (Nat.le_of_ble_eq_true rfl) (Nat.le_of_ble_eq_true rfl) (Nat.le_of_ble_eq_true rfl) ?_
                rintro r70 w1 ⟨rfl, rfl⟩
                refine AW.pcq (pc2 := 73) rfl ?_
                refine A_if_eq 112 (dX6_isWord 38 rfl) (by decide) (fun h73 => ?_) (fun h73 => ?_)
                · have v4 : ¬ vec B s e 4 = x4 := b01_0.mp h73
                  refine A_iconst (0) (dX6_isWord 56 rfl) (by decide +kernel) ?_
                  refine A_ri (dX6_isWord 57 rfl) rfl (by decide) ?_
                  refine ⟨?_, rfl⟩
                  first | exact (b01_t ⟨by assumption, by assumption, hge, v0, v1, v2, v3, v4, v5, v6, v7⟩).symm | exact (b01_f (fun z => hge z.2.2.1)).symm | exact (b01_f (by simp_all)).symm | exact (b01_f (fun z => by simp_all)).symm
                · have v4 : vec B s e 4 = x4 := b01_n.mp h73
                  refine A_aload_n (dX6_isWord 39 rfl) rfl ?_
                  refine A_iconst (5) (dX6_isWord 40 rfl) (by decide +kernel) ?_
                  refine A_iload (dX6_isWord 41 rfl) rfl ?_
                  refine A_callVWi 2 (dX6_isWord 42 rfl) cbX6_isLetter cwX6_204 (m_isLetter E q g tw a fr n s e 5 B hT hs he hen hsn (by decide) x5) rfl rfl MW_0 rfl rfl (Nat.le_of_ble_eq_true rfl) (Nat.le_of_ble_eq_true rfl) (Nat.le_of_ble_eq_true rfl) (Nat.le_of_ble_eq_true rfl) (Nat.le_of_ble_eq_true rfl) ?_
                  rintro r80 w1 ⟨rfl, rfl⟩
                  refine AW.pcq (pc2 := 83) rfl ?_
                  refine A_if_eq 112 (dX6_isWord 43 rfl) (by decide) (fun h83 => ?_) (fun h83 => ?_)
                  · have v5 : ¬ vec B s e 5 = x5 := b01_0.mp h83
                    refine A_iconst (0) (dX6_isWord 56 rfl) (by decide +kernel) ?_
                    refine A_ri (dX6_isWord 57 rfl) rfl (by decide) ?_
                    refine ⟨?_, rfl⟩
                    first | exact (b01_t ⟨by assumption, by assumption, hge, v0, v1, v2, v3, v4, v5, v6, v7⟩).symm | exact (b01_f (fun z => hge z.2.2.1)).symm | exact (b01_f (by simp_all)).symm | exact (b01_f (fun z => by simp_all)).symm
                  · have v5 : vec B s e 5 = x5 := b01_n.mp h83
                    refine A_aload_n (dX6_isWord 44 rfl) rfl ?_
                    refine A_bipush (6) (dX6_isWord 45 rfl) (by decide +kernel) ?_
                    refine A_iload (dX6_isWord 46 rfl) rfl ?_
                    refine A_callVWi 2 (dX6_isWord 47 rfl) cbX6_isLetter cwX6_204 (m_isLetter E q g tw a fr n s e 6 B hT hs he hen hsn (by decide) x6) rfl rfl MW_0 rfl rfl (Nat.le_of_ble_eq_true rfl) (Nat.le_of_ble_eq_true rfl) (Nat.le_of_ble_eq_true rfl) (Nat.le_of_ble_eq_true rfl) (Nat.le_of_ble_eq_true rfl) ?_
                    rintro r91 w1 ⟨rfl, rfl⟩
                    refine AW.pcq (pc2 := 94) rfl ?_
                    refine A_if_eq 112 (dX6_isWord 48 rfl) (by decide) (fun h94 => ?_) (fun h94 => ?_)
                    · have v6 : ¬ vec B s e 6 = x6 := b01_0.mp h94
                      refine A_iconst (0) (dX6_isWord 56 rfl) (by decide +kernel) ?_
                      refine A_ri (dX6_isWord 57 rfl) rfl (by decide) ?_
                      refine ⟨?_, rfl⟩
                      first | exact (b01_t ⟨by assumption, by assumption, hge, v0, v1, v2, v3, v4, v5, v6, v7⟩).symm | exact (b01_f (fun z => hge z.2.2.1)).symm | exact (b01_f (by simp_all)).symm | exact (b01_f (fun z => by simp_all)).symm
                    · have v6 : vec B s e 6 = x6 := b01_n.mp h94
                      refine A_aload_n (dX6_isWord 49 rfl) rfl ?_
                      refine A_bipush (7) (dX6_isWord 50 rfl) (by decide +kernel) ?_
                      refine A_iload (dX6_isWord 51 rfl) rfl ?_
                      refine A_callVWi 2 (dX6_isWord 52 rfl) cbX6_isLetter cwX6_204 (m_isLetter E q g tw a fr n s e 7 B hT hs he hen hsn (by decide) x7) rfl rfl MW_0 rfl rfl (Nat.le_of_ble_eq_true rfl) (Nat.le_of_ble_eq_true rfl) (Nat.le_of_ble_eq_true rfl) (Nat.le_of_ble_eq_true rfl) (Nat.le_of_ble_eq_true rfl) ?_
                      rintro r102 w1 ⟨rfl, rfl⟩
                      refine AW.pcq (pc2 := 105) rfl ?_
                      refine A_if_eq 112 (dX6_isWord 53 rfl) (by decide) (fun h105 => ?_) (fun h105 => ?_)
                      · have v7 : ¬ vec B s e 7 = x7 := b01_0.mp h105
                        refine A_iconst (0) (dX6_isWord 56 rfl) (by decide +kernel) ?_
                        refine A_ri (dX6_isWord 57 rfl) rfl (by decide) ?_
                        refine ⟨?_, rfl⟩
                        first | exact (b01_t ⟨by assumption, by assumption, hge, v0, v1, v2, v3, v4, v5, v6, v7⟩).symm | exact (b01_f (fun z => hge z.2.2.1)).symm | exact (b01_f (by simp_all)).symm | exact (b01_f (fun z => by simp_all)).symm
                      · have v7 : vec B s e 7 = x7 := b01_n.mp h105
                        refine A_iconst (1) (dX6_isWord 54 rfl) (by decide +kernel) ?_
                        refine A_goto 113 (dX6_isWord 55 rfl) (by decide) ?_
                        refine A_ri (dX6_isWord 57 rfl) rfl (by decide) ?_
                        refine ⟨?_, rfl⟩
                        first | exact (b01_t ⟨by assumption, by assumption, hge, v0, v1, v2, v3, v4, v5, v6, v7⟩).symm | exact (b01_f (fun z => hge z.2.2.1)).symm | exact (b01_f (by simp_all)).symm | exact (b01_f (fun z => by simp_all)).symm

