/-! PURE: the class's rows of men, one after another, against the reference's -/
def un (v : Nat → Nat) (i x : Nat) : Nat → Nat := fun k => if k = i then x else v k
def RWS (f : Nat → Int32) (v : Nat → Nat) (m : Nat) : Prop := ∀ k, k < m → v k < m ∧ f k = nI (v k)
theorem RWS.put {f : Nat → Int32} {v : Nat → Nat} {m i : Nat} {x : Int32} {y : Nat} (h : RWS f v m) (hy : y < m) (e : x = nI y) : RWS (upd f i x) (un v i y) m := by
  intro k hk
  simp only [upd, un]
  split
  · exact ⟨hy, e⟩
  · exact h k hk
def nfi (v : Nat → Nat) : Nat → Nat
  | 0 => 0
  | n + 1 => if v n ≤ v (n + 1) then n + 1 else nfi v n
def nfj (v : Nat → Nat) (i : Nat) : Nat → Nat
  | 0 => i
  | n + 1 => if v i ≤ v (i + n + 1) then i + n + 1 else nfj v i n
def nrv : Nat → (Nat → Nat) → Nat → Nat → Nat → Nat
  | 0, v, _, _ => v
  | n + 1, v, a, b => if a < b then nrv n (un (un v a (v b)) b (v a)) (a + 1) (b - 1) else v
def nsw (v : Nat → Nat) (i j : Nat) : Nat → Nat := un (un v i (v j)) j (v i)
def nxv (v : Nat → Nat) (m : Nat) : Nat → Nat := nrv m (nsw v (nfi v (m - 1) - 1) (nfj v (nfi v (m - 1) - 1) (m - 1 - (nfi v (m - 1) - 1)))) (nfi v (m - 1)) (m - 1)
def dv (m d : Nat) : Nat → Nat := fun k => dgt d (m - 1 - k)
def chk (m : Nat) : List Nat → Bool
  | [] => true
  | [d] => decide (d < 100000) && (List.range m).all (fun k => decide (dv m d k < m)) && decide (nfi (dv m d) (m - 1) = 0)
  | d :: e :: l => decide (d < 100000) && (List.range m).all (fun k => decide (dv m d k < m)) && decide (¬ nfi (dv m d) (m - 1) = 0) && (List.range m).all (fun k => decide (nxv (dv m d) m k = dv m e k)) && chk m (e :: l)
theorem chk_all : ∀ m, m ≤ 5 → chk m (lvs m m 0 0) = true ∧ (lvs m m 0 0).length ≤ 120 ∧ (∃ d l, lvs m m 0 0 = d :: l ∧ (List.range m).all (fun k => decide (dv m d k = k)) = true) := by
  intro m hm
  have h : ∀ m, m ≤ 5 → (chk m (lvs m m 0 0) && decide ((lvs m m 0 0).length ≤ 120) && (match lvs m m 0 0 with | [] => false | d :: _ => (List.range m).all (fun k => decide (dv m d k = k)))) = true := by decide +kernel
  have h2 := h m hm
  rw [Bool.and_eq_true, Bool.and_eq_true] at h2
  obtain ⟨⟨h3, h4⟩, h5⟩ := h2
  refine ⟨h3, of_decide_eq_true h4, ?_⟩
  cases e : lvs m m 0 0 with
  | nil => rw [e] at h5; exact Bool.noConfusion h5
  | cons d l => rw [e] at h5; exact ⟨d, l, rfl, h5⟩
theorem RWS.same {f : Nat → Int32} {v u : Nat → Nat} {m : Nat} (h : RWS f v m) (e : ∀ k, k < m → v k = u k) : RWS f u m := fun k hk => e k hk ▸ h k hk

