theorem try_beg (s : FS) : p_try (p_beg s) = p_beg s := by
  unfold p_try p_beg
  refine Prod.ext (funext fun k => ?_) rfl
  simp only [upd]
  by_cases h5 : k = 5
  · rw [if_pos h5, if_pos h5]
  · rw [if_neg h5, if_neg h5]
    by_cases h4 : k = 4
    · rw [if_pos h4, if_pos h4]
    · rw [if_neg h4, if_neg h4]
theorem pbs_S (C : Nat → List Int32) (m : Nat) (s : FS) (B : BT) (d : Nat) : p_bs C m (p_beg s) B d = if B.1 = -1 ∨ (p_rounds C 12 (p_stand m d (p_beg s))).1 4 < B.2.1 ∨ ((p_rounds C 12 (p_stand m d (p_beg s))).1 4 = B.2.1 ∧ B.2.2 < (p_rounds C 12 (p_stand m d (p_beg s))).1 3) then (nI d, (p_rounds C 12 (p_stand m d (p_beg s))).1 4, (p_rounds C 12 (p_stand m d (p_beg s))).1 3) else B := by
  unfold p_bs
  rw [try_beg, show ∀ x : Int32, x - (p_beg s).1 3 = x from fun x => Int32.sub_zero x]
theorem RWS.dg {f : Nat → Int32} {m d : Nat} (h : RWS f (dv m d) m) : ∀ p, p < m → dgt d p < m := fun p hp => by
  have := (h (m - 1 - p) (by omega)).1
  unfold dv at this
  rwa [show m - 1 - (m - 1 - p) = p by omega] at this
theorem GOOD.stand {s : FS} {m d : Nat} (h : GOOD s m) (hd : ∀ p, p < m → dgt d p < m) : GOOD (p_stand m d s) m := by
  refine ⟨h.1.stand, h.2.1, fun i hi => ?_⟩
  show MOK (p_stA m d (s.2 2) i) (p_stA m d (s.2 4) i) (p_stA m d (s.2 5) i)
  simp only [p_stA]
  rw [if_pos hi, if_pos hi, if_pos hi]
  exact h.2.2 _ (hd _ (by omega))
theorem cf_stand {gd gf gl gl0 : Nat → Int32} {ad af : Nat → Nat → Int32} {m d : Nat} (hm : m ≤ 5) : EQ m 0 (cfs (kbG gd gf) (va_up (va_up (va_up (va_up (kbA ad af) 2 (cp m (fun k => af 2 (dv m d k)) (kbA ad af 2))) 3 (cp m (fun k => af 3 (dv m d k)) (kbA ad af 3))) 4 (cp m (fun k => af 4 (dv m d k)) (kbA ad af 4))) 5 (cp m (fun k => af 5 (dv m d k)) (kbA ad af 5))) (kbL gl)) (p_stand m d (p_beg (cfs gf af gl0))) := by
  refine ⟨⟨rfl, rfl, rfl, rfl, rfl, rfl⟩, fun c hc => va_c0 hc, fun c hc => va_c0 hc, fun i hi => ?_, fun i hi => ?_, fun i hi => ?_, fun i hi => ?_⟩
  · show cp m (fun k => af 2 (dv m d k)) (kbA ad af 2) i = p_stA m d (af 2) i
    rw [cp_in hi]; simp only [p_stA]; rw [if_pos hi]; rfl
  · show cp m (fun k => af 3 (dv m d k)) (kbA ad af 3) i = p_stA m d (af 3) i
    rw [cp_in hi]; simp only [p_stA]; rw [if_pos hi]; rfl
  · show cp m (fun k => af 4 (dv m d k)) (kbA ad af 4) i = p_stA m d (af 4) i
    rw [cp_in hi]; simp only [p_stA]; rw [if_pos hi]; rfl
  · show cp m (fun k => af 5 (dv m d k)) (kbA ad af 5) i = p_stA m d (af 5) i
    rw [cp_in hi]; simp only [p_stA]; rw [if_pos hi]; rfl
theorem RWS.cpy {f g : Nat → Int32} {v : Nat → Nat} {m : Nat} (h : RWS f v m) : RWS (va_cpy f g 0 0 m) v m := fun k hk => ⟨(h k hk).1, (va_c0 hk).trans (h k hk).2⟩
theorem chk_d {m d : Nat} {l : List Nat} (h : chk m (d :: l) = true) : d < 100000 := by
  cases l with
  | nil => simp only [chk, Bool.and_eq_true, decide_eq_true_eq] at h; exact h.1.1
  | cons e l => simp only [chk, Bool.and_eq_true, decide_eq_true_eq] at h; exact h.1.1.1.1
theorem chk_1 {m d : Nat} (h : chk m [d] = true) : nfi (dv m d) (m - 1) = 0 := by
  simp only [chk, Bool.and_eq_true, decide_eq_true_eq] at h; exact h.2
theorem chk_2 {m d e : Nat} {l : List Nat} (h : chk m (d :: e :: l) = true) : ¬ nfi (dv m d) (m - 1) = 0 ∧ (∀ k, k < m → nxv (dv m d) m k = dv m e k) ∧ chk m (e :: l) = true := by
  simp only [chk, Bool.and_eq_true, decide_eq_true_eq, List.all_eq_true, List.mem_range] at h
  exact ⟨h.1.1.2, h.1.2, h.2⟩
