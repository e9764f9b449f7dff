theorem init_T : ∃ C : Nat → List Int32, (∃ j, txt ft_B 100 = some (true, j, C 0, C 1, C 2)) ∧ TOK (mI_a 1) (mI_a 2) 0 C := by
  obtain ⟨j, c0, c1, c2, h⟩ := ft_txt
  refine ⟨fun k => if k = 0 then c0 else if k = 1 then c1 else c2, ⟨j, h⟩, by decide, 48, 100, j, by decide, rfl, fun k hk => ?_, ?_⟩
  · show ¬ ft_f (160 * 0 + k) < 0
    rw [show 160 * 0 + k = k by omega, ft_ok k hk]
    exact ft_p k hk
  · have e : Bof (mI_a 1) (160 * 0) 48 = ft_B := by
      funext k
      unfold Bof ft_B
      by_cases hk : k < 48
      · rw [if_pos hk, if_pos hk, show 160 * 0 + k = k by omega]
        exact ft_ok k hk
      · rw [if_neg hk, if_neg hk]
    rw [e]
    exact h
theorem REL.init {E : ag} {q : Nat → Nat} {q0 : Nat} {cg : Nat → Int32} {qf qd qk ql qr : Nat → Nat} {gr : Nat → Int32} {ar : Nat → Nat → Int32} {rx qm : Nat} {qx : Nat → Nat → Nat} {gx : Nat → Nat → Int32} {ax : Nat → Nat → Nat → Int32} {qs : Nat} {qo qp : Nat → Nat} (h1 : cg 0 = 0) (h2 : cg 1 = 1) (h3 : gr 0 = 0) (h4 : ∀ t, ax t 1 0 = 0) (h5 : ∀ (C : Nat → List Int32) (j : Nat), txt ft_B 100 = some (true, j, C 0, C 1, C 2) → TKC (ax 0) C) : REL E q q0 (wK E q0 cg qf f_ig f_ia qd f_ig f_ia qk f_ig f_ia ql (fun _ => (0 : Int32)) (fun _ _ => (0 : Int32)) qr gr ar rx qm qx gx ax qs (fun _ => none) qo (fun _ => (0 : Int32)) (fun _ _ => (0 : Int32)) qp (fun _ => (0 : Int32)) (fun _ _ => (0 : Int32)) []) (MW E q mI_g 0 mI_a) := by
  refine ⟨cg, qf, f_ig, f_ia, qd, f_ig, f_ia, qk, f_ig, f_ia, ql, (fun _ => (0 : Int32)), (fun _ _ => (0 : Int32)), qr, gr, ar, rx, qm, qx, gx, ax, qs, (fun _ => none), qo, (fun _ => (0 : Int32)), (fun _ _ => (0 : Int32)), qp, (fun _ => (0 : Int32)), (fun _ _ => (0 : Int32)), [], (fun k => k), mI_g, 0, mI_a, 0, 0, 1, 0, rfl, rfl, ?_⟩
  obtain ⟨C, ⟨j, hj⟩, hO⟩ := init_T
  have e0 : ∀ c, c < 12 → f_ia 0 c = 1000 := fun c hc => (cp_in (n := 12) (f := fun _ => (1000 : Int32)) (h := fun _ => 0) hc)
  have e1 : ∀ c, c < 12 → f_ia 1 c = 2 := fun c hc => (cp_in (n := 12) (f := fun _ => (2 : Int32)) (h := fun _ => 0) hc)
  refine ⟨⟨h2, rfl, by decide, rfl, rfl, by decide⟩, ?_, ?_, Or.inl ⟨h1, rfl⟩, ⟨fun t _ => h4 t, fun t ht => ?_⟩, ⟨by omega, h3, rfl, fun k hk => absurd hk (by omega)⟩, fun j _ => Or.inl ⟨rfl, rfl⟩, fun j j2 _ _ n1 => absurd rfl n1⟩
  · exact FEQ.mk ⟨rfl, rfl, rfl, rfl⟩ ⟨fun c hc => e0 c hc, fun c hc => e1 c hc, fun i hi => absurd hi (by omega), fun i hi => absurd hi (by omega), fun i hi => absurd hi (by omega), fun i hi => absurd hi (by omega)⟩
  · exact ⟨⟨⟨by decide, rfl, by decide, 0, by decide, rfl⟩, by decide, fun i hi => absurd hi (by omega)⟩, fun i hi => absurd hi (by omega), fun c hc => ⟨2, by decide, e1 c hc⟩, fun c hc => ⟨1000, by decide, e0 c hc⟩, 120, by decide, by decide, rfl⟩
  · obtain rfl : t = 0 := by omega
    exact ⟨C, h5 C j hj, hO⟩
