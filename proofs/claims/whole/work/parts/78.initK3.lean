set_option maxRecDepth 100000 in
set_option maxHeartbeats 400000 in
theorem K_init (E : ag) (q0 : Nat) : CT E yX5_init cX5_init 2 mX5_init.2.2.2.1 46 51 1693 [.ref q0] [(q0, .inr (5, [.null, .null, .null, .int 0, .null, .null, .null, .int 0, .null, .null, .null]))] (rv (fun w => ∃ (cg : Nat → Int32) (qf qd qk ql qr : Nat → Nat) (gr : Nat → Int32) (ar : Nat → Nat → Int32) (rx qm : Nat) (qx : Nat → Nat → Nat) (gx : Nat → Nat → Int32) (ax : Nat → Nat → Nat → Int32) (qs : Nat) (qo qp : Nat → Nat), w = wK E q0 cg qf f_ig f_ia qd f_ig f_ia qk f_ig f_ia ql (fun _ => (0 : Int32)) (fun _ _ => (0 : Int32)) qr gr ar rx qm qx gx ax qs (fun _ => none) qo (fun _ => (0 : Int32)) (fun _ _ => (0 : Int32)) qp (fun _ => (0 : Int32)) (fun _ _ => (0 : Int32)) [] ∧ cg 0 = 0 ∧ cg 1 = 1 ∧ gr 0 = 0 ∧ (∀ t, ax t 1 0 = 0) ∧ (∀ (C : Nat → List Int32) (j : Nat), txt ft_B 100 = some (true, j, C 0, C 1, C 2) → TKC (ax 0) C))) := by
  refine CT.of (M := mX5_init) (ls := [some (.ref q0), none]) (by decide) rfl (by decide) rfl (Nat.le_of_ble_eq_true rfl) ?_
  refine K_init0 E q0 _ (fun qf qd qk ql qr rx qm qx qs qo qp => ?_)
  refine A_iconst (0) (dX5_init 63 rfl) (by decide +kernel) ?_
  refine A_istore_n (ls2 := [_, _]) (dX5_init 64 rfl) (by decide) rfl rfl ?_
  have h9 := K_initL E q0 (fun _ => 0) qf f_ig f_ia qd f_ig f_ia qk f_ig f_ia ql (fun _ => (0 : Int32)) (fun _ _ => (0 : Int32)) qr (fun _ => (0 : Int32)) (fun _ _ => (0 : Int32)) rx qm qx (fun _ _ => (0 : Int32)) (fun _ _ _ => (0 : Int32)) qs (fun _ => none) qo (fun _ => (0 : Int32)) (fun _ _ => (0 : Int32)) qp (fun _ => (0 : Int32)) (fun _ _ => (0 : Int32)) [] rfl 48 0 rfl (fun _ => (0 : Int32)) (fun _ _ => (0 : Int32)) rfl (fun k hk => absurd hk (by omega))
  refine AW.mono h9 (fun v w hw => ?_)
  obtain ⟨hv, gr2, gx2, ar2, ax2, cg2, h1, h2, h3, h4, h5, h6⟩ := hw
  refine ⟨hv, cg2, qf, qd, qk, ql, qr, gr2, ar2, _, qm, qx, _, _, qs, qo, qp, h1, h4, h5, h2, fun t => ?_, h6⟩
  by_cases e : t = 0
  · rw [e]; exact h3
  · simp only [va_up]; rw [if_neg e]
