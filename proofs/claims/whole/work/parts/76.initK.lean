def ft_B : Nat → Int32 := fun k => if k < 48 then ft_L.getD k 0 else -1
theorem ft_t : (txt ft_B 100).map (fun r => r.1) = some true := by decide +kernel
theorem ft_txt : ∃ (j : Nat) (c0 c1 c2 : List Int32), txt ft_B 100 = some (true, j, c0, c1, c2) := by
  have h := ft_t
  cases e : txt ft_B 100 with
  | none => rw [e] at h; cases h
  | some r =>
    rw [e] at h
    obtain ⟨b, j, c0, c1, c2⟩ := r
    have : b = true := by simpa using h
    subst this
    exact ⟨j, c0, c1, c2, rfl⟩
theorem ft_by : ∀ k, k < 48 → (ag_byt.getD 0 []).getD k 0 = ft_L.getD k 0 := by decide +kernel
theorem ft_p : ∀ k, k < 48 → ¬ ft_L.getD k 0 < 0 := by decide +kernel
theorem tx6 (a0 a1 a2 a3 a4 a5 : Nat → Nat) : va_up (va_up (va_up (va_up (va_up (va_up (fun _ => none) (0 : Int32).toNatClampNeg (some (a0 0))) (1 : Int32).toNatClampNeg (some (a1 0))) (2 : Int32).toNatClampNeg (some (a2 0))) (3 : Int32).toNatClampNeg (some (a3 0))) (4 : Int32).toNatClampNeg (some (a4 0))) (5 : Int32).toNatClampNeg (some (a5 0)) = fun k => if k < 6 then some ([a0, a1, a2, a3, a4, a5].getD k a0 0) else none := by
  funext k
  match k with
  | 0 => rfl
  | 1 => rfl
  | 2 => rfl
  | 3 => rfl
  | 4 => rfl
  | 5 => rfl
  | k + 6 =>
    have e : ∀ j : Int32, j.toNatClampNeg < 6 → ¬ k + 6 = j.toNatClampNeg := fun j hj => by omega
    simp only [va_up]
    rw [if_neg (e _ (by decide)), if_neg (e _ (by decide)), if_neg (e _ (by decide)), if_neg (e _ (by decide)), if_neg (e _ (by decide)), if_neg (e _ (by decide)), if_neg (by omega)]
set_option maxRecDepth 100000 in
set_option maxHeartbeats 400000 in
theorem K_initE (E : ag) (kq : Nat) (cg : Nat → Int32) (qf : Nat → Nat) (gf : Nat → Int32) (af : Nat → Nat → Int32) (qd : Nat → Nat) (gd : Nat → Int32) (ad : Nat → Nat → Int32) (qk : Nat → Nat) (gk : Nat → Int32) (ak : Nat → Nat → Int32) (ql : Nat → Nat) (gl : Nat → Int32) (al : Nat → Nat → Int32) (qr : Nat → Nat) (gr : Nat → Int32) (ar : Nat → Nat → Int32) (rx : Nat) (qm : Nat) (qx : Nat → Nat → Nat) (gx : Nat → Nat → Int32) (ax : Nat → Nat → Nat → Int32) (qs : Nat) (sx : Nat → Option Nat) (qo : Nat → Nat) (go : Nat → Int32) (ao : Nat → Nat → Int32) (qp : Nat → Nat) (gp_ : Nat → Int32) (ap : Nat → Nat → Int32) (L : va_W) (he0 : ax 0 1 0 = 0) (hg : gr 0 = nI 48) (hb : ∀ k, k < 48 → ar 0 k = ft_L.getD k 0) : AW E mX5_init 46 0 0 158 [some (.ref kq), some (.int (nI 48))] [] (wK E kq cg qf gf af qd gd ad qk gk ak ql gl al qr gr ar rx qm qx gx ax qs sx qo go ao qp gp_ ap L) (rv (fun w => ∃ (gr2 gx2 : Nat → Int32) (ar2 ax2 : Nat → Nat → Int32) (cg2 : Nat → Int32), w = wK E kq cg2 qf gf af qd gd ad qk gk ak ql gl al qr gr2 ar2 (qx 0 0) qm qx (va_up gx 0 gx2) (va_up ax 0 ax2) qs sx qo go ao qp gp_ ap L ∧ gr2 0 = 0 ∧ ax2 1 0 = 0 ∧ cg2 0 = cg 0 ∧ cg2 1 = 1 ∧ ∀ (C : Nat → List Int32) (j : Nat), txt ft_B 100 = some (true, j, C 0, C 1, C 2) → TKC ax2 C)) := by
  obtain ⟨j, c0, c1, c2, hpp⟩ := ft_txt
  have hL : LXC gr ar 48 ft_B := ⟨hg, by decide, fun k hk => (if_pos hk).trans (hb k hk).symm, fun k hk => if_neg (by omega), fun k hk => by rw [show ft_B k = ft_L.getD k 0 from if_pos hk]; exact ft_p k hk⟩
  refine A_aload_n (dX5_init 78 rfl) rfl ?_
  refine A_get (dX5_init 79 rfl) fwX5_36 wK_0 cK_f0_5 ?_
  refine A_aload_n (dX5_init 80 rfl) rfl ?_
  refine A_get (dX5_init 81 rfl) fwX5_42 wK_0 cK_f0_6 ?_
  refine A_iconst (0) (dX5_init 82 rfl) (by decide +kernel) ?_
  refine A_aald 3 (dX5_init 83 rfl) wK_27 rfl (vp_in_nI (n := 0) (by decide) (by decide)) ?_
  rw [show (0 : Int32).toNatClampNeg = 0 from by decide]
  refine AW.stack (st2 := [.ref (qx 0 0), .ref (qr 0)]) rfl ?_
  refine A_callVi 1 (dX5_init 84 rfl) cbX2_readInto cwX5_80 (r_readInto E qr ar (qx 0) 48 ft_B rx gr (gx 0) (ax 0) 100 _ hpp hL he0) rfl rfl wR_0 rfl rfl [25, 26, 28, 29, 30] rfl rfl (Nat.le_of_ble_eq_true rfl) (Nat.le_of_ble_eq_true rfl) (Nat.le_of_ble_eq_true rfl) (Nat.le_of_ble_eq_true rfl) (Nat.le_of_ble_eq_true rfl) (by rintro _ _ ⟨_, _, _, rfl, _⟩; exact (Nat.le_of_ble_eq_true rfl)) ?_
  rintro r168 w1 ⟨gr2, gx2, ax2, rfl, h0, he2, hres⟩
  have hres2 := hres.resolve_right (fun z => Bool.noConfusion z.1)
  have hr1 := hres2.2.1
  subst hr1
  refine AW.world (ws2 := wK E kq cg qf gf af qd gd ad qk gk ak ql gl al qr gr2 ar (qx 0 0) qm qx (va_up gx 0 gx2) (va_up ax 0 ax2) qs sx qo go ao qp gp_ ap L) mK_rt0 ?_
  refine AW.pcq (pc2 := 171) rfl ?_
  refine A_if_eq 179 (dX5_init 85 rfl) (by decide) (fun h171 => absurd h171 (by decide)) (fun h171 => ?_)
  refine A_aload_n (dX5_init 86 rfl) rfl ?_
  refine A_iconst (1) (dX5_init 87 rfl) (by decide +kernel) ?_
  refine A_put (dX5_init 88 rfl) fwX5_46 fcX5 ftX5_7 wK_0 rfl rfl cK_l0 (wK_p0_7 _) ?_
  refine A_aload_n (dX5_init 89 rfl) rfl ?_
  refine A_get (dX5_init 90 rfl) fwX5_36 wK_0 cK_f0_5 ?_
  refine A_callVv 0 (dX5_init 91 rfl) cbX2_empty cwX5_84 (r_empty E qr gr2 ar (qx 0 0)) rfl rfl wR1_0 rfl rfl [25, 26] rfl rfl (Nat.le_of_ble_eq_true rfl) (Nat.le_of_ble_eq_true rfl) (Nat.le_of_ble_eq_true rfl) (Nat.le_of_ble_eq_true rfl) (Nat.le_of_ble_eq_true rfl) (by rintro _ rfl; exact (Nat.le_of_ble_eq_true rfl)) ?_
  rintro w1 rfl
  refine AW.world (ws2 := wK E kq (upd cg 1 1) qf gf af qd gd ad qk gk ak ql gl al qr (upd gr2 0 0) ar (qx 0 0) qm qx (va_up gx 0 gx2) (va_up ax 0 ax2) qs sx qo go ao qp gp_ ap L) mK_r ?_
  refine AW.pcq (pc2 := 186) rfl ?_
  refine A_rv (dX5_init 92 rfl) rfl ?_
  refine ⟨upd gr2 0 0, gx2, ar, ax2, upd cg 1 1, rfl, rfl, he2, rfl, rfl, fun C j2 hC => ?_⟩
  rw [hpp] at hC
  injection hC with hC
  have e0 := congrArg (fun z => z.2.2.1) hC
  have e1 := congrArg (fun z => z.2.2.2.1) hC
  have e2 := congrArg (fun z => z.2.2.2.2) hC
  exact hres2.2.2 C e0.symm e1.symm e2.symm
set_option maxRecDepth 100000 in
set_option maxHeartbeats 400000 in
theorem K_initL (E : ag) (kq : Nat) (cg : Nat → Int32) (qf : Nat → Nat) (gf : Nat → Int32) (af : Nat → Nat → Int32) (qd : Nat → Nat) (gd : Nat → Int32) (ad : Nat → Nat → Int32) (qk : Nat → Nat) (gk : Nat → Int32) (ak : Nat → Nat → Int32) (ql : Nat → Nat) (gl : Nat → Int32) (al : Nat → Nat → Int32) (qr : Nat → Nat) (gr : Nat → Int32) (ar : Nat → Nat → Int32) (rx : Nat) (qm : Nat) (qx : Nat → Nat → Nat) (gx : Nat → Nat → Int32) (ax : Nat → Nat → Nat → Int32) (qs : Nat) (sx : Nat → Option Nat) (qo : Nat → Nat) (go : Nat → Int32) (ao : Nat → Nat → Int32) (qp : Nat → Nat) (gp_ : Nat → Int32) (ap : Nat → Nat → Int32) (L : va_W) (he0 : ax 0 1 0 = 0) : ∀ (n c : Nat), c + n = 48 → ∀ (gr1 : Nat → Int32) (ar1 : Nat → Nat → Int32), gr1 0 = nI c → (∀ k, k < c → ar1 0 k = ft_L.getD k 0) → AW E mX5_init 46 0 0 129 [some (.ref kq), some (.int (nI c))] [] (wK E kq cg qf gf af qd gd ad qk gk ak ql gl al qr gr1 ar1 rx qm qx gx ax qs sx qo go ao qp gp_ ap L) (rv (fun w => ∃ (gr2 gx2 : Nat → Int32) (ar2 ax2 : Nat → Nat → Int32) (cg2 : Nat → Int32), w = wK E kq cg2 qf gf af qd gd ad qk gk ak ql gl al qr gr2 ar2 (qx 0 0) qm qx (va_up gx 0 gx2) (va_up ax 0 ax2) qs sx qo go ao qp gp_ ap L ∧ gr2 0 = 0 ∧ ax2 1 0 = 0 ∧ cg2 0 = cg 0 ∧ cg2 1 = 1 ∧ ∀ (C : Nat → List Int32) (j : Nat), txt ft_B 100 = some (true, j, C 0, C 1, C 2) → TKC ax2 C)) := by
  intro n
  induction n with
  | zero =>
    intro c hc
    intro gr1 ar1 hg hb
    obtain rfl : c = 48 := by omega
    refine A_iload_n (dX5_init 65 rfl) rfl ?_
    refine A_ldcS 0 (dX5_init 66 rfl) (by decide) rfl rfl ?_
    refine A_callKWi 0 (dX5_init 67 rfl) cbJ_length cwX5_66 (j_length E _ 0 (by decide)) rfl rfl 0 (by decide) rfl rfl (Nat.le_of_ble_eq_true rfl) (Nat.le_of_ble_eq_true rfl) (Nat.le_of_ble_eq_true rfl) (Nat.le_of_ble_eq_true rfl) (Nat.le_of_ble_eq_true rfl) ?_
    rintro r132 w1 ⟨rfl, rfl⟩
    rw [show ag_len.getD 0 0 = 48 from rfl]
    refine AW.pcq (pc2 := 135) rfl ?_
    refine A_icmp_ge 158 (dX5_init 68 rfl) (by decide) (fun h135 => ?_) (fun h135 => absurd (show nI 48 ≤ nI 48 from nI_le (Nat.le_refl _) (by decide)) h135)
    exact K_initE E kq cg qf gf af qd gd ad qk gk ak ql gl al qr gr1 ar1 rx qm qx gx ax qs sx qo go ao qp gp_ ap L he0 hg hb
  | succ n ih =>
    intro c hc
    have hlt : c < 48 := by omega
    intro gr1 ar1 hg hb
    refine A_iload_n (dX5_init 65 rfl) rfl ?_
    refine A_ldcS 0 (dX5_init 66 rfl) (by decide) rfl rfl ?_
    refine A_callKWi 0 (dX5_init 67 rfl) cbJ_length cwX5_66 (j_length E _ 0 (by decide)) rfl rfl 0 (by decide) rfl rfl (Nat.le_of_ble_eq_true rfl) (Nat.le_of_ble_eq_true rfl) (Nat.le_of_ble_eq_true rfl) (Nat.le_of_ble_eq_true rfl) (Nat.le_of_ble_eq_true rfl) ?_
    rintro r132 w1 ⟨rfl, rfl⟩
    rw [show ag_len.getD 0 0 = 48 from rfl]
    refine AW.pcq (pc2 := 135) rfl ?_
    refine A_icmp_ge 158 (dX5_init 68 rfl) (by decide) (fun h135 => absurd h135 (show ¬ nI 48 ≤ nI c from nI_ge hlt (by decide))) (fun h135 => ?_)
    refine A_aload_n (dX5_init 69 rfl) rfl ?_
    refine A_get (dX5_init 70 rfl) fwX5_36 wK_0 cK_f0_5 ?_
    refine A_ldcS 0 (dX5_init 71 rfl) (by decide) rfl rfl ?_
    refine A_iload_n (dX5_init 72 rfl) rfl ?_
    refine A_callKWi 1 (dX5_init 73 rfl) cbJ_charAt cwX5_72 (j_charAt E _ 0 (by decide) c (show c < 48 from hlt)) rfl rfl 0 (by decide) rfl rfl (Nat.le_of_ble_eq_true rfl) (Nat.le_of_ble_eq_true rfl) (Nat.le_of_ble_eq_true rfl) (Nat.le_of_ble_eq_true rfl) (Nat.le_of_ble_eq_true rfl) ?_
    rintro r145 w1 ⟨rfl, rfl⟩
    refine AW.pcq (pc2 := 148) rfl ?_
    refine A_callVi 1 (dX5_init 74 rfl) cbX2_add cwX5_76 (r_add E qr gr1 ar1 rx _ c (by omega) hg) rfl rfl wR1_0 rfl rfl [25, 26] rfl rfl (Nat.le_of_ble_eq_true rfl) (Nat.le_of_ble_eq_true rfl) (Nat.le_of_ble_eq_true rfl) (Nat.le_of_ble_eq_true rfl) (Nat.le_of_ble_eq_true rfl) (by rintro _ _ (⟨_, _, rfl⟩ | ⟨_, _, rfl⟩) <;> exact (Nat.le_of_ble_eq_true rfl)) ?_
    rintro r148 w1 hw
    obtain ⟨-, -, rfl⟩ := hw.resolve_right (fun z => absurd z.1 (by omega))
    refine AW.world (ws2 := wK E kq cg qf gf af qd gd ad qk gk ak ql gl al qr (upd gr1 0 (nI (c + 1))) (va_up ar1 0 (upd (ar1 0) c ((ag_byt.getD 0 []).getD c 0))) rx qm qx gx ax qs sx qo go ao qp gp_ ap L) mK_r ?_
    refine AW.pcq (pc2 := 151) rfl ?_
    refine A_pop (dX5_init 75 rfl) rfl ?_
    refine A_iinc (ls2 := [_, _]) (nI (c + 1)) (dX5_init 76 rfl) rfl (nI_1 c) (by decide) rfl rfl ?_
    refine A_goto 129 (dX5_init 77 rfl) (by decide) ?_
    refine ih (c + 1) (by omega) _ _ rfl (fun k hk => ?_)
    show upd (ar1 0) c _ k = _
    simp only [upd]
    by_cases e : k = c
    · rw [if_pos e, e]; exact ft_by c hlt
    · rw [if_neg e]; exact hb k (by omega)

