set_option maxRecDepth 100000 in
set_option maxHeartbeats 400000 in
theorem x_init (E : ag) (q0 : Nat) : CT E yX4_init cX4_init 1 mX4_init.2.2.2.1 2 2 164 [.ref q0] [(q0, .inr (4, [.null, .null, .int 0]))] (rv (fun w => ∃ q : Nat → Nat, q 0 = q0 ∧ w = cT E q (fun _ => (0 : Int32)) (fun _ _ => (0 : Int32)))) := by
  refine CT.of (M := mX4_init) (ls := [some (.ref q0)]) (by decide) rfl (by decide) rfl (Nat.le_of_ble_eq_true rfl) ?_
  refine A_aload_n (dX4_init 0 rfl) rfl ?_
  refine A_objInit (dX4_init 1 rfl) oiX4_3 (Nat.le_of_ble_eq_true rfl) (Nat.le_of_ble_eq_true rfl) ?_
  refine A_aload_n (dX4_init 2 rfl) rfl ?_
  refine A_sipush (160) (dX4_init 3 rfl) (by decide +kernel) ?_
  refine A_newi 160 (dX4_init 4 rfl) (by decide) (by decide +kernel) (Nat.le_of_ble_eq_true rfl) kaI (Nat.le_of_ble_eq_true rfl) (Nat.le_of_ble_eq_true rfl) (fun q1 => ?_)
  refine AW.world (ws2 := [(q0, .inr (4, [.null, .null, .int 0])), (q1, .inl (E.2.1 0, 160, .inl (fun _ => 0)))]) rfl ?_
  refine A_putF (q0 := 0) (ws2 := [(q0, .inr (4, [.ref q1, .null, .int 0])), (q1, .inl (E.2.1 0, 160, .inl (fun _ => 0)))]) (dX4_init 5 rfl) fwX4_9 fcX4 ftX4_0 rfl rfl (by first | rfl | decide) rfl (Nat.le_of_ble_eq_true rfl) rfl ?_
  refine A_aload_n (dX4_init 6 rfl) rfl ?_
  refine A_iconst (4) (dX4_init 7 rfl) (by decide +kernel) ?_
  refine AW.pcq (pc2 := 15) rfl ?_
  refine A_newi 4 (dX4_init 8 rfl) (by decide) (by decide +kernel) (Nat.le_of_ble_eq_true rfl) kaI (Nat.le_of_ble_eq_true rfl) (Nat.le_of_ble_eq_true rfl) (fun q2 => ?_)
  refine AW.world (ws2 := [(q0, .inr (4, [.ref q1, .null, .int 0])), (q1, .inl (E.2.1 0, 160, .inl (fun _ => 0))), (q2, .inl (E.2.1 0, 4, .inl (fun _ => 0)))]) rfl ?_
  refine A_putF (q0 := 0) (ws2 := [(q0, .inr (4, [.ref q1, .ref q2, .int 0])), (q1, .inl (E.2.1 0, 160, .inl (fun _ => 0))), (q2, .inl (E.2.1 0, 4, .inl (fun _ => 0)))]) (dX4_init 9 rfl) fwX4_15 fcX4 ftX4_1 rfl rfl (by first | rfl | decide) rfl (Nat.le_of_ble_eq_true rfl) rfl ?_
  refine A_aload_n (dX4_init 10 rfl) rfl ?_
  refine A_iconst (0) (dX4_init 11 rfl) (by decide +kernel) ?_
  refine A_put (q0 := 0) (ws2 := [(q0, .inr (4, [.ref q1, .ref q2, .int (0)])), (q1, .inl (E.2.1 0, 160, .inl (fun _ => 0))), (q2, .inl (E.2.1 0, 4, .inl (fun _ => 0)))]) (dX4_init 12 rfl) fwX4_18 fcX4 ftX4_2 rfl (by first | rfl | decide) rfl (Nat.le_of_ble_eq_true rfl) rfl ?_
  refine A_rv (dX4_init 13 rfl) rfl ?_
  exact ⟨(fun k => [q0, q1, q2].getD k 0), rfl, rfl⟩

set_option maxRecDepth 100000 in
set_option maxHeartbeats 400000 in
theorem l_init (E : ag) (q0 : Nat) : CT E yX0_init cX0_init 1 mX0_init.2.2.2.1 2 2 166 [.ref q0] [(q0, .inr (0, [.null, .null, .int 0, .int 0, .int 0, .int 0]))] (rv (fun w => ∃ q : Nat → Nat, q 0 = q0 ∧ w = cL E q (fun _ => (0 : Int32)) (fun _ _ => (0 : Int32)))) := by
  refine CT.of (M := mX0_init) (ls := [some (.ref q0)]) (by decide) rfl (by decide) rfl (Nat.le_of_ble_eq_true rfl) ?_
  refine A_aload_n (dX0_init 0 rfl) rfl ?_
  refine A_objInit (dX0_init 1 rfl) oiX0_3 (Nat.le_of_ble_eq_true rfl) (Nat.le_of_ble_eq_true rfl) ?_
  refine A_aload_n (dX0_init 2 rfl) rfl ?_
  refine A_bipush (6) (dX0_init 3 rfl) (by decide +kernel) ?_
  refine A_newi 6 (dX0_init 4 rfl) (by decide) (by decide +kernel) (Nat.le_of_ble_eq_true rfl) kaI (Nat.le_of_ble_eq_true rfl) (Nat.le_of_ble_eq_true rfl) (fun q1 => ?_)
  refine AW.world (ws2 := [(q0, .inr (0, [.null, .null, .int 0, .int 0, .int 0, .int 0])), (q1, .inl (E.2.1 0, 6, .inl (fun _ => 0)))]) rfl ?_
  refine A_putF (q0 := 0) (ws2 := [(q0, .inr (0, [.ref q1, .null, .int 0, .int 0, .int 0, .int 0])), (q1, .inl (E.2.1 0, 6, .inl (fun _ => 0)))]) (dX0_init 5 rfl) fwX0_9 fcX0 ftX0_0 rfl rfl (by first | rfl | decide) rfl (Nat.le_of_ble_eq_true rfl) rfl ?_
  refine A_aload_n (dX0_init 6 rfl) rfl ?_
  refine A_sipush (160) (dX0_init 7 rfl) (by decide +kernel) ?_
  refine AW.pcq (pc2 := 16) rfl ?_
  refine A_newi 160 (dX0_init 8 rfl) (by decide) (by decide +kernel) (Nat.le_of_ble_eq_true rfl) kaI (Nat.le_of_ble_eq_true rfl) (Nat.le_of_ble_eq_true rfl) (fun q2 => ?_)
  refine AW.world (ws2 := [(q0, .inr (0, [.ref q1, .null, .int 0, .int 0, .int 0, .int 0])), (q1, .inl (E.2.1 0, 6, .inl (fun _ => 0))), (q2, .inl (E.2.1 0, 160, .inl (fun _ => 0)))]) rfl ?_
  refine A_putF (q0 := 0) (ws2 := [(q0, .inr (0, [.ref q1, .ref q2, .int 0, .int 0, .int 0, .int 0])), (q1, .inl (E.2.1 0, 6, .inl (fun _ => 0))), (q2, .inl (E.2.1 0, 160, .inl (fun _ => 0)))]) (dX0_init 9 rfl) fwX0_15 fcX0 ftX0_1 rfl rfl (by first | rfl | decide) rfl (Nat.le_of_ble_eq_true rfl) rfl ?_
  refine A_aload_n (dX0_init 10 rfl) rfl ?_
  refine A_iconst (0) (dX0_init 11 rfl) (by decide +kernel) ?_
  refine A_put (q0 := 0) (ws2 := [(q0, .inr (0, [.ref q1, .ref q2, .int (0), .int 0, .int 0, .int 0])), (q1, .inl (E.2.1 0, 6, .inl (fun _ => 0))), (q2, .inl (E.2.1 0, 160, .inl (fun _ => 0)))]) (dX0_init 12 rfl) fwX0_18 fcX0 ftX0_2 rfl (by first | rfl | decide) rfl (Nat.le_of_ble_eq_true rfl) rfl ?_
  refine A_aload_n (dX0_init 13 rfl) rfl ?_
  refine A_iconst (0) (dX0_init 14 rfl) (by decide +kernel) ?_
  refine A_put (q0 := 0) (ws2 := [(q0, .inr (0, [.ref q1, .ref q2, .int (0), .int (0), .int 0, .int 0])), (q1, .inl (E.2.1 0, 6, .inl (fun _ => 0))), (q2, .inl (E.2.1 0, 160, .inl (fun _ => 0)))]) (dX0_init 15 rfl) fwX0_22 fcX0 ftX0_3 rfl (by first | rfl | decide) rfl (Nat.le_of_ble_eq_true rfl) rfl ?_
  refine AW.pcq (pc2 := 31) rfl ?_
  refine A_aload_n (dX0_init 16 rfl) rfl ?_
  refine A_iconst (0) (dX0_init 17 rfl) (by decide +kernel) ?_
  refine A_put (q0 := 0) (ws2 := [(q0, .inr (0, [.ref q1, .ref q2, .int (0), .int (0), .int (0), .int 0])), (q1, .inl (E.2.1 0, 6, .inl (fun _ => 0))), (q2, .inl (E.2.1 0, 160, .inl (fun _ => 0)))]) (dX0_init 18 rfl) fwX0_26 fcX0 ftX0_4 rfl (by first | rfl | decide) rfl (Nat.le_of_ble_eq_true rfl) rfl ?_
  refine A_aload_n (dX0_init 19 rfl) rfl ?_
  refine A_iconst (0) (dX0_init 20 rfl) (by decide +kernel) ?_
  refine A_put (q0 := 0) (ws2 := [(q0, .inr (0, [.ref q1, .ref q2, .int (0), .int (0), .int (0), .int (0)])), (q1, .inl (E.2.1 0, 6, .inl (fun _ => 0))), (q2, .inl (E.2.1 0, 160, .inl (fun _ => 0)))]) (dX0_init 21 rfl) fwX0_29 fcX0 ftX0_5 rfl (by first | rfl | decide) rfl (Nat.le_of_ble_eq_true rfl) rfl ?_
  refine A_rv (dX0_init 22 rfl) rfl ?_
  exact ⟨(fun k => [q0, q1, q2].getD k 0), rfl, rfl⟩

set_option maxRecDepth 100000 in
set_option maxHeartbeats 400000 in
theorem r_init (E : ag) (q0 : Nat) : CT E yX2_init cX2_init 1 mX2_init.2.2.2.1 3 4 327 [.ref q0] [(q0, .inr (2, [.null, .int 0, .int 0, .int 0, .int 0, .int 0, .null]))] (rv (fun w => ∃ (q : Nat → Nat) (ri0 : Nat), q 0 = q0 ∧ w = cR E q (fun _ => (0 : Int32)) (fun _ _ => (0 : Int32)) ri0)) := by
  refine CT.of (M := mX2_init) (ls := [some (.ref q0)]) (by decide) rfl (by decide) rfl (Nat.le_of_ble_eq_true rfl) ?_
  refine A_aload_n (dX2_init 0 rfl) rfl ?_
  refine A_objInit (dX2_init 1 rfl) oiX2_3 (Nat.le_of_ble_eq_true rfl) (Nat.le_of_ble_eq_true rfl) ?_
  refine A_aload_n (dX2_init 2 rfl) rfl ?_
  refine A_sipush (160) (dX2_init 3 rfl) (by decide +kernel) ?_
  refine A_newi 160 (dX2_init 4 rfl) (by decide) (by decide +kernel) (Nat.le_of_ble_eq_true rfl) kaI (Nat.le_of_ble_eq_true rfl) (Nat.le_of_ble_eq_true rfl) (fun q1 => ?_)
  refine AW.world (ws2 := [(q0, .inr (2, [.null, .int 0, .int 0, .int 0, .int 0, .int 0, .null])), (q1, .inl (E.2.1 0, 160, .inl (fun _ => 0)))]) rfl ?_
  refine A_putF (q0 := 0) (ws2 := [(q0, .inr (2, [.ref q1, .int 0, .int 0, .int 0, .int 0, .int 0, .null])), (q1, .inl (E.2.1 0, 160, .inl (fun _ => 0)))]) (dX2_init 5 rfl) fwX2_9 fcX2 ftX2_0 rfl rfl (by first | rfl | decide) rfl (Nat.le_of_ble_eq_true rfl) rfl ?_
  refine A_aload_n (dX2_init 6 rfl) rfl ?_
  refine A_iconst (0) (dX2_init 7 rfl) (by decide +kernel) ?_
  refine AW.pcq (pc2 := 15) rfl ?_
  refine A_put (q0 := 0) (ws2 := [(q0, .inr (2, [.ref q1, .int (0), .int 0, .int 0, .int 0, .int 0, .null])), (q1, .inl (E.2.1 0, 160, .inl (fun _ => 0)))]) (dX2_init 8 rfl) fwX2_15 fcX2 ftX2_1 rfl (by first | rfl | decide) rfl (Nat.le_of_ble_eq_true rfl) rfl ?_
  refine A_aload_n (dX2_init 9 rfl) rfl ?_
  refine A_iconst (0) (dX2_init 10 rfl) (by decide +kernel) ?_
  refine A_put (q0 := 0) (ws2 := [(q0, .inr (2, [.ref q1, .int (0), .int (0), .int 0, .int 0, .int 0, .null])), (q1, .inl (E.2.1 0, 160, .inl (fun _ => 0)))]) (dX2_init 11 rfl) fwX2_19 fcX2 ftX2_2 rfl (by first | rfl | decide) rfl (Nat.le_of_ble_eq_true rfl) rfl ?_
  refine A_aload_n (dX2_init 12 rfl) rfl ?_
  refine A_iconst (0) (dX2_init 13 rfl) (by decide +kernel) ?_
  refine A_put (q0 := 0) (ws2 := [(q0, .inr (2, [.ref q1, .int (0), .int (0), .int (0), .int 0, .int 0, .null])), (q1, .inl (E.2.1 0, 160, .inl (fun _ => 0)))]) (dX2_init 14 rfl) fwX2_22 fcX2 ftX2_3 rfl (by first | rfl | decide) rfl (Nat.le_of_ble_eq_true rfl) rfl ?_
  refine A_aload_n (dX2_init 15 rfl) rfl ?_
  refine AW.pcq (pc2 := 29) rfl ?_
  refine A_iconst (0) (dX2_init 16 rfl) (by decide +kernel) ?_
  refine A_put (q0 := 0) (ws2 := [(q0, .inr (2, [.ref q1, .int (0), .int (0), .int (0), .int (0), .int 0, .null])), (q1, .inl (E.2.1 0, 160, .inl (fun _ => 0)))]) (dX2_init 17 rfl) fwX2_25 fcX2 ftX2_4 rfl (by first | rfl | decide) rfl (Nat.le_of_ble_eq_true rfl) rfl ?_
  refine A_aload_n (dX2_init 18 rfl) rfl ?_
  refine A_iconst (0) (dX2_init 19 rfl) (by decide +kernel) ?_
  refine A_put (q0 := 0) (ws2 := [(q0, .inr (2, [.ref q1, .int (0), .int (0), .int (0), .int (0), .int (0), .null])), (q1, .inl (E.2.1 0, 160, .inl (fun _ => 0)))]) (dX2_init 20 rfl) fwX2_28 fcX2 ftX2_5 rfl (by first | rfl | decide) rfl (Nat.le_of_ble_eq_true rfl) rfl ?_
  refine A_aload_n (dX2_init 21 rfl) rfl ?_
  refine A_new (dX2_init 22 rfl) nwX2_31 (Nat.le_of_ble_eq_true rfl) (Nat.le_of_ble_eq_true rfl) (fun q2 => ?_)
  refine AW.world (ws2 := [(q0, .inr (2, [.ref q1, .int (0), .int (0), .int (0), .int (0), .int (0), .null])), (q1, .inl (E.2.1 0, 160, .inl (fun _ => 0))), (q2, .inr (4, [.null, .null, .int 0]))]) rfl ?_
  refine A_dup (dX2_init 23 rfl) rfl ?_
  refine AW.pcq (pc2 := 43) rfl ?_
  refine A_callINv 0 (dX2_init 24 rfl) cbX4_init cwX2_33 (x_init E q2) rfl rfl [2] rfl rfl (Nat.le_of_ble_eq_true rfl) (Nat.le_of_ble_eq_true rfl) (Nat.le_of_ble_eq_true rfl) (Nat.le_of_ble_eq_true rfl) (Nat.le_of_ble_eq_true rfl) (by rintro _ ⟨_, _, rfl⟩; exact (Nat.le_of_ble_eq_true rfl)) ?_
  rintro w1 ⟨qt, hqt, rfl⟩
  subst hqt
  refine AW.world (ws2 := [(q0, .inr (2, [.ref q1, .int (0), .int (0), .int (0), .int (0), .int (0), .null])), (q1, .inl (E.2.1 0, 160, .inl (fun _ => 0))), (qt 0, .inr (4, cT_f0 qt (fun _ => (0 : Int32)))), (qt 1, .inl (E.2.1 0, 160, .inl ((fun _ _ => (0 : Int32)) 0))), (qt 2, .inl (E.2.1 0, 4, .inl ((fun _ _ => (0 : Int32)) 1)))]) rfl ?_
  refine AW.pcq (pc2 := 46) rfl ?_
  refine AW.pcq (pc2 := 46) rfl ?_
  refine A_put (q0 := 0) (ws2 := [(q0, .inr (2, [.ref q1, .int (0), .int (0), .int (0), .int (0), .int (0), .ref (qt 0)])), (q1, .inl (E.2.1 0, 160, .inl (fun _ => 0))), (qt 0, .inr (4, cT_f0 qt (fun _ => (0 : Int32)))), (qt 1, .inl (E.2.1 0, 160, .inl ((fun _ _ => (0 : Int32)) 0))), (qt 2, .inl (E.2.1 0, 4, .inl ((fun _ _ => (0 : Int32)) 1)))]) (dX2_init 25 rfl) fwX2_34 fcX2 ftX2_6 rfl (by first | rfl | decide) rfl (Nat.le_of_ble_eq_true rfl) rfl ?_
  refine AW.sub (ws2 := [(q0, .inr (2, [.ref q1, .int 0, .int 0, .int 0, .int 0, .int 0, .ref (qt 0)])), (q1, .inl (E.2.1 0, 160, .inl (fun _ => 0)))]) [0, 1] rfl rfl ?_
  refine A_rv (dX2_init 26 rfl) rfl ?_
  exact ⟨fun k => [q0, q1].getD k 0, qt 0, rfl, rfl⟩

def f_ig : Nat → Int32 := upd (fun _ => 0) 1 120
def f_ia : Nat → Nat → Int32 := (va_up (va_up (fun _ _ => 0) 0 (cp 12 (fun _ => 1000) (fun _ => 0))) 1 (cp 12 (fun _ => 2) (fun _ => 0)))
set_option maxRecDepth 100000 in
set_option maxHeartbeats 400000 in
theorem f_initL (E : ag) (q : Nat → Nat) : ∀ (n c : Nat), c + n = 12 → AW E mX1_init 2 0 0 76 [some (.ref (q 0)), some (.int (nI c))] [] (wF E q f_ig (va_up (va_up (fun _ _ => 0) 0 (cp c (fun _ => 1000) (fun _ => 0))) 1 (cp c (fun _ => 2) (fun _ => 0)))) (rv (fun w => w = wF E q f_ig f_ia)) := by
  intro n
  induction n with
  | zero =>
    intro c hc
    obtain rfl : c = 12 := by omega
    refine A_iload_n (dX1_init 43 rfl) rfl ?_
    refine A_bipush (12) (dX1_init 44 rfl) (by decide +kernel) ?_
    refine A_icmp_ge 104 (dX1_init 45 rfl) (by decide) (fun h79 => ?_) (fun h79 => absurd (show (12 : Int32) ≤ nI 12 by decide) h79)
    refine A_rv (dX1_init 58 rfl) rfl ?_
    exact rfl
  | succ n ih =>
    intro c hc
    have hlt : c < 12 := by omega
    refine A_iload_n (dX1_init 43 rfl) rfl ?_
    refine A_bipush (12) (dX1_init 44 rfl) (by decide +kernel) ?_
    refine A_icmp_ge 104 (dX1_init 45 rfl) (by decide) (fun h79 => absurd h79 (nI_ge (a := c) (b := 12) hlt (by decide))) (fun h79 => ?_)
    refine A_aload_n (dX1_init 46 rfl) rfl ?_
    refine A_get (dX1_init 47 rfl) fwX1_9 wF_0 cF_f0_0 ?_
    refine A_iload_n (dX1_init 48 rfl) rfl ?_
    refine A_sipush (1000) (dX1_init 49 rfl) (by decide +kernel) ?_
    refine A_iast (dX1_init 50 rfl) wF_1 (vp_in_nI (n := c) (by omega) (by decide)) (wF_s1 _) ?_
    refine AW.pcq (pc2 := 91) rfl ?_
    refine A_aload_n (dX1_init 51 rfl) rfl ?_
    refine A_get (dX1_init 52 rfl) fwX1_15 wF_0 cF_f0_1 ?_
    refine A_iload_n (dX1_init 53 rfl) rfl ?_
    refine A_iconst (2) (dX1_init 54 rfl) (by decide +kernel) ?_
    refine A_iast (dX1_init 55 rfl) wF_2 (vp_in_nI (n := c) (by omega) (by decide)) (wF_s2 _) ?_
    refine A_iinc (ls2 := [_, _]) (nI (c + 1)) (dX1_init 56 rfl) rfl (nI_1 c) (by decide) rfl rfl ?_
    refine A_goto 76 (dX1_init 57 rfl) (by decide) ?_
    rw [nI_clamp (n := c) (by omega)]
    refine AW.world (ws2 := wF E q f_ig (va_up (va_up (fun _ _ => 0) 0 (cp (c + 1) (fun _ => 1000) (fun _ => 0))) 1 (cp (c + 1) (fun _ => 2) (fun _ => 0)))) ?_ (ih (c + 1) (by omega))
    refine congrArg (wF E q f_ig) ?_
    funext i
    by_cases e4 : i = 0
    · subst e4; simp [va_up]; exact cp_s c (fun _ => 1000) (fun _ => 0)
    by_cases e5 : i = 1
    · subst e5; simp [va_up]; exact cp_s c (fun _ => 2) (fun _ => 0)
    simp [va_up, e4, e5]

set_option maxRecDepth 100000 in
set_option maxHeartbeats 4000000 in
theorem f_init (E : ag) (q0 : Nat) : CT E yX1_init cX1_init 2 mX1_init.2.2.2.1 2 6 44 [.ref q0] [(q0, .inr (1, [.null, .null, .null, .null, .null, .null, .int 0, .int 0, .int 0, .int 0, .int 0]))] (rv (fun w => ∃ q : Nat → Nat, q 0 = q0 ∧ w = wF E q f_ig f_ia)) := by
  refine CT.of (M := mX1_init) (ls := [some (.ref q0), none]) (by decide) rfl (by decide) rfl (Nat.le_of_ble_eq_true rfl) ?_
  refine A_aload_n (dX1_init 0 rfl) rfl ?_
  refine A_objInit (dX1_init 1 rfl) oiX1_3 (Nat.le_of_ble_eq_true rfl) (Nat.le_of_ble_eq_true rfl) ?_
  refine A_aload_n (dX1_init 2 rfl) rfl ?_
  refine A_bipush (12) (dX1_init 3 rfl) (by decide +kernel) ?_
  refine A_newi 12 (dX1_init 4 rfl) (by decide) (by decide +kernel) (Nat.le_of_ble_eq_true rfl) kaI (Nat.le_of_ble_eq_true rfl) (Nat.le_of_ble_eq_true rfl) (fun q1 => ?_)
  refine AW.world (ws2 := [(q0, .inr (1, [.null, .null, .null, .null, .null, .null, .int 0, .int 0, .int 0, .int 0, .int 0])), (q1, .inl (E.2.1 0, 12, .inl (fun _ => 0)))]) rfl ?_
  refine A_putF (q0 := 0) (ws2 := [(q0, .inr (1, [.ref q1, .null, .null, .null, .null, .null, .int 0, .int 0, .int 0, .int 0, .int 0])), (q1, .inl (E.2.1 0, 12, .inl (fun _ => 0)))]) (dX1_init 5 rfl) fwX1_9 fcX1 ftX1_0 rfl rfl (by first | rfl | decide) rfl (Nat.le_of_ble_eq_true rfl) rfl ?_
  refine A_aload_n (dX1_init 6 rfl) rfl ?_
  refine A_bipush (12) (dX1_init 7 rfl) (by decide +kernel) ?_
  refine AW.pcq (pc2 := 15) rfl ?_
  refine A_newi 12 (dX1_init 8 rfl) (by decide) (by decide +kernel) (Nat.le_of_ble_eq_true rfl) kaI (Nat.le_of_ble_eq_true rfl) (Nat.le_of_ble_eq_true rfl) (fun q2 => ?_)
  refine AW.world (ws2 := [(q0, .inr (1, [.ref q1, .null, .null, .null, .null, .null, .int 0, .int 0, .int 0, .int 0, .int 0])), (q1, .inl (E.2.1 0, 12, .inl (fun _ => 0))), (q2, .inl (E.2.1 0, 12, .inl (fun _ => 0)))]) rfl ?_
  refine A_putF (q0 := 0) (ws2 := [(q0, .inr (1, [.ref q1, .ref q2, .null, .null, .null, .null, .int 0, .int 0, .int 0, .int 0, .int 0])), (q1, .inl (E.2.1 0, 12, .inl (fun _ => 0))), (q2, .inl (E.2.1 0, 12, .inl (fun _ => 0)))]) (dX1_init 9 rfl) fwX1_15 fcX1 ftX1_1 rfl rfl (by first | rfl | decide) rfl (Nat.le_of_ble_eq_true rfl) rfl ?_
  refine A_aload_n (dX1_init 10 rfl) rfl ?_
  refine A_iconst (5) (dX1_init 11 rfl) (by decide +kernel) ?_
  refine A_newi 5 (dX1_init 12 rfl) (by decide) (by decide +kernel) (Nat.le_of_ble_eq_true rfl) kaI (Nat.le_of_ble_eq_true rfl) (Nat.le_of_ble_eq_true rfl) (fun q3 => ?_)
  refine AW.world (ws2 := [(q0, .inr (1, [.ref q1, .ref q2, .null, .null, .null, .null, .int 0, .int 0, .int 0, .int 0, .int 0])), (q1, .inl (E.2.1 0, 12, .inl (fun _ => 0))), (q2, .inl (E.2.1 0, 12, .inl (fun _ => 0))), (q3, .inl (E.2.1 0, 5, .inl (fun _ => 0)))]) rfl ?_
  refine A_putF (q0 := 0) (ws2 := [(q0, .inr (1, [.ref q1, .ref q2, .ref q3, .null, .null, .null, .int 0, .int 0, .int 0, .int 0, .int 0])), (q1, .inl (E.2.1 0, 12, .inl (fun _ => 0))), (q2, .inl (E.2.1 0, 12, .inl (fun _ => 0))), (q3, .inl (E.2.1 0, 5, .inl (fun _ => 0)))]) (dX1_init 13 rfl) fwX1_18 fcX1 ftX1_2 rfl rfl (by first | rfl | decide) rfl (Nat.le_of_ble_eq_true rfl) rfl ?_
  refine A_aload_n (dX1_init 14 rfl) rfl ?_
  refine A_iconst (5) (dX1_init 15 rfl) (by decide +kernel) ?_
  refine AW.pcq (pc2 := 29) rfl ?_
  refine A_newi 5 (dX1_init 16 rfl) (by decide) (by decide +kernel) (Nat.le_of_ble_eq_true rfl) kaI (Nat.le_of_ble_eq_true rfl) (Nat.le_of_ble_eq_true rfl) (fun q4 => ?_)
  refine AW.world (ws2 := [(q0, .inr (1, [.ref q1, .ref q2, .ref q3, .null, .null, .null, .int 0, .int 0, .int 0, .int 0, .int 0])), (q1, .inl (E.2.1 0, 12, .inl (fun _ => 0))), (q2, .inl (E.2.1 0, 12, .inl (fun _ => 0))), (q3, .inl (E.2.1 0, 5, .inl (fun _ => 0))), (q4, .inl (E.2.1 0, 5, .inl (fun _ => 0)))]) rfl ?_
  refine A_putF (q0 := 0) (ws2 := [(q0, .inr (1, [.ref q1, .ref q2, .ref q3, .ref q4, .null, .null, .int 0, .int 0, .int 0, .int 0, .int 0])), (q1, .inl (E.2.1 0, 12, .inl (fun _ => 0))), (q2, .inl (E.2.1 0, 12, .inl (fun _ => 0))), (q3, .inl (E.2.1 0, 5, .inl (fun _ => 0))), (q4, .inl (E.2.1 0, 5, .inl (fun _ => 0)))]) (dX1_init 17 rfl) fwX1_21 fcX1 ftX1_3 rfl rfl (by first | rfl | decide) rfl (Nat.le_of_ble_eq_true rfl) rfl ?_
  refine A_aload_n (dX1_init 18 rfl) rfl ?_
  refine A_iconst (5) (dX1_init 19 rfl) (by decide +kernel) ?_
  refine A_newi 5 (dX1_init 20 rfl) (by decide) (by decide +kernel) (Nat.le_of_ble_eq_true rfl) kaI (Nat.le_of_ble_eq_true rfl) (Nat.le_of_ble_eq_true rfl) (fun q5 => ?_)
  refine AW.world (ws2 := [(q0, .inr (1, [.ref q1, .ref q2, .ref q3, .ref q4, .null, .null, .int 0, .int 0, .int 0, .int 0, .int 0])), (q1, .inl (E.2.1 0, 12, .inl (fun _ => 0))), (q2, .inl (E.2.1 0, 12, .inl (fun _ => 0))), (q3, .inl (E.2.1 0, 5, .inl (fun _ => 0))), (q4, .inl (E.2.1 0, 5, .inl (fun _ => 0))), (q5, .inl (E.2.1 0, 5, .inl (fun _ => 0)))]) rfl ?_
  refine A_putF (q0 := 0) (ws2 := [(q0, .inr (1, [.ref q1, .ref q2, .ref q3, .ref q4, .ref q5, .null, .int 0, .int 0, .int 0, .int 0, .int 0])), (q1, .inl (E.2.1 0, 12, .inl (fun _ => 0))), (q2, .inl (E.2.1 0, 12, .inl (fun _ => 0))), (q3, .inl (E.2.1 0, 5, .inl (fun _ => 0))), (q4, .inl (E.2.1 0, 5, .inl (fun _ => 0))), (q5, .inl (E.2.1 0, 5, .inl (fun _ => 0)))]) (dX1_init 21 rfl) fwX1_24 fcX1 ftX1_4 rfl rfl (by first | rfl | decide) rfl (Nat.le_of_ble_eq_true rfl) rfl ?_
  refine A_aload_n (dX1_init 22 rfl) rfl ?_
  refine A_iconst (5) (dX1_init 23 rfl) (by decide +kernel) ?_
  refine AW.pcq (pc2 := 43) rfl ?_
  refine A_newi 5 (dX1_init 24 rfl) (by decide) (by decide +kernel) (Nat.le_of_ble_eq_true rfl) kaI (Nat.le_of_ble_eq_true rfl) (Nat.le_of_ble_eq_true rfl) (fun q6 => ?_)
  refine AW.world (ws2 := [(q0, .inr (1, [.ref q1, .ref q2, .ref q3, .ref q4, .ref q5, .null, .int 0, .int 0, .int 0, .int 0, .int 0])), (q1, .inl (E.2.1 0, 12, .inl (fun _ => 0))), (q2, .inl (E.2.1 0, 12, .inl (fun _ => 0))), (q3, .inl (E.2.1 0, 5, .inl (fun _ => 0))), (q4, .inl (E.2.1 0, 5, .inl (fun _ => 0))), (q5, .inl (E.2.1 0, 5, .inl (fun _ => 0))), (q6, .inl (E.2.1 0, 5, .inl (fun _ => 0)))]) rfl ?_
  refine A_putF (q0 := 0) (ws2 := [(q0, .inr (1, [.ref q1, .ref q2, .ref q3, .ref q4, .ref q5, .ref q6, .int 0, .int 0, .int 0, .int 0, .int 0])), (q1, .inl (E.2.1 0, 12, .inl (fun _ => 0))), (q2, .inl (E.2.1 0, 12, .inl (fun _ => 0))), (q3, .inl (E.2.1 0, 5, .inl (fun _ => 0))), (q4, .inl (E.2.1 0, 5, .inl (fun _ => 0))), (q5, .inl (E.2.1 0, 5, .inl (fun _ => 0))), (q6, .inl (E.2.1 0, 5, .inl (fun _ => 0)))]) (dX1_init 25 rfl) fwX1_27 fcX1 ftX1_5 rfl rfl (by first | rfl | decide) rfl (Nat.le_of_ble_eq_true rfl) rfl ?_
  refine A_aload_n (dX1_init 26 rfl) rfl ?_
  refine A_iconst (0) (dX1_init 27 rfl) (by decide +kernel) ?_
  refine A_put (q0 := 0) (ws2 := [(q0, .inr (1, [.ref q1, .ref q2, .ref q3, .ref q4, .ref q5, .ref q6, .int (0), .int 0, .int 0, .int 0, .int 0])), (q1, .inl (E.2.1 0, 12, .inl (fun _ => 0))), (q2, .inl (E.2.1 0, 12, .inl (fun _ => 0))), (q3, .inl (E.2.1 0, 5, .inl (fun _ => 0))), (q4, .inl (E.2.1 0, 5, .inl (fun _ => 0))), (q5, .inl (E.2.1 0, 5, .inl (fun _ => 0))), (q6, .inl (E.2.1 0, 5, .inl (fun _ => 0)))]) (dX1_init 28 rfl) fwX1_30 fcX1 ftX1_6 rfl (by first | rfl | decide) rfl (Nat.le_of_ble_eq_true rfl) rfl ?_
  refine A_aload_n (dX1_init 29 rfl) rfl ?_
  refine A_bipush (120) (dX1_init 30 rfl) (by decide +kernel) ?_
  refine A_put (q0 := 0) (ws2 := [(q0, .inr (1, [.ref q1, .ref q2, .ref q3, .ref q4, .ref q5, .ref q6, .int (0), .int (120), .int 0, .int 0, .int 0])), (q1, .inl (E.2.1 0, 12, .inl (fun _ => 0))), (q2, .inl (E.2.1 0, 12, .inl (fun _ => 0))), (q3, .inl (E.2.1 0, 5, .inl (fun _ => 0))), (q4, .inl (E.2.1 0, 5, .inl (fun _ => 0))), (q5, .inl (E.2.1 0, 5, .inl (fun _ => 0))), (q6, .inl (E.2.1 0, 5, .inl (fun _ => 0)))]) (dX1_init 31 rfl) fwX1_34 fcX1 ftX1_7 rfl (by first | rfl | decide) rfl (Nat.le_of_ble_eq_true rfl) rfl ?_
  refine AW.pcq (pc2 := 59) rfl ?_
  refine A_aload_n (dX1_init 32 rfl) rfl ?_
  refine A_iconst (0) (dX1_init 33 rfl) (by decide +kernel) ?_
  refine A_put (q0 := 0) (ws2 := [(q0, .inr (1, [.ref q1, .ref q2, .ref q3, .ref q4, .ref q5, .ref q6, .int (0), .int (120), .int (0), .int 0, .int 0])), (q1, .inl (E.2.1 0, 12, .inl (fun _ => 0))), (q2, .inl (E.2.1 0, 12, .inl (fun _ => 0))), (q3, .inl (E.2.1 0, 5, .inl (fun _ => 0))), (q4, .inl (E.2.1 0, 5, .inl (fun _ => 0))), (q5, .inl (E.2.1 0, 5, .inl (fun _ => 0))), (q6, .inl (E.2.1 0, 5, .inl (fun _ => 0)))]) (dX1_init 34 rfl) fwX1_37 fcX1 ftX1_8 rfl (by first | rfl | decide) rfl (Nat.le_of_ble_eq_true rfl) rfl ?_
  refine A_aload_n (dX1_init 35 rfl) rfl ?_
  refine A_iconst (0) (dX1_init 36 rfl) (by decide +kernel) ?_
  refine A_put (q0 := 0) (ws2 := [(q0, .inr (1, [.ref q1, .ref q2, .ref q3, .ref q4, .ref q5, .ref q6, .int (0), .int (120), .int (0), .int (0), .int 0])), (q1, .inl (E.2.1 0, 12, .inl (fun _ => 0))), (q2, .inl (E.2.1 0, 12, .inl (fun _ => 0))), (q3, .inl (E.2.1 0, 5, .inl (fun _ => 0))), (q4, .inl (E.2.1 0, 5, .inl (fun _ => 0))), (q5, .inl (E.2.1 0, 5, .inl (fun _ => 0))), (q6, .inl (E.2.1 0, 5, .inl (fun _ => 0)))]) (dX1_init 37 rfl) fwX1_40 fcX1 ftX1_9 rfl (by first | rfl | decide) rfl (Nat.le_of_ble_eq_true rfl) rfl ?_
  refine A_aload_n (dX1_init 38 rfl) rfl ?_
  refine A_iconst (0) (dX1_init 39 rfl) (by decide +kernel) ?_
  refine AW.pcq (pc2 := 71) rfl ?_
  refine A_put (q0 := 0) (ws2 := [(q0, .inr (1, [.ref q1, .ref q2, .ref q3, .ref q4, .ref q5, .ref q6, .int (0), .int (120), .int (0), .int (0), .int (0)])), (q1, .inl (E.2.1 0, 12, .inl (fun _ => 0))), (q2, .inl (E.2.1 0, 12, .inl (fun _ => 0))), (q3, .inl (E.2.1 0, 5, .inl (fun _ => 0))), (q4, .inl (E.2.1 0, 5, .inl (fun _ => 0))), (q5, .inl (E.2.1 0, 5, .inl (fun _ => 0))), (q6, .inl (E.2.1 0, 5, .inl (fun _ => 0)))]) (dX1_init 40 rfl) fwX1_43 fcX1 ftX1_10 rfl (by first | rfl | decide) rfl (Nat.le_of_ble_eq_true rfl) rfl ?_
  refine A_iconst (0) (dX1_init 41 rfl) (by decide +kernel) ?_
  refine A_istore_n (ls2 := [_, _]) (dX1_init 42 rfl) (by decide) rfl rfl ?_
  have h9 := f_initL E (fun k => [q0, q1, q2, q3, q4, q5, q6].getD k 0) 12 0 rfl
  rw [cp_0, cp_0] at h9
  refine AW.mono (AW.world ?_ h9) (fun v w hw => ?_)
  · show _ = wF E _ f_ig _
    refine Eq.trans ?_ (congrArg (wF E _ f_ig) (a₁ := fun _ _ => 0) ?_)
    · rfl
    · funext i
      by_cases e4 : i = 0
      · subst e4; rfl
      by_cases e5 : i = 1
      · subst e5; rfl
      simp [va_up, e4, e5]
  · obtain ⟨hv, hw⟩ := hw
    exact ⟨hv, _, rfl, hw⟩

