set_option maxRecDepth 100000 in
set_option maxHeartbeats 400000 in
theorem f_add (E : ag) (qf : Nat → Nat) (gf : Nat → Int32) (af : Nat → Nat → Int32) (k b w : Int32) (m : Nat) (hm5 : m < 5) (hm : gf 0 = nI m) : CT E yX1_add cX1_add 5 mX1_add.2.2.2.1 2 0 0 [.ref (qf 0), .int k, .int b, .int w] (wF E qf gf af) (ri (fun r ws => r = gf 0 ∧ ws = wF E qf (upd gf 0 (gf 0 + 1)) (va_up (va_up (va_up (va_up af 2 (upd (af 2) m k)) 3 (upd (af 3) m (hld b (gf 1)))) 4 (upd (af 4) m (w / 10))) 5 (upd (af 5) m (w - w / 10 * 10))))) := by
  refine CT.of (M := mX1_add) (ls := [some (.ref (qf 0)), some (.int k), some (.int b), some (.int w), none]) (by decide) rfl (by decide) rfl (Nat.le_of_ble_eq_true rfl) ?_
  refine A_aload_n (dX1_add 0 rfl) rfl ?_
  refine A_get (dX1_add 1 rfl) fwX1_30 wF_0 cF_f0_6 ?_
  refine A_istore (ls2 := [_, _, _, _, _]) (dX1_add 2 rfl) (by decide) rfl rfl ?_
  refine A_aload_n (dX1_add 3 rfl) rfl ?_
  refine A_get (dX1_add 4 rfl) fwX1_18 wF_0 cF_f0_2 ?_
  refine A_iload (dX1_add 5 rfl) rfl ?_
  refine A_iload_n (dX1_add 6 rfl) rfl ?_
  refine A_iast (dX1_add 7 rfl) wF_3 (by rw [hm]; exact vp_in_nI (n := m) (by omega) (by decide)) (wF_s3 _) ?_
  refine AW.pcq (pc2 := 14) rfl ?_
  refine A_aload_n (dX1_add 8 rfl) rfl ?_
  refine A_get (dX1_add 9 rfl) fwX1_21 wF_0 cF_f0_3 ?_
  refine A_iload (dX1_add 10 rfl) rfl ?_
  refine A_iload_n (dX1_add 11 rfl) rfl ?_
  refine A_aload_n (dX1_add 12 rfl) rfl ?_
  refine A_get (dX1_add 13 rfl) fwX1_34 wF_0 cF_f0_7 ?_
  refine A_callSNWi 2 (dX1_add 14 rfl) cbX5_held cwX1_52 (k_held E _ b (gf 1)) rfl rfl (Nat.le_of_ble_eq_true rfl) (Nat.le_of_ble_eq_true rfl) (Nat.le_of_ble_eq_true rfl) (Nat.le_of_ble_eq_true rfl) (Nat.le_of_ble_eq_true rfl) ?_
  rintro r25 w1 ⟨rfl, rfl⟩
  refine AW.pcq (pc2 := 28) rfl ?_
  refine A_iast (dX1_add 15 rfl) wF_4 (by rw [hm]; exact vp_in_nI (n := m) (by omega) (by decide)) (wF_s4 _) ?_
  refine A_aload_n (dX1_add 16 rfl) rfl ?_
  refine A_get (dX1_add 17 rfl) fwX1_24 wF_0 cF_f0_4 ?_
  refine A_iload (dX1_add 18 rfl) rfl ?_
  refine A_iload_n (dX1_add 19 rfl) rfl ?_
  refine A_bipush (10) (dX1_add 20 rfl) (by decide +kernel) ?_
  refine A_idiv (dX1_add 21 rfl) (by decide) ?_
  refine A_iast (dX1_add 22 rfl) wF_5 (by rw [hm]; exact vp_in_nI (n := m) (by omega) (by decide)) (wF_s5 _) ?_
  refine AW.pcq (pc2 := 40) rfl ?_
  refine A_aload_n (dX1_add 23 rfl) rfl ?_
  refine A_get (dX1_add 24 rfl) fwX1_27 wF_0 cF_f0_5 ?_
  refine A_iload (dX1_add 25 rfl) rfl ?_
  refine A_iload_n (dX1_add 26 rfl) rfl ?_
  refine A_bipush (10) (dX1_add 27 rfl) (by decide +kernel) ?_
  refine A_irem (dX1_add 28 rfl) (by decide) ?_
  refine A_iast (dX1_add 29 rfl) wF_6 (by rw [hm]; exact vp_in_nI (n := m) (by omega) (by decide)) (wF_s6 _) ?_
  refine A_aload_n (dX1_add 30 rfl) rfl ?_
  refine AW.pcq (pc2 := 52) rfl ?_
  refine A_dup (dX1_add 31 rfl) rfl ?_
  refine A_get (dX1_add 32 rfl) fwX1_30 wF_0 cF_f0_6 ?_
  refine A_iconst (1) (dX1_add 33 rfl) (by decide +kernel) ?_
  refine A_iadd (dX1_add 34 rfl) ?_
  refine A_put (dX1_add 35 rfl) fwX1_30 fcX1 ftX1_6 wF_0 rfl rfl cF_l0 (wF_p0_6 _) ?_
  refine A_iload (dX1_add 36 rfl) rfl ?_
  refine A_ri (dX1_add 37 rfl) rfl rfl ?_
  refine ⟨rfl, ?_⟩
  rw [hm, nI_clamp (n := m) (by omega)]
  rfl

set_option maxRecDepth 100000 in
set_option maxHeartbeats 400000 in
theorem f_takeMan (E : ag) (qd : Nat → Nat) (gd : Nat → Int32) (ad : Nat → Nat → Int32) (qf : Nat → Nat) (gf : Nat → Int32) (af : Nat → Nat → Int32) (x y : Nat) (hx : x < 5) (hy : y < 5) : CT E yX1_takeMan cX1_takeMan 4 mX1_takeMan.2.2.2.1 1 0 0 [.ref (qd 0), .int (nI x), .ref (qf 0), .int (nI y)] (wFF E qd gd ad qf gf af) (rv (fun w => w = wFF E qd gd (va_up (va_up (va_up (va_up ad 2 (upd (ad 2) x (af 2 y))) 3 (upd (ad 3) x (af 3 y))) 4 (upd (ad 4) x (af 4 y))) 5 (upd (ad 5) x (af 5 y))) qf gf af)) := by
  refine CT.of (M := mX1_takeMan) (ls := [some (.ref (qd 0)), some (.int (nI x)), some (.ref (qf 0)), some (.int (nI y))]) (by decide) rfl (by decide) rfl (Nat.le_of_ble_eq_true rfl) ?_
  refine A_aload_n (dX1_takeMan 0 rfl) rfl ?_
  refine A_get (dX1_takeMan 1 rfl) fwX1_18 wFF_0 cF_f0_2 ?_
  refine A_iload_n (dX1_takeMan 2 rfl) rfl ?_
  refine A_aload_n (dX1_takeMan 3 rfl) rfl ?_
  refine A_get (dX1_takeMan 4 rfl) fwX1_18 wFF_7 cF_f0_2 ?_
  refine A_iload_n (dX1_takeMan 5 rfl) rfl ?_
  refine A_iald (dX1_takeMan 6 rfl) wFF_10 (vp_in_nI (n := y) (by omega) (by decide)) ?_
  refine A_iast (dX1_takeMan 7 rfl) wFF_3 (vp_in_nI (n := x) (by omega) (by decide)) (wFF_s3 _) ?_
  refine AW.pcq (pc2 := 12) rfl ?_
  refine A_aload_n (dX1_takeMan 8 rfl) rfl ?_
  refine A_get (dX1_takeMan 9 rfl) fwX1_21 wFF_0 cF_f0_3 ?_
  refine A_iload_n (dX1_takeMan 10 rfl) rfl ?_
  refine A_aload_n (dX1_takeMan 11 rfl) rfl ?_
  refine A_get (dX1_takeMan 12 rfl) fwX1_21 wFF_7 cF_f0_3 ?_
  refine A_iload_n (dX1_takeMan 13 rfl) rfl ?_
  refine A_iald (dX1_takeMan 14 rfl) wFF_11 (vp_in_nI (n := y) (by omega) (by decide)) ?_
  refine A_iast (dX1_takeMan 15 rfl) wFF_4 (vp_in_nI (n := x) (by omega) (by decide)) (wFF_s4 _) ?_
  refine AW.pcq (pc2 := 24) rfl ?_
  refine A_aload_n (dX1_takeMan 16 rfl) rfl ?_
  refine A_get (dX1_takeMan 17 rfl) fwX1_24 wFF_0 cF_f0_4 ?_
  refine A_iload_n (dX1_takeMan 18 rfl) rfl ?_
  refine A_aload_n (dX1_takeMan 19 rfl) rfl ?_
  refine A_get (dX1_takeMan 20 rfl) fwX1_24 wFF_7 cF_f0_4 ?_
  refine A_iload_n (dX1_takeMan 21 rfl) rfl ?_
  refine A_iald (dX1_takeMan 22 rfl) wFF_12 (vp_in_nI (n := y) (by omega) (by decide)) ?_
  refine A_iast (dX1_takeMan 23 rfl) wFF_5 (vp_in_nI (n := x) (by omega) (by decide)) (wFF_s5 _) ?_
  refine AW.pcq (pc2 := 36) rfl ?_
  refine A_aload_n (dX1_takeMan 24 rfl) rfl ?_
  refine A_get (dX1_takeMan 25 rfl) fwX1_27 wFF_0 cF_f0_5 ?_
  refine A_iload_n (dX1_takeMan 26 rfl) rfl ?_
  refine A_aload_n (dX1_takeMan 27 rfl) rfl ?_
  refine A_get (dX1_takeMan 28 rfl) fwX1_27 wFF_7 cF_f0_5 ?_
  refine A_iload_n (dX1_takeMan 29 rfl) rfl ?_
  refine A_iald (dX1_takeMan 30 rfl) wFF_13 (vp_in_nI (n := y) (by omega) (by decide)) ?_
  refine A_iast (dX1_takeMan 31 rfl) wFF_6 (vp_in_nI (n := x) (by omega) (by decide)) (wFF_s6 _) ?_
  refine AW.pcq (pc2 := 48) rfl ?_
  refine A_rv (dX1_takeMan 32 rfl) rfl ?_
  simp only [nI_clamp (n := x) (by omega), nI_clamp (n := y) (by omega)]
  rfl

set_option maxRecDepth 100000 in
set_option maxHeartbeats 400000 in
theorem f_takeManS (E : ag) (qf : Nat → Nat) (gf : Nat → Int32) (af : Nat → Nat → Int32) (x y : Nat) (hx : x < 5) (hy : y < 5) : CT E yX1_takeMan cX1_takeMan 4 mX1_takeMan.2.2.2.1 1 0 0 [.ref (qf 0), .int (nI x), .ref (qf 0), .int (nI y)] (wF E qf gf af) (rv (fun w => w = wF E qf gf (va_up (va_up (va_up (va_up af 2 (upd (af 2) x (af 2 y))) 3 (upd (af 3) x (af 3 y))) 4 (upd (af 4) x (af 4 y))) 5 (upd (af 5) x (af 5 y))))) := by
  refine CT.of (M := mX1_takeMan) (ls := [some (.ref (qf 0)), some (.int (nI x)), some (.ref (qf 0)), some (.int (nI y))]) (by decide) rfl (by decide) rfl (Nat.le_of_ble_eq_true rfl) ?_
  refine A_aload_n (dX1_takeMan 0 rfl) rfl ?_
  refine A_get (dX1_takeMan 1 rfl) fwX1_18 wF_0 cF_f0_2 ?_
  refine A_iload_n (dX1_takeMan 2 rfl) rfl ?_
  refine A_aload_n (dX1_takeMan 3 rfl) rfl ?_
  refine A_get (dX1_takeMan 4 rfl) fwX1_18 wF_0 cF_f0_2 ?_
  refine A_iload_n (dX1_takeMan 5 rfl) rfl ?_
  refine A_iald (dX1_takeMan 6 rfl) wF_3 (vp_in_nI (n := y) (by omega) (by decide)) ?_
  refine A_iast (dX1_takeMan 7 rfl) wF_3 (vp_in_nI (n := x) (by omega) (by decide)) (wF_s3 _) ?_
  refine AW.pcq (pc2 := 12) rfl ?_
  refine A_aload_n (dX1_takeMan 8 rfl) rfl ?_
  refine A_get (dX1_takeMan 9 rfl) fwX1_21 wF_0 cF_f0_3 ?_
  refine A_iload_n (dX1_takeMan 10 rfl) rfl ?_
  refine A_aload_n (dX1_takeMan 11 rfl) rfl ?_
  refine A_get (dX1_takeMan 12 rfl) fwX1_21 wF_0 cF_f0_3 ?_
  refine A_iload_n (dX1_takeMan 13 rfl) rfl ?_
  refine A_iald (dX1_takeMan 14 rfl) wF_4 (vp_in_nI (n := y) (by omega) (by decide)) ?_
  refine A_iast (dX1_takeMan 15 rfl) wF_4 (vp_in_nI (n := x) (by omega) (by decide)) (wF_s4 _) ?_
  refine AW.pcq (pc2 := 24) rfl ?_
  refine A_aload_n (dX1_takeMan 16 rfl) rfl ?_
  refine A_get (dX1_takeMan 17 rfl) fwX1_24 wF_0 cF_f0_4 ?_
  refine A_iload_n (dX1_takeMan 18 rfl) rfl ?_
  refine A_aload_n (dX1_takeMan 19 rfl) rfl ?_
  refine A_get (dX1_takeMan 20 rfl) fwX1_24 wF_0 cF_f0_4 ?_
  refine A_iload_n (dX1_takeMan 21 rfl) rfl ?_
  refine A_iald (dX1_takeMan 22 rfl) wF_5 (vp_in_nI (n := y) (by omega) (by decide)) ?_
  refine A_iast (dX1_takeMan 23 rfl) wF_5 (vp_in_nI (n := x) (by omega) (by decide)) (wF_s5 _) ?_
  refine AW.pcq (pc2 := 36) rfl ?_
  refine A_aload_n (dX1_takeMan 24 rfl) rfl ?_
  refine A_get (dX1_takeMan 25 rfl) fwX1_27 wF_0 cF_f0_5 ?_
  refine A_iload_n (dX1_takeMan 26 rfl) rfl ?_
  refine A_aload_n (dX1_takeMan 27 rfl) rfl ?_
  refine A_get (dX1_takeMan 28 rfl) fwX1_27 wF_0 cF_f0_5 ?_
  refine A_iload_n (dX1_takeMan 29 rfl) rfl ?_
  refine A_iald (dX1_takeMan 30 rfl) wF_6 (vp_in_nI (n := y) (by omega) (by decide)) ?_
  refine A_iast (dX1_takeMan 31 rfl) wF_6 (vp_in_nI (n := x) (by omega) (by decide)) (wF_s6 _) ?_
  refine AW.pcq (pc2 := 48) rfl ?_
  refine A_rv (dX1_takeMan 32 rfl) rfl ?_
  simp only [nI_clamp (n := x) (by omega), nI_clamp (n := y) (by omega)]
  rfl

set_option maxRecDepth 100000 in
set_option maxHeartbeats 400000 in
theorem f_standL (E : ag) (qd : Nat → Nat) (gd : Nat → Int32) (ad : Nat → Nat → Int32) (qf : Nat → Nat) (gf : Nat → Int32) (af : Nat → Nat → Int32) (qo : Nat → Nat) (go : Nat → Int32) (ao : Nat → Nat → Int32) (m : Nat) (ro : Nat → Nat) (hm5 : m ≤ 5) (hm : gd 0 = nI m) (hro : ∀ k, k < m → ro k < 5 ∧ ao 0 k = nI (ro k)) : ∀ (n c : Nat), c + n = m → AW E mX1_standAs 2 0 0 2 [some (.ref (qd 0)), some (.ref (qf 0)), some (.ref (qo 0)), some (.int (nI c))] [] (wFO E qd gd (va_up (va_up (va_up (va_up ad 2 (cp c (fun k => af 2 (ro k)) (ad 2))) 3 (cp c (fun k => af 3 (ro k)) (ad 3))) 4 (cp c (fun k => af 4 (ro k)) (ad 4))) 5 (cp c (fun k => af 5 (ro k)) (ad 5))) qf gf af qo go ao) (rv (fun w => w = wFO E qd gd (va_up (va_up (va_up (va_up ad 2 (cp m (fun k => af 2 (ro k)) (ad 2))) 3 (cp m (fun k => af 3 (ro k)) (ad 3))) 4 (cp m (fun k => af 4 (ro k)) (ad 4))) 5 (cp m (fun k => af 5 (ro k)) (ad 5))) qf gf af qo go ao)) := by
  intro n
  induction n with
  | zero =>
    intro c hc
    obtain rfl : m = c := by omega
    refine A_iload_n (dX1_standAs 2 rfl) rfl ?_
    refine A_aload_n (dX1_standAs 3 rfl) rfl ?_
    refine A_get (dX1_standAs 4 rfl) fwX1_30 wFO_0 cF_f0_6 ?_
    refine A_icmp_ge 25 (dX1_standAs 5 rfl) (by decide) (fun h7 => ?_) (fun h7 => absurd (show gd 0 ≤ nI m by rw [hm]; exact nI_le (Nat.le_refl _) (by omega)) h7)
    refine A_rv (dX1_standAs 15 rfl) rfl ?_
    exact rfl
  | succ n ih =>
    intro c hc
    have hlt : c < m := by omega
    refine A_iload_n (dX1_standAs 2 rfl) rfl ?_
    refine A_aload_n (dX1_standAs 3 rfl) rfl ?_
    refine A_get (dX1_standAs 4 rfl) fwX1_30 wFO_0 cF_f0_6 ?_
    refine A_icmp_ge 25 (dX1_standAs 5 rfl) (by decide) (fun h7 => absurd h7 (show ¬ gd 0 ≤ nI c by rw [hm]; exact nI_ge hlt (by omega))) (fun h7 => ?_)
    refine A_aload_n (dX1_standAs 6 rfl) rfl ?_
    refine A_iload_n (dX1_standAs 7 rfl) rfl ?_
    refine A_aload_n (dX1_standAs 8 rfl) rfl ?_
    refine A_aload_n (dX1_standAs 9 rfl) rfl ?_
    refine AW.pcq (pc2 := 14) rfl ?_
    refine A_iload_n (dX1_standAs 10 rfl) rfl ?_
    refine A_iald (dX1_standAs 11 rfl) wFO_14 (vp_in_nI (n := c) (by omega) (by decide)) ?_
    rw [nI_clamp (n := c) (by omega), (hro c hlt).2]
    refine A_callVv 3 (dX1_standAs 12 rfl) cbX1_takeMan cwX1_56 (f_takeMan E qd gd (va_up (va_up (va_up (va_up ad 2 (cp c (fun k => af 2 (ro k)) (ad 2))) 3 (cp c (fun k => af 3 (ro k)) (ad 3))) 4 (cp c (fun k => af 4 (ro k)) (ad 4))) 5 (cp c (fun k => af 5 (ro k)) (ad 5))) qf gf af c (ro c) (by omega) (hro c hlt).1) rfl rfl wFF_0 rfl rfl [0, 1, 2, 3, 4, 5, 6, 7, 8, 9, 10, 11, 12, 13] rfl rfl (Nat.le_of_ble_eq_true rfl) (Nat.le_of_ble_eq_true rfl) (Nat.le_of_ble_eq_true rfl) (Nat.le_of_ble_eq_true rfl) (Nat.le_of_ble_eq_true rfl) (by rintro _ rfl; exact (Nat.le_of_ble_eq_true rfl)) ?_
    rintro w1 rfl
    refine AW.world (ws2 := wFO E qd gd (va_up (va_up (va_up (va_up ad 2 (cp (c + 1) (fun k => af 2 (ro k)) (ad 2))) 3 (cp (c + 1) (fun k => af 3 (ro k)) (ad 3))) 4 (cp (c + 1) (fun k => af 4 (ro k)) (ad 4))) 5 (cp (c + 1) (fun k => af 5 (ro k)) (ad 5))) qf gf af qo go ao) ?_ ?_
    · show wFO E qd gd _ qf gf af qo go ao = _
      congr 1
      funext i
      simp only [va_up]
      by_cases z5 : i = 5
      · subst z5; simp; exact cp_s c (fun k => af 5 (ro k)) (ad 5)
      by_cases z4 : i = 4
      · subst z4; simp; exact cp_s c (fun k => af 4 (ro k)) (ad 4)
      by_cases z3 : i = 3
      · subst z3; simp; exact cp_s c (fun k => af 3 (ro k)) (ad 3)
      by_cases z2 : i = 2
      · subst z2; simp; exact cp_s c (fun k => af 2 (ro k)) (ad 2)
      simp [z2, z3, z4, z5]
    refine AW.pcq (pc2 := 19) rfl ?_
    refine A_iinc (ls2 := [_, _, _, _]) (nI (c + 1)) (dX1_standAs 13 rfl) rfl (nI_1 c) (by decide) rfl rfl ?_
    refine A_goto 2 (dX1_standAs 14 rfl) (by decide) ?_
    exact ih (c + 1) (by omega)

set_option maxRecDepth 100000 in
set_option maxHeartbeats 400000 in
theorem f_standAs (E : ag) (qd : Nat → Nat) (gd : Nat → Int32) (ad : Nat → Nat → Int32) (qf : Nat → Nat) (gf : Nat → Int32) (af : Nat → Nat → Int32) (qo : Nat → Nat) (go : Nat → Int32) (ao : Nat → Nat → Int32) (m : Nat) (ro : Nat → Nat) (hm5 : m ≤ 5) (hm : gd 0 = nI m) (hro : ∀ k, k < m → ro k < 5 ∧ ao 0 k = nI (ro k)) : CT E yX1_standAs cX1_standAs 4 mX1_standAs.2.2.2.1 2 0 0 [.ref (qd 0), .ref (qf 0), .ref (qo 0)] (wFO E qd gd ad qf gf af qo go ao) (rv (fun w => w = wFO E qd gd (va_up (va_up (va_up (va_up ad 2 (cp m (fun k => af 2 (ro k)) (ad 2))) 3 (cp m (fun k => af 3 (ro k)) (ad 3))) 4 (cp m (fun k => af 4 (ro k)) (ad 4))) 5 (cp m (fun k => af 5 (ro k)) (ad 5))) qf gf af qo go ao)) := by
  refine CT.of (M := mX1_standAs) (ls := [some (.ref (qd 0)), some (.ref (qf 0)), some (.ref (qo 0)), none]) (by decide) rfl (by decide) rfl (Nat.le_of_ble_eq_true rfl) ?_
  refine A_iconst (0) (dX1_standAs 0 rfl) (by decide +kernel) ?_
  refine A_istore_n (ls2 := [_, _, _, _]) (dX1_standAs 1 rfl) (by decide) rfl rfl ?_
  have h9 := f_standL E qd gd ad qf gf af qo go ao m ro hm5 hm hro m 0 (by omega)
  simp only [cp_0, up_same] at h9
  exact h9

def lv1 (who c : Nat) (f : Nat → Int32) : Nat → Int32 := fun k => if who ≤ k ∧ k < c then f (k + 1) else f k
theorem lv1_0 (who : Nat) (f : Nat → Int32) : lv1 who who f = f := by funext k; simp only [lv1]; rw [if_neg (by omega)]
theorem lv1_s {who c : Nat} (h : who ≤ c) (f : Nat → Int32) : upd (lv1 who c f) c (lv1 who c f (c + 1)) = lv1 who (c + 1) f := by
  funext k
  simp only [upd, lv1]
  by_cases e : k = c
  · subst e
    rw [if_pos rfl, if_neg (by omega), if_pos (by omega)]
  · rw [if_neg e]
    by_cases e2 : who ≤ k ∧ k < c
    · rw [if_pos e2, if_pos (by omega)]
    · rw [if_neg e2, if_neg (by omega)]
theorem lv1_e {who m : Nat} (f : Nat → Int32) : lv1 who (m - 1) f = p_lv m who f := by
  funext k
  simp only [lv1, p_lv]
  by_cases e : who ≤ k ∧ k < m - 1
  · rw [if_pos e, if_pos (by omega)]
  · rw [if_neg e, if_neg (by omega)]
set_option maxRecDepth 100000 in
set_option maxHeartbeats 400000 in
theorem f_leaveL (E : ag) (qf : Nat → Nat) (gf : Nat → Int32) (af : Nat → Nat → Int32) (m who : Nat) (hm5 : m ≤ 5) (hm : gf 0 = nI m) (hwho : who < m) : ∀ (n c : Nat), c + n = (m - 1) → who ≤ c → AW E mX1_leaveOut 2 0 0 2 [some (.ref (qf 0)), some (.int (nI who)), some (.int (nI c))] [] (wF E qf gf (va_up (va_up (va_up (va_up af 2 (lv1 who c (af 2))) 3 (lv1 who c (af 3))) 4 (lv1 who c (af 4))) 5 (lv1 who c (af 5)))) (rv (fun w => w = wF E qf (upd gf 0 (gf 0 - 1)) (va_up (va_up (va_up (va_up af 2 (p_lv m who (af 2))) 3 (p_lv m who (af 3))) 4 (p_lv m who (af 4))) 5 (p_lv m who (af 5))))) := by
  intro n
  induction n with
  | zero =>
    intro c hc
    intro hcw
    obtain rfl : c = m - 1 := by omega
    refine A_iload_n (dX1_leaveOut 2 rfl) rfl ?_
    refine A_iconst (1) (dX1_leaveOut 3 rfl) (by decide +kernel) ?_
    refine A_iadd (dX1_leaveOut 4 rfl) ?_
    refine A_aload_n (dX1_leaveOut 5 rfl) rfl ?_
    refine A_get (dX1_leaveOut 6 rfl) fwX1_30 wF_0 cF_f0_6 ?_
    rw [nI_1]
    refine A_icmp_ge 27 (dX1_leaveOut 7 rfl) (by decide) (fun h9 => ?_) (fun h9 => absurd (show gf 0 ≤ nI (m - 1 + 1) by rw [hm]; exact nI_le (by omega) (by omega)) h9)
    refine A_aload_n (dX1_leaveOut 17 rfl) rfl ?_
    refine A_dup (dX1_leaveOut 18 rfl) rfl ?_
    refine A_get (dX1_leaveOut 19 rfl) fwX1_30 wF_0 cF_f0_6 ?_
    refine A_iconst (1) (dX1_leaveOut 20 rfl) (by decide +kernel) ?_
    refine A_isub (dX1_leaveOut 21 rfl) ?_
    refine A_put (dX1_leaveOut 22 rfl) fwX1_30 fcX1 ftX1_6 wF_0 rfl rfl cF_l0 (wF_p0_6 _) ?_
    refine A_rv (dX1_leaveOut 23 rfl) rfl ?_
    rw [lv1_e, lv1_e, lv1_e, lv1_e]
  | succ n ih =>
    intro c hc
    have hlt : c < (m - 1) := by omega
    intro hcw
    refine A_iload_n (dX1_leaveOut 2 rfl) rfl ?_
    refine A_iconst (1) (dX1_leaveOut 3 rfl) (by decide +kernel) ?_
    refine A_iadd (dX1_leaveOut 4 rfl) ?_
    refine A_aload_n (dX1_leaveOut 5 rfl) rfl ?_
    refine A_get (dX1_leaveOut 6 rfl) fwX1_30 wF_0 cF_f0_6 ?_
    rw [nI_1]
    refine A_icmp_ge 27 (dX1_leaveOut 7 rfl) (by decide) (fun h9 => absurd h9 (show ¬ gf 0 ≤ nI (c + 1) by rw [hm]; exact nI_ge (by omega) (by omega))) (fun h9 => ?_)
    refine A_aload_n (dX1_leaveOut 8 rfl) rfl ?_
    refine A_iload_n (dX1_leaveOut 9 rfl) rfl ?_
    refine AW.pcq (pc2 := 14) rfl ?_
    refine A_aload_n (dX1_leaveOut 10 rfl) rfl ?_
    refine A_iload_n (dX1_leaveOut 11 rfl) rfl ?_
    refine A_iconst (1) (dX1_leaveOut 12 rfl) (by decide +kernel) ?_
    refine A_iadd (dX1_leaveOut 13 rfl) ?_
    rw [nI_1]
    refine A_callVWv 3 (dX1_leaveOut 14 rfl) cbX1_takeMan cwX1_56 (f_takeManS E qf gf (va_up (va_up (va_up (va_up af 2 (lv1 who c (af 2))) 3 (lv1 who c (af 3))) 4 (lv1 who c (af 4))) 5 (lv1 who c (af 5))) c (c + 1) (by omega) (by omega)) rfl rfl wF_0 rfl rfl (Nat.le_of_ble_eq_true rfl) (Nat.le_of_ble_eq_true rfl) (Nat.le_of_ble_eq_true rfl) (Nat.le_of_ble_eq_true rfl) (Nat.le_of_ble_eq_true rfl) ?_
    rintro w1 rfl
    refine AW.world (ws2 := wF E qf gf (va_up (va_up (va_up (va_up af 2 (lv1 who (c + 1) (af 2))) 3 (lv1 who (c + 1) (af 3))) 4 (lv1 who (c + 1) (af 4))) 5 (lv1 who (c + 1) (af 5)))) ?_ ?_
    · show wF E qf gf _ = _
      congr 1
      funext i
      simp only [va_up]
      by_cases z5 : i = 5
      · subst z5; simp; exact lv1_s (by omega) _
      by_cases z4 : i = 4
      · subst z4; simp; exact lv1_s (by omega) _
      by_cases z3 : i = 3
      · subst z3; simp; exact lv1_s (by omega) _
      by_cases z2 : i = 2
      · subst z2; simp; exact lv1_s (by omega) _
      simp [z2, z3, z4, z5]
    refine AW.pcq (pc2 := 21) rfl ?_
    refine A_iinc (ls2 := [_, _, _]) (nI (c + 1)) (dX1_leaveOut 15 rfl) rfl (nI_1 c) (by decide) rfl rfl ?_
    refine A_goto 2 (dX1_leaveOut 16 rfl) (by decide) ?_
    exact ih (c + 1) (by omega) (by omega)

set_option maxRecDepth 100000 in
set_option maxHeartbeats 400000 in
theorem f_leaveOut (E : ag) (qf : Nat → Nat) (gf : Nat → Int32) (af : Nat → Nat → Int32) (m who : Nat) (hm5 : m ≤ 5) (hm : gf 0 = nI m) (hwho : who < m) : CT E yX1_leaveOut cX1_leaveOut 3 mX1_leaveOut.2.2.2.1 2 0 0 [.ref (qf 0), .int (nI who)] (wF E qf gf af) (rv (fun w => w = wF E qf (upd gf 0 (gf 0 - 1)) (va_up (va_up (va_up (va_up af 2 (p_lv m who (af 2))) 3 (p_lv m who (af 3))) 4 (p_lv m who (af 4))) 5 (p_lv m who (af 5))))) := by
  refine CT.of (M := mX1_leaveOut) (ls := [some (.ref (qf 0)), some (.int (nI who)), none]) (by decide) rfl (by decide) rfl (Nat.le_of_ble_eq_true rfl) ?_
  refine A_iload_n (dX1_leaveOut 0 rfl) rfl ?_
  refine A_istore_n (ls2 := [_, _, _]) (dX1_leaveOut 1 rfl) (by decide) rfl rfl ?_
  have h9 := f_leaveL E qf gf af m who hm5 hm hwho (m - 1 - who) who (by omega) (Nat.le_refl _)
  simp only [lv1_0, up_same] at h9
  exact h9

set_option maxRecDepth 100000 in
set_option maxHeartbeats 400000 in
theorem f_holdL (E : ag) (qf : Nat → Nat) (gf : Nat → Int32) (af : Nat → Nat → Int32) (v : Int32) (m : Nat) (hm5 : m ≤ 5) (hm : gf 0 = nI m) (z : Int32) : ∀ (n c : Nat), c + n = m → AW E mX1_holdBy 2 0 0 12 [some (.ref (qf 0)), some (.int v), some (.int z), some (.int (nI c))] [] (wF E qf (upd gf 1 v) (va_up af 3 (cp c (fun k => hld (af 3 k) v) (af 3)))) (ri (fun r w => r = z ∧ w = wF E qf (upd gf 1 v) (va_up af 3 (cp m (fun k => hld (af 3 k) v) (af 3))))) := by
  intro n
  induction n with
  | zero =>
    intro c hc
    obtain rfl : m = c := by omega
    refine A_iload_n (dX1_holdBy 8 rfl) rfl ?_
    refine A_aload_n (dX1_holdBy 9 rfl) rfl ?_
    refine A_get (dX1_holdBy 10 rfl) fwX1_30 wF_0 cF_f0_6 ?_
    refine A_icmp_ge 45 (dX1_holdBy 11 rfl) (by decide) (fun h17 => ?_) (fun h17 => absurd (show gf 0 ≤ nI m by rw [hm]; exact nI_le (Nat.le_refl _) (by omega)) h17)
    refine A_iload_n (dX1_holdBy 25 rfl) rfl ?_
    refine A_ri (dX1_holdBy 26 rfl) rfl rfl ?_
    exact ⟨rfl, rfl⟩
  | succ n ih =>
    intro c hc
    have hlt : c < m := by omega
    refine A_iload_n (dX1_holdBy 8 rfl) rfl ?_
    refine A_aload_n (dX1_holdBy 9 rfl) rfl ?_
    refine A_get (dX1_holdBy 10 rfl) fwX1_30 wF_0 cF_f0_6 ?_
    refine A_icmp_ge 45 (dX1_holdBy 11 rfl) (by decide) (fun h17 => absurd h17 (show ¬ gf 0 ≤ nI c by rw [hm]; exact nI_ge hlt (by omega))) (fun h17 => ?_)
    refine A_aload_n (dX1_holdBy 12 rfl) rfl ?_
    refine A_get (dX1_holdBy 13 rfl) fwX1_21 wF_0 cF_f0_3 ?_
    refine A_iload_n (dX1_holdBy 14 rfl) rfl ?_
    refine A_aload_n (dX1_holdBy 15 rfl) rfl ?_
    refine AW.pcq (pc2 := 26) rfl ?_
    refine A_get (dX1_holdBy 16 rfl) fwX1_21 wF_0 cF_f0_3 ?_
    refine A_iload_n (dX1_holdBy 17 rfl) rfl ?_
    refine A_iald (dX1_holdBy 18 rfl) wF_4 (vp_in_nI (n := c) (by omega) (by decide)) ?_
    refine A_aload_n (dX1_holdBy 19 rfl) rfl ?_
    refine A_get (dX1_holdBy 20 rfl) fwX1_34 wF_0 cF_f0_7 ?_
    rw [nI_clamp (n := c) (by omega)]
    refine A_callSNWi 2 (dX1_holdBy 21 rfl) cbX5_held cwX1_52 (k_held E _ _ v) rfl rfl (Nat.le_of_ble_eq_true rfl) (Nat.le_of_ble_eq_true rfl) (Nat.le_of_ble_eq_true rfl) (Nat.le_of_ble_eq_true rfl) (Nat.le_of_ble_eq_true rfl) ?_
    rintro r35 w1 ⟨rfl, rfl⟩
    refine AW.pcq (pc2 := 38) rfl ?_
    refine A_iast (dX1_holdBy 22 rfl) wF_4 (vp_in_nI (n := c) (by omega) (by decide)) (wF_s4 _) ?_
    rw [nI_clamp (n := c) (by omega)]
    refine AW.world (ws2 := wF E qf (upd gf 1 v) (va_up af 3 (cp (c + 1) (fun k => hld (af 3 k) v) (af 3)))) (congrArg (wF E qf (upd gf 1 v)) ?_) ?_
    · funext i
      by_cases z3 : i = 3
      · subst z3
        refine cp_s2 c _ _ ?_
        show hld (cp c (fun k => hld (af 3 k) v) (af 3) c) v = _
        rw [cp_out]
      · simp [va_up, z3]
    refine A_iinc (ls2 := [_, _, _, _]) (nI (c + 1)) (dX1_holdBy 23 rfl) rfl (nI_1 c) (by decide) rfl rfl ?_
    refine A_goto 12 (dX1_holdBy 24 rfl) (by decide) ?_
    exact ih (c + 1) (by omega)

set_option maxRecDepth 100000 in
set_option maxHeartbeats 400000 in
theorem f_holdBy (E : ag) (qf : Nat → Nat) (gf : Nat → Int32) (af : Nat → Nat → Int32) (v : Int32) (m : Nat) (hm5 : m ≤ 5) (hm : gf 0 = nI m) : CT E yX1_holdBy cX1_holdBy 4 mX1_holdBy.2.2.2.1 2 0 0 [.ref (qf 0), .int v] (wF E qf gf af) (ri (fun r w => r = gf 1 ∧ w = wF E qf (upd gf 1 v) (va_up af 3 (cp m (fun k => hld (af 3 k) v) (af 3))))) := by
  refine CT.of (M := mX1_holdBy) (ls := [some (.ref (qf 0)), some (.int v), none, none]) (by decide) rfl (by decide) rfl (Nat.le_of_ble_eq_true rfl) ?_
  refine A_aload_n (dX1_holdBy 0 rfl) rfl ?_
  refine A_get (dX1_holdBy 1 rfl) fwX1_34 wF_0 cF_f0_7 ?_
  refine A_istore_n (ls2 := [_, _, _, _]) (dX1_holdBy 2 rfl) (by decide) rfl rfl ?_
  refine A_aload_n (dX1_holdBy 3 rfl) rfl ?_
  refine A_iload_n (dX1_holdBy 4 rfl) rfl ?_
  refine A_put (dX1_holdBy 5 rfl) fwX1_34 fcX1 ftX1_7 wF_0 rfl rfl cF_l0 (wF_p0_7 _) ?_
  refine A_iconst (0) (dX1_holdBy 6 rfl) (by decide +kernel) ?_
  refine A_istore_n (ls2 := [_, _, _, _]) (dX1_holdBy 7 rfl) (by decide) rfl rfl ?_
  have h9 := f_holdL E qf gf af v m hm5 hm (gf 1) m 0 (by omega)
  simp only [cp_0, up_same] at h9
  exact h9

set_option maxRecDepth 100000 in
set_option maxHeartbeats 400000 in
theorem f_takeOver (E : ag) (qd : Nat → Nat) (gd : Nat → Int32) (ad : Nat → Nat → Int32) (qf : Nat → Nat) (gf : Nat → Int32) (af : Nat → Nat → Int32) : CT E yX1_takeOver cX1_takeOver 2 mX1_takeOver.2.2.2.1 2 0 0 [.ref (qd 0), .ref (qf 0)] (wFF E qd gd ad qf gf af) (rv (fun w => w = wFF E qd (upd (upd (upd (upd (upd gd 0 (gf 0)) 1 (gf 1)) 2 (gf 2)) 3 (gf 3)) 4 (gf 4)) (va_up (va_up (va_up (va_up (va_up (va_up ad 0 (va_cpy (af 0) (ad 0) 0 0 12)) 1 (va_cpy (af 1) (ad 1) 0 0 12)) 2 (va_cpy (af 2) (ad 2) 0 0 5)) 3 (va_cpy (af 3) (ad 3) 0 0 5)) 4 (va_cpy (af 4) (ad 4) 0 0 5)) 5 (va_cpy (af 5) (ad 5) 0 0 5)) qf gf af)) := by
  refine CT.of (M := mX1_takeOver) (ls := [some (.ref (qd 0)), some (.ref (qf 0))]) (by decide) rfl (by decide) rfl (Nat.le_of_ble_eq_true rfl) ?_
  refine A_aload_n (dX1_takeOver 0 rfl) rfl ?_
  refine A_get (dX1_takeOver 1 rfl) fwX1_9 wFF_7 cF_f0_0 ?_
  refine A_iconst (0) (dX1_takeOver 2 rfl) (by decide +kernel) ?_
  refine A_aload_n (dX1_takeOver 3 rfl) rfl ?_
  refine A_get (dX1_takeOver 4 rfl) fwX1_9 wFF_0 cF_f0_0 ?_
  refine A_iconst (0) (dX1_takeOver 5 rfl) (by decide +kernel) ?_
  refine A_bipush (12) (dX1_takeOver 6 rfl) (by decide +kernel) ?_
  refine A_copy (dX1_takeOver 7 rfl) acX1_46 (Nat.le_of_ble_eq_true rfl) (Nat.le_of_ble_eq_true rfl) wFF_8 wFF_1 (by decide) (by decide) (by decide) (by decide) (by decide) (wFF_s1 _) ?_
  refine AW.pcq (pc2 := 15) rfl ?_
  refine A_aload_n (dX1_takeOver 8 rfl) rfl ?_
  refine A_get (dX1_takeOver 9 rfl) fwX1_15 wFF_7 cF_f0_1 ?_
  refine A_iconst (0) (dX1_takeOver 10 rfl) (by decide +kernel) ?_
  refine A_aload_n (dX1_takeOver 11 rfl) rfl ?_
  refine A_get (dX1_takeOver 12 rfl) fwX1_15 wFF_0 cF_f0_1 ?_
  refine A_iconst (0) (dX1_takeOver 13 rfl) (by decide +kernel) ?_
  refine A_bipush (12) (dX1_takeOver 14 rfl) (by decide +kernel) ?_
  refine A_copy (dX1_takeOver 15 rfl) acX1_46 (Nat.le_of_ble_eq_true rfl) (Nat.le_of_ble_eq_true rfl) wFF_9 wFF_2 (by decide) (by decide) (by decide) (by decide) (by decide) (wFF_s2 _) ?_
  refine AW.pcq (pc2 := 30) rfl ?_
  refine A_aload_n (dX1_takeOver 16 rfl) rfl ?_
  refine A_get (dX1_takeOver 17 rfl) fwX1_18 wFF_7 cF_f0_2 ?_
  refine A_iconst (0) (dX1_takeOver 18 rfl) (by decide +kernel) ?_
  refine A_aload_n (dX1_takeOver 19 rfl) rfl ?_
  refine A_get (dX1_takeOver 20 rfl) fwX1_18 wFF_0 cF_f0_2 ?_
  refine A_iconst (0) (dX1_takeOver 21 rfl) (by decide +kernel) ?_
  refine A_iconst (5) (dX1_takeOver 22 rfl) (by decide +kernel) ?_
  refine A_copy (dX1_takeOver 23 rfl) acX1_46 (Nat.le_of_ble_eq_true rfl) (Nat.le_of_ble_eq_true rfl) wFF_10 wFF_3 (by decide) (by decide) (by decide) (by decide) (by decide) (wFF_s3 _) ?_
  refine AW.pcq (pc2 := 44) rfl ?_
  refine A_aload_n (dX1_takeOver 24 rfl) rfl ?_
  refine A_get (dX1_takeOver 25 rfl) fwX1_21 wFF_7 cF_f0_3 ?_
  refine A_iconst (0) (dX1_takeOver 26 rfl) (by decide +kernel) ?_
  refine A_aload_n (dX1_takeOver 27 rfl) rfl ?_
  refine A_get (dX1_takeOver 28 rfl) fwX1_21 wFF_0 cF_f0_3 ?_
  refine A_iconst (0) (dX1_takeOver 29 rfl) (by decide +kernel) ?_
  refine A_iconst (5) (dX1_takeOver 30 rfl) (by decide +kernel) ?_
  refine A_copy (dX1_takeOver 31 rfl) acX1_46 (Nat.le_of_ble_eq_true rfl) (Nat.le_of_ble_eq_true rfl) wFF_11 wFF_4 (by decide) (by decide) (by decide) (by decide) (by decide) (wFF_s4 _) ?_
  refine AW.pcq (pc2 := 58) rfl ?_
  refine A_aload_n (dX1_takeOver 32 rfl) rfl ?_
  refine A_get (dX1_takeOver 33 rfl) fwX1_24 wFF_7 cF_f0_4 ?_
  refine A_iconst (0) (dX1_takeOver 34 rfl) (by decide +kernel) ?_
  refine A_aload_n (dX1_takeOver 35 rfl) rfl ?_
  refine A_get (dX1_takeOver 36 rfl) fwX1_24 wFF_0 cF_f0_4 ?_
  refine A_iconst (0) (dX1_takeOver 37 rfl) (by decide +kernel) ?_
  refine A_iconst (5) (dX1_takeOver 38 rfl) (by decide +kernel) ?_
  refine A_copy (dX1_takeOver 39 rfl) acX1_46 (Nat.le_of_ble_eq_true rfl) (Nat.le_of_ble_eq_true rfl) wFF_12 wFF_5 (by decide) (by decide) (by decide) (by decide) (by decide) (wFF_s5 _) ?_
  refine AW.pcq (pc2 := 72) rfl ?_
  refine A_aload_n (dX1_takeOver 40 rfl) rfl ?_
  refine A_get (dX1_takeOver 41 rfl) fwX1_27 wFF_7 cF_f0_5 ?_
  refine A_iconst (0) (dX1_takeOver 42 rfl) (by decide +kernel) ?_
  refine A_aload_n (dX1_takeOver 43 rfl) rfl ?_
  refine A_get (dX1_takeOver 44 rfl) fwX1_27 wFF_0 cF_f0_5 ?_
  refine A_iconst (0) (dX1_takeOver 45 rfl) (by decide +kernel) ?_
  refine A_iconst (5) (dX1_takeOver 46 rfl) (by decide +kernel) ?_
  refine A_copy (dX1_takeOver 47 rfl) acX1_46 (Nat.le_of_ble_eq_true rfl) (Nat.le_of_ble_eq_true rfl) wFF_13 wFF_6 (by decide) (by decide) (by decide) (by decide) (by decide) (wFF_s6 _) ?_
  refine AW.pcq (pc2 := 86) rfl ?_
  refine A_aload_n (dX1_takeOver 48 rfl) rfl ?_
  refine A_aload_n (dX1_takeOver 49 rfl) rfl ?_
  refine A_get (dX1_takeOver 50 rfl) fwX1_30 wFF_7 cF_f0_6 ?_
  refine A_put (dX1_takeOver 51 rfl) fwX1_30 fcX1 ftX1_6 wFF_0 rfl rfl cF_l0 (wFF_p0_6 _) ?_
  refine A_aload_n (dX1_takeOver 52 rfl) rfl ?_
  refine A_aload_n (dX1_takeOver 53 rfl) rfl ?_
  refine A_get (dX1_takeOver 54 rfl) fwX1_34 wFF_7 cF_f0_7 ?_
  refine A_put (dX1_takeOver 55 rfl) fwX1_34 fcX1 ftX1_7 wFF_0 rfl rfl cF_l0 (wFF_p0_7 _) ?_
  refine AW.pcq (pc2 := 102) rfl ?_
  refine A_aload_n (dX1_takeOver 56 rfl) rfl ?_
  refine A_aload_n (dX1_takeOver 57 rfl) rfl ?_
  refine A_get (dX1_takeOver 58 rfl) fwX1_37 wFF_7 cF_f0_8 ?_
  refine A_put (dX1_takeOver 59 rfl) fwX1_37 fcX1 ftX1_8 wFF_0 rfl rfl cF_l0 (wFF_p0_8 _) ?_
  refine A_aload_n (dX1_takeOver 60 rfl) rfl ?_
  refine A_aload_n (dX1_takeOver 61 rfl) rfl ?_
  refine A_get (dX1_takeOver 62 rfl) fwX1_40 wFF_7 cF_f0_9 ?_
  refine A_put (dX1_takeOver 63 rfl) fwX1_40 fcX1 ftX1_9 wFF_0 rfl rfl cF_l0 (wFF_p0_9 _) ?_
  refine AW.pcq (pc2 := 118) rfl ?_
  refine A_aload_n (dX1_takeOver 64 rfl) rfl ?_
  refine A_aload_n (dX1_takeOver 65 rfl) rfl ?_
  refine A_get (dX1_takeOver 66 rfl) fwX1_43 wFF_7 cF_f0_10 ?_
  refine A_put (dX1_takeOver 67 rfl) fwX1_43 fcX1 ftX1_10 wFF_0 rfl rfl cF_l0 (wFF_p0_10 _) ?_
  refine A_rv (dX1_takeOver 68 rfl) rfl ?_
  exact rfl

theorem dw_m {W : Nat} (h : W ≤ 9) : (if 0 < nI W - 1 then nI W - 1 else 0) = dw (nI W) := by
  have : ∀ W, W ≤ 9 → (if (0 : Int32) < nI W - 1 then nI W - 1 else 0) = dw (nI W) := by decide +kernel
  exact this W h
set_option maxRecDepth 100000 in
set_option maxHeartbeats 400000 in
theorem f_turn2 (E : ag) (qf : Nat → Nat) (gf : Nat → Int32) (af : Nat → Nat → Int32) (hw : ∀ c, c < 12 → ∃ W, W ≤ 9 ∧ af 1 c = nI W) : ∀ (n c : Nat), c + n = 12 → AW E mX1_turnStraw 2 0 0 42 [some (.ref (qf 0)), some (.int (nI c))] [] (wF E qf gf (va_up af 1 (cp c (fun k => dw (af 1 k)) (af 1)))) (rv (fun w => w = wF E qf gf (va_up af 1 (cp 12 (fun k => dw (af 1 k)) (af 1))))) := by
  intro n
  induction n with
  | zero =>
    intro c hc
    obtain rfl : c = 12 := by omega
    refine A_iload_n (dX1_turnStraw 25 rfl) rfl ?_
    refine A_bipush (12) (dX1_turnStraw 26 rfl) (by decide +kernel) ?_
    refine A_icmp_ge 72 (dX1_turnStraw 27 rfl) (by decide) (fun h45 => ?_) (fun h45 => absurd (show (12 : Int32) ≤ nI 12 by decide) h45)
    refine A_rv (dX1_turnStraw 42 rfl) rfl ?_
    exact rfl
  | succ n ih =>
    intro c hc
    have hlt : c < 12 := by omega
    refine A_iload_n (dX1_turnStraw 25 rfl) rfl ?_
    refine A_bipush (12) (dX1_turnStraw 26 rfl) (by decide +kernel) ?_
    refine A_icmp_ge 72 (dX1_turnStraw 27 rfl) (by decide) (fun h45 => absurd h45 (nI_ge (a := c) (b := 12) hlt (by decide))) (fun h45 => ?_)
    refine A_aload_n (dX1_turnStraw 28 rfl) rfl ?_
    refine A_get (dX1_turnStraw 29 rfl) fwX1_15 wF_0 cF_f0_1 ?_
    refine A_iload_n (dX1_turnStraw 30 rfl) rfl ?_
    refine A_iconst (0) (dX1_turnStraw 31 rfl) (by decide +kernel) ?_
    refine A_aload_n (dX1_turnStraw 32 rfl) rfl ?_
    refine AW.pcq (pc2 := 55) rfl ?_
    refine A_get (dX1_turnStraw 33 rfl) fwX1_15 wF_0 cF_f0_1 ?_
    refine A_iload_n (dX1_turnStraw 34 rfl) rfl ?_
    refine A_iald (dX1_turnStraw 35 rfl) wF_2 (vp_in_nI hlt (by decide)) ?_
    rw [nI_clamp (n := c) (by omega)]
    refine A_iconst (1) (dX1_turnStraw 36 rfl) (by decide +kernel) ?_
    refine A_isub (dX1_turnStraw 37 rfl) ?_
    refine A_max (dX1_turnStraw 38 rfl) mmX1_60 (Nat.le_of_ble_eq_true rfl) (Nat.le_of_ble_eq_true rfl) ?_
    refine A_iast (dX1_turnStraw 39 rfl) wF_2 (vp_in_nI hlt (by decide)) (wF_s2 _) ?_
    rw [nI_clamp (n := c) (by omega)]
    refine AW.world (ws2 := wF E qf gf (va_up af 1 (cp (c + 1) (fun k => dw (af 1 k)) (af 1)))) (congrArg (wF E qf gf) ?_) ?_
    · funext i
      by_cases z1 : i = 1
      · subst z1
        refine cp_s2 c _ _ ?_
        show (if (0 : Int32) < cp c (fun k => dw (af 1 k)) (af 1) c - 1 then cp c (fun k => dw (af 1 k)) (af 1) c - 1 else 0) = dw (af 1 c)
        rw [cp_out]
        obtain ⟨W, hW, e⟩ := hw c hlt
        rw [e]
        exact dw_m hW
      · simp [va_up, z1]
    refine A_iinc (ls2 := [_, _]) (nI (c + 1)) (dX1_turnStraw 40 rfl) rfl (nI_1 c) (by decide) rfl rfl ?_
    refine AW.pcq (pc2 := 69) rfl ?_
    refine A_goto 42 (dX1_turnStraw 41 rfl) (by decide) ?_
    exact ih (c + 1) (by omega)

set_option maxRecDepth 100000 in
set_option maxHeartbeats 400000 in
theorem f_turn1 (E : ag) (qf : Nat → Nat) (gf : Nat → Int32) (af : Nat → Nat → Int32) (hw : ∀ c, c < 12 → ∃ W, W ≤ 9 ∧ af 1 c = nI W) : ∀ (n c : Nat), c + n = 6 → AW E mX1_turnStraw 2 0 0 2 [some (.ref (qf 0)), some (.int (nI c))] [] (wF E qf gf (va_up af 0 (rvc c (af 0)))) (rv (fun w => w = wF E qf gf (va_up (va_up af 0 (rvc 6 (af 0))) 1 (cp 12 (fun k => dw (af 1 k)) (af 1))))) := by
  intro n
  induction n with
  | zero =>
    intro c hc
    obtain rfl : c = 6 := by omega
    refine A_iload_n (dX1_turnStraw 2 rfl) rfl ?_
    refine A_bipush (6) (dX1_turnStraw 3 rfl) (by decide +kernel) ?_
    refine A_icmp_ge 40 (dX1_turnStraw 4 rfl) (by decide) (fun h5 => ?_) (fun h5 => absurd (show (6 : Int32) ≤ nI 6 by decide) h5)
    refine A_iconst (0) (dX1_turnStraw 23 rfl) (by decide +kernel) ?_
    refine A_istore_n (ls2 := [_, _]) (dX1_turnStraw 24 rfl) (by decide) rfl rfl ?_
    have h9 := f_turn2 E qf gf (va_up af 0 (rvc 6 (af 0))) hw 12 0 rfl
    simp only [cp_0, up_same] at h9
    exact h9
  | succ n ih =>
    intro c hc
    have hlt : c < 6 := by omega
    refine A_iload_n (dX1_turnStraw 2 rfl) rfl ?_
    refine A_bipush (6) (dX1_turnStraw 3 rfl) (by decide +kernel) ?_
    refine A_icmp_ge 40 (dX1_turnStraw 4 rfl) (by decide) (fun h5 => absurd h5 (nI_ge (a := c) (b := 6) hlt (by decide))) (fun h5 => ?_)
    refine A_aload_n (dX1_turnStraw 5 rfl) rfl ?_
    refine A_get (dX1_turnStraw 6 rfl) fwX1_9 wF_0 cF_f0_0 ?_
    refine A_bipush (11) (dX1_turnStraw 7 rfl) (by decide +kernel) ?_
    refine A_iload_n (dX1_turnStraw 8 rfl) rfl ?_
    refine A_isub (dX1_turnStraw 9 rfl) ?_
    refine AW.pcq (pc2 := 16) rfl ?_
    refine A_aload_n (dX1_turnStraw 10 rfl) rfl ?_
    refine A_get (dX1_turnStraw 11 rfl) fwX1_9 wF_0 cF_f0_0 ?_
    refine A_iload_n (dX1_turnStraw 12 rfl) rfl ?_
    refine A_aload_n (dX1_turnStraw 13 rfl) rfl ?_
    refine A_get (dX1_turnStraw 14 rfl) fwX1_9 wF_0 cF_f0_0 ?_
    refine A_bipush (11) (dX1_turnStraw 15 rfl) (by decide +kernel) ?_
    refine A_iload_n (dX1_turnStraw 16 rfl) rfl ?_
    refine A_isub (dX1_turnStraw 17 rfl) ?_
    refine AW.pcq (pc2 := 29) rfl ?_
    refine A_iald (dX1_turnStraw 18 rfl) wF_1 (by rw [n11 (by omega)]; exact vp_in_nI (n := 11 - c) (by omega) (by decide)) ?_
    rw [n11 (by omega), nI_clamp (n := 11 - c) (by omega)]
    refine A_callSNi 3 (dX1_turnStraw 19 rfl) cbX5_exchange cwX1_69 (k_exchange E (qf 1) 12 (rvc c (af 0)) (nI c) (rvc c (af 0) (11 - c)) (vp_in_nI (by omega) (by decide))) rfl rfl [1] rfl rfl (Nat.le_of_ble_eq_true rfl) (Nat.le_of_ble_eq_true rfl) (Nat.le_of_ble_eq_true rfl) (Nat.le_of_ble_eq_true rfl) (Nat.le_of_ble_eq_true rfl) (by rintro _ _ ⟨_, rfl⟩; exact (Nat.le_of_ble_eq_true rfl)) ?_
    rintro r30 w1 ⟨rfl, rfl⟩
    rw [nI_clamp (n := c) (by omega)]
    refine AW.world (ws2 := wF E qf gf (va_up (va_up af 0 (rvc c (af 0))) 0 (upd (rvc c (af 0)) c (rvc c (af 0) (11 - c))))) rfl ?_
    rw [up24]
    refine AW.pcq (pc2 := 33) rfl ?_
    refine A_iast (dX1_turnStraw 20 rfl) wF_1 (vp_in_nI (n := 11 - c) (by omega) (by decide)) (wF_s1 _) ?_
    rw [nI_clamp (n := 11 - c) (by omega)]
    refine AW.world (ws2 := wF E qf gf (va_up af 0 (rvc (c + 1) (af 0)))) (congrArg (wF E qf gf) (by rw [up24, ← rvc_s hlt]; rfl)) ?_
    refine A_iinc (ls2 := [_, _]) (nI (c + 1)) (dX1_turnStraw 21 rfl) rfl (nI_1 c) (by decide) rfl rfl ?_
    refine A_goto 2 (dX1_turnStraw 22 rfl) (by decide) ?_
    exact ih (c + 1) (by omega)

set_option maxRecDepth 100000 in
set_option maxHeartbeats 400000 in
theorem f_turnStraw (E : ag) (qf : Nat → Nat) (gf : Nat → Int32) (af : Nat → Nat → Int32) (hw : ∀ c, c < 12 → ∃ W, W ≤ 9 ∧ af 1 c = nI W) : CT E yX1_turnStraw cX1_turnStraw 2 mX1_turnStraw.2.2.2.1 2 0 0 [.ref (qf 0)] (wF E qf gf af) (rv (fun w => w = wF E qf gf (va_up (va_up af 0 (rvc 6 (af 0))) 1 (cp 12 (fun k => dw (af 1 k)) (af 1))))) := by
  refine CT.of (M := mX1_turnStraw) (ls := [some (.ref (qf 0)), none]) (by decide) rfl (by decide) rfl (Nat.le_of_ble_eq_true rfl) ?_
  refine A_iconst (0) (dX1_turnStraw 0 rfl) (by decide +kernel) ?_
  refine A_istore_n (ls2 := [_, _]) (dX1_turnStraw 1 rfl) (by decide) rfl rfl ?_
  have h9 := f_turn1 E qf gf af hw 6 0 rfl
  rw [rvc_0, up_same] at h9
  exact h9

