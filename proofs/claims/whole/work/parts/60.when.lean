theorem beg_gl {gf gl gl2 : Nat → Int32} {af : Nat → Nat → Int32} : p_beg (cfs gf af gl2) = p_beg (cfs gf af gl) := by
  unfold p_beg
  refine Prod.ext (funext fun k => ?_) rfl
  simp only [upd]
  by_cases h5 : k = 5
  · rw [if_pos h5, if_pos h5]
  · rw [if_neg h5, if_neg h5]
    by_cases h4 : k = 4
    · rw [if_pos h4, if_pos h4]
    · rw [if_neg h4, if_neg h4]
      by_cases h3 : k = 3
      · rw [if_pos h3, if_pos h3]
      · rw [if_neg h3, if_neg h3]
        show (if k < 4 then gf k else if k < 6 then gl2 (k - 2) else 0) = (if k < 4 then gf k else if k < 6 then gl (k - 2) else 0)
        by_cases hk : k < 4
        · rw [if_pos hk, if_pos hk]
        · rw [if_neg hk, if_neg hk, if_neg (by omega), if_neg (by omega)]
theorem GOOD.gl {gf gl gl2 : Nat → Int32} {af : Nat → Nat → Int32} {m : Nat} (h : GOOD (cfs gf af gl) m) : GOOD (cfs gf af gl2) m := h
set_option maxRecDepth 100000 in
set_option maxHeartbeats 400000 in
theorem K_whenL (E : ag) (kq : Nat) (cg : Nat → Int32) (qf : Nat → Nat) (gf : Nat → Int32) (af : Nat → Nat → Int32) (qd : Nat → Nat) (gd : Nat → Int32) (ad : Nat → Nat → Int32) (qk : Nat → Nat) (gk : Nat → Int32) (ak : Nat → Nat → Int32) (ql : Nat → Nat) (gl : Nat → Int32) (al : Nat → Nat → Int32) (qr : Nat → Nat) (gr : Nat → Int32) (ar : Nat → Nat → Int32) (rx : Nat) (qm : Nat) (qx : Nat → Nat → Nat) (gx : Nat → Nat → Int32) (ax : Nat → Nat → Nat → Int32) (qs : Nat) (sx : Nat → Option Nat) (qo : Nat → Nat) (go : Nat → Int32) (ao : Nat → Nat → Int32) (qp : Nat → Nat) (gp_ : Nat → Int32) (ap : Nat → Nat → Int32) (L : va_W) (t m : Nat) (ht : t < 6) (C : Nat → List Int32) (hr4 : gf 4 = nI t) (hC : TKC (ax t) C) (hG : GOOD (cfs gf af gl) m) (hW : WET (cfs gf af gl)) : ∀ (n c : Nat), c + n = 12 → ∀ (gd1 : Nat → Int32) (ad1 : Nat → Nat → Int32) (gl1 : Nat → Int32) (al1 : Nat → Nat → Int32) (go1 : Nat → Int32) (ao1 : Nat → Nat → Int32) (gp1 : Nat → Int32) (ap1 : Nat → Nat → Int32) (x y : Int32) (x4 : Option Value), noL [x4] = true → AW E mX5_when 7 0 0 10 [some (.ref kq), some (.int y), some (.int x), some (.int (nI c)), x4] [] (wK E kq cg qf gf af qd gd1 ad1 qk gk ak ql gl1 al1 qr gr ar rx qm qx gx ax qs sx qo go1 ao1 qp gp1 ap1 L) (ri (fun r w => r = (bst (fun k => (p_ahd C (p_beg (cfs gf af gl)) k 12).1 3) n c x y).1 ∧ QK E kq cg qf gf af qd gd ad qk gk ak ql gl al qr gr ar rx qm qx gx ax qs sx qo go ao qp gp_ ap L w)) := by
  intro n
  induction n with
  | zero =>
    intro c hc
    intro gd1 ad1 gl1 al1 go1 ao1 gp1 ap1 x y x4 hx
    obtain rfl : c = 12 := by omega
    refine A_iload_n (dX5_when 8 rfl) rfl ?_
    refine A_bipush (12) (dX5_when 9 rfl) (by decide +kernel) ?_
    refine A_icmp_ge 40 (dX5_when 10 rfl) (by decide) (fun h13 => ?_) (fun h13 => absurd (show (12 : Int32) ≤ nI 12 by decide) h13)
    refine A_iload_n (dX5_when 24 rfl) rfl ?_
    refine A_ri (dX5_when 25 rfl) rfl rfl ?_
    exact ⟨rfl, ⟨gd1, ad1, gl1, al1, go1, ao1, gp1, ap1, rfl⟩⟩
  | succ n ih =>
    intro c hc
    have hlt : c < 12 := by omega
    intro gd1 ad1 gl1 al1 go1 ao1 gp1 ap1 x y x4 hx
    refine A_iload_n (dX5_when 8 rfl) rfl ?_
    refine A_bipush (12) (dX5_when 9 rfl) (by decide +kernel) ?_
    refine A_icmp_ge 40 (dX5_when 10 rfl) (by decide) (fun h13 => absurd h13 (nI_ge (a := c) (b := 12) hlt (by decide))) (fun h13 => ?_)
    refine A_aload_n (dX5_when 11 rfl) rfl ?_
    refine A_iload_n (dX5_when 12 rfl) rfl ?_
    refine A_callVWi 1 (dX5_when 13 rfl) cbX5_outTurnedAhead cwX5_193 (K_ahead E kq cg qf gf af qd gd1 ad1 qk gk ak ql gl1 al1 qr gr ar rx qm qx gx ax qs sx qo go1 ao1 qp gp1 ap1 L t m ht C hr4 hC (GOOD.gl hG) hW c (by omega)) rfl rfl wK_0 rfl rfl (Nat.le_of_ble_eq_true rfl) (Nat.le_of_ble_eq_true rfl) (Nat.le_of_ble_eq_true rfl) (Nat.le_of_ble_eq_true rfl) (Nat.le_of_ble_eq_true rfl) ?_
    rintro r1 w1 ⟨hr1, gd2, ad2, gl2, al2, go2, ao2, gp2, ap2, rfl⟩
    rw [beg_gl (gl2 := gl1) (gl := gl)] at hr1
    subst hr1
    refine AW.pcq (pc2 := 21) rfl ?_
    refine A_istore (ls2 := [_, _, _, _, _]) (dX5_when 14 rfl) (by decide) (by have := hx; simp_all [noL, Value.category]) rfl ?_
    refine A_iload (dX5_when 15 rfl) rfl ?_
    refine A_iload_n (dX5_when 16 rfl) rfl ?_
    refine A_icmp_le 34 (dX5_when 17 rfl) (by decide) (fun h26 => ?_) (fun h26 => ?_)
    · rw [show (bst (fun k => (p_ahd C (p_beg (cfs gf af gl)) k 12).1 3) (n + 1) c x y) = (bst (fun k => (p_ahd C (p_beg (cfs gf af gl)) k 12).1 3) n (c + 1) x y) from if_neg (Int32.not_lt.mpr h26)]
      refine A_iinc (ls2 := [_, _, _, _, _]) (nI (c + 1)) (dX5_when 22 rfl) rfl (nI_1 c) (by decide) (by have := hx; simp_all [noL, Value.category]) rfl ?_
      refine A_goto 10 (dX5_when 23 rfl) (by decide) ?_
      exact ih (c + 1) (by omega) gd2 ad2 gl2 al2 go2 ao2 gp2 ap2 _ _ _ (by rfl)
    · rw [show (bst (fun k => (p_ahd C (p_beg (cfs gf af gl)) k 12).1 3) (n + 1) c x y) = (bst (fun k => (p_ahd C (p_beg (cfs gf af gl)) k 12).1 3) n (c + 1) (nI c) ((p_ahd C (p_beg (cfs gf af gl)) c 12).1 3)) from if_pos (Int32.not_le.mp h26)]
      refine A_iload (dX5_when 18 rfl) rfl ?_
      refine A_istore_n (ls2 := [_, _, _, _, _]) (dX5_when 19 rfl) (by decide) (by have := hx; simp_all [noL, Value.category]) rfl ?_
      refine A_iload_n (dX5_when 20 rfl) rfl ?_
      refine A_istore_n (ls2 := [_, _, _, _, _]) (dX5_when 21 rfl) (by decide) (by have := hx; simp_all [noL, Value.category]) rfl ?_
      refine A_iinc (ls2 := [_, _, _, _, _]) (nI (c + 1)) (dX5_when 22 rfl) rfl (nI_1 c) (by decide) (by have := hx; simp_all [noL, Value.category]) rfl ?_
      refine A_goto 10 (dX5_when 23 rfl) (by decide) ?_
      exact ih (c + 1) (by omega) gd2 ad2 gl2 al2 go2 ao2 gp2 ap2 _ _ _ (by rfl)

set_option maxRecDepth 100000 in
set_option maxHeartbeats 400000 in
theorem K_when (E : ag) (kq : Nat) (cg : Nat → Int32) (qf : Nat → Nat) (gf : Nat → Int32) (af : Nat → Nat → Int32) (qd : Nat → Nat) (gd : Nat → Int32) (ad : Nat → Nat → Int32) (qk : Nat → Nat) (gk : Nat → Int32) (ak : Nat → Nat → Int32) (ql : Nat → Nat) (gl : Nat → Int32) (al : Nat → Nat → Int32) (qr : Nat → Nat) (gr : Nat → Int32) (ar : Nat → Nat → Int32) (rx : Nat) (qm : Nat) (qx : Nat → Nat → Nat) (gx : Nat → Nat → Int32) (ax : Nat → Nat → Nat → Int32) (qs : Nat) (sx : Nat → Option Nat) (qo : Nat → Nat) (go : Nat → Int32) (ao : Nat → Nat → Int32) (qp : Nat → Nat) (gp_ : Nat → Int32) (ap : Nat → Nat → Int32) (L : va_W) (t m : Nat) (ht : t < 6) (C : Nat → List Int32) (hr4 : gf 4 = nI t) (hC : TKC (ax t) C) (hG : GOOD (cfs gf af gl) m) (hW : WET (cfs gf af gl)) (nw : Nat) (hnw : nw = 12) : CT E yX5_when cX5_when 5 mX5_when.2.2.2.1 7 0 0 [.ref kq] (wK E kq cg qf gf af qd gd ad qk gk ak ql gl al qr gr ar rx qm qx gx ax qs sx qo go ao qp gp_ ap L) (ri (fun r w => r = (bst (fun k => (p_ahd C (p_beg (cfs gf af gl)) k 12).1 3) nw 0 (-1) ((p_rounds C 12 (p_beg (cfs gf af gl))).1 3)).1 ∧ QK E kq cg qf gf af qd gd ad qk gk ak ql gl al qr gr ar rx qm qx gx ax qs sx qo go ao qp gp_ ap L w)) := by
  refine CT.of (M := mX5_when) (ls := [some (.ref kq), none, none, none, none]) (by decide) rfl (by decide) rfl (Nat.le_of_ble_eq_true rfl) ?_
  refine A_aload_n (dX5_when 0 rfl) rfl ?_
  refine A_iconst (-1) (dX5_when 1 rfl) (by decide +kernel) ?_
  refine A_callVWi 1 (dX5_when 2 rfl) cbX5_outTurnedAhead cwX5_193 (K_aheadM E kq cg qf gf af qd gd ad qk gk ak ql gl al qr gr ar rx qm qx gx ax qs sx qo go ao qp gp_ ap L t m ht C hr4 hC hG) rfl rfl wK_0 rfl rfl (Nat.le_of_ble_eq_true rfl) (Nat.le_of_ble_eq_true rfl) (Nat.le_of_ble_eq_true rfl) (Nat.le_of_ble_eq_true rfl) (Nat.le_of_ble_eq_true rfl) ?_
  rintro r1 w1 ⟨hr1, gd2, ad2, gl2, al2, go2, ao2, gp2, ap2, rfl⟩
  refine AW.pcq (pc2 := 5) rfl ?_
  refine A_istore_n (ls2 := [_, _, _, _, _]) (dX5_when 3 rfl) (by decide) rfl rfl ?_
  refine A_iconst (-1) (dX5_when 4 rfl) (by decide +kernel) ?_
  refine A_istore_n (ls2 := [_, _, _, _, _]) (dX5_when 5 rfl) (by decide) rfl rfl ?_
  refine A_iconst (0) (dX5_when 6 rfl) (by decide +kernel) ?_
  refine A_istore_n (ls2 := [_, _, _, _, _]) (dX5_when 7 rfl) (by decide) rfl rfl ?_
  rw [← hr1]
  exact K_whenL E kq cg qf gf af qd gd ad qk gk ak ql gl al qr gr ar rx qm qx gx ax qs sx qo go ao qp gp_ ap L t m ht C hr4 hC hG hW nw 0 (by omega) gd2 ad2 gl2 al2 go2 ao2 gp2 ap2 _ _ none rfl

