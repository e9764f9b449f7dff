set_option maxRecDepth 100000 in
set_option maxHeartbeats 400000 in
theorem K_seekL (E : ag) (kq : Nat) (cg : Nat → Int32) (qf : Nat → Nat) (gf : Nat → Int32) (af : Nat → Nat → Int32) (qd : Nat → Nat) (gd : Nat → Int32) (ad : Nat → Nat → Int32) (qk : Nat → Nat) (gk : Nat → Int32) (ak : Nat → Nat → Int32) (ql : Nat → Nat) (gl : Nat → Int32) (al : Nat → Nat → Int32) (qr : Nat → Nat) (gr : Nat → Int32) (ar : Nat → Nat → Int32) (rx : Nat) (qm : Nat) (qx : Nat → Nat → Nat) (gx : Nat → Nat → Int32) (ax : Nat → Nat → Nat → Int32) (qs : Nat) (sx : Nat → Option Nat) (qo : Nat → Nat) (go : Nat → Int32) (ao : Nat → Nat → Int32) (qp : Nat → Nat) (gp_ : Nat → Int32) (ap : Nat → Nat → Int32) (L : va_W) (t m : Nat) (ht : t < 6) (C : Nat → List Int32) (hr4 : gf 4 = nI t) (hC : TKC (ax t) C) (hG : GOOD (cfs gf af gl) m) : ∀ (l : List Nat) (d c : Nat) (B : BT) (gd1 : Nat → Int32) (ad1 : Nat → Nat → Int32) (gl1 : Nat → Int32) (al1 : Nat → Nat → Int32) (f g : Nat → Int32), c + (l.length + 1) ≤ 120 → chk m (d :: l) = true → RWS f (dv m d) m → (c = 0 → B.1 = -1) → (0 < c → ∃ e, e < 100000 ∧ B.1 = nI e ∧ RWS g (dv m e) m) → AW E mX5_seekOrder 6 0 0 38 [some (.ref kq), some (.int (nI m)), some (.int (B.2.1)), some (.int (B.2.2)), some (.int (1)), some (.int (nI c))] [] (wK E kq cg qf gf af qd gd1 ad1 qk gk ak ql gl1 al1 qr gr ar rx qm qx gx ax qs sx qo go (va_up ao 0 f) qp gp_ (va_up ap 0 g) L) (ri (fun r w => ∃ (gd2 : Nat → Int32) (ad2 : Nat → Nat → Int32) (gl2 : Nat → Int32) (al2 : Nat → Nat → Int32) (f2 f3 : Nat → Int32), w = wK E kq cg qf gf af qd gd2 ad2 qk gk ak ql gl2 al2 qr gr ar rx qm qx gx ax qs sx qo go (va_up ao 0 f2) qp gp_ (va_up ap 0 f3) L ∧ r = (p_fold C m (p_beg (cfs gf af gl)) (d :: l) B).2.1 ∧ ∃ e, e < 100000 ∧ (p_fold C m (p_beg (cfs gf af gl)) (d :: l) B).1 = nI e ∧ RWS f3 (dv m e) m)) := by
  intro l
  induction l with
  | nil =>
    intro d c B gd1 ad1 gl1 al1 f g hcl hck hf hb0 hbc
    rw [pf_cons, pf_nil]
    refine K_seek1 E kq cg qf gf af qd gd ad qk gk ak ql gl al qr gr ar rx qm qx gx ax qs sx qo go ao qp gp_ ap L t m ht C hr4 hC hG d c [] B gd1 ad1 gl1 al1 f g _ hcl hck hf hb0 hbc ?_ (fun e2 l2 z => by cases z)
    intro _ gd2 ad2 gl2 al2 f2 f3 e he h1 h2
    exact ⟨gd2, ad2, gl2, al2, f2, f3, rfl, rfl, e, he, h1, h2⟩
  | cons e1 l1 ih =>
    intro d c B gd1 ad1 gl1 al1 f g hcl hck hf hb0 hbc
    rw [pf_cons]
    refine K_seek1 E kq cg qf gf af qd gd ad qk gk ak ql gl al qr gr ar rx qm qx gx ax qs sx qo go ao qp gp_ ap L t m ht C hr4 hC hG d c (e1 :: l1) B gd1 ad1 gl1 al1 f g _ hcl hck hf hb0 hbc (fun z => by cases z) ?_
    intro e2 l2 hl gd2 ad2 gl2 al2 f2 f3 e he h1 h2 h3
    obtain ⟨rfl, rfl⟩ := List.cons.inj hl
    exact ih e1 (c + 1) (p_bs C m (p_beg (cfs gf af gl)) B d) gd2 ad2 gl2 al2 f2 f3 (by simp only [List.length_cons] at hcl; omega) (chk_2 hck).2.2 h3 (by omega) (fun _ => ⟨e, he, h1, h2⟩)
set_option maxRecDepth 100000 in
set_option maxHeartbeats 400000 in
theorem K_seek (E : ag) (kq : Nat) (cg : Nat → Int32) (qf : Nat → Nat) (gf : Nat → Int32) (af : Nat → Nat → Int32) (qd : Nat → Nat) (gd : Nat → Int32) (ad : Nat → Nat → Int32) (qk : Nat → Nat) (gk : Nat → Int32) (ak : Nat → Nat → Int32) (ql : Nat → Nat) (gl : Nat → Int32) (al : Nat → Nat → Int32) (qr : Nat → Nat) (gr : Nat → Int32) (ar : Nat → Nat → Int32) (rx : Nat) (qm : Nat) (qx : Nat → Nat → Nat) (gx : Nat → Nat → Int32) (ax : Nat → Nat → Nat → Int32) (qs : Nat) (sx : Nat → Option Nat) (qo : Nat → Nat) (go : Nat → Int32) (ao : Nat → Nat → Int32) (qp : Nat → Nat) (gp_ : Nat → Int32) (ap : Nat → Nat → Int32) (L : va_W) (t m : Nat) (ht : t < 6) (C : Nat → List Int32) (hr4 : gf 4 = nI t) (hC : TKC (ax t) C) (hG : GOOD (cfs gf af gl) m) : CT E yX5_seekOrder cX5_seekOrder 6 mX5_seekOrder.2.2.2.1 6 0 0 [.ref kq] (wK E kq cg qf gf af qd gd ad qk gk ak ql gl al qr gr ar rx qm qx gx ax qs sx qo go ao qp gp_ ap L) (ri (fun r w => ∃ (gd2 : Nat → Int32) (ad2 : Nat → Nat → Int32) (gl2 : Nat → Int32) (al2 : Nat → Nat → Int32) (f2 f3 : Nat → Int32), w = wK E kq cg qf gf af qd gd2 ad2 qk gk ak ql gl2 al2 qr gr ar rx qm qx gx ax qs sx qo go (va_up ao 0 f2) qp gp_ (va_up ap 0 f3) L ∧ r = (p_fold C m (p_beg (cfs gf af gl)) (lvs m m 0 0) (-1, 0, 0)).2.1 ∧ ∃ e, e < 100000 ∧ (p_fold C m (p_beg (cfs gf af gl)) (lvs m m 0 0) (-1, 0, 0)).1 = nI e ∧ RWS f3 (dv m e) m)) := by
  refine CT.of (M := mX5_seekOrder) (ls := [some (.ref kq), none, none, none, none, none]) (by decide) rfl (by decide) rfl (Nat.le_of_ble_eq_true rfl) ?_
  refine A_aload_n (dX5_seekOrder 0 rfl) rfl ?_
  refine A_get (dX5_seekOrder 1 rfl) fwX5_10 wK_0 cK_f0_0 ?_
  refine A_get (dX5_seekOrder 2 rfl) fwX5_91 wK_1 cF_f0_6 ?_
  have hm5 := hG.1.1
  rw [show gf 0 = nI m from hG.1.2.1]
  refine A_istore_n (ls2 := [_, _, _, _, _, _]) (dX5_seekOrder 3 rfl) (by decide) rfl rfl ?_
  refine A_iconst (0) (dX5_seekOrder 4 rfl) (by decide +kernel) ?_
  refine A_istore_n (ls2 := [_, _, _, _, _, _]) (dX5_seekOrder 5 rfl) (by decide) rfl rfl ?_
  refine AW.world (ws2 := wK E kq cg qf gf af qd gd ad qk gk ak ql gl al qr gr ar rx qm qx gx ax qs sx qo go (va_up ao 0 (ao 0)) qp gp_ ap L) (by rw [up_same]) ?_
  refine K_fillL E kq cg qf gf af qd gd ad qk gk ak ql gl al qr gr ar rx qm qx gx ax qs sx qo go ao qp gp_ ap L m hm5 _ (fun f hf => ?_) m 0 (by omega) (ao 0) (fun k hk => by omega)
  obtain ⟨k1, k2, d, l, k3, k4⟩ := chk_all m hm5
  rw [k3] at k1 k2 ⊢
  refine A_iconst (0) (dX5_seekOrder 16 rfl) (by decide +kernel) ?_
  refine A_istore_n (ls2 := [_, _, _, _, _, _]) (dX5_seekOrder 17 rfl) (by decide) rfl rfl ?_
  refine A_iconst (0) (dX5_seekOrder 18 rfl) (by decide +kernel) ?_
  refine A_istore_n (ls2 := [_, _, _, _, _, _]) (dX5_seekOrder 19 rfl) (by decide) rfl rfl ?_
  refine A_iconst (1) (dX5_seekOrder 20 rfl) (by decide +kernel) ?_
  refine A_istore (ls2 := [_, _, _, _, _, _]) (dX5_seekOrder 21 rfl) (by decide) rfl rfl ?_
  refine A_iconst (0) (dX5_seekOrder 22 rfl) (by decide +kernel) ?_
  refine A_istore (ls2 := [_, _, _, _, _, _]) (dX5_seekOrder 23 rfl) (by decide) rfl rfl ?_
  refine AW.world (ws2 := wK E kq cg qf gf af qd gd ad qk gk ak ql gl al qr gr ar rx qm qx gx ax qs sx qo go (va_up ao 0 f) qp gp_ (va_up ap 0 (ap 0)) L) (by rw [up_same]) ?_
  refine K_seekL E kq cg qf gf af qd gd ad qk gk ak ql gl al qr gr ar rx qm qx gx ax qs sx qo go ao qp gp_ ap L t m ht C hr4 hC hG l d 0 (-1, 0, 0) gd ad gl al f (ap 0) (by simp only [List.length_cons] at k2; omega) k1 (hf.same ?_) (fun _ => rfl) (fun z => absurd z (by omega))
  intro k hk
  have := (List.all_eq_true.mp k4) k (List.mem_range.mpr hk)
  exact (of_decide_eq_true this).symm

theorem ord_x {m : Nat} {x : Int32} (hm : m ≤ 5) (h1 : ¬ x < -1) (h2 : ¬ nI m ≤ x) : x = -1 ∨ ∃ j, j < m ∧ x = nI j := by
  by_cases hz : x = -1
  · exact Or.inl hz
  · refine Or.inr (inI_m1 hm (fun z => ?_) hz)
    have e := inI_of (v := x) (l := -1) (h := nI m - 1) (Int32.not_lt.mp h1) ((le_m1 hm).mp (Int32.not_le.mp h2))
    rw [e] at z
    exact absurd z (by decide)
set_option maxRecDepth 100000 in
set_option maxHeartbeats 400000 in
theorem K_order (E : ag) (kq : Nat) (cg : Nat → Int32) (qf : Nat → Nat) (gf : Nat → Int32) (af : Nat → Nat → Int32) (qd : Nat → Nat) (gd : Nat → Int32) (ad : Nat → Nat → Int32) (qk : Nat → Nat) (gk : Nat → Int32) (ak : Nat → Nat → Int32) (ql : Nat → Nat) (gl : Nat → Int32) (al : Nat → Nat → Int32) (qr : Nat → Nat) (gr : Nat → Int32) (ar : Nat → Nat → Int32) (rx : Nat) (qm : Nat) (qx : Nat → Nat → Nat) (gx : Nat → Nat → Int32) (ax : Nat → Nat → Nat → Int32) (qs : Nat) (sx : Nat → Option Nat) (qo : Nat → Nat) (go : Nat → Int32) (ao : Nat → Nat → Int32) (qp : Nat → Nat) (gp_ : Nat → Int32) (ap : Nat → Nat → Int32) (L : va_W) (t m : Nat) (ht : t < 6) (C : Nat → List Int32) (hr4 : gf 4 = nI t) (hC : TKC (ax t) C) (hG : GOOD (cfs gf af gl) m) (place : Int32) : CT E yX5_order cX5_order 3 mX5_order.2.2.2.1 7 0 0 [.ref kq, .int place] (wK E kq cg qf gf af qd gd ad qk gk ak ql gl al qr gr ar rx qm qx gx ax qs sx qo go ao qp gp_ ap L) (ri (fun r w => ((inI place (-1) (gf 0 - 1) = 0 ∧ r = -2) ∨ (¬ inI place (-1) (gf 0 - 1) = 0 ∧ ∃ e, e < 100000 ∧ (∀ p, p < m → dgt e p < m) ∧ (p_fold C m (p_beg (cfs gf af gl)) (lvs m m 0 0) (-1, 0, 0)).1 = nI e ∧ r = (if place = -1 then (p_fold C m (p_beg (cfs gf af gl)) (lvs m m 0 0) (-1, 0, 0)).2.1 else nI (dgt e (m - 1 - place.toNatClampNeg))))) ∧ QK E kq cg qf gf af qd gd ad qk gk ak ql gl al qr gr ar rx qm qx gx ax qs sx qo go ao qp gp_ ap L w)) := by
  refine CT.of (M := mX5_order) (ls := [some (.ref kq), some (.int place), none]) (by decide) rfl (by decide) rfl (Nat.le_of_ble_eq_true rfl) ?_
  refine A_iload_n (dX5_order 0 rfl) rfl ?_
  refine A_iconst (-1) (dX5_order 1 rfl) (by decide +kernel) ?_
  refine A_icmp_lt 16 (dX5_order 2 rfl) (by decide) (fun h2 => ?_) (fun h2 => ?_)
  · have hb : inI place (-1) (gf 0 - 1) = 0 := inI_lo (fun z => absurd z (Int32.not_le.mpr h2))
    refine A_bipush (-2) (dX5_order 8 rfl) (by decide +kernel) ?_
    refine A_ri (dX5_order 9 rfl) rfl rfl ?_
    exact ⟨Or.inl ⟨hb, rfl⟩, ⟨gd, ad, gl, al, go, ao, gp_, ap, rfl⟩⟩
  · refine A_iload_n (dX5_order 3 rfl) rfl ?_
    refine A_aload_n (dX5_order 4 rfl) rfl ?_
    refine A_get (dX5_order 5 rfl) fwX5_10 wK_0 cK_f0_0 ?_
    refine A_get (dX5_order 6 rfl) fwX5_91 wK_1 cF_f0_6 ?_
    refine A_icmp_lt 19 (dX5_order 7 rfl) (by decide) (fun h13 => ?_) (fun h13 => ?_)
    · have hm5 := hG.1.1
      have hb : ¬ inI place (-1) (gf 0 - 1) = 0 := by
        rw [show gf 0 = nI m from hG.1.2.1] at h13 ⊢
        rw [inI_of (Int32.not_lt.mp h2) ((le_m1 hG.1.1).mp h13)]; decide
      have hpl := ord_x hm5 h2 (by rw [← show gf 0 = nI m from hG.1.2.1]; exact Int32.not_le.mpr h13)
      refine A_aload_n (dX5_order 10 rfl) rfl ?_
      refine A_callVWi 0 (dX5_order 11 rfl) cbX5_seekOrder cwX5_181 (K_seek E kq cg qf gf af qd gd ad qk gk ak ql gl al qr gr ar rx qm qx gx ax qs sx qo go ao qp gp_ ap L t m ht C hr4 hC hG) rfl rfl wK_0 rfl rfl (Nat.le_of_ble_eq_true rfl) (Nat.le_of_ble_eq_true rfl) (Nat.le_of_ble_eq_true rfl) (Nat.le_of_ble_eq_true rfl) (Nat.le_of_ble_eq_true rfl) ?_
      rintro r1 w1 ⟨gd2, ad2, gl2, al2, f2, f3, rfl, hr, e, he, hq, hrw⟩
      refine AW.pcq (pc2 := 23) rfl ?_
      refine A_istore_n (ls2 := [_, _, _]) (dX5_order 12 rfl) (by decide) rfl rfl ?_
      refine A_iload_n (dX5_order 13 rfl) rfl ?_
      refine A_if_ge 32 (dX5_order 14 rfl) (by decide) (fun h25 => ?_) (fun h25 => ?_)
      · obtain ⟨j, hj, rfl⟩ : ∃ j, j < m ∧ place = nI j := hpl.resolve_left (fun z => absurd h25 (by rw [z]; decide))
        refine A_aload_n (dX5_order 17 rfl) rfl ?_
        refine A_get (dX5_order 18 rfl) fwX5_60 wK_0 cK_f0_10 ?_
        refine A_iload_n (dX5_order 19 rfl) rfl ?_
        refine A_iald (dX5_order 20 rfl) wK_48 (vp_in_nI (n := j) (by omega) (by decide)) ?_
        refine A_ri (dX5_order 21 rfl) rfl rfl ?_
        first
          | exact ⟨Or.inr ⟨hb, e, he, hrw.dg, hq, hr.trans (if_pos hp1).symm⟩, ⟨gd2, ad2, gl2, al2, go, (va_up ao 0 f2), gp_, (va_up ap 0 f3), rfl⟩⟩
          | (refine ⟨Or.inr ⟨hb, e, he, hrw.dg, hq, ?_⟩, ⟨gd2, ad2, gl2, al2, go, (va_up ao 0 f2), gp_, (va_up ap 0 f3), rfl⟩⟩
             rw [if_neg (nIm1n (by omega)), nI_clamp (n := j) (by omega)]
             exact (hrw j hj).2)
      · have hp1 : place = -1 := hpl.resolve_right (fun ⟨j, hj, hz⟩ => h25 (by rw [hz]; exact Int32.not_lt.mp (nI_pos (by omega))))
        refine A_iload_n (dX5_order 15 rfl) rfl ?_
        refine A_goto 38 (dX5_order 16 rfl) (by decide) ?_
        refine A_ri (dX5_order 21 rfl) rfl rfl ?_
        first
          | exact ⟨Or.inr ⟨hb, e, he, hrw.dg, hq, hr.trans (if_pos hp1).symm⟩, ⟨gd2, ad2, gl2, al2, go, (va_up ao 0 f2), gp_, (va_up ap 0 f3), rfl⟩⟩
          | (refine ⟨Or.inr ⟨hb, e, he, hrw.dg, hq, ?_⟩, ⟨gd2, ad2, gl2, al2, go, (va_up ao 0 f2), gp_, (va_up ap 0 f3), rfl⟩⟩
             rw [if_neg (nIm1n (by omega)), nI_clamp (n := j) (by omega)]
             exact (hrw j hj).2)
    · have hb : inI place (-1) (gf 0 - 1) = 0 := by
        rw [show gf 0 = nI m from hG.1.2.1] at h13 ⊢
        exact inI_hi (fun z => absurd ((le_m1 hG.1.1).mpr z) h13)
      refine A_bipush (-2) (dX5_order 8 rfl) (by decide +kernel) ?_
      refine A_ri (dX5_order 9 rfl) rfl rfl ?_
      exact ⟨Or.inl ⟨hb, rfl⟩, ⟨gd, ad, gl, al, go, ao, gp_, ap, rfl⟩⟩

