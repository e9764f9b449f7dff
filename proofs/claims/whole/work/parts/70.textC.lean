set_option maxRecDepth 100000 in
set_option maxHeartbeats 400000 in
theorem K_text0 (E : ag) (kq : Nat) (cg : Nat → Int32) (qf : Nat → Nat) (gf : Nat → Int32) (af : Nat → Nat → Int32) (qd : Nat → Nat) (gd : Nat → Int32) (ad : Nat → Nat → Int32) (qk : Nat → Nat) (gk : Nat → Int32) (ak : Nat → Nat → Int32) (ql : Nat → Nat) (gl : Nat → Int32) (al : Nat → Nat → Int32) (qr : Nat → Nat) (gr : Nat → Int32) (ar : Nat → Nat → Int32) (rx : Nat) (qm : Nat) (qx : Nat → Nat → Nat) (gx : Nat → Nat → Int32) (ax : Nat → Nat → Nat → Int32) (qs : Nat) (sx : Nat → Option Nat) (qo : Nat → Nat) (go : Nat → Int32) (ao : Nat → Nat → Int32) (qp : Nat → Nat) (gp_ : Nat → Int32) (ap : Nat → Nat → Int32) (L : va_W) (n : Nat) (B : Nat → Int32) (f : Nat) (res : Bool × Nat × List Int32 × List Int32 × List Int32) (hpp : txt B f = some res) (hL : LXC gr ar n B) (hcg : cg 1 = nI 0) (he0 : ax 0 1 0 = 0) : CT E yX5_text cX5_text 2 mX5_text.2.2.2.1 46 0 0 [.ref kq] (wK E kq cg qf gf af qd gd ad qk gk ak ql gl al qr gr ar rx qm qx gx ax qs sx qo go ao qp gp_ ap L) (ri (fun r w => ∃ (gr2 gx2 : Nat → Int32) (ax2 : Nat → Nat → Int32) (cg2 : Nat → Int32), w = wK E kq cg2 qf gf af qd gd ad qk gk ak ql gl al qr gr2 ar (qx 0 0) qm qx (va_up gx 0 gx2) (va_up ax 0 ax2) qs sx qo go ao qp gp_ ap L ∧ gr2 0 = 0 ∧ ax2 1 0 = 0 ∧ cg2 0 = cg 0 ∧ ((res.1 = true ∧ r = nI 0 ∧ cg2 1 = nI (0 + 1) ∧ ∀ C : Nat → List Int32, C 0 = res.2.2.1 → C 1 = res.2.2.2.1 → C 2 = res.2.2.2.2 → TKC ax2 C) ∨ (res.1 = false ∧ r = -100 - nI (lst B res.2.1) ∧ cg2 1 = nI 0)))) := by
  refine CT.of (M := mX5_text) (ls := [some (.ref kq), none]) (by decide) rfl (by decide) rfl (Nat.le_of_ble_eq_true rfl) ?_
  refine A_aload_n (dX5_text 0 rfl) rfl ?_
  refine A_get (dX5_text 1 rfl) fwX5_46 wK_0 cK_f0_7 ?_
  refine A_bipush (6) (dX5_text 2 rfl) (by decide +kernel) ?_
  refine A_icmp_lt 12 (dX5_text 3 rfl) (by decide) (fun h6 => ?_) (fun h6 => absurd (show cg 1 < 6 by rw [hcg]; decide) h6)
  refine A_aload_n (dX5_text 6 rfl) rfl ?_
  refine A_get (dX5_text 7 rfl) fwX5_36 wK_0 cK_f0_5 ?_
  refine A_aload_n (dX5_text 8 rfl) rfl ?_
  refine A_get (dX5_text 9 rfl) fwX5_42 wK_0 cK_f0_6 ?_
  refine A_aload_n (dX5_text 10 rfl) rfl ?_
  refine A_get (dX5_text 11 rfl) fwX5_46 wK_0 cK_f0_7 ?_
  rw [hcg]
  refine A_aald 3 (dX5_text 12 rfl) wK_27 rfl (vp_in_nI (n := 0) (by decide) (by decide)) ?_
  rw [nI_clamp (n := 0) (by decide)]
  refine AW.stack (st2 := [.ref (qx 0 0), .ref (qr 0)]) rfl ?_
  refine A_callVi 1 (dX5_text 13 rfl) cbX2_readInto cwX5_80 (r_readInto E qr ar (qx 0) n B rx gr (gx 0) (ax 0) f res hpp hL he0) rfl rfl wR_0 rfl rfl [25, 26, 28, 29, 30] rfl rfl (Nat.le_of_ble_eq_true rfl) (Nat.le_of_ble_eq_true rfl) (Nat.le_of_ble_eq_true rfl) (Nat.le_of_ble_eq_true rfl) (Nat.le_of_ble_eq_true rfl) (by rintro _ _ ⟨_, _, _, rfl, _⟩; exact (Nat.le_of_ble_eq_true rfl)) ?_
  rintro r25 w1 ⟨gr2, gx2, ax2, rfl, h0, he2, hres⟩
  refine AW.world (ws2 := wK E kq cg qf gf af qd gd ad qk gk ak ql gl al qr gr2 ar (qx 0 0) qm qx (va_up gx 0 gx2) (va_up ax 0 ax2) qs sx qo go ao qp gp_ ap L) mK_rt0 ?_
  refine AW.pcq (pc2 := 28) rfl ?_
  refine A_istore_n (ls2 := [_, _]) (dX5_text 14 rfl) (by decide) rfl rfl ?_
  refine A_aload_n (dX5_text 15 rfl) rfl ?_
  refine A_get (dX5_text 16 rfl) fwX5_36 wK_0 cK_f0_5 ?_
  refine A_callVv 0 (dX5_text 17 rfl) cbX2_empty cwX5_84 (r_empty E qr gr2 ar (qx 0 0)) rfl rfl wR1_0 rfl rfl [25, 26] rfl rfl (Nat.le_of_ble_eq_true rfl) (Nat.le_of_ble_eq_true rfl) (Nat.le_of_ble_eq_true rfl) (Nat.le_of_ble_eq_true rfl) (Nat.le_of_ble_eq_true rfl) (by rintro _ rfl; exact (Nat.le_of_ble_eq_true rfl)) ?_
  rintro w1 rfl
  refine AW.world (ws2 := wK E kq cg qf gf af qd gd ad qk gk ak ql gl al qr (upd gr2 0 0) ar (qx 0 0) qm qx (va_up gx 0 gx2) (va_up ax 0 ax2) qs sx qo go ao qp gp_ ap L) mK_r ?_
  refine AW.pcq (pc2 := 36) rfl ?_
  refine A_iload_n (dX5_text 18 rfl) rfl ?_
  refine A_if_ne 51 (dX5_text 19 rfl) (by decide) (fun h37 => ?_) (fun h37 => ?_)
  · have hres2 := hres.resolve_right (fun z => h37 z.2.1)
    refine A_aload_n (dX5_text 26 rfl) rfl ?_
    refine A_dup (dX5_text 27 rfl) rfl ?_
    refine A_get (dX5_text 28 rfl) fwX5_46 wK_0 cK_f0_7 ?_
    refine A_iconst (1) (dX5_text 29 rfl) (by decide +kernel) ?_
    refine A_iadd (dX5_text 30 rfl) ?_
    refine A_put (dX5_text 31 rfl) fwX5_46 fcX5 ftX5_7 wK_0 rfl rfl cK_l0 (wK_p0_7 _) ?_
    refine A_aload_n (dX5_text 32 rfl) rfl ?_
    refine A_get (dX5_text 33 rfl) fwX5_46 wK_0 cK_f0_7 ?_
    refine AW.pcq (pc2 := 65) rfl ?_
    refine A_iconst (1) (dX5_text 34 rfl) (by decide +kernel) ?_
    refine A_isub (dX5_text 35 rfl) ?_
    refine A_ri (dX5_text 36 rfl) rfl rfl ?_
    refine ⟨upd gr2 0 0, gx2, ax2, upd cg 1 (cg 1 + 1), rfl, rfl, he2, rfl, Or.inl ⟨hres2.1, ?_, ?_, hres2.2.2⟩⟩
    · show cg 1 + 1 - 1 = _
      rw [add1_sub1, hcg]
    · show cg 1 + 1 = _
      rw [hcg, nI_1]
  · have hres2 := hres.resolve_left (fun z => absurd (z.2.1.symm.trans h37) (by decide))
    refine A_bipush (-100) (dX5_text 20 rfl) (by decide +kernel) ?_
    refine A_aload_n (dX5_text 21 rfl) rfl ?_
    refine A_get (dX5_text 22 rfl) fwX5_36 wK_0 cK_f0_5 ?_
    refine A_get (dX5_text 23 rfl) fwX5_149 wK_25 cR_f0_2 ?_
    refine A_isub (dX5_text 24 rfl) ?_
    refine A_ri (dX5_text 25 rfl) rfl rfl ?_
    exact ⟨upd gr2 0 0, gx2, ax2, cg, rfl, rfl, he2, rfl, Or.inr ⟨hres2.1, congrArg (fun x => -100 - x) hres2.2.2, hcg⟩⟩

set_option maxRecDepth 100000 in
set_option maxHeartbeats 400000 in
theorem K_text1 (E : ag) (kq : Nat) (cg : Nat → Int32) (qf : Nat → Nat) (gf : Nat → Int32) (af : Nat → Nat → Int32) (qd : Nat → Nat) (gd : Nat → Int32) (ad : Nat → Nat → Int32) (qk : Nat → Nat) (gk : Nat → Int32) (ak : Nat → Nat → Int32) (ql : Nat → Nat) (gl : Nat → Int32) (al : Nat → Nat → Int32) (qr : Nat → Nat) (gr : Nat → Int32) (ar : Nat → Nat → Int32) (rx : Nat) (qm : Nat) (qx : Nat → Nat → Nat) (gx : Nat → Nat → Int32) (ax : Nat → Nat → Nat → Int32) (qs : Nat) (sx : Nat → Option Nat) (qo : Nat → Nat) (go : Nat → Int32) (ao : Nat → Nat → Int32) (qp : Nat → Nat) (gp_ : Nat → Int32) (ap : Nat → Nat → Int32) (L : va_W) (n : Nat) (B : Nat → Int32) (f : Nat) (res : Bool × Nat × List Int32 × List Int32 × List Int32) (hpp : txt B f = some res) (hL : LXC gr ar n B) (hcg : cg 1 = nI 1) (he0 : ax 1 1 0 = 0) : CT E yX5_text cX5_text 2 mX5_text.2.2.2.1 46 0 0 [.ref kq] (wK E kq cg qf gf af qd gd ad qk gk ak ql gl al qr gr ar rx qm qx gx ax qs sx qo go ao qp gp_ ap L) (ri (fun r w => ∃ (gr2 gx2 : Nat → Int32) (ax2 : Nat → Nat → Int32) (cg2 : Nat → Int32), w = wK E kq cg2 qf gf af qd gd ad qk gk ak ql gl al qr gr2 ar (qx 1 0) qm qx (va_up gx 1 gx2) (va_up ax 1 ax2) qs sx qo go ao qp gp_ ap L ∧ gr2 0 = 0 ∧ ax2 1 0 = 0 ∧ cg2 0 = cg 0 ∧ ((res.1 = true ∧ r = nI 1 ∧ cg2 1 = nI (1 + 1) ∧ ∀ C : Nat → List Int32, C 0 = res.2.2.1 → C 1 = res.2.2.2.1 → C 2 = res.2.2.2.2 → TKC ax2 C) ∨ (res.1 = false ∧ r = -100 - nI (lst B res.2.1) ∧ cg2 1 = nI 1)))) := by
  refine CT.of (M := mX5_text) (ls := [some (.ref kq), none]) (by decide) rfl (by decide) rfl (Nat.le_of_ble_eq_true rfl) ?_
  refine A_aload_n (dX5_text 0 rfl) rfl ?_
  refine A_get (dX5_text 1 rfl) fwX5_46 wK_0 cK_f0_7 ?_
  refine A_bipush (6) (dX5_text 2 rfl) (by decide +kernel) ?_
  refine A_icmp_lt 12 (dX5_text 3 rfl) (by decide) (fun h6 => ?_) (fun h6 => absurd (show cg 1 < 6 by rw [hcg]; decide) h6)
  refine A_aload_n (dX5_text 6 rfl) rfl ?_
  refine A_get (dX5_text 7 rfl) fwX5_36 wK_0 cK_f0_5 ?_
  refine A_aload_n (dX5_text 8 rfl) rfl ?_
  refine A_get (dX5_text 9 rfl) fwX5_42 wK_0 cK_f0_6 ?_
  refine A_aload_n (dX5_text 10 rfl) rfl ?_
  refine A_get (dX5_text 11 rfl) fwX5_46 wK_0 cK_f0_7 ?_
  rw [hcg]
  refine A_aald 3 (dX5_text 12 rfl) wK_27 rfl (vp_in_nI (n := 1) (by decide) (by decide)) ?_
  rw [nI_clamp (n := 1) (by decide)]
  refine AW.stack (st2 := [.ref (qx 1 0), .ref (qr 0)]) rfl ?_
  refine A_callVi 1 (dX5_text 13 rfl) cbX2_readInto cwX5_80 (r_readInto E qr ar (qx 1) n B rx gr (gx 1) (ax 1) f res hpp hL he0) rfl rfl wR_0 rfl rfl [25, 26, 31, 32, 33] rfl rfl (Nat.le_of_ble_eq_true rfl) (Nat.le_of_ble_eq_true rfl) (Nat.le_of_ble_eq_true rfl) (Nat.le_of_ble_eq_true rfl) (Nat.le_of_ble_eq_true rfl) (by rintro _ _ ⟨_, _, _, rfl, _⟩; exact (Nat.le_of_ble_eq_true rfl)) ?_
  rintro r25 w1 ⟨gr2, gx2, ax2, rfl, h0, he2, hres⟩
  refine AW.world (ws2 := wK E kq cg qf gf af qd gd ad qk gk ak ql gl al qr gr2 ar (qx 1 0) qm qx (va_up gx 1 gx2) (va_up ax 1 ax2) qs sx qo go ao qp gp_ ap L) mK_rt1 ?_
  refine AW.pcq (pc2 := 28) rfl ?_
  refine A_istore_n (ls2 := [_, _]) (dX5_text 14 rfl) (by decide) rfl rfl ?_
  refine A_aload_n (dX5_text 15 rfl) rfl ?_
  refine A_get (dX5_text 16 rfl) fwX5_36 wK_0 cK_f0_5 ?_
  refine A_callVv 0 (dX5_text 17 rfl) cbX2_empty cwX5_84 (r_empty E qr gr2 ar (qx 1 0)) rfl rfl wR1_0 rfl rfl [25, 26] rfl rfl (Nat.le_of_ble_eq_true rfl) (Nat.le_of_ble_eq_true rfl) (Nat.le_of_ble_eq_true rfl) (Nat.le_of_ble_eq_true rfl) (Nat.le_of_ble_eq_true rfl) (by rintro _ rfl; exact (Nat.le_of_ble_eq_true rfl)) ?_
  rintro w1 rfl
  refine AW.world (ws2 := wK E kq cg qf gf af qd gd ad qk gk ak ql gl al qr (upd gr2 0 0) ar (qx 1 0) qm qx (va_up gx 1 gx2) (va_up ax 1 ax2) qs sx qo go ao qp gp_ ap L) mK_r ?_
  refine AW.pcq (pc2 := 36) rfl ?_
  refine A_iload_n (dX5_text 18 rfl) rfl ?_
  refine A_if_ne 51 (dX5_text 19 rfl) (by decide) (fun h37 => ?_) (fun h37 => ?_)
  · have hres2 := hres.resolve_right (fun z => h37 z.2.1)
    refine A_aload_n (dX5_text 26 rfl) rfl ?_
    refine A_dup (dX5_text 27 rfl) rfl ?_
    refine A_get (dX5_text 28 rfl) fwX5_46 wK_0 cK_f0_7 ?_
    refine A_iconst (1) (dX5_text 29 rfl) (by decide +kernel) ?_
    refine A_iadd (dX5_text 30 rfl) ?_
    refine A_put (dX5_text 31 rfl) fwX5_46 fcX5 ftX5_7 wK_0 rfl rfl cK_l0 (wK_p0_7 _) ?_
    refine A_aload_n (dX5_text 32 rfl) rfl ?_
    refine A_get (dX5_text 33 rfl) fwX5_46 wK_0 cK_f0_7 ?_
    refine AW.pcq (pc2 := 65) rfl ?_
    refine A_iconst (1) (dX5_text 34 rfl) (by decide +kernel) ?_
    refine A_isub (dX5_text 35 rfl) ?_
    refine A_ri (dX5_text 36 rfl) rfl rfl ?_
    refine ⟨upd gr2 0 0, gx2, ax2, upd cg 1 (cg 1 + 1), rfl, rfl, he2, rfl, Or.inl ⟨hres2.1, ?_, ?_, hres2.2.2⟩⟩
    · show cg 1 + 1 - 1 = _
      rw [add1_sub1, hcg]
    · show cg 1 + 1 = _
      rw [hcg, nI_1]
  · have hres2 := hres.resolve_left (fun z => absurd (z.2.1.symm.trans h37) (by decide))
    refine A_bipush (-100) (dX5_text 20 rfl) (by decide +kernel) ?_
    refine A_aload_n (dX5_text 21 rfl) rfl ?_
    refine A_get (dX5_text 22 rfl) fwX5_36 wK_0 cK_f0_5 ?_
    refine A_get (dX5_text 23 rfl) fwX5_149 wK_25 cR_f0_2 ?_
    refine A_isub (dX5_text 24 rfl) ?_
    refine A_ri (dX5_text 25 rfl) rfl rfl ?_
    exact ⟨upd gr2 0 0, gx2, ax2, cg, rfl, rfl, he2, rfl, Or.inr ⟨hres2.1, congrArg (fun x => -100 - x) hres2.2.2, hcg⟩⟩

set_option maxRecDepth 100000 in
set_option maxHeartbeats 400000 in
theorem K_text2 (E : ag) (kq : Nat) (cg : Nat → Int32) (qf : Nat → Nat) (gf : Nat → Int32) (af : Nat → Nat → Int32) (qd : Nat → Nat) (gd : Nat → Int32) (ad : Nat → Nat → Int32) (qk : Nat → Nat) (gk : Nat → Int32) (ak : Nat → Nat → Int32) (ql : Nat → Nat) (gl : Nat → Int32) (al : Nat → Nat → Int32) (qr : Nat → Nat) (gr : Nat → Int32) (ar : Nat → Nat → Int32) (rx : Nat) (qm : Nat) (qx : Nat → Nat → Nat) (gx : Nat → Nat → Int32) (ax : Nat → Nat → Nat → Int32) (qs : Nat) (sx : Nat → Option Nat) (qo : Nat → Nat) (go : Nat → Int32) (ao : Nat → Nat → Int32) (qp : Nat → Nat) (gp_ : Nat → Int32) (ap : Nat → Nat → Int32) (L : va_W) (n : Nat) (B : Nat → Int32) (f : Nat) (res : Bool × Nat × List Int32 × List Int32 × List Int32) (hpp : txt B f = some res) (hL : LXC gr ar n B) (hcg : cg 1 = nI 2) (he0 : ax 2 1 0 = 0) : CT E yX5_text cX5_text 2 mX5_text.2.2.2.1 46 0 0 [.ref kq] (wK E kq cg qf gf af qd gd ad qk gk ak ql gl al qr gr ar rx qm qx gx ax qs sx qo go ao qp gp_ ap L) (ri (fun r w => ∃ (gr2 gx2 : Nat → Int32) (ax2 : Nat → Nat → Int32) (cg2 : Nat → Int32), w = wK E kq cg2 qf gf af qd gd ad qk gk ak ql gl al qr gr2 ar (qx 2 0) qm qx (va_up gx 2 gx2) (va_up ax 2 ax2) qs sx qo go ao qp gp_ ap L ∧ gr2 0 = 0 ∧ ax2 1 0 = 0 ∧ cg2 0 = cg 0 ∧ ((res.1 = true ∧ r = nI 2 ∧ cg2 1 = nI (2 + 1) ∧ ∀ C : Nat → List Int32, C 0 = res.2.2.1 → C 1 = res.2.2.2.1 → C 2 = res.2.2.2.2 → TKC ax2 C) ∨ (res.1 = false ∧ r = -100 - nI (lst B res.2.1) ∧ cg2 1 = nI 2)))) := by
  refine CT.of (M := mX5_text) (ls := [some (.ref kq), none]) (by decide) rfl (by decide) rfl (Nat.le_of_ble_eq_true rfl) ?_
  refine A_aload_n (dX5_text 0 rfl) rfl ?_
  refine A_get (dX5_text 1 rfl) fwX5_46 wK_0 cK_f0_7 ?_
  refine A_bipush (6) (dX5_text 2 rfl) (by decide +kernel) ?_
  refine A_icmp_lt 12 (dX5_text 3 rfl) (by decide) (fun h6 => ?_) (fun h6 => absurd (show cg 1 < 6 by rw [hcg]; decide) h6)
  refine A_aload_n (dX5_text 6 rfl) rfl ?_
  refine A_get (dX5_text 7 rfl) fwX5_36 wK_0 cK_f0_5 ?_
  refine A_aload_n (dX5_text 8 rfl) rfl ?_
  refine A_get (dX5_text 9 rfl) fwX5_42 wK_0 cK_f0_6 ?_
  refine A_aload_n (dX5_text 10 rfl) rfl ?_
  refine A_get (dX5_text 11 rfl) fwX5_46 wK_0 cK_f0_7 ?_
  rw [hcg]
  refine A_aald 3 (dX5_text 12 rfl) wK_27 rfl (vp_in_nI (n := 2) (by decide) (by decide)) ?_
  rw [nI_clamp (n := 2) (by decide)]
  refine AW.stack (st2 := [.ref (qx 2 0), .ref (qr 0)]) rfl ?_
  refine A_callVi 1 (dX5_text 13 rfl) cbX2_readInto cwX5_80 (r_readInto E qr ar (qx 2) n B rx gr (gx 2) (ax 2) f res hpp hL he0) rfl rfl wR_0 rfl rfl [25, 26, 34, 35, 36] rfl rfl (Nat.le_of_ble_eq_true rfl) (Nat.le_of_ble_eq_true rfl) (Nat.le_of_ble_eq_true rfl) (Nat.le_of_ble_eq_true rfl) (Nat.le_of_ble_eq_true rfl) (by rintro _ _ ⟨_, _, _, rfl, _⟩; exact (Nat.le_of_ble_eq_true rfl)) ?_
  rintro r25 w1 ⟨gr2, gx2, ax2, rfl, h0, he2, hres⟩
  refine AW.world (ws2 := wK E kq cg qf gf af qd gd ad qk gk ak ql gl al qr gr2 ar (qx 2 0) qm qx (va_up gx 2 gx2) (va_up ax 2 ax2) qs sx qo go ao qp gp_ ap L) mK_rt2 ?_
  refine AW.pcq (pc2 := 28) rfl ?_
  refine A_istore_n (ls2 := [_, _]) (dX5_text 14 rfl) (by decide) rfl rfl ?_
  refine A_aload_n (dX5_text 15 rfl) rfl ?_
  refine A_get (dX5_text 16 rfl) fwX5_36 wK_0 cK_f0_5 ?_
  refine A_callVv 0 (dX5_text 17 rfl) cbX2_empty cwX5_84 (r_empty E qr gr2 ar (qx 2 0)) rfl rfl wR1_0 rfl rfl [25, 26] rfl rfl (Nat.le_of_ble_eq_true rfl) (Nat.le_of_ble_eq_true rfl) (Nat.le_of_ble_eq_true rfl) (Nat.le_of_ble_eq_true rfl) (Nat.le_of_ble_eq_true rfl) (by rintro _ rfl; exact (Nat.le_of_ble_eq_true rfl)) ?_
  rintro w1 rfl
  refine AW.world (ws2 := wK E kq cg qf gf af qd gd ad qk gk ak ql gl al qr (upd gr2 0 0) ar (qx 2 0) qm qx (va_up gx 2 gx2) (va_up ax 2 ax2) qs sx qo go ao qp gp_ ap L) mK_r ?_
  refine AW.pcq (pc2 := 36) rfl ?_
  refine A_iload_n (dX5_text 18 rfl) rfl ?_
  refine A_if_ne 51 (dX5_text 19 rfl) (by decide) (fun h37 => ?_) (fun h37 => ?_)
  · have hres2 := hres.resolve_right (fun z => h37 z.2.1)
    refine A_aload_n (dX5_text 26 rfl) rfl ?_
    refine A_dup (dX5_text 27 rfl) rfl ?_
    refine A_get (dX5_text 28 rfl) fwX5_46 wK_0 cK_f0_7 ?_
    refine A_iconst (1) (dX5_text 29 rfl) (by decide +kernel) ?_
    refine A_iadd (dX5_text 30 rfl) ?_
    refine A_put (dX5_text 31 rfl) fwX5_46 fcX5 ftX5_7 wK_0 rfl rfl cK_l0 (wK_p0_7 _) ?_
    refine A_aload_n (dX5_text 32 rfl) rfl ?_
    refine A_get (dX5_text 33 rfl) fwX5_46 wK_0 cK_f0_7 ?_
    refine AW.pcq (pc2 := 65) rfl ?_
    refine A_iconst (1) (dX5_text 34 rfl) (by decide +kernel) ?_
    refine A_isub (dX5_text 35 rfl) ?_
    refine A_ri (dX5_text 36 rfl) rfl rfl ?_
    refine ⟨upd gr2 0 0, gx2, ax2, upd cg 1 (cg 1 + 1), rfl, rfl, he2, rfl, Or.inl ⟨hres2.1, ?_, ?_, hres2.2.2⟩⟩
    · show cg 1 + 1 - 1 = _
      rw [add1_sub1, hcg]
    · show cg 1 + 1 = _
      rw [hcg, nI_1]
  · have hres2 := hres.resolve_left (fun z => absurd (z.2.1.symm.trans h37) (by decide))
    refine A_bipush (-100) (dX5_text 20 rfl) (by decide +kernel) ?_
    refine A_aload_n (dX5_text 21 rfl) rfl ?_
    refine A_get (dX5_text 22 rfl) fwX5_36 wK_0 cK_f0_5 ?_
    refine A_get (dX5_text 23 rfl) fwX5_149 wK_25 cR_f0_2 ?_
    refine A_isub (dX5_text 24 rfl) ?_
    refine A_ri (dX5_text 25 rfl) rfl rfl ?_
    exact ⟨upd gr2 0 0, gx2, ax2, cg, rfl, rfl, he2, rfl, Or.inr ⟨hres2.1, congrArg (fun x => -100 - x) hres2.2.2, hcg⟩⟩

set_option maxRecDepth 100000 in
set_option maxHeartbeats 400000 in
theorem K_text3 (E : ag) (kq : Nat) (cg : Nat → Int32) (qf : Nat → Nat) (gf : Nat → Int32) (af : Nat → Nat → Int32) (qd : Nat → Nat) (gd : Nat → Int32) (ad : Nat → Nat → Int32) (qk : Nat → Nat) (gk : Nat → Int32) (ak : Nat → Nat → Int32) (ql : Nat → Nat) (gl : Nat → Int32) (al : Nat → Nat → Int32) (qr : Nat → Nat) (gr : Nat → Int32) (ar : Nat → Nat → Int32) (rx : Nat) (qm : Nat) (qx : Nat → Nat → Nat) (gx : Nat → Nat → Int32) (ax : Nat → Nat → Nat → Int32) (qs : Nat) (sx : Nat → Option Nat) (qo : Nat → Nat) (go : Nat → Int32) (ao : Nat → Nat → Int32) (qp : Nat → Nat) (gp_ : Nat → Int32) (ap : Nat → Nat → Int32) (L : va_W) (n : Nat) (B : Nat → Int32) (f : Nat) (res : Bool × Nat × List Int32 × List Int32 × List Int32) (hpp : txt B f = some res) (hL : LXC gr ar n B) (hcg : cg 1 = nI 3) (he0 : ax 3 1 0 = 0) : CT E yX5_text cX5_text 2 mX5_text.2.2.2.1 46 0 0 [.ref kq] (wK E kq cg qf gf af qd gd ad qk gk ak ql gl al qr gr ar rx qm qx gx ax qs sx qo go ao qp gp_ ap L) (ri (fun r w => ∃ (gr2 gx2 : Nat → Int32) (ax2 : Nat → Nat → Int32) (cg2 : Nat → Int32), w = wK E kq cg2 qf gf af qd gd ad qk gk ak ql gl al qr gr2 ar (qx 3 0) qm qx (va_up gx 3 gx2) (va_up ax 3 ax2) qs sx qo go ao qp gp_ ap L ∧ gr2 0 = 0 ∧ ax2 1 0 = 0 ∧ cg2 0 = cg 0 ∧ ((res.1 = true ∧ r = nI 3 ∧ cg2 1 = nI (3 + 1) ∧ ∀ C : Nat → List Int32, C 0 = res.2.2.1 → C 1 = res.2.2.2.1 → C 2 = res.2.2.2.2 → TKC ax2 C) ∨ (res.1 = false ∧ r = -100 - nI (lst B res.2.1) ∧ cg2 1 = nI 3)))) := by
  refine CT.of (M := mX5_text) (ls := [some (.ref kq), none]) (by decide) rfl (by decide) rfl (Nat.le_of_ble_eq_true rfl) ?_
  refine A_aload_n (dX5_text 0 rfl) rfl ?_
  refine A_get (dX5_text 1 rfl) fwX5_46 wK_0 cK_f0_7 ?_
  refine A_bipush (6) (dX5_text 2 rfl) (by decide +kernel) ?_
  refine A_icmp_lt 12 (dX5_text 3 rfl) (by decide) (fun h6 => ?_) (fun h6 => absurd (show cg 1 < 6 by rw [hcg]; decide) h6)
  refine A_aload_n (dX5_text 6 rfl) rfl ?_
  refine A_get (dX5_text 7 rfl) fwX5_36 wK_0 cK_f0_5 ?_
  refine A_aload_n (dX5_text 8 rfl) rfl ?_
  refine A_get (dX5_text 9 rfl) fwX5_42 wK_0 cK_f0_6 ?_
  refine A_aload_n (dX5_text 10 rfl) rfl ?_
  refine A_get (dX5_text 11 rfl) fwX5_46 wK_0 cK_f0_7 ?_
  rw [hcg]
  refine A_aald 3 (dX5_text 12 rfl) wK_27 rfl (vp_in_nI (n := 3) (by decide) (by decide)) ?_
  rw [nI_clamp (n := 3) (by decide)]
  refine AW.stack (st2 := [.ref (qx 3 0), .ref (qr 0)]) rfl ?_
  refine A_callVi 1 (dX5_text 13 rfl) cbX2_readInto cwX5_80 (r_readInto E qr ar (qx 3) n B rx gr (gx 3) (ax 3) f res hpp hL he0) rfl rfl wR_0 rfl rfl [25, 26, 37, 38, 39] rfl rfl (Nat.le_of_ble_eq_true rfl) (Nat.le_of_ble_eq_true rfl) (Nat.le_of_ble_eq_true rfl) (Nat.le_of_ble_eq_true rfl) (Nat.le_of_ble_eq_true rfl) (by rintro _ _ ⟨_, _, _, rfl, _⟩; exact (Nat.le_of_ble_eq_true rfl)) ?_
  rintro r25 w1 ⟨gr2, gx2, ax2, rfl, h0, he2, hres⟩
  refine AW.world (ws2 := wK E kq cg qf gf af qd gd ad qk gk ak ql gl al qr gr2 ar (qx 3 0) qm qx (va_up gx 3 gx2) (va_up ax 3 ax2) qs sx qo go ao qp gp_ ap L) mK_rt3 ?_
  refine AW.pcq (pc2 := 28) rfl ?_
  refine A_istore_n (ls2 := [_, _]) (dX5_text 14 rfl) (by decide) rfl rfl ?_
  refine A_aload_n (dX5_text 15 rfl) rfl ?_
  refine A_get (dX5_text 16 rfl) fwX5_36 wK_0 cK_f0_5 ?_
  refine A_callVv 0 (dX5_text 17 rfl) cbX2_empty cwX5_84 (r_empty E qr gr2 ar (qx 3 0)) rfl rfl wR1_0 rfl rfl [25, 26] rfl rfl (Nat.le_of_ble_eq_true rfl) (Nat.le_of_ble_eq_true rfl) (Nat.le_of_ble_eq_true rfl) (Nat.le_of_ble_eq_true rfl) (Nat.le_of_ble_eq_true rfl) (by rintro _ rfl; exact (Nat.le_of_ble_eq_true rfl)) ?_
  rintro w1 rfl
  refine AW.world (ws2 := wK E kq cg qf gf af qd gd ad qk gk ak ql gl al qr (upd gr2 0 0) ar (qx 3 0) qm qx (va_up gx 3 gx2) (va_up ax 3 ax2) qs sx qo go ao qp gp_ ap L) mK_r ?_
  refine AW.pcq (pc2 := 36) rfl ?_
  refine A_iload_n (dX5_text 18 rfl) rfl ?_
  refine A_if_ne 51 (dX5_text 19 rfl) (by decide) (fun h37 => ?_) (fun h37 => ?_)
  · have hres2 := hres.resolve_right (fun z => h37 z.2.1)
    refine A_aload_n (dX5_text 26 rfl) rfl ?_
    refine A_dup (dX5_text 27 rfl) rfl ?_
    refine A_get (dX5_text 28 rfl) fwX5_46 wK_0 cK_f0_7 ?_
    refine A_iconst (1) (dX5_text 29 rfl) (by decide +kernel) ?_
    refine A_iadd (dX5_text 30 rfl) ?_
    refine A_put (dX5_text 31 rfl) fwX5_46 fcX5 ftX5_7 wK_0 rfl rfl cK_l0 (wK_p0_7 _) ?_
    refine A_aload_n (dX5_text 32 rfl) rfl ?_
    refine A_get (dX5_text 33 rfl) fwX5_46 wK_0 cK_f0_7 ?_
    refine AW.pcq (pc2 := 65) rfl ?_
    refine A_iconst (1) (dX5_text 34 rfl) (by decide +kernel) ?_
    refine A_isub (dX5_text 35 rfl) ?_
    refine A_ri (dX5_text 36 rfl) rfl rfl ?_
    refine ⟨upd gr2 0 0, gx2, ax2, upd cg 1 (cg 1 + 1), rfl, rfl, he2, rfl, Or.inl ⟨hres2.1, ?_, ?_, hres2.2.2⟩⟩
    · show cg 1 + 1 - 1 = _
      rw [add1_sub1, hcg]
    · show cg 1 + 1 = _
      rw [hcg, nI_1]
  · have hres2 := hres.resolve_left (fun z => absurd (z.2.1.symm.trans h37) (by decide))
    refine A_bipush (-100) (dX5_text 20 rfl) (by decide +kernel) ?_
    refine A_aload_n (dX5_text 21 rfl) rfl ?_
    refine A_get (dX5_text 22 rfl) fwX5_36 wK_0 cK_f0_5 ?_
    refine A_get (dX5_text 23 rfl) fwX5_149 wK_25 cR_f0_2 ?_
    refine A_isub (dX5_text 24 rfl) ?_
    refine A_ri (dX5_text 25 rfl) rfl rfl ?_
    exact ⟨upd gr2 0 0, gx2, ax2, cg, rfl, rfl, he2, rfl, Or.inr ⟨hres2.1, congrArg (fun x => -100 - x) hres2.2.2, hcg⟩⟩

set_option maxRecDepth 100000 in
set_option maxHeartbeats 400000 in
theorem K_text4 (E : ag) (kq : Nat) (cg : Nat → Int32) (qf : Nat → Nat) (gf : Nat → Int32) (af : Nat → Nat → Int32) (qd : Nat → Nat) (gd : Nat → Int32) (ad : Nat → Nat → Int32) (qk : Nat → Nat) (gk : Nat → Int32) (ak : Nat → Nat → Int32) (ql : Nat → Nat) (gl : Nat → Int32) (al : Nat → Nat → Int32) (qr : Nat → Nat) (gr : Nat → Int32) (ar : Nat → Nat → Int32) (rx : Nat) (qm : Nat) (qx : Nat → Nat → Nat) (gx : Nat → Nat → Int32) (ax : Nat → Nat → Nat → Int32) (qs : Nat) (sx : Nat → Option Nat) (qo : Nat → Nat) (go : Nat → Int32) (ao : Nat → Nat → Int32) (qp : Nat → Nat) (gp_ : Nat → Int32) (ap : Nat → Nat → Int32) (L : va_W) (n : Nat) (B : Nat → Int32) (f : Nat) (res : Bool × Nat × List Int32 × List Int32 × List Int32) (hpp : txt B f = some res) (hL : LXC gr ar n B) (hcg : cg 1 = nI 4) (he0 : ax 4 1 0 = 0) : CT E yX5_text cX5_text 2 mX5_text.2.2.2.1 46 0 0 [.ref kq] (wK E kq cg qf gf af qd gd ad qk gk ak ql gl al qr gr ar rx qm qx gx ax qs sx qo go ao qp gp_ ap L) (ri (fun r w => ∃ (gr2 gx2 : Nat → Int32) (ax2 : Nat → Nat → Int32) (cg2 : Nat → Int32), w = wK E kq cg2 qf gf af qd gd ad qk gk ak ql gl al qr gr2 ar (qx 4 0) qm qx (va_up gx 4 gx2) (va_up ax 4 ax2) qs sx qo go ao qp gp_ ap L ∧ gr2 0 = 0 ∧ ax2 1 0 = 0 ∧ cg2 0 = cg 0 ∧ ((res.1 = true ∧ r = nI 4 ∧ cg2 1 = nI (4 + 1) ∧ ∀ C : Nat → List Int32, C 0 = res.2.2.1 → C 1 = res.2.2.2.1 → C 2 = res.2.2.2.2 → TKC ax2 C) ∨ (res.1 = false ∧ r = -100 - nI (lst B res.2.1) ∧ cg2 1 = nI 4)))) := by
  refine CT.of (M := mX5_text) (ls := [some (.ref kq), none]) (by decide) rfl (by decide) rfl (Nat.le_of_ble_eq_true rfl) ?_
  refine A_aload_n (dX5_text 0 rfl) rfl ?_
  refine A_get (dX5_text 1 rfl) fwX5_46 wK_0 cK_f0_7 ?_
  refine A_bipush (6) (dX5_text 2 rfl) (by decide +kernel) ?_
  refine A_icmp_lt 12 (dX5_text 3 rfl) (by decide) (fun h6 => ?_) (fun h6 => absurd (show cg 1 < 6 by rw [hcg]; decide) h6)
  refine A_aload_n (dX5_text 6 rfl) rfl ?_
  refine A_get (dX5_text 7 rfl) fwX5_36 wK_0 cK_f0_5 ?_
  refine A_aload_n (dX5_text 8 rfl) rfl ?_
  refine A_get (dX5_text 9 rfl) fwX5_42 wK_0 cK_f0_6 ?_
  refine A_aload_n (dX5_text 10 rfl) rfl ?_
  refine A_get (dX5_text 11 rfl) fwX5_46 wK_0 cK_f0_7 ?_
  rw [hcg]
  refine A_aald 3 (dX5_text 12 rfl) wK_27 rfl (vp_in_nI (n := 4) (by decide) (by decide)) ?_
  rw [nI_clamp (n := 4) (by decide)]
  refine AW.stack (st2 := [.ref (qx 4 0), .ref (qr 0)]) rfl ?_
  refine A_callVi 1 (dX5_text 13 rfl) cbX2_readInto cwX5_80 (r_readInto E qr ar (qx 4) n B rx gr (gx 4) (ax 4) f res hpp hL he0) rfl rfl wR_0 rfl rfl [25, 26, 40, 41, 42] rfl rfl (Nat.le_of_ble_eq_true rfl) (Nat.le_of_ble_eq_true rfl) (Nat.le_of_ble_eq_true rfl) (Nat.le_of_ble_eq_true rfl) (Nat.le_of_ble_eq_true rfl) (by rintro _ _ ⟨_, _, _, rfl, _⟩; exact (Nat.le_of_ble_eq_true rfl)) ?_
  rintro r25 w1 ⟨gr2, gx2, ax2, rfl, h0, he2, hres⟩
  refine AW.world (ws2 := wK E kq cg qf gf af qd gd ad qk gk ak ql gl al qr gr2 ar (qx 4 0) qm qx (va_up gx 4 gx2) (va_up ax 4 ax2) qs sx qo go ao qp gp_ ap L) mK_rt4 ?_
  refine AW.pcq (pc2 := 28) rfl ?_
  refine A_istore_n (ls2 := [_, _]) (dX5_text 14 rfl) (by decide) rfl rfl ?_
  refine A_aload_n (dX5_text 15 rfl) rfl ?_
  refine A_get (dX5_text 16 rfl) fwX5_36 wK_0 cK_f0_5 ?_
  refine A_callVv 0 (dX5_text 17 rfl) cbX2_empty cwX5_84 (r_empty E qr gr2 ar (qx 4 0)) rfl rfl wR1_0 rfl rfl [25, 26] rfl rfl (Nat.le_of_ble_eq_true rfl) (Nat.le_of_ble_eq_true rfl) (Nat.le_of_ble_eq_true rfl) (Nat.le_of_ble_eq_true rfl) (Nat.le_of_ble_eq_true rfl) (by rintro _ rfl; exact (Nat.le_of_ble_eq_true rfl)) ?_
  rintro w1 rfl
  refine AW.world (ws2 := wK E kq cg qf gf af qd gd ad qk gk ak ql gl al qr (upd gr2 0 0) ar (qx 4 0) qm qx (va_up gx 4 gx2) (va_up ax 4 ax2) qs sx qo go ao qp gp_ ap L) mK_r ?_
  refine AW.pcq (pc2 := 36) rfl ?_
  refine A_iload_n (dX5_text 18 rfl) rfl ?_
  refine A_if_ne 51 (dX5_text 19 rfl) (by decide) (fun h37 => ?_) (fun h37 => ?_)
  · have hres2 := hres.resolve_right (fun z => h37 z.2.1)
    refine A_aload_n (dX5_text 26 rfl) rfl ?_
    refine A_dup (dX5_text 27 rfl) rfl ?_
    refine A_get (dX5_text 28 rfl) fwX5_46 wK_0 cK_f0_7 ?_
    refine A_iconst (1) (dX5_text 29 rfl) (by decide +kernel) ?_
    refine A_iadd (dX5_text 30 rfl) ?_
    refine A_put (dX5_text 31 rfl) fwX5_46 fcX5 ftX5_7 wK_0 rfl rfl cK_l0 (wK_p0_7 _) ?_
    refine A_aload_n (dX5_text 32 rfl) rfl ?_
    refine A_get (dX5_text 33 rfl) fwX5_46 wK_0 cK_f0_7 ?_
    refine AW.pcq (pc2 := 65) rfl ?_
    refine A_iconst (1) (dX5_text 34 rfl) (by decide +kernel) ?_
    refine A_isub (dX5_text 35 rfl) ?_
    refine A_ri (dX5_text 36 rfl) rfl rfl ?_
    refine ⟨upd gr2 0 0, gx2, ax2, upd cg 1 (cg 1 + 1), rfl, rfl, he2, rfl, Or.inl ⟨hres2.1, ?_, ?_, hres2.2.2⟩⟩
    · show cg 1 + 1 - 1 = _
      rw [add1_sub1, hcg]
    · show cg 1 + 1 = _
      rw [hcg, nI_1]
  · have hres2 := hres.resolve_left (fun z => absurd (z.2.1.symm.trans h37) (by decide))
    refine A_bipush (-100) (dX5_text 20 rfl) (by decide +kernel) ?_
    refine A_aload_n (dX5_text 21 rfl) rfl ?_
    refine A_get (dX5_text 22 rfl) fwX5_36 wK_0 cK_f0_5 ?_
    refine A_get (dX5_text 23 rfl) fwX5_149 wK_25 cR_f0_2 ?_
    refine A_isub (dX5_text 24 rfl) ?_
    refine A_ri (dX5_text 25 rfl) rfl rfl ?_
    exact ⟨upd gr2 0 0, gx2, ax2, cg, rfl, rfl, he2, rfl, Or.inr ⟨hres2.1, congrArg (fun x => -100 - x) hres2.2.2, hcg⟩⟩

set_option maxRecDepth 100000 in
set_option maxHeartbeats 400000 in
theorem K_text5 (E : ag) (kq : Nat) (cg : Nat → Int32) (qf : Nat → Nat) (gf : Nat → Int32) (af : Nat → Nat → Int32) (qd : Nat → Nat) (gd : Nat → Int32) (ad : Nat → Nat → Int32) (qk : Nat → Nat) (gk : Nat → Int32) (ak : Nat → Nat → Int32) (ql : Nat → Nat) (gl : Nat → Int32) (al : Nat → Nat → Int32) (qr : Nat → Nat) (gr : Nat → Int32) (ar : Nat → Nat → Int32) (rx : Nat) (qm : Nat) (qx : Nat → Nat → Nat) (gx : Nat → Nat → Int32) (ax : Nat → Nat → Nat → Int32) (qs : Nat) (sx : Nat → Option Nat) (qo : Nat → Nat) (go : Nat → Int32) (ao : Nat → Nat → Int32) (qp : Nat → Nat) (gp_ : Nat → Int32) (ap : Nat → Nat → Int32) (L : va_W) (n : Nat) (B : Nat → Int32) (f : Nat) (res : Bool × Nat × List Int32 × List Int32 × List Int32) (hpp : txt B f = some res) (hL : LXC gr ar n B) (hcg : cg 1 = nI 5) (he0 : ax 5 1 0 = 0) : CT E yX5_text cX5_text 2 mX5_text.2.2.2.1 46 0 0 [.ref kq] (wK E kq cg qf gf af qd gd ad qk gk ak ql gl al qr gr ar rx qm qx gx ax qs sx qo go ao qp gp_ ap L) (ri (fun r w => ∃ (gr2 gx2 : Nat → Int32) (ax2 : Nat → Nat → Int32) (cg2 : Nat → Int32), w = wK E kq cg2 qf gf af qd gd ad qk gk ak ql gl al qr gr2 ar (qx 5 0) qm qx (va_up gx 5 gx2) (va_up ax 5 ax2) qs sx qo go ao qp gp_ ap L ∧ gr2 0 = 0 ∧ ax2 1 0 = 0 ∧ cg2 0 = cg 0 ∧ ((res.1 = true ∧ r = nI 5 ∧ cg2 1 = nI (5 + 1) ∧ ∀ C : Nat → List Int32, C 0 = res.2.2.1 → C 1 = res.2.2.2.1 → C 2 = res.2.2.2.2 → TKC ax2 C) ∨ (res.1 = false ∧ r = -100 - nI (lst B res.2.1) ∧ cg2 1 = nI 5)))) := by
  refine CT.of (M := mX5_text) (ls := [some (.ref kq), none]) (by decide) rfl (by decide) rfl (Nat.le_of_ble_eq_true rfl) ?_
  refine A_aload_n (dX5_text 0 rfl) rfl ?_
  refine A_get (dX5_text 1 rfl) fwX5_46 wK_0 cK_f0_7 ?_
  refine A_bipush (6) (dX5_text 2 rfl) (by decide +kernel) ?_
  refine A_icmp_lt 12 (dX5_text 3 rfl) (by decide) (fun h6 => ?_) (fun h6 => absurd (show cg 1 < 6 by rw [hcg]; decide) h6)
  refine A_aload_n (dX5_text 6 rfl) rfl ?_
  refine A_get (dX5_text 7 rfl) fwX5_36 wK_0 cK_f0_5 ?_
  refine A_aload_n (dX5_text 8 rfl) rfl ?_
  refine A_get (dX5_text 9 rfl) fwX5_42 wK_0 cK_f0_6 ?_
  refine A_aload_n (dX5_text 10 rfl) rfl ?_
  refine A_get (dX5_text 11 rfl) fwX5_46 wK_0 cK_f0_7 ?_
  rw [hcg]
  refine A_aald 3 (dX5_text 12 rfl) wK_27 rfl (vp_in_nI (n := 5) (by decide) (by decide)) ?_
  rw [nI_clamp (n := 5) (by decide)]
  refine AW.stack (st2 := [.ref (qx 5 0), .ref (qr 0)]) rfl ?_
  refine A_callVi 1 (dX5_text 13 rfl) cbX2_readInto cwX5_80 (r_readInto E qr ar (qx 5) n B rx gr (gx 5) (ax 5) f res hpp hL he0) rfl rfl wR_0 rfl rfl [25, 26, 43, 44, 45] rfl rfl (Nat.le_of_ble_eq_true rfl) (Nat.le_of_ble_eq_true rfl) (Nat.le_of_ble_eq_true rfl) (Nat.le_of_ble_eq_true rfl) (Nat.le_of_ble_eq_true rfl) (by rintro _ _ ⟨_, _, _, rfl, _⟩; exact (Nat.le_of_ble_eq_true rfl)) ?_
  rintro r25 w1 ⟨gr2, gx2, ax2, rfl, h0, he2, hres⟩
  refine AW.world (ws2 := wK E kq cg qf gf af qd gd ad qk gk ak ql gl al qr gr2 ar (qx 5 0) qm qx (va_up gx 5 gx2) (va_up ax 5 ax2) qs sx qo go ao qp gp_ ap L) mK_rt5 ?_
  refine AW.pcq (pc2 := 28) rfl ?_
  refine A_istore_n (ls2 := [_, _]) (dX5_text 14 rfl) (by decide) rfl rfl ?_
  refine A_aload_n (dX5_text 15 rfl) rfl ?_
  refine A_get (dX5_text 16 rfl) fwX5_36 wK_0 cK_f0_5 ?_
  refine A_callVv 0 (dX5_text 17 rfl) cbX2_empty cwX5_84 (r_empty E qr gr2 ar (qx 5 0)) rfl rfl wR1_0 rfl rfl [25, 26] rfl rfl (Nat.le_of_ble_eq_true rfl) (Nat.le_of_ble_eq_true rfl) (Nat.le_of_ble_eq_true rfl) (Nat.le_of_ble_eq_true rfl) (Nat.le_of_ble_eq_true rfl) (by rintro _ rfl; exact (Nat.le_of_ble_eq_true rfl)) ?_
  rintro w1 rfl
  refine AW.world (ws2 := wK E kq cg qf gf af qd gd ad qk gk ak ql gl al qr (upd gr2 0 0) ar (qx 5 0) qm qx (va_up gx 5 gx2) (va_up ax 5 ax2) qs sx qo go ao qp gp_ ap L) mK_r ?_
  refine AW.pcq (pc2 := 36) rfl ?_
  refine A_iload_n (dX5_text 18 rfl) rfl ?_
  refine A_if_ne 51 (dX5_text 19 rfl) (by decide) (fun h37 => ?_) (fun h37 => ?_)
  · have hres2 := hres.resolve_right (fun z => h37 z.2.1)
    refine A_aload_n (dX5_text 26 rfl) rfl ?_
    refine A_dup (dX5_text 27 rfl) rfl ?_
    refine A_get (dX5_text 28 rfl) fwX5_46 wK_0 cK_f0_7 ?_
    refine A_iconst (1) (dX5_text 29 rfl) (by decide +kernel) ?_
    refine A_iadd (dX5_text 30 rfl) ?_
    refine A_put (dX5_text 31 rfl) fwX5_46 fcX5 ftX5_7 wK_0 rfl rfl cK_l0 (wK_p0_7 _) ?_
    refine A_aload_n (dX5_text 32 rfl) rfl ?_
    refine A_get (dX5_text 33 rfl) fwX5_46 wK_0 cK_f0_7 ?_
    refine AW.pcq (pc2 := 65) rfl ?_
    refine A_iconst (1) (dX5_text 34 rfl) (by decide +kernel) ?_
    refine A_isub (dX5_text 35 rfl) ?_
    refine A_ri (dX5_text 36 rfl) rfl rfl ?_
    refine ⟨upd gr2 0 0, gx2, ax2, upd cg 1 (cg 1 + 1), rfl, rfl, he2, rfl, Or.inl ⟨hres2.1, ?_, ?_, hres2.2.2⟩⟩
    · show cg 1 + 1 - 1 = _
      rw [add1_sub1, hcg]
    · show cg 1 + 1 = _
      rw [hcg, nI_1]
  · have hres2 := hres.resolve_left (fun z => absurd (z.2.1.symm.trans h37) (by decide))
    refine A_bipush (-100) (dX5_text 20 rfl) (by decide +kernel) ?_
    refine A_aload_n (dX5_text 21 rfl) rfl ?_
    refine A_get (dX5_text 22 rfl) fwX5_36 wK_0 cK_f0_5 ?_
    refine A_get (dX5_text 23 rfl) fwX5_149 wK_25 cR_f0_2 ?_
    refine A_isub (dX5_text 24 rfl) ?_
    refine A_ri (dX5_text 25 rfl) rfl rfl ?_
    exact ⟨upd gr2 0 0, gx2, ax2, cg, rfl, rfl, he2, rfl, Or.inr ⟨hres2.1, congrArg (fun x => -100 - x) hres2.2.2, hcg⟩⟩

theorem K_text (E : ag) (kq : Nat) (cg : Nat → Int32) (qf : Nat → Nat) (gf : Nat → Int32) (af : Nat → Nat → Int32) (qd : Nat → Nat) (gd : Nat → Int32) (ad : Nat → Nat → Int32) (qk : Nat → Nat) (gk : Nat → Int32) (ak : Nat → Nat → Int32) (ql : Nat → Nat) (gl : Nat → Int32) (al : Nat → Nat → Int32) (qr : Nat → Nat) (gr : Nat → Int32) (ar : Nat → Nat → Int32) (rx : Nat) (qm : Nat) (qx : Nat → Nat → Nat) (gx : Nat → Nat → Int32) (ax : Nat → Nat → Nat → Int32) (qs : Nat) (sx : Nat → Option Nat) (qo : Nat → Nat) (go : Nat → Int32) (ao : Nat → Nat → Int32) (qp : Nat → Nat) (gp_ : Nat → Int32) (ap : Nat → Nat → Int32) (L : va_W) (n : Nat) (B : Nat → Int32) (f : Nat) (res : Bool × Nat × List Int32 × List Int32 × List Int32) (hpp : txt B f = some res) (hL : LXC gr ar n B) (t : Nat) (ht : t < 6) (hcg : cg 1 = nI t) (he0 : ax t 1 0 = 0) : CT E yX5_text cX5_text 2 mX5_text.2.2.2.1 46 0 0 [.ref kq] (wK E kq cg qf gf af qd gd ad qk gk ak ql gl al qr gr ar rx qm qx gx ax qs sx qo go ao qp gp_ ap L) (ri (fun r w => ∃ (gr2 gx2 : Nat → Int32) (ax2 : Nat → Nat → Int32) (cg2 : Nat → Int32), w = wK E kq cg2 qf gf af qd gd ad qk gk ak ql gl al qr gr2 ar (qx t 0) qm qx (va_up gx t gx2) (va_up ax t ax2) qs sx qo go ao qp gp_ ap L ∧ gr2 0 = 0 ∧ ax2 1 0 = 0 ∧ cg2 0 = cg 0 ∧ ((res.1 = true ∧ r = nI t ∧ cg2 1 = nI (t + 1) ∧ ∀ C : Nat → List Int32, C 0 = res.2.2.1 → C 1 = res.2.2.2.1 → C 2 = res.2.2.2.2 → TKC ax2 C) ∨ (res.1 = false ∧ r = -100 - nI (lst B res.2.1) ∧ cg2 1 = nI t)))) := by
  match t with
  | 0 => exact K_text0 E kq cg qf gf af qd gd ad qk gk ak ql gl al qr gr ar rx qm qx gx ax qs sx qo go ao qp gp_ ap L n B f res hpp hL hcg he0
  | 1 => exact K_text1 E kq cg qf gf af qd gd ad qk gk ak ql gl al qr gr ar rx qm qx gx ax qs sx qo go ao qp gp_ ap L n B f res hpp hL hcg he0
  | 2 => exact K_text2 E kq cg qf gf af qd gd ad qk gk ak ql gl al qr gr ar rx qm qx gx ax qs sx qo go ao qp gp_ ap L n B f res hpp hL hcg he0
  | 3 => exact K_text3 E kq cg qf gf af qd gd ad qk gk ak ql gl al qr gr ar rx qm qx gx ax qs sx qo go ao qp gp_ ap L n B f res hpp hL hcg he0
  | 4 => exact K_text4 E kq cg qf gf af qd gd ad qk gk ak ql gl al qr gr ar rx qm qx gx ax qs sx qo go ao qp gp_ ap L n B f res hpp hL hcg he0
  | 5 => exact K_text5 E kq cg qf gf af qd gd ad qk gk ak ql gl al qr gr ar rx qm qx gx ax qs sx qo go ao qp gp_ ap L n B f res hpp hL hcg he0
  | t + 6 => omega
set_option maxRecDepth 100000 in
set_option maxHeartbeats 400000 in
theorem K_textF (E : ag) (kq : Nat) (cg : Nat → Int32) (qf : Nat → Nat) (gf : Nat → Int32) (af : Nat → Nat → Int32) (qd : Nat → Nat) (gd : Nat → Int32) (ad : Nat → Nat → Int32) (qk : Nat → Nat) (gk : Nat → Int32) (ak : Nat → Nat → Int32) (ql : Nat → Nat) (gl : Nat → Int32) (al : Nat → Nat → Int32) (qr : Nat → Nat) (gr : Nat → Int32) (ar : Nat → Nat → Int32) (rx : Nat) (qm : Nat) (qx : Nat → Nat → Nat) (gx : Nat → Nat → Int32) (ax : Nat → Nat → Nat → Int32) (qs : Nat) (sx : Nat → Option Nat) (qo : Nat → Nat) (go : Nat → Int32) (ao : Nat → Nat → Int32) (qp : Nat → Nat) (gp_ : Nat → Int32) (ap : Nat → Nat → Int32) (L : va_W) (hcg : cg 1 = nI 6) : CT E yX5_text cX5_text 2 mX5_text.2.2.2.1 46 0 0 [.ref kq] (wK E kq cg qf gf af qd gd ad qk gk ak ql gl al qr gr ar rx qm qx gx ax qs sx qo go ao qp gp_ ap L) (ri (fun r w => r = -4 ∧ w = wK E kq cg qf gf af qd gd ad qk gk ak ql gl al qr gr ar rx qm qx gx ax qs sx qo go ao qp gp_ ap L)) := by
  refine CT.of (M := mX5_text) (ls := [some (.ref kq), none]) (by decide) rfl (by decide) rfl (Nat.le_of_ble_eq_true rfl) ?_
  refine A_aload_n (dX5_text 0 rfl) rfl ?_
  refine A_get (dX5_text 1 rfl) fwX5_46 wK_0 cK_f0_7 ?_
  refine A_bipush (6) (dX5_text 2 rfl) (by decide +kernel) ?_
  refine A_icmp_lt 12 (dX5_text 3 rfl) (by decide) (fun h6 => absurd h6 (show ¬ cg 1 < 6 by rw [hcg]; decide)) (fun h6 => ?_)
  refine A_bipush (-4) (dX5_text 4 rfl) (by decide +kernel) ?_
  refine A_ri (dX5_text 5 rfl) rfl rfl ?_
  exact ⟨rfl, rfl⟩

theorem cf_try {gf gl : Nat → Int32} {af : Nat → Nat → Int32} : cfs gf af (kbL gl) = p_try (cfs gf af gl) := by
  unfold p_try
  refine cfs_eq rfl rfl rfl rfl rfl rfl (fun k hk => ?_) rfl rfl rfl rfl rfl rfl (fun k hk => cfs_az (gf := gf) (gl := gl) hk)
  simp only [upd]
  rw [if_neg (by omega), if_neg (by omega)]
  exact cfs_z hk
set_option maxRecDepth 100000 in
set_option maxHeartbeats 400000 in
theorem K_round0 (E : ag) (kq : Nat) (cg : Nat → Int32) (qf : Nat → Nat) (gf : Nat → Int32) (af : Nat → Nat → Int32) (qd : Nat → Nat) (gd : Nat → Int32) (ad : Nat → Nat → Int32) (qk : Nat → Nat) (gk : Nat → Int32) (ak : Nat → Nat → Int32) (ql : Nat → Nat) (gl : Nat → Int32) (al : Nat → Nat → Int32) (qr : Nat → Nat) (gr : Nat → Int32) (ar : Nat → Nat → Int32) (rx : Nat) (qm : Nat) (qx : Nat → Nat → Nat) (gx : Nat → Nat → Int32) (ax : Nat → Nat → Nat → Int32) (qs : Nat) (sx : Nat → Option Nat) (qo : Nat → Nat) (go : Nat → Int32) (ao : Nat → Nat → Int32) (qp : Nat → Nat) (gp_ : Nat → Int32) (ap : Nat → Nat → Int32) (L : va_W) (m : Nat) (C : Nat → List Int32) (hr4 : gf 4 = nI 0) (hC : TKC (ax 0) C) (hG : GOOD (cfs gf af gl) m) : CT E yX5_round cX5_round 2 mX5_round.2.2.2.1 5 0 0 [.ref kq] (wK E kq cg qf gf af qd gd ad qk gk ak ql gl al qr gr ar rx qm qx gx ax qs sx qo go ao qp gp_ ap L) (ri (fun r w => ∃ (gf2 gl2 : Nat → Int32) (af2 al2 : Nat → Nat → Int32), w = wK E kq cg qf gf2 af2 qd gd ad qk gk ak ql gl2 al2 qr gr ar rx qm qx gx ax qs sx qo go ao qp gp_ ap L ∧ cfs gf2 af2 gl2 = p_round C zro (p_try (cfs gf af gl)) ∧ gf2 4 = gf 4 ∧ r = gf2 3 - gf 3)) := by
  refine CT.of (M := mX5_round) (ls := [some (.ref kq), none]) (by decide) rfl (by decide) rfl (Nat.le_of_ble_eq_true rfl) ?_
  refine A_aload_n (dX5_round 0 rfl) rfl ?_
  refine A_get (dX5_round 1 rfl) fwX5_10 wK_0 cK_f0_0 ?_
  refine A_get (dX5_round 2 rfl) fwX5_155 wK_1 cF_f0_9 ?_
  refine A_istore_n (ls2 := [_, _]) (dX5_round 3 rfl) (by decide) rfl rfl ?_
  refine A_aload_n (dX5_round 4 rfl) rfl ?_
  refine A_get (dX5_round 5 rfl) fwX5_29 wK_0 cK_f0_4 ?_
  refine A_callVv 0 (dX5_round 6 rfl) cbX0_begin cwX5_158 (l_begin E ql gl al) rfl rfl wL_0 rfl rfl [22, 23, 24] rfl rfl (Nat.le_of_ble_eq_true rfl) (Nat.le_of_ble_eq_true rfl) (Nat.le_of_ble_eq_true rfl) (Nat.le_of_ble_eq_true rfl) (Nat.le_of_ble_eq_true rfl) (by rintro _ rfl; exact (Nat.le_of_ble_eq_true rfl)) ?_
  rintro w1 rfl
  refine AW.world (ws2 := wK E kq cg qf gf af qd gd ad qk gk ak ql (kbL gl) al qr gr ar rx qm qx gx ax qs sx qo go ao qp gp_ ap L) mK_l ?_
  have hs : cfs gf af (kbL gl) = p_try (cfs gf af gl) := cf_try
  have hG2 : GOOD (cfs gf af (kbL gl)) m := hG.gl
  refine AW.pcq (pc2 := 15) rfl ?_
  refine A_aload_n (dX5_round 7 rfl) rfl ?_
  refine A_get (dX5_round 8 rfl) fwX5_29 wK_0 cK_f0_4 ?_
  refine A_aload_n (dX5_round 9 rfl) rfl ?_
  refine A_get (dX5_round 10 rfl) fwX5_10 wK_0 cK_f0_0 ?_
  refine A_aload_n (dX5_round 11 rfl) rfl ?_
  refine A_get (dX5_round 12 rfl) fwX5_42 wK_0 cK_f0_6 ?_
  refine A_aload_n (dX5_round 13 rfl) rfl ?_
  refine A_get (dX5_round 14 rfl) fwX5_10 wK_0 cK_f0_0 ?_
  refine AW.pcq (pc2 := 31) rfl ?_
  refine A_get (dX5_round 15 rfl) fwX5_152 wK_1 cF_f0_10 ?_
  rw [hr4]
  refine A_aald 3 (dX5_round 16 rfl) wK_27 rfl (vp_in_nI (n := 0) (by decide) (by decide)) ?_
  rw [nI_clamp (n := 0) (by decide)]
  refine AW.stack (st2 := [.ref (qx 0 0), .ref (qf 0), .ref (ql 0)]) rfl ?_
  refine A_callVv 2 (dX5_round 17 rfl) cbX0_pass cwX5_161 (l_pass E ql (kbL gl) al qf gf af (qx 0) (gx 0) (ax 0) m C hC hG2.1 hG2.2.1 hG2.2.2) rfl rfl wLT_0 rfl rfl [22, 23, 24, 1, 2, 3, 4, 5, 6, 7, 28, 29, 30] rfl rfl (Nat.le_of_ble_eq_true rfl) (Nat.le_of_ble_eq_true rfl) (Nat.le_of_ble_eq_true rfl) (Nat.le_of_ble_eq_true rfl) (Nat.le_of_ble_eq_true rfl) (by rintro _ ⟨_, _, _, _, rfl, _⟩; exact (Nat.le_of_ble_eq_true rfl)) ?_
  rintro w1 ⟨gl2, al2, gf2, af2, rfl, hc2, h42, hd2, hz2⟩
  refine AW.world (ws2 := wK E kq cg qf gf2 af2 qd gd ad qk gk ak ql gl2 al2 qr gr ar rx qm qx gx ax qs sx qo go ao qp gp_ ap L) mK_lf0 ?_
  refine AW.pcq (pc2 := 38) rfl ?_
  refine A_aload_n (dX5_round 18 rfl) rfl ?_
  refine A_get (dX5_round 19 rfl) fwX5_10 wK_0 cK_f0_0 ?_
  refine A_get (dX5_round 20 rfl) fwX5_155 wK_1 cF_f0_9 ?_
  refine A_iload_n (dX5_round 21 rfl) rfl ?_
  refine A_isub (dX5_round 22 rfl) ?_
  refine A_ri (dX5_round 23 rfl) rfl rfl ?_
  exact ⟨gf2, gl2, af2, al2, rfl, hc2.trans (by rw [hs]; rfl), h42.trans hr4, rfl⟩

set_option maxRecDepth 100000 in
set_option maxHeartbeats 400000 in
theorem K_round1 (E : ag) (kq : Nat) (cg : Nat → Int32) (qf : Nat → Nat) (gf : Nat → Int32) (af : Nat → Nat → Int32) (qd : Nat → Nat) (gd : Nat → Int32) (ad : Nat → Nat → Int32) (qk : Nat → Nat) (gk : Nat → Int32) (ak : Nat → Nat → Int32) (ql : Nat → Nat) (gl : Nat → Int32) (al : Nat → Nat → Int32) (qr : Nat → Nat) (gr : Nat → Int32) (ar : Nat → Nat → Int32) (rx : Nat) (qm : Nat) (qx : Nat → Nat → Nat) (gx : Nat → Nat → Int32) (ax : Nat → Nat → Nat → Int32) (qs : Nat) (sx : Nat → Option Nat) (qo : Nat → Nat) (go : Nat → Int32) (ao : Nat → Nat → Int32) (qp : Nat → Nat) (gp_ : Nat → Int32) (ap : Nat → Nat → Int32) (L : va_W) (m : Nat) (C : Nat → List Int32) (hr4 : gf 4 = nI 1) (hC : TKC (ax 1) C) (hG : GOOD (cfs gf af gl) m) : CT E yX5_round cX5_round 2 mX5_round.2.2.2.1 5 0 0 [.ref kq] (wK E kq cg qf gf af qd gd ad qk gk ak ql gl al qr gr ar rx qm qx gx ax qs sx qo go ao qp gp_ ap L) (ri (fun r w => ∃ (gf2 gl2 : Nat → Int32) (af2 al2 : Nat → Nat → Int32), w = wK E kq cg qf gf2 af2 qd gd ad qk gk ak ql gl2 al2 qr gr ar rx qm qx gx ax qs sx qo go ao qp gp_ ap L ∧ cfs gf2 af2 gl2 = p_round C zro (p_try (cfs gf af gl)) ∧ gf2 4 = gf 4 ∧ r = gf2 3 - gf 3)) := by
  refine CT.of (M := mX5_round) (ls := [some (.ref kq), none]) (by decide) rfl (by decide) rfl (Nat.le_of_ble_eq_true rfl) ?_
  refine A_aload_n (dX5_round 0 rfl) rfl ?_
  refine A_get (dX5_round 1 rfl) fwX5_10 wK_0 cK_f0_0 ?_
  refine A_get (dX5_round 2 rfl) fwX5_155 wK_1 cF_f0_9 ?_
  refine A_istore_n (ls2 := [_, _]) (dX5_round 3 rfl) (by decide) rfl rfl ?_
  refine A_aload_n (dX5_round 4 rfl) rfl ?_
  refine A_get (dX5_round 5 rfl) fwX5_29 wK_0 cK_f0_4 ?_
  refine A_callVv 0 (dX5_round 6 rfl) cbX0_begin cwX5_158 (l_begin E ql gl al) rfl rfl wL_0 rfl rfl [22, 23, 24] rfl rfl (Nat.le_of_ble_eq_true rfl) (Nat.le_of_ble_eq_true rfl) (Nat.le_of_ble_eq_true rfl) (Nat.le_of_ble_eq_true rfl) (Nat.le_of_ble_eq_true rfl) (by rintro _ rfl; exact (Nat.le_of_ble_eq_true rfl)) ?_
  rintro w1 rfl
  refine AW.world (ws2 := wK E kq cg qf gf af qd gd ad qk gk ak ql (kbL gl) al qr gr ar rx qm qx gx ax qs sx qo go ao qp gp_ ap L) mK_l ?_
  have hs : cfs gf af (kbL gl) = p_try (cfs gf af gl) := cf_try
  have hG2 : GOOD (cfs gf af (kbL gl)) m := hG.gl
  refine AW.pcq (pc2 := 15) rfl ?_
  refine A_aload_n (dX5_round 7 rfl) rfl ?_
  refine A_get (dX5_round 8 rfl) fwX5_29 wK_0 cK_f0_4 ?_
  refine A_aload_n (dX5_round 9 rfl) rfl ?_
  refine A_get (dX5_round 10 rfl) fwX5_10 wK_0 cK_f0_0 ?_
  refine A_aload_n (dX5_round 11 rfl) rfl ?_
  refine A_get (dX5_round 12 rfl) fwX5_42 wK_0 cK_f0_6 ?_
  refine A_aload_n (dX5_round 13 rfl) rfl ?_
  refine A_get (dX5_round 14 rfl) fwX5_10 wK_0 cK_f0_0 ?_
  refine AW.pcq (pc2 := 31) rfl ?_
  refine A_get (dX5_round 15 rfl) fwX5_152 wK_1 cF_f0_10 ?_
  rw [hr4]
  refine A_aald 3 (dX5_round 16 rfl) wK_27 rfl (vp_in_nI (n := 1) (by decide) (by decide)) ?_
  rw [nI_clamp (n := 1) (by decide)]
  refine AW.stack (st2 := [.ref (qx 1 0), .ref (qf 0), .ref (ql 0)]) rfl ?_
  refine A_callVv 2 (dX5_round 17 rfl) cbX0_pass cwX5_161 (l_pass E ql (kbL gl) al qf gf af (qx 1) (gx 1) (ax 1) m C hC hG2.1 hG2.2.1 hG2.2.2) rfl rfl wLT_0 rfl rfl [22, 23, 24, 1, 2, 3, 4, 5, 6, 7, 31, 32, 33] rfl rfl (Nat.le_of_ble_eq_true rfl) (Nat.le_of_ble_eq_true rfl) (Nat.le_of_ble_eq_true rfl) (Nat.le_of_ble_eq_true rfl) (Nat.le_of_ble_eq_true rfl) (by rintro _ ⟨_, _, _, _, rfl, _⟩; exact (Nat.le_of_ble_eq_true rfl)) ?_
  rintro w1 ⟨gl2, al2, gf2, af2, rfl, hc2, h42, hd2, hz2⟩
  refine AW.world (ws2 := wK E kq cg qf gf2 af2 qd gd ad qk gk ak ql gl2 al2 qr gr ar rx qm qx gx ax qs sx qo go ao qp gp_ ap L) mK_lf1 ?_
  refine AW.pcq (pc2 := 38) rfl ?_
  refine A_aload_n (dX5_round 18 rfl) rfl ?_
  refine A_get (dX5_round 19 rfl) fwX5_10 wK_0 cK_f0_0 ?_
  refine A_get (dX5_round 20 rfl) fwX5_155 wK_1 cF_f0_9 ?_
  refine A_iload_n (dX5_round 21 rfl) rfl ?_
  refine A_isub (dX5_round 22 rfl) ?_
  refine A_ri (dX5_round 23 rfl) rfl rfl ?_
  exact ⟨gf2, gl2, af2, al2, rfl, hc2.trans (by rw [hs]; rfl), h42.trans hr4, rfl⟩

set_option maxRecDepth 100000 in
set_option maxHeartbeats 400000 in
theorem K_round2 (E : ag) (kq : Nat) (cg : Nat → Int32) (qf : Nat → Nat) (gf : Nat → Int32) (af : Nat → Nat → Int32) (qd : Nat → Nat) (gd : Nat → Int32) (ad : Nat → Nat → Int32) (qk : Nat → Nat) (gk : Nat → Int32) (ak : Nat → Nat → Int32) (ql : Nat → Nat) (gl : Nat → Int32) (al : Nat → Nat → Int32) (qr : Nat → Nat) (gr : Nat → Int32) (ar : Nat → Nat → Int32) (rx : Nat) (qm : Nat) (qx : Nat → Nat → Nat) (gx : Nat → Nat → Int32) (ax : Nat → Nat → Nat → Int32) (qs : Nat) (sx : Nat → Option Nat) (qo : Nat → Nat) (go : Nat → Int32) (ao : Nat → Nat → Int32) (qp : Nat → Nat) (gp_ : Nat → Int32) (ap : Nat → Nat → Int32) (L : va_W) (m : Nat) (C : Nat → List Int32) (hr4 : gf 4 = nI 2) (hC : TKC (ax 2) C) (hG : GOOD (cfs gf af gl) m) : CT E yX5_round cX5_round 2 mX5_round.2.2.2.1 5 0 0 [.ref kq] (wK E kq cg qf gf af qd gd ad qk gk ak ql gl al qr gr ar rx qm qx gx ax qs sx qo go ao qp gp_ ap L) (ri (fun r w => ∃ (gf2 gl2 : Nat → Int32) (af2 al2 : Nat → Nat → Int32), w = wK E kq cg qf gf2 af2 qd gd ad qk gk ak ql gl2 al2 qr gr ar rx qm qx gx ax qs sx qo go ao qp gp_ ap L ∧ cfs gf2 af2 gl2 = p_round C zro (p_try (cfs gf af gl)) ∧ gf2 4 = gf 4 ∧ r = gf2 3 - gf 3)) := by
  refine CT.of (M := mX5_round) (ls := [some (.ref kq), none]) (by decide) rfl (by decide) rfl (Nat.le_of_ble_eq_true rfl) ?_
  refine A_aload_n (dX5_round 0 rfl) rfl ?_
  refine A_get (dX5_round 1 rfl) fwX5_10 wK_0 cK_f0_0 ?_
  refine A_get (dX5_round 2 rfl) fwX5_155 wK_1 cF_f0_9 ?_
  refine A_istore_n (ls2 := [_, _]) (dX5_round 3 rfl) (by decide) rfl rfl ?_
  refine A_aload_n (dX5_round 4 rfl) rfl ?_
  refine A_get (dX5_round 5 rfl) fwX5_29 wK_0 cK_f0_4 ?_
  refine A_callVv 0 (dX5_round 6 rfl) cbX0_begin cwX5_158 (l_begin E ql gl al) rfl rfl wL_0 rfl rfl [22, 23, 24] rfl rfl (Nat.le_of_ble_eq_true rfl) (Nat.le_of_ble_eq_true rfl) (Nat.le_of_ble_eq_true rfl) (Nat.le_of_ble_eq_true rfl) (Nat.le_of_ble_eq_true rfl) (by rintro _ rfl; exact (Nat.le_of_ble_eq_true rfl)) ?_
  rintro w1 rfl
  refine AW.world (ws2 := wK E kq cg qf gf af qd gd ad qk gk ak ql (kbL gl) al qr gr ar rx qm qx gx ax qs sx qo go ao qp gp_ ap L) mK_l ?_
  have hs : cfs gf af (kbL gl) = p_try (cfs gf af gl) := cf_try
  have hG2 : GOOD (cfs gf af (kbL gl)) m := hG.gl
  refine AW.pcq (pc2 := 15) rfl ?_
  refine A_aload_n (dX5_round 7 rfl) rfl ?_
  refine A_get (dX5_round 8 rfl) fwX5_29 wK_0 cK_f0_4 ?_
  refine A_aload_n (dX5_round 9 rfl) rfl ?_
  refine A_get (dX5_round 10 rfl) fwX5_10 wK_0 cK_f0_0 ?_
  refine A_aload_n (dX5_round 11 rfl) rfl ?_
  refine A_get (dX5_round 12 rfl) fwX5_42 wK_0 cK_f0_6 ?_
  refine A_aload_n (dX5_round 13 rfl) rfl ?_
  refine A_get (dX5_round 14 rfl) fwX5_10 wK_0 cK_f0_0 ?_
  refine AW.pcq (pc2 := 31) rfl ?_
  refine A_get (dX5_round 15 rfl) fwX5_152 wK_1 cF_f0_10 ?_
  rw [hr4]
  refine A_aald 3 (dX5_round 16 rfl) wK_27 rfl (vp_in_nI (n := 2) (by decide) (by decide)) ?_
  rw [nI_clamp (n := 2) (by decide)]
  refine AW.stack (st2 := [.ref (qx 2 0), .ref (qf 0), .ref (ql 0)]) rfl ?_
  refine A_callVv 2 (dX5_round 17 rfl) cbX0_pass cwX5_161 (l_pass E ql (kbL gl) al qf gf af (qx 2) (gx 2) (ax 2) m C hC hG2.1 hG2.2.1 hG2.2.2) rfl rfl wLT_0 rfl rfl [22, 23, 24, 1, 2, 3, 4, 5, 6, 7, 34, 35, 36] rfl rfl (Nat.le_of_ble_eq_true rfl) (Nat.le_of_ble_eq_true rfl) (Nat.le_of_ble_eq_true rfl) (Nat.le_of_ble_eq_true rfl) (Nat.le_of_ble_eq_true rfl) (by rintro _ ⟨_, _, _, _, rfl, _⟩; exact (Nat.le_of_ble_eq_true rfl)) ?_
  rintro w1 ⟨gl2, al2, gf2, af2, rfl, hc2, h42, hd2, hz2⟩
  refine AW.world (ws2 := wK E kq cg qf gf2 af2 qd gd ad qk gk ak ql gl2 al2 qr gr ar rx qm qx gx ax qs sx qo go ao qp gp_ ap L) mK_lf2 ?_
  refine AW.pcq (pc2 := 38) rfl ?_
  refine A_aload_n (dX5_round 18 rfl) rfl ?_
  refine A_get (dX5_round 19 rfl) fwX5_10 wK_0 cK_f0_0 ?_
  refine A_get (dX5_round 20 rfl) fwX5_155 wK_1 cF_f0_9 ?_
  refine A_iload_n (dX5_round 21 rfl) rfl ?_
  refine A_isub (dX5_round 22 rfl) ?_
  refine A_ri (dX5_round 23 rfl) rfl rfl ?_
  exact ⟨gf2, gl2, af2, al2, rfl, hc2.trans (by rw [hs]; rfl), h42.trans hr4, rfl⟩

set_option maxRecDepth 100000 in
set_option maxHeartbeats 400000 in
theorem K_round3 (E : ag) (kq : Nat) (cg : Nat → Int32) (qf : Nat → Nat) (gf : Nat → Int32) (af : Nat → Nat → Int32) (qd : Nat → Nat) (gd : Nat → Int32) (ad : Nat → Nat → Int32) (qk : Nat → Nat) (gk : Nat → Int32) (ak : Nat → Nat → Int32) (ql : Nat → Nat) (gl : Nat → Int32) (al : Nat → Nat → Int32) (qr : Nat → Nat) (gr : Nat → Int32) (ar : Nat → Nat → Int32) (rx : Nat) (qm : Nat) (qx : Nat → Nat → Nat) (gx : Nat → Nat → Int32) (ax : Nat → Nat → Nat → Int32) (qs : Nat) (sx : Nat → Option Nat) (qo : Nat → Nat) (go : Nat → Int32) (ao : Nat → Nat → Int32) (qp : Nat → Nat) (gp_ : Nat → Int32) (ap : Nat → Nat → Int32) (L : va_W) (m : Nat) (C : Nat → List Int32) (hr4 : gf 4 = nI 3) (hC : TKC (ax 3) C) (hG : GOOD (cfs gf af gl) m) : CT E yX5_round cX5_round 2 mX5_round.2.2.2.1 5 0 0 [.ref kq] (wK E kq cg qf gf af qd gd ad qk gk ak ql gl al qr gr ar rx qm qx gx ax qs sx qo go ao qp gp_ ap L) (ri (fun r w => ∃ (gf2 gl2 : Nat → Int32) (af2 al2 : Nat → Nat → Int32), w = wK E kq cg qf gf2 af2 qd gd ad qk gk ak ql gl2 al2 qr gr ar rx qm qx gx ax qs sx qo go ao qp gp_ ap L ∧ cfs gf2 af2 gl2 = p_round C zro (p_try (cfs gf af gl)) ∧ gf2 4 = gf 4 ∧ r = gf2 3 - gf 3)) := by
  refine CT.of (M := mX5_round) (ls := [some (.ref kq), none]) (by decide) rfl (by decide) rfl (Nat.le_of_ble_eq_true rfl) ?_
  refine A_aload_n (dX5_round 0 rfl) rfl ?_
  refine A_get (dX5_round 1 rfl) fwX5_10 wK_0 cK_f0_0 ?_
  refine A_get (dX5_round 2 rfl) fwX5_155 wK_1 cF_f0_9 ?_
  refine A_istore_n (ls2 := [_, _]) (dX5_round 3 rfl) (by decide) rfl rfl ?_
  refine A_aload_n (dX5_round 4 rfl) rfl ?_
  refine A_get (dX5_round 5 rfl) fwX5_29 wK_0 cK_f0_4 ?_
  refine A_callVv 0 (dX5_round 6 rfl) cbX0_begin cwX5_158 (l_begin E ql gl al) rfl rfl wL_0 rfl rfl [22, 23, 24] rfl rfl (Nat.le_of_ble_eq_true rfl) (Nat.le_of_ble_eq_true rfl) (Nat.le_of_ble_eq_true rfl) (Nat.le_of_ble_eq_true rfl) (Nat.le_of_ble_eq_true rfl) (by rintro _ rfl; exact (Nat.le_of_ble_eq_true rfl)) ?_
  rintro w1 rfl
  refine AW.world (ws2 := wK E kq cg qf gf af qd gd ad qk gk ak ql (kbL gl) al qr gr ar rx qm qx gx ax qs sx qo go ao qp gp_ ap L) mK_l ?_
  have hs : cfs gf af (kbL gl) = p_try (cfs gf af gl) := cf_try
  have hG2 : GOOD (cfs gf af (kbL gl)) m := hG.gl
  refine AW.pcq (pc2 := 15) rfl ?_
  refine A_aload_n (dX5_round 7 rfl) rfl ?_
  refine A_get (dX5_round 8 rfl) fwX5_29 wK_0 cK_f0_4 ?_
  refine A_aload_n (dX5_round 9 rfl) rfl ?_
  refine A_get (dX5_round 10 rfl) fwX5_10 wK_0 cK_f0_0 ?_
  refine A_aload_n (dX5_round 11 rfl) rfl ?_
  refine A_get (dX5_round 12 rfl) fwX5_42 wK_0 cK_f0_6 ?_
  refine A_aload_n (dX5_round 13 rfl) rfl ?_
  refine A_get (dX5_round 14 rfl) fwX5_10 wK_0 cK_f0_0 ?_
  refine AW.pcq (pc2 := 31) rfl ?_
  refine A_get (dX5_round 15 rfl) fwX5_152 wK_1 cF_f0_10 ?_
  rw [hr4]
  refine A_aald 3 (dX5_round 16 rfl) wK_27 rfl (vp_in_nI (n := 3) (by decide) (by decide)) ?_
  rw [nI_clamp (n := 3) (by decide)]
  refine AW.stack (st2 := [.ref (qx 3 0), .ref (qf 0), .ref (ql 0)]) rfl ?_
  refine A_callVv 2 (dX5_round 17 rfl) cbX0_pass cwX5_161 (l_pass E ql (kbL gl) al qf gf af (qx 3) (gx 3) (ax 3) m C hC hG2.1 hG2.2.1 hG2.2.2) rfl rfl wLT_0 rfl rfl [22, 23, 24, 1, 2, 3, 4, 5, 6, 7, 37, 38, 39] rfl rfl (Nat.le_of_ble_eq_true rfl) (Nat.le_of_ble_eq_true rfl) (Nat.le_of_ble_eq_true rfl) (Nat.le_of_ble_eq_true rfl) (Nat.le_of_ble_eq_true rfl) (by rintro _ ⟨_, _, _, _, rfl, _⟩; exact (Nat.le_of_ble_eq_true rfl)) ?_
  rintro w1 ⟨gl2, al2, gf2, af2, rfl, hc2, h42, hd2, hz2⟩
  refine AW.world (ws2 := wK E kq cg qf gf2 af2 qd gd ad qk gk ak ql gl2 al2 qr gr ar rx qm qx gx ax qs sx qo go ao qp gp_ ap L) mK_lf3 ?_
  refine AW.pcq (pc2 := 38) rfl ?_
  refine A_aload_n (dX5_round 18 rfl) rfl ?_
  refine A_get (dX5_round 19 rfl) fwX5_10 wK_0 cK_f0_0 ?_
  refine A_get (dX5_round 20 rfl) fwX5_155 wK_1 cF_f0_9 ?_
  refine A_iload_n (dX5_round 21 rfl) rfl ?_
  refine A_isub (dX5_round 22 rfl) ?_
  refine A_ri (dX5_round 23 rfl) rfl rfl ?_
  exact ⟨gf2, gl2, af2, al2, rfl, hc2.trans (by rw [hs]; rfl), h42.trans hr4, rfl⟩

set_option maxRecDepth 100000 in
set_option maxHeartbeats 400000 in
theorem K_round4 (E : ag) (kq : Nat) (cg : Nat → Int32) (qf : Nat → Nat) (gf : Nat → Int32) (af : Nat → Nat → Int32) (qd : Nat → Nat) (gd : Nat → Int32) (ad : Nat → Nat → Int32) (qk : Nat → Nat) (gk : Nat → Int32) (ak : Nat → Nat → Int32) (ql : Nat → Nat) (gl : Nat → Int32) (al : Nat → Nat → Int32) (qr : Nat → Nat) (gr : Nat → Int32) (ar : Nat → Nat → Int32) (rx : Nat) (qm : Nat) (qx : Nat → Nat → Nat) (gx : Nat → Nat → Int32) (ax : Nat → Nat → Nat → Int32) (qs : Nat) (sx : Nat → Option Nat) (qo : Nat → Nat) (go : Nat → Int32) (ao : Nat → Nat → Int32) (qp : Nat → Nat) (gp_ : Nat → Int32) (ap : Nat → Nat → Int32) (L : va_W) (m : Nat) (C : Nat → List Int32) (hr4 : gf 4 = nI 4) (hC : TKC (ax 4) C) (hG : GOOD (cfs gf af gl) m) : CT E yX5_round cX5_round 2 mX5_round.2.2.2.1 5 0 0 [.ref kq] (wK E kq cg qf gf af qd gd ad qk gk ak ql gl al qr gr ar rx qm qx gx ax qs sx qo go ao qp gp_ ap L) (ri (fun r w => ∃ (gf2 gl2 : Nat → Int32) (af2 al2 : Nat → Nat → Int32), w = wK E kq cg qf gf2 af2 qd gd ad qk gk ak ql gl2 al2 qr gr ar rx qm qx gx ax qs sx qo go ao qp gp_ ap L ∧ cfs gf2 af2 gl2 = p_round C zro (p_try (cfs gf af gl)) ∧ gf2 4 = gf 4 ∧ r = gf2 3 - gf 3)) := by
  refine CT.of (M := mX5_round) (ls := [some (.ref kq), none]) (by decide) rfl (by decide) rfl (Nat.le_of_ble_eq_true rfl) ?_
  refine A_aload_n (dX5_round 0 rfl) rfl ?_
  refine A_get (dX5_round 1 rfl) fwX5_10 wK_0 cK_f0_0 ?_
  refine A_get (dX5_round 2 rfl) fwX5_155 wK_1 cF_f0_9 ?_
  refine A_istore_n (ls2 := [_, _]) (dX5_round 3 rfl) (by decide) rfl rfl ?_
  refine A_aload_n (dX5_round 4 rfl) rfl ?_
  refine A_get (dX5_round 5 rfl) fwX5_29 wK_0 cK_f0_4 ?_
  refine A_callVv 0 (dX5_round 6 rfl) cbX0_begin cwX5_158 (l_begin E ql gl al) rfl rfl wL_0 rfl rfl [22, 23, 24] rfl rfl (Nat.le_of_ble_eq_true rfl) (Nat.le_of_ble_eq_true rfl) (Nat.le_of_ble_eq_true rfl) (Nat.le_of_ble_eq_true rfl) (Nat.le_of_ble_eq_true rfl) (by rintro _ rfl; exact (Nat.le_of_ble_eq_true rfl)) ?_
  rintro w1 rfl
  refine AW.world (ws2 := wK E kq cg qf gf af qd gd ad qk gk ak ql (kbL gl) al qr gr ar rx qm qx gx ax qs sx qo go ao qp gp_ ap L) mK_l ?_
  have hs : cfs gf af (kbL gl) = p_try (cfs gf af gl) := cf_try
  have hG2 : GOOD (cfs gf af (kbL gl)) m := hG.gl
  refine AW.pcq (pc2 := 15) rfl ?_
  refine A_aload_n (dX5_round 7 rfl) rfl ?_
  refine A_get (dX5_round 8 rfl) fwX5_29 wK_0 cK_f0_4 ?_
  refine A_aload_n (dX5_round 9 rfl) rfl ?_
  refine A_get (dX5_round 10 rfl) fwX5_10 wK_0 cK_f0_0 ?_
  refine A_aload_n (dX5_round 11 rfl) rfl ?_
  refine A_get (dX5_round 12 rfl) fwX5_42 wK_0 cK_f0_6 ?_
  refine A_aload_n (dX5_round 13 rfl) rfl ?_
  refine A_get (dX5_round 14 rfl) fwX5_10 wK_0 cK_f0_0 ?_
  refine AW.pcq (pc2 := 31) rfl ?_
  refine A_get (dX5_round 15 rfl) fwX5_152 wK_1 cF_f0_10 ?_
  rw [hr4]
  refine A_aald 3 (dX5_round 16 rfl) wK_27 rfl (vp_in_nI (n := 4) (by decide) (by decide)) ?_
  rw [nI_clamp (n := 4) (by decide)]
  refine AW.stack (st2 := [.ref (qx 4 0), .ref (qf 0), .ref (ql 0)]) rfl ?_
  refine A_callVv 2 (dX5_round 17 rfl) cbX0_pass cwX5_161 (l_pass E ql (kbL gl) al qf gf af (qx 4) (gx 4) (ax 4) m C hC hG2.1 hG2.2.1 hG2.2.2) rfl rfl wLT_0 rfl rfl [22, 23, 24, 1, 2, 3, 4, 5, 6, 7, 40, 41, 42] rfl rfl (Nat.le_of_ble_eq_true rfl) (Nat.le_of_ble_eq_true rfl) (Nat.le_of_ble_eq_true rfl) (Nat.le_of_ble_eq_true rfl) (Nat.le_of_ble_eq_true rfl) (by rintro _ ⟨_, _, _, _, rfl, _⟩; exact (Nat.le_of_ble_eq_true rfl)) ?_
  rintro w1 ⟨gl2, al2, gf2, af2, rfl, hc2, h42, hd2, hz2⟩
  refine AW.world (ws2 := wK E kq cg qf gf2 af2 qd gd ad qk gk ak ql gl2 al2 qr gr ar rx qm qx gx ax qs sx qo go ao qp gp_ ap L) mK_lf4 ?_
  refine AW.pcq (pc2 := 38) rfl ?_
  refine A_aload_n (dX5_round 18 rfl) rfl ?_
  refine A_get (dX5_round 19 rfl) fwX5_10 wK_0 cK_f0_0 ?_
  refine A_get (dX5_round 20 rfl) fwX5_155 wK_1 cF_f0_9 ?_
  refine A_iload_n (dX5_round 21 rfl) rfl ?_
  refine A_isub (dX5_round 22 rfl) ?_
  refine A_ri (dX5_round 23 rfl) rfl rfl ?_
  exact ⟨gf2, gl2, af2, al2, rfl, hc2.trans (by rw [hs]; rfl), h42.trans hr4, rfl⟩

set_option maxRecDepth 100000 in
set_option maxHeartbeats 400000 in
theorem K_round5 (E : ag) (kq : Nat) (cg : Nat → Int32) (qf : Nat → Nat) (gf : Nat → Int32) (af : Nat → Nat → Int32) (qd : Nat → Nat) (gd : Nat → Int32) (ad : Nat → Nat → Int32) (qk : Nat → Nat) (gk : Nat → Int32) (ak : Nat → Nat → Int32) (ql : Nat → Nat) (gl : Nat → Int32) (al : Nat → Nat → Int32) (qr : Nat → Nat) (gr : Nat → Int32) (ar : Nat → Nat → Int32) (rx : Nat) (qm : Nat) (qx : Nat → Nat → Nat) (gx : Nat → Nat → Int32) (ax : Nat → Nat → Nat → Int32) (qs : Nat) (sx : Nat → Option Nat) (qo : Nat → Nat) (go : Nat → Int32) (ao : Nat → Nat → Int32) (qp : Nat → Nat) (gp_ : Nat → Int32) (ap : Nat → Nat → Int32) (L : va_W) (m : Nat) (C : Nat → List Int32) (hr4 : gf 4 = nI 5) (hC : TKC (ax 5) C) (hG : GOOD (cfs gf af gl) m) : CT E yX5_round cX5_round 2 mX5_round.2.2.2.1 5 0 0 [.ref kq] (wK E kq cg qf gf af qd gd ad qk gk ak ql gl al qr gr ar rx qm qx gx ax qs sx qo go ao qp gp_ ap L) (ri (fun r w => ∃ (gf2 gl2 : Nat → Int32) (af2 al2 : Nat → Nat → Int32), w = wK E kq cg qf gf2 af2 qd gd ad qk gk ak ql gl2 al2 qr gr ar rx qm qx gx ax qs sx qo go ao qp gp_ ap L ∧ cfs gf2 af2 gl2 = p_round C zro (p_try (cfs gf af gl)) ∧ gf2 4 = gf 4 ∧ r = gf2 3 - gf 3)) := by
  refine CT.of (M := mX5_round) (ls := [some (.ref kq), none]) (by decide) rfl (by decide) rfl (Nat.le_of_ble_eq_true rfl) ?_
  refine A_aload_n (dX5_round 0 rfl) rfl ?_
  refine A_get (dX5_round 1 rfl) fwX5_10 wK_0 cK_f0_0 ?_
  refine A_get (dX5_round 2 rfl) fwX5_155 wK_1 cF_f0_9 ?_
  refine A_istore_n (ls2 := [_, _]) (dX5_round 3 rfl) (by decide) rfl rfl ?_
  refine A_aload_n (dX5_round 4 rfl) rfl ?_
  refine A_get (dX5_round 5 rfl) fwX5_29 wK_0 cK_f0_4 ?_
  refine A_callVv 0 (dX5_round 6 rfl) cbX0_begin cwX5_158 (l_begin E ql gl al) rfl rfl wL_0 rfl rfl [22, 23, 24] rfl rfl (Nat.le_of_ble_eq_true rfl) (Nat.le_of_ble_eq_true rfl) (Nat.le_of_ble_eq_true rfl) (Nat.le_of_ble_eq_true rfl) (Nat.le_of_ble_eq_true rfl) (by rintro _ rfl; exact (Nat.le_of_ble_eq_true rfl)) ?_
  rintro w1 rfl
  refine AW.world (ws2 := wK E kq cg qf gf af qd gd ad qk gk ak ql (kbL gl) al qr gr ar rx qm qx gx ax qs sx qo go ao qp gp_ ap L) mK_l ?_
  have hs : cfs gf af (kbL gl) = p_try (cfs gf af gl) := cf_try
  have hG2 : GOOD (cfs gf af (kbL gl)) m := hG.gl
  refine AW.pcq (pc2 := 15) rfl ?_
  refine A_aload_n (dX5_round 7 rfl) rfl ?_
  refine A_get (dX5_round 8 rfl) fwX5_29 wK_0 cK_f0_4 ?_
  refine A_aload_n (dX5_round 9 rfl) rfl ?_
  refine A_get (dX5_round 10 rfl) fwX5_10 wK_0 cK_f0_0 ?_
  refine A_aload_n (dX5_round 11 rfl) rfl ?_
  refine A_get (dX5_round 12 rfl) fwX5_42 wK_0 cK_f0_6 ?_
  refine A_aload_n (dX5_round 13 rfl) rfl ?_
  refine A_get (dX5_round 14 rfl) fwX5_10 wK_0 cK_f0_0 ?_
  refine AW.pcq (pc2 := 31) rfl ?_
  refine A_get (dX5_round 15 rfl) fwX5_152 wK_1 cF_f0_10 ?_
  rw [hr4]
  refine A_aald 3 (dX5_round 16 rfl) wK_27 rfl (vp_in_nI (n := 5) (by decide) (by decide)) ?_
  rw [nI_clamp (n := 5) (by decide)]
  refine AW.stack (st2 := [.ref (qx 5 0), .ref (qf 0), .ref (ql 0)]) rfl ?_
  refine A_callVv 2 (dX5_round 17 rfl) cbX0_pass cwX5_161 (l_pass E ql (kbL gl) al qf gf af (qx 5) (gx 5) (ax 5) m C hC hG2.1 hG2.2.1 hG2.2.2) rfl rfl wLT_0 rfl rfl [22, 23, 24, 1, 2, 3, 4, 5, 6, 7, 43, 44, 45] rfl rfl (Nat.le_of_ble_eq_true rfl) (Nat.le_of_ble_eq_true rfl) (Nat.le_of_ble_eq_true rfl) (Nat.le_of_ble_eq_true rfl) (Nat.le_of_ble_eq_true rfl) (by rintro _ ⟨_, _, _, _, rfl, _⟩; exact (Nat.le_of_ble_eq_true rfl)) ?_
  rintro w1 ⟨gl2, al2, gf2, af2, rfl, hc2, h42, hd2, hz2⟩
  refine AW.world (ws2 := wK E kq cg qf gf2 af2 qd gd ad qk gk ak ql gl2 al2 qr gr ar rx qm qx gx ax qs sx qo go ao qp gp_ ap L) mK_lf5 ?_
  refine AW.pcq (pc2 := 38) rfl ?_
  refine A_aload_n (dX5_round 18 rfl) rfl ?_
  refine A_get (dX5_round 19 rfl) fwX5_10 wK_0 cK_f0_0 ?_
  refine A_get (dX5_round 20 rfl) fwX5_155 wK_1 cF_f0_9 ?_
  refine A_iload_n (dX5_round 21 rfl) rfl ?_
  refine A_isub (dX5_round 22 rfl) ?_
  refine A_ri (dX5_round 23 rfl) rfl rfl ?_
  exact ⟨gf2, gl2, af2, al2, rfl, hc2.trans (by rw [hs]; rfl), h42.trans hr4, rfl⟩

theorem K_round (E : ag) (kq : Nat) (cg : Nat → Int32) (qf : Nat → Nat) (gf : Nat → Int32) (af : Nat → Nat → Int32) (qd : Nat → Nat) (gd : Nat → Int32) (ad : Nat → Nat → Int32) (qk : Nat → Nat) (gk : Nat → Int32) (ak : Nat → Nat → Int32) (ql : Nat → Nat) (gl : Nat → Int32) (al : Nat → Nat → Int32) (qr : Nat → Nat) (gr : Nat → Int32) (ar : Nat → Nat → Int32) (rx : Nat) (qm : Nat) (qx : Nat → Nat → Nat) (gx : Nat → Nat → Int32) (ax : Nat → Nat → Nat → Int32) (qs : Nat) (sx : Nat → Option Nat) (qo : Nat → Nat) (go : Nat → Int32) (ao : Nat → Nat → Int32) (qp : Nat → Nat) (gp_ : Nat → Int32) (ap : Nat → Nat → Int32) (L : va_W) (t m : Nat) (ht : t < 6) (C : Nat → List Int32) (hr4 : gf 4 = nI t) (hC : TKC (ax t) C) (hG : GOOD (cfs gf af gl) m) : CT E yX5_round cX5_round 2 mX5_round.2.2.2.1 5 0 0 [.ref kq] (wK E kq cg qf gf af qd gd ad qk gk ak ql gl al qr gr ar rx qm qx gx ax qs sx qo go ao qp gp_ ap L) (ri (fun r w => ∃ (gf2 gl2 : Nat → Int32) (af2 al2 : Nat → Nat → Int32), w = wK E kq cg qf gf2 af2 qd gd ad qk gk ak ql gl2 al2 qr gr ar rx qm qx gx ax qs sx qo go ao qp gp_ ap L ∧ cfs gf2 af2 gl2 = p_round C zro (p_try (cfs gf af gl)) ∧ gf2 4 = gf 4 ∧ r = gf2 3 - gf 3)) := by
  match t with
  | 0 => exact K_round0 E kq cg qf gf af qd gd ad qk gk ak ql gl al qr gr ar rx qm qx gx ax qs sx qo go ao qp gp_ ap L m C hr4 hC hG
  | 1 => exact K_round1 E kq cg qf gf af qd gd ad qk gk ak ql gl al qr gr ar rx qm qx gx ax qs sx qo go ao qp gp_ ap L m C hr4 hC hG
  | 2 => exact K_round2 E kq cg qf gf af qd gd ad qk gk ak ql gl al qr gr ar rx qm qx gx ax qs sx qo go ao qp gp_ ap L m C hr4 hC hG
  | 3 => exact K_round3 E kq cg qf gf af qd gd ad qk gk ak ql gl al qr gr ar rx qm qx gx ax qs sx qo go ao qp gp_ ap L m C hr4 hC hG
  | 4 => exact K_round4 E kq cg qf gf af qd gd ad qk gk ak ql gl al qr gr ar rx qm qx gx ax qs sx qo go ao qp gp_ ap L m C hr4 hC hG
  | 5 => exact K_round5 E kq cg qf gf af qd gd ad qk gk ak ql gl al qr gr ar rx qm qx gx ax qs sx qo go ao qp gp_ ap L m C hr4 hC hG
  | t + 6 => omega
