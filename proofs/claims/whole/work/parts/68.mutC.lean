set_option maxRecDepth 100000 in
set_option maxHeartbeats 4000000 in
theorem mK_a0 {E : ag} {kq : Nat} {cg : Nat → Int32} {qf : Nat → Nat} {gf : Nat → Int32} {af : Nat → Nat → Int32} {qd : Nat → Nat} {gd : Nat → Int32} {ad : Nat → Nat → Int32} {qk : Nat → Nat} {gk : Nat → Int32} {ak : Nat → Nat → Int32} {ql : Nat → Nat} {gl : Nat → Int32} {al : Nat → Nat → Int32} {qr : Nat → Nat} {gr : Nat → Int32} {ar : Nat → Nat → Int32} {rx : Nat} {qm : Nat} {qx : Nat → Nat → Nat} {gx : Nat → Nat → Int32} {ax : Nat → Nat → Nat → Int32} {qs : Nat} {sx : Nat → Option Nat} {qo : Nat → Nat} {go : Nat → Int32} {ao : Nat → Nat → Int32} {qp : Nat → Nat} {gp_ : Nat → Int32} {ap : Nat → Nat → Int32} {L : va_W} {f : Nat → Int32} : mrg (wK E kq cg qf gf af qd gd ad qk gk ak ql gl al qr gr ar rx qm qx gx ax qs sx qo go ao qp gp_ ap L) [2] (wA E (qf 1) 12 f) = wK E kq cg qf gf (va_up af 0 f) qd gd ad qk gk ak ql gl al qr gr ar rx qm qx gx ax qs sx qo go ao qp gp_ ap L := by
  simp only [wK, cF, cL, cR, cT, cO, wFF, wF, wL, wLT, wR, wR1, wT, wFO, wA, mrg, List.cons_append, List.nil_append, List.append_nil, List.set_cons_succ, List.set_cons_zero]
  rfl
set_option maxRecDepth 100000 in
set_option maxHeartbeats 4000000 in
theorem mK_a1 {E : ag} {kq : Nat} {cg : Nat → Int32} {qf : Nat → Nat} {gf : Nat → Int32} {af : Nat → Nat → Int32} {qd : Nat → Nat} {gd : Nat → Int32} {ad : Nat → Nat → Int32} {qk : Nat → Nat} {gk : Nat → Int32} {ak : Nat → Nat → Int32} {ql : Nat → Nat} {gl : Nat → Int32} {al : Nat → Nat → Int32} {qr : Nat → Nat} {gr : Nat → Int32} {ar : Nat → Nat → Int32} {rx : Nat} {qm : Nat} {qx : Nat → Nat → Nat} {gx : Nat → Nat → Int32} {ax : Nat → Nat → Nat → Int32} {qs : Nat} {sx : Nat → Option Nat} {qo : Nat → Nat} {go : Nat → Int32} {ao : Nat → Nat → Int32} {qp : Nat → Nat} {gp_ : Nat → Int32} {ap : Nat → Nat → Int32} {L : va_W} {f : Nat → Int32} : mrg (wK E kq cg qf gf af qd gd ad qk gk ak ql gl al qr gr ar rx qm qx gx ax qs sx qo go ao qp gp_ ap L) [3] (wA E (qf 2) 12 f) = wK E kq cg qf gf (va_up af 1 f) qd gd ad qk gk ak ql gl al qr gr ar rx qm qx gx ax qs sx qo go ao qp gp_ ap L := by
  simp only [wK, cF, cL, cR, cT, cO, wFF, wF, wL, wLT, wR, wR1, wT, wFO, wA, mrg, List.cons_append, List.nil_append, List.append_nil, List.set_cons_succ, List.set_cons_zero]
  rfl
set_option maxRecDepth 100000 in
set_option maxHeartbeats 4000000 in
theorem mK_a2 {E : ag} {kq : Nat} {cg : Nat → Int32} {qf : Nat → Nat} {gf : Nat → Int32} {af : Nat → Nat → Int32} {qd : Nat → Nat} {gd : Nat → Int32} {ad : Nat → Nat → Int32} {qk : Nat → Nat} {gk : Nat → Int32} {ak : Nat → Nat → Int32} {ql : Nat → Nat} {gl : Nat → Int32} {al : Nat → Nat → Int32} {qr : Nat → Nat} {gr : Nat → Int32} {ar : Nat → Nat → Int32} {rx : Nat} {qm : Nat} {qx : Nat → Nat → Nat} {gx : Nat → Nat → Int32} {ax : Nat → Nat → Nat → Int32} {qs : Nat} {sx : Nat → Option Nat} {qo : Nat → Nat} {go : Nat → Int32} {ao : Nat → Nat → Int32} {qp : Nat → Nat} {gp_ : Nat → Int32} {ap : Nat → Nat → Int32} {L : va_W} {f : Nat → Int32} : mrg (wK E kq cg qf gf af qd gd ad qk gk ak ql gl al qr gr ar rx qm qx gx ax qs sx qo go ao qp gp_ ap L) [4] (wA E (qf 3) 5 f) = wK E kq cg qf gf (va_up af 2 f) qd gd ad qk gk ak ql gl al qr gr ar rx qm qx gx ax qs sx qo go ao qp gp_ ap L := by
  simp only [wK, cF, cL, cR, cT, cO, wFF, wF, wL, wLT, wR, wR1, wT, wFO, wA, mrg, List.cons_append, List.nil_append, List.append_nil, List.set_cons_succ, List.set_cons_zero]
  rfl
set_option maxRecDepth 100000 in
set_option maxHeartbeats 4000000 in
theorem mK_a3 {E : ag} {kq : Nat} {cg : Nat → Int32} {qf : Nat → Nat} {gf : Nat → Int32} {af : Nat → Nat → Int32} {qd : Nat → Nat} {gd : Nat → Int32} {ad : Nat → Nat → Int32} {qk : Nat → Nat} {gk : Nat → Int32} {ak : Nat → Nat → Int32} {ql : Nat → Nat} {gl : Nat → Int32} {al : Nat → Nat → Int32} {qr : Nat → Nat} {gr : Nat → Int32} {ar : Nat → Nat → Int32} {rx : Nat} {qm : Nat} {qx : Nat → Nat → Nat} {gx : Nat → Nat → Int32} {ax : Nat → Nat → Nat → Int32} {qs : Nat} {sx : Nat → Option Nat} {qo : Nat → Nat} {go : Nat → Int32} {ao : Nat → Nat → Int32} {qp : Nat → Nat} {gp_ : Nat → Int32} {ap : Nat → Nat → Int32} {L : va_W} {f : Nat → Int32} : mrg (wK E kq cg qf gf af qd gd ad qk gk ak ql gl al qr gr ar rx qm qx gx ax qs sx qo go ao qp gp_ ap L) [5] (wA E (qf 4) 5 f) = wK E kq cg qf gf (va_up af 3 f) qd gd ad qk gk ak ql gl al qr gr ar rx qm qx gx ax qs sx qo go ao qp gp_ ap L := by
  simp only [wK, cF, cL, cR, cT, cO, wFF, wF, wL, wLT, wR, wR1, wT, wFO, wA, mrg, List.cons_append, List.nil_append, List.append_nil, List.set_cons_succ, List.set_cons_zero]
  rfl
set_option maxRecDepth 100000 in
set_option maxHeartbeats 4000000 in
theorem mK_a4 {E : ag} {kq : Nat} {cg : Nat → Int32} {qf : Nat → Nat} {gf : Nat → Int32} {af : Nat → Nat → Int32} {qd : Nat → Nat} {gd : Nat → Int32} {ad : Nat → Nat → Int32} {qk : Nat → Nat} {gk : Nat → Int32} {ak : Nat → Nat → Int32} {ql : Nat → Nat} {gl : Nat → Int32} {al : Nat → Nat → Int32} {qr : Nat → Nat} {gr : Nat → Int32} {ar : Nat → Nat → Int32} {rx : Nat} {qm : Nat} {qx : Nat → Nat → Nat} {gx : Nat → Nat → Int32} {ax : Nat → Nat → Nat → Int32} {qs : Nat} {sx : Nat → Option Nat} {qo : Nat → Nat} {go : Nat → Int32} {ao : Nat → Nat → Int32} {qp : Nat → Nat} {gp_ : Nat → Int32} {ap : Nat → Nat → Int32} {L : va_W} {f : Nat → Int32} : mrg (wK E kq cg qf gf af qd gd ad qk gk ak ql gl al qr gr ar rx qm qx gx ax qs sx qo go ao qp gp_ ap L) [6] (wA E (qf 5) 5 f) = wK E kq cg qf gf (va_up af 4 f) qd gd ad qk gk ak ql gl al qr gr ar rx qm qx gx ax qs sx qo go ao qp gp_ ap L := by
  simp only [wK, cF, cL, cR, cT, cO, wFF, wF, wL, wLT, wR, wR1, wT, wFO, wA, mrg, List.cons_append, List.nil_append, List.append_nil, List.set_cons_succ, List.set_cons_zero]
  rfl
set_option maxRecDepth 100000 in
set_option maxHeartbeats 4000000 in
theorem mK_a5 {E : ag} {kq : Nat} {cg : Nat → Int32} {qf : Nat → Nat} {gf : Nat → Int32} {af : Nat → Nat → Int32} {qd : Nat → Nat} {gd : Nat → Int32} {ad : Nat → Nat → Int32} {qk : Nat → Nat} {gk : Nat → Int32} {ak : Nat → Nat → Int32} {ql : Nat → Nat} {gl : Nat → Int32} {al : Nat → Nat → Int32} {qr : Nat → Nat} {gr : Nat → Int32} {ar : Nat → Nat → Int32} {rx : Nat} {qm : Nat} {qx : Nat → Nat → Nat} {gx : Nat → Nat → Int32} {ax : Nat → Nat → Nat → Int32} {qs : Nat} {sx : Nat → Option Nat} {qo : Nat → Nat} {go : Nat → Int32} {ao : Nat → Nat → Int32} {qp : Nat → Nat} {gp_ : Nat → Int32} {ap : Nat → Nat → Int32} {L : va_W} {f : Nat → Int32} : mrg (wK E kq cg qf gf af qd gd ad qk gk ak ql gl al qr gr ar rx qm qx gx ax qs sx qo go ao qp gp_ ap L) [7] (wA E (qf 6) 5 f) = wK E kq cg qf gf (va_up af 5 f) qd gd ad qk gk ak ql gl al qr gr ar rx qm qx gx ax qs sx qo go ao qp gp_ ap L := by
  simp only [wK, cF, cL, cR, cT, cO, wFF, wF, wL, wLT, wR, wR1, wT, wFO, wA, mrg, List.cons_append, List.nil_append, List.append_nil, List.set_cons_succ, List.set_cons_zero]
  rfl
set_option maxRecDepth 100000 in
set_option maxHeartbeats 400000 in
theorem K_man (E : ag) (kq : Nat) (cg : Nat → Int32) (qf : Nat → Nat) (gf : Nat → Int32) (af : Nat → Nat → Int32) (qd : Nat → Nat) (gd : Nat → Int32) (ad : Nat → Nat → Int32) (qk : Nat → Nat) (gk : Nat → Int32) (ak : Nat → Nat → Int32) (ql : Nat → Nat) (gl : Nat → Int32) (al : Nat → Nat → Int32) (qr : Nat → Nat) (gr : Nat → Int32) (ar : Nat → Nat → Int32) (rx : Nat) (qm : Nat) (qx : Nat → Nat → Nat) (gx : Nat → Nat → Int32) (ax : Nat → Nat → Nat → Int32) (qs : Nat) (sx : Nat → Option Nat) (qo : Nat → Nat) (go : Nat → Int32) (ao : Nat → Nat → Int32) (qp : Nat → Nat) (gp_ : Nat → Int32) (ap : Nat → Nat → Int32) (L : va_W) (m : Nat) (hm5 : m ≤ 5) (hgm : gf 0 = nI m) (k b w : Int32) : CT E yX5_man cX5_man 4 mX5_man.2.2.2.1 3 0 0 [.ref kq, .int k, .int b, .int w] (wK E kq cg qf gf af qd gd ad qk gk ak ql gl al qr gr ar rx qm qx gx ax qs sx qo go ao qp gp_ ap L) (ri (fun r ws => (bad3 k b w ∧ r = -2 ∧ ws = wK E kq cg qf gf af qd gd ad qk gk ak ql gl al qr gr ar rx qm qx gx ax qs sx qo go ao qp gp_ ap L) ∨ (¬ bad3 k b w ∧ m = 5 ∧ r = -4 ∧ ws = wK E kq cg qf gf af qd gd ad qk gk ak ql gl al qr gr ar rx qm qx gx ax qs sx qo go ao qp gp_ ap L) ∨ (¬ bad3 k b w ∧ m < 5 ∧ r = gf 0 ∧ ws = wK E kq cg qf (upd gf 0 (gf 0 + 1)) (va_up (va_up (va_up (va_up af 2 (upd (af 2) m k)) 3 (upd (af 3) m (hld b (gf 1)))) 4 (upd (af 4) m (w / 10))) 5 (upd (af 5) m (w - w / 10 * 10))) qd gd ad qk gk ak ql gl al qr gr ar rx qm qx gx ax qs sx qo go ao qp gp_ ap L))) := by
  refine CT.of (M := mX5_man) (ls := [some (.ref kq), some (.int k), some (.int b), some (.int w)]) (by decide) rfl (by decide) rfl (Nat.le_of_ble_eq_true rfl) ?_
  refine A_iload_n (dX5_man 0 rfl) rfl ?_
  refine A_if_lt 28 (dX5_man 1 rfl) (by decide) (fun h1 => ?_) (fun h1 => ?_)
  · refine A_bipush (-2) (dX5_man 13 rfl) (by decide +kernel) ?_
    refine A_ri (dX5_man 14 rfl) rfl rfl ?_
    refine Or.inl ⟨?_, rfl, rfl⟩
    first | exact Or.inl (by assumption) | exact Or.inr (by assumption) | exact Or.inl (inI_lo (fun z => absurd z (Int32.not_le.mpr (by assumption)))) | exact Or.inl (inI_hi (fun z => absurd z (Int32.not_le.mpr (by assumption)))) | exact Or.inr (Or.inl (by assumption)) | exact Or.inr (Or.inr (by assumption))
  · refine A_iload_n (dX5_man 2 rfl) rfl ?_
    refine A_iconst (5) (dX5_man 3 rfl) (by decide +kernel) ?_
    refine A_icmp_gt 28 (dX5_man 4 rfl) (by decide) (fun h6 => ?_) (fun h6 => ?_)
    · refine A_bipush (-2) (dX5_man 13 rfl) (by decide +kernel) ?_
      refine A_ri (dX5_man 14 rfl) rfl rfl ?_
      refine Or.inl ⟨?_, rfl, rfl⟩
      first | exact Or.inl (by assumption) | exact Or.inr (by assumption) | exact Or.inl (inI_lo (fun z => absurd z (Int32.not_le.mpr (by assumption)))) | exact Or.inl (inI_hi (fun z => absurd z (Int32.not_le.mpr (by assumption)))) | exact Or.inr (Or.inl (by assumption)) | exact Or.inr (Or.inr (by assumption))
    · refine A_iload_n (dX5_man 5 rfl) rfl ?_
      refine A_sipush (239) (dX5_man 6 rfl) (by decide +kernel) ?_
      refine A_callSWi 2 (dX5_man 7 rfl) cbX5_within cwX5_87 (k_within E _ b 239) rfl rfl (Nat.le_of_ble_eq_true rfl) (Nat.le_of_ble_eq_true rfl) (Nat.le_of_ble_eq_true rfl) (Nat.le_of_ble_eq_true rfl) (Nat.le_of_ble_eq_true rfl) ?_
      rintro r13 w1 ⟨rfl, rfl⟩
      refine AW.pcq (pc2 := 16) rfl ?_
      refine A_if_eq 28 (dX5_man 8 rfl) (by decide) (fun h16 => ?_) (fun h16 => ?_)
      · refine A_bipush (-2) (dX5_man 13 rfl) (by decide +kernel) ?_
        refine A_ri (dX5_man 14 rfl) rfl rfl ?_
        refine Or.inl ⟨?_, rfl, rfl⟩
        first | exact Or.inl (by assumption) | exact Or.inr (by assumption) | exact Or.inl (inI_lo (fun z => absurd z (Int32.not_le.mpr (by assumption)))) | exact Or.inl (inI_hi (fun z => absurd z (Int32.not_le.mpr (by assumption)))) | exact Or.inr (Or.inl (by assumption)) | exact Or.inr (Or.inr (by assumption))
      · refine A_iload_n (dX5_man 9 rfl) rfl ?_
        refine A_bipush (99) (dX5_man 10 rfl) (by decide +kernel) ?_
        refine A_callSWi 2 (dX5_man 11 rfl) cbX5_within cwX5_87 (k_within E _ w 99) rfl rfl (Nat.le_of_ble_eq_true rfl) (Nat.le_of_ble_eq_true rfl) (Nat.le_of_ble_eq_true rfl) (Nat.le_of_ble_eq_true rfl) (Nat.le_of_ble_eq_true rfl) ?_
        rintro r22 w1 ⟨rfl, rfl⟩
        refine AW.pcq (pc2 := 25) rfl ?_
        refine A_if_ne 31 (dX5_man 12 rfl) (by decide) (fun h25 => ?_) (fun h25 => ?_)
        · have hbad : ¬ bad3 k b w := by
            rintro (z | z | z)
            · rw [inI_of (Int32.not_lt.mp h1) (Int32.not_lt.mp h6)] at z; exact absurd z (by decide)
            · exact h16 z
            · exact h25 z
          refine A_aload_n (dX5_man 15 rfl) rfl ?_
          refine A_get (dX5_man 16 rfl) fwX5_10 wK_0 cK_f0_0 ?_
          refine A_get (dX5_man 17 rfl) fwX5_91 wK_1 cF_f0_6 ?_
          refine A_iconst (5) (dX5_man 18 rfl) (by decide +kernel) ?_
          refine A_icmp_lt 45 (dX5_man 19 rfl) (by decide) (fun h39 => ?_) (fun h39 => ?_)
          · have hm6 : m < 5 := by
              rw [hgm] at h39
              rcases Nat.lt_or_ge m 5 with z | z
              · exact z
              · exact absurd h39 (Int32.not_lt.mpr (nI_le (a := 5) z (by omega)))
            refine A_aload_n (dX5_man 22 rfl) rfl ?_
            refine A_get (dX5_man 23 rfl) fwX5_10 wK_0 cK_f0_0 ?_
            refine A_iload_n (dX5_man 24 rfl) rfl ?_
            refine A_iload_n (dX5_man 25 rfl) rfl ?_
            refine A_iload_n (dX5_man 26 rfl) rfl ?_
            refine A_callVi 3 (dX5_man 27 rfl) cbX1_add cwX5_94 (f_add E qf gf af k b w m hm6 hgm) rfl rfl wF_0 rfl rfl [1, 2, 3, 4, 5, 6, 7] rfl rfl (Nat.le_of_ble_eq_true rfl) (Nat.le_of_ble_eq_true rfl) (Nat.le_of_ble_eq_true rfl) (Nat.le_of_ble_eq_true rfl) (Nat.le_of_ble_eq_true rfl) (by rintro _ _ ⟨_, rfl⟩; exact (Nat.le_of_ble_eq_true rfl)) ?_
            rintro r52 w1 ⟨rfl, rfl⟩
            refine AW.world (ws2 := wK E kq cg qf (upd gf 0 (gf 0 + 1)) (va_up (va_up (va_up (va_up af 2 (upd (af 2) m k)) 3 (upd (af 3) m (hld b (gf 1)))) 4 (upd (af 4) m (w / 10))) 5 (upd (af 5) m (w - w / 10 * 10))) qd gd ad qk gk ak ql gl al qr gr ar rx qm qx gx ax qs sx qo go ao qp gp_ ap L) mK_f ?_
            refine AW.pcq (pc2 := 55) rfl ?_
            refine A_ri (dX5_man 28 rfl) rfl rfl ?_
            exact Or.inr (Or.inr ⟨hbad, hm6, rfl, rfl⟩)
          · have hm6 : m = 5 := by
              rw [hgm] at h39
              rcases Nat.lt_or_ge m 5 with z | z
              · exact absurd (nI_lt z (by decide)) h39
              · omega
            refine A_bipush (-4) (dX5_man 20 rfl) (by decide +kernel) ?_
            refine A_ri (dX5_man 21 rfl) rfl rfl ?_
            exact Or.inr (Or.inl ⟨hbad, hm6, rfl, rfl⟩)
        · refine A_bipush (-2) (dX5_man 13 rfl) (by decide +kernel) ?_
          refine A_ri (dX5_man 14 rfl) rfl rfl ?_
          refine Or.inl ⟨?_, rfl, rfl⟩
          first | exact Or.inl (by assumption) | exact Or.inr (by assumption) | exact Or.inl (inI_lo (fun z => absurd z (Int32.not_le.mpr (by assumption)))) | exact Or.inl (inI_hi (fun z => absurd z (Int32.not_le.mpr (by assumption)))) | exact Or.inr (Or.inl (by assumption)) | exact Or.inr (Or.inr (by assumption))

set_option maxRecDepth 100000 in
set_option maxHeartbeats 400000 in
theorem K_set0 (E : ag) (kq : Nat) (cg : Nat → Int32) (qf : Nat → Nat) (gf : Nat → Int32) (af : Nat → Nat → Int32) (qd : Nat → Nat) (gd : Nat → Int32) (ad : Nat → Nat → Int32) (qk : Nat → Nat) (gk : Nat → Int32) (ak : Nat → Nat → Int32) (ql : Nat → Nat) (gl : Nat → Int32) (al : Nat → Nat → Int32) (qr : Nat → Nat) (gr : Nat → Int32) (ar : Nat → Nat → Int32) (rx : Nat) (qm : Nat) (qx : Nat → Nat → Nat) (gx : Nat → Nat → Int32) (ax : Nat → Nat → Nat → Int32) (qs : Nat) (sx : Nat → Option Nat) (qo : Nat → Nat) (go : Nat → Int32) (ao : Nat → Nat → Int32) (qp : Nat → Nat) (gp_ : Nat → Int32) (ap : Nat → Nat → Int32) (L : va_W) (m : Nat) (hm5 : m ≤ 5) (hgm : gf 0 = nI m) (i v : Int32) : CT E yX5_set cX5_set 4 mX5_set.2.2.2.1 3 0 0 [.ref kq, .int 0, .int i, .int v] (wK E kq cg qf gf af qd gd ad qk gk ak ql gl al qr gr ar rx qm qx gx ax qs sx qo go ao qp gp_ ap L) (ri (fun r ws => ((inI i 0 11 = 0 ∨ inI v 0 9999 = 0) ∧ r = -2 ∧ ws = wK E kq cg qf gf af qd gd ad qk gk ak ql gl al qr gr ar rx qm qx gx ax qs sx qo go ao qp gp_ ap L) ∨ (¬ (inI i 0 11 = 0 ∨ inI v 0 9999 = 0) ∧ r = af 0 i.toNatClampNeg ∧ ws = wK E kq cg qf gf (va_up af 0 (upd (af 0) i.toNatClampNeg v)) qd gd ad qk gk ak ql gl al qr gr ar rx qm qx gx ax qs sx qo go ao qp gp_ ap L))) := by
  refine CT.of (M := mX5_set) (ls := [some (.ref kq), some (.int 0), some (.int i), some (.int v)]) (by decide) rfl (by decide) rfl (Nat.le_of_ble_eq_true rfl) ?_
  refine A_iload_n (dX5_set 0 rfl) rfl ?_
  refine A_tableIn (39) 40 (dX5_set 1 rfl) (by decide) (by decide) rfl (by decide) ?_
  refine A_iload_n (dX5_set 2 rfl) rfl ?_
  refine A_callSWi 1 (dX5_set 3 rfl) cbX5_isCell cwX5_97 (k_isCell E _ i) rfl rfl (Nat.le_of_ble_eq_true rfl) (Nat.le_of_ble_eq_true rfl) (Nat.le_of_ble_eq_true rfl) (Nat.le_of_ble_eq_true rfl) (Nat.le_of_ble_eq_true rfl) ?_
  rintro r41 w1 ⟨rfl, rfl⟩
  refine AW.pcq (pc2 := 44) rfl ?_
  refine A_if_eq 72 (dX5_set 4 rfl) (by decide) (fun h44 => ?_) (fun h44 => ?_)
  · refine A_bipush (-2) (dX5_set 16 rfl) (by decide +kernel) ?_
    refine A_ri (dX5_set 17 rfl) rfl rfl ?_
    first
      | exact Or.inr ⟨hbad, rfl, rfl⟩
      | exact Or.inl ⟨Or.inl (by assumption), rfl, rfl⟩
      | exact Or.inl ⟨Or.inr (by assumption), rfl, rfl⟩
  · refine A_iload_n (dX5_set 5 rfl) rfl ?_
    refine A_sipush (9999) (dX5_set 6 rfl) (by decide +kernel) ?_
    refine A_callSWi 2 (dX5_set 7 rfl) cbX5_within cwX5_87 (k_within E _ v 9999) rfl rfl (Nat.le_of_ble_eq_true rfl) (Nat.le_of_ble_eq_true rfl) (Nat.le_of_ble_eq_true rfl) (Nat.le_of_ble_eq_true rfl) (Nat.le_of_ble_eq_true rfl) ?_
    rintro r51 w1 ⟨rfl, rfl⟩
    refine AW.pcq (pc2 := 54) rfl ?_
    refine A_if_eq 72 (dX5_set 8 rfl) (by decide) (fun h54 => ?_) (fun h54 => ?_)
    · refine A_bipush (-2) (dX5_set 16 rfl) (by decide +kernel) ?_
      refine A_ri (dX5_set 17 rfl) rfl rfl ?_
      first
        | exact Or.inr ⟨hbad, rfl, rfl⟩
        | exact Or.inl ⟨Or.inl (by assumption), rfl, rfl⟩
        | exact Or.inl ⟨Or.inr (by assumption), rfl, rfl⟩
    · refine A_aload_n (dX5_set 9 rfl) rfl ?_
      refine A_get (dX5_set 10 rfl) fwX5_10 wK_0 cK_f0_0 ?_
      refine A_get (dX5_set 11 rfl) fwX5_100 wK_1 cF_f0_0 ?_
      refine A_iload_n (dX5_set 12 rfl) rfl ?_
      refine A_iload_n (dX5_set 13 rfl) rfl ?_
      have hbad : ¬ (inI i 0 11 = 0 ∨ inI v 0 9999 = 0) := fun z => z.elim h44 h54
      have hvp : vp_in i 12 := by
        obtain ⟨i0, hi0, e⟩ := cell_nI h44
        rw [e]; exact vp_in_nI (by omega) (by decide)
      refine A_callSi 3 (dX5_set 14 rfl) cbX5_exchange cwX5_103 (k_exchange E (qf 1) 12 (af 0) i v hvp) rfl rfl [2] rfl rfl (Nat.le_of_ble_eq_true rfl) (Nat.le_of_ble_eq_true rfl) (Nat.le_of_ble_eq_true rfl) (Nat.le_of_ble_eq_true rfl) (Nat.le_of_ble_eq_true rfl) (by rintro _ _ ⟨_, rfl⟩; exact (Nat.le_of_ble_eq_true rfl)) ?_
      rintro r66 w1 ⟨rfl, rfl⟩
      refine AW.world (ws2 := wK E kq cg qf gf (va_up af 0 (upd (af 0) i.toNatClampNeg v)) qd gd ad qk gk ak ql gl al qr gr ar rx qm qx gx ax qs sx qo go ao qp gp_ ap L) mK_a0 ?_
      refine AW.pcq (pc2 := 69) rfl ?_
      refine A_goto 74 (dX5_set 15 rfl) (by decide) ?_
      refine A_ri (dX5_set 17 rfl) rfl rfl ?_
      first
        | exact Or.inr ⟨hbad, rfl, rfl⟩
        | exact Or.inl ⟨Or.inl (by assumption), rfl, rfl⟩
        | exact Or.inl ⟨Or.inr (by assumption), rfl, rfl⟩

set_option maxRecDepth 100000 in
set_option maxHeartbeats 400000 in
theorem K_set1 (E : ag) (kq : Nat) (cg : Nat → Int32) (qf : Nat → Nat) (gf : Nat → Int32) (af : Nat → Nat → Int32) (qd : Nat → Nat) (gd : Nat → Int32) (ad : Nat → Nat → Int32) (qk : Nat → Nat) (gk : Nat → Int32) (ak : Nat → Nat → Int32) (ql : Nat → Nat) (gl : Nat → Int32) (al : Nat → Nat → Int32) (qr : Nat → Nat) (gr : Nat → Int32) (ar : Nat → Nat → Int32) (rx : Nat) (qm : Nat) (qx : Nat → Nat → Nat) (gx : Nat → Nat → Int32) (ax : Nat → Nat → Nat → Int32) (qs : Nat) (sx : Nat → Option Nat) (qo : Nat → Nat) (go : Nat → Int32) (ao : Nat → Nat → Int32) (qp : Nat → Nat) (gp_ : Nat → Int32) (ap : Nat → Nat → Int32) (L : va_W) (m : Nat) (hm5 : m ≤ 5) (hgm : gf 0 = nI m) (i v : Int32) : CT E yX5_set cX5_set 4 mX5_set.2.2.2.1 3 0 0 [.ref kq, .int 1, .int i, .int v] (wK E kq cg qf gf af qd gd ad qk gk ak ql gl al qr gr ar rx qm qx gx ax qs sx qo go ao qp gp_ ap L) (ri (fun r ws => ((inI i 0 11 = 0 ∨ inI v 0 9 = 0) ∧ r = -2 ∧ ws = wK E kq cg qf gf af qd gd ad qk gk ak ql gl al qr gr ar rx qm qx gx ax qs sx qo go ao qp gp_ ap L) ∨ (¬ (inI i 0 11 = 0 ∨ inI v 0 9 = 0) ∧ r = af 1 i.toNatClampNeg ∧ ws = wK E kq cg qf gf (va_up af 1 (upd (af 1) i.toNatClampNeg v)) qd gd ad qk gk ak ql gl al qr gr ar rx qm qx gx ax qs sx qo go ao qp gp_ ap L))) := by
  refine CT.of (M := mX5_set) (ls := [some (.ref kq), some (.int 1), some (.int i), some (.int v)]) (by decide) rfl (by decide) rfl (Nat.le_of_ble_eq_true rfl) ?_
  refine A_iload_n (dX5_set 0 rfl) rfl ?_
  refine A_tableIn (74) 75 (dX5_set 1 rfl) (by decide) (by decide) rfl (by decide) ?_
  refine A_iload_n (dX5_set 18 rfl) rfl ?_
  refine A_callSWi 1 (dX5_set 19 rfl) cbX5_isCell cwX5_97 (k_isCell E _ i) rfl rfl (Nat.le_of_ble_eq_true rfl) (Nat.le_of_ble_eq_true rfl) (Nat.le_of_ble_eq_true rfl) (Nat.le_of_ble_eq_true rfl) (Nat.le_of_ble_eq_true rfl) ?_
  rintro r76 w1 ⟨rfl, rfl⟩
  refine AW.pcq (pc2 := 79) rfl ?_
  refine A_if_eq 106 (dX5_set 20 rfl) (by decide) (fun h79 => ?_) (fun h79 => ?_)
  · refine A_bipush (-2) (dX5_set 32 rfl) (by decide +kernel) ?_
    refine A_ri (dX5_set 33 rfl) rfl rfl ?_
    first
      | exact Or.inr ⟨hbad, rfl, rfl⟩
      | exact Or.inl ⟨Or.inl (by assumption), rfl, rfl⟩
      | exact Or.inl ⟨Or.inr (by assumption), rfl, rfl⟩
  · refine A_iload_n (dX5_set 21 rfl) rfl ?_
    refine A_bipush (9) (dX5_set 22 rfl) (by decide +kernel) ?_
    refine A_callSWi 2 (dX5_set 23 rfl) cbX5_within cwX5_87 (k_within E _ v 9) rfl rfl (Nat.le_of_ble_eq_true rfl) (Nat.le_of_ble_eq_true rfl) (Nat.le_of_ble_eq_true rfl) (Nat.le_of_ble_eq_true rfl) (Nat.le_of_ble_eq_true rfl) ?_
    rintro r85 w1 ⟨rfl, rfl⟩
    refine AW.pcq (pc2 := 88) rfl ?_
    refine A_if_eq 106 (dX5_set 24 rfl) (by decide) (fun h88 => ?_) (fun h88 => ?_)
    · refine A_bipush (-2) (dX5_set 32 rfl) (by decide +kernel) ?_
      refine A_ri (dX5_set 33 rfl) rfl rfl ?_
      first
        | exact Or.inr ⟨hbad, rfl, rfl⟩
        | exact Or.inl ⟨Or.inl (by assumption), rfl, rfl⟩
        | exact Or.inl ⟨Or.inr (by assumption), rfl, rfl⟩
    · refine A_aload_n (dX5_set 25 rfl) rfl ?_
      refine A_get (dX5_set 26 rfl) fwX5_10 wK_0 cK_f0_0 ?_
      refine A_get (dX5_set 27 rfl) fwX5_107 wK_1 cF_f0_1 ?_
      refine A_iload_n (dX5_set 28 rfl) rfl ?_
      refine A_iload_n (dX5_set 29 rfl) rfl ?_
      have hbad : ¬ (inI i 0 11 = 0 ∨ inI v 0 9 = 0) := fun z => z.elim h79 h88
      have hvp : vp_in i 12 := by
        obtain ⟨i0, hi0, e⟩ := cell_nI h79
        rw [e]; exact vp_in_nI (by omega) (by decide)
      refine A_callSi 3 (dX5_set 30 rfl) cbX5_exchange cwX5_103 (k_exchange E (qf 2) 12 (af 1) i v hvp) rfl rfl [3] rfl rfl (Nat.le_of_ble_eq_true rfl) (Nat.le_of_ble_eq_true rfl) (Nat.le_of_ble_eq_true rfl) (Nat.le_of_ble_eq_true rfl) (Nat.le_of_ble_eq_true rfl) (by rintro _ _ ⟨_, rfl⟩; exact (Nat.le_of_ble_eq_true rfl)) ?_
      rintro r100 w1 ⟨rfl, rfl⟩
      refine AW.world (ws2 := wK E kq cg qf gf (va_up af 1 (upd (af 1) i.toNatClampNeg v)) qd gd ad qk gk ak ql gl al qr gr ar rx qm qx gx ax qs sx qo go ao qp gp_ ap L) mK_a1 ?_
      refine AW.pcq (pc2 := 103) rfl ?_
      refine A_goto 108 (dX5_set 31 rfl) (by decide) ?_
      refine A_ri (dX5_set 33 rfl) rfl rfl ?_
      first
        | exact Or.inr ⟨hbad, rfl, rfl⟩
        | exact Or.inl ⟨Or.inl (by assumption), rfl, rfl⟩
        | exact Or.inl ⟨Or.inr (by assumption), rfl, rfl⟩

set_option maxRecDepth 100000 in
set_option maxHeartbeats 400000 in
theorem K_set3 (E : ag) (kq : Nat) (cg : Nat → Int32) (qf : Nat → Nat) (gf : Nat → Int32) (af : Nat → Nat → Int32) (qd : Nat → Nat) (gd : Nat → Int32) (ad : Nat → Nat → Int32) (qk : Nat → Nat) (gk : Nat → Int32) (ak : Nat → Nat → Int32) (ql : Nat → Nat) (gl : Nat → Int32) (al : Nat → Nat → Int32) (qr : Nat → Nat) (gr : Nat → Int32) (ar : Nat → Nat → Int32) (rx : Nat) (qm : Nat) (qx : Nat → Nat → Nat) (gx : Nat → Nat → Int32) (ax : Nat → Nat → Nat → Int32) (qs : Nat) (sx : Nat → Option Nat) (qo : Nat → Nat) (go : Nat → Int32) (ao : Nat → Nat → Int32) (qp : Nat → Nat) (gp_ : Nat → Int32) (ap : Nat → Nat → Int32) (L : va_W) (m : Nat) (hm5 : m ≤ 5) (hgm : gf 0 = nI m) (i v : Int32) : CT E yX5_set cX5_set 4 mX5_set.2.2.2.1 3 0 0 [.ref kq, .int 3, .int i, .int v] (wK E kq cg qf gf af qd gd ad qk gk ak ql gl al qr gr ar rx qm qx gx ax qs sx qo go ao qp gp_ ap L) (ri (fun r ws => ((inI i 0 (gf 0 - 1) = 0 ∨ inI v 0 9 = 0) ∧ r = -2 ∧ ws = wK E kq cg qf gf af qd gd ad qk gk ak ql gl al qr gr ar rx qm qx gx ax qs sx qo go ao qp gp_ ap L) ∨ (¬ (inI i 0 (gf 0 - 1) = 0 ∨ inI v 0 9 = 0) ∧ r = af 4 i.toNatClampNeg ∧ ws = wK E kq cg qf gf (va_up af 4 (upd (af 4) i.toNatClampNeg v)) qd gd ad qk gk ak ql gl al qr gr ar rx qm qx gx ax qs sx qo go ao qp gp_ ap L))) := by
  refine CT.of (M := mX5_set) (ls := [some (.ref kq), some (.int 3), some (.int i), some (.int v)]) (by decide) rfl (by decide) rfl (Nat.le_of_ble_eq_true rfl) ?_
  refine A_iload_n (dX5_set 0 rfl) rfl ?_
  refine A_tableIn (154) 155 (dX5_set 1 rfl) (by decide) (by decide) rfl (by decide) ?_
  refine A_aload_n (dX5_set 55 rfl) rfl ?_
  refine A_iload_n (dX5_set 56 rfl) rfl ?_
  refine A_callVWi 1 (dX5_set 57 rfl) cbX5_isMan cwX5_110 (K_isMan E kq cg qf gf af qd gd ad qk gk ak ql gl al qr gr ar rx qm qx gx ax qs sx qo go ao qp gp_ ap L i m hm5 hgm) rfl rfl wK_0 rfl rfl (Nat.le_of_ble_eq_true rfl) (Nat.le_of_ble_eq_true rfl) (Nat.le_of_ble_eq_true rfl) (Nat.le_of_ble_eq_true rfl) (Nat.le_of_ble_eq_true rfl) ?_
  rintro r157 w1 ⟨rfl, rfl⟩
  refine AW.pcq (pc2 := 160) rfl ?_
  refine A_if_eq 187 (dX5_set 58 rfl) (by decide) (fun h160 => ?_) (fun h160 => ?_)
  · refine A_bipush (-2) (dX5_set 70 rfl) (by decide +kernel) ?_
    refine A_ri (dX5_set 71 rfl) rfl rfl ?_
    first
      | exact Or.inr ⟨hbad, rfl, rfl⟩
      | exact Or.inl ⟨Or.inl (by assumption), rfl, rfl⟩
      | exact Or.inl ⟨Or.inr (by assumption), rfl, rfl⟩
  · refine A_iload_n (dX5_set 59 rfl) rfl ?_
    refine A_bipush (9) (dX5_set 60 rfl) (by decide +kernel) ?_
    refine A_callSWi 2 (dX5_set 61 rfl) cbX5_within cwX5_87 (k_within E _ v 9) rfl rfl (Nat.le_of_ble_eq_true rfl) (Nat.le_of_ble_eq_true rfl) (Nat.le_of_ble_eq_true rfl) (Nat.le_of_ble_eq_true rfl) (Nat.le_of_ble_eq_true rfl) ?_
    rintro r166 w1 ⟨rfl, rfl⟩
    refine AW.pcq (pc2 := 169) rfl ?_
    refine A_if_eq 187 (dX5_set 62 rfl) (by decide) (fun h169 => ?_) (fun h169 => ?_)
    · refine A_bipush (-2) (dX5_set 70 rfl) (by decide +kernel) ?_
      refine A_ri (dX5_set 71 rfl) rfl rfl ?_
      first
        | exact Or.inr ⟨hbad, rfl, rfl⟩
        | exact Or.inl ⟨Or.inl (by assumption), rfl, rfl⟩
        | exact Or.inl ⟨Or.inr (by assumption), rfl, rfl⟩
    · refine A_aload_n (dX5_set 63 rfl) rfl ?_
      refine A_get (dX5_set 64 rfl) fwX5_10 wK_0 cK_f0_0 ?_
      refine A_get (dX5_set 65 rfl) fwX5_123 wK_1 cF_f0_4 ?_
      refine A_iload_n (dX5_set 66 rfl) rfl ?_
      refine A_iload_n (dX5_set 67 rfl) rfl ?_
      have hbad : ¬ (inI i 0 (gf 0 - 1) = 0 ∨ inI v 0 9 = 0) := fun z => z.elim h160 h169
      have hvp : vp_in i 5 := by
        obtain ⟨i0, hi0, e⟩ := man_nI hm5 (hgm ▸ h160)
        rw [e]; exact vp_in_nI (by omega) (by decide)
      refine A_callSi 3 (dX5_set 68 rfl) cbX5_exchange cwX5_103 (k_exchange E (qf 5) 5 (af 4) i v hvp) rfl rfl [6] rfl rfl (Nat.le_of_ble_eq_true rfl) (Nat.le_of_ble_eq_true rfl) (Nat.le_of_ble_eq_true rfl) (Nat.le_of_ble_eq_true rfl) (Nat.le_of_ble_eq_true rfl) (by rintro _ _ ⟨_, rfl⟩; exact (Nat.le_of_ble_eq_true rfl)) ?_
      rintro r181 w1 ⟨rfl, rfl⟩
      refine AW.world (ws2 := wK E kq cg qf gf (va_up af 4 (upd (af 4) i.toNatClampNeg v)) qd gd ad qk gk ak ql gl al qr gr ar rx qm qx gx ax qs sx qo go ao qp gp_ ap L) mK_a4 ?_
      refine AW.pcq (pc2 := 184) rfl ?_
      refine A_goto 189 (dX5_set 69 rfl) (by decide) ?_
      refine A_ri (dX5_set 71 rfl) rfl rfl ?_
      first
        | exact Or.inr ⟨hbad, rfl, rfl⟩
        | exact Or.inl ⟨Or.inl (by assumption), rfl, rfl⟩
        | exact Or.inl ⟨Or.inr (by assumption), rfl, rfl⟩

set_option maxRecDepth 100000 in
set_option maxHeartbeats 400000 in
theorem K_set4 (E : ag) (kq : Nat) (cg : Nat → Int32) (qf : Nat → Nat) (gf : Nat → Int32) (af : Nat → Nat → Int32) (qd : Nat → Nat) (gd : Nat → Int32) (ad : Nat → Nat → Int32) (qk : Nat → Nat) (gk : Nat → Int32) (ak : Nat → Nat → Int32) (ql : Nat → Nat) (gl : Nat → Int32) (al : Nat → Nat → Int32) (qr : Nat → Nat) (gr : Nat → Int32) (ar : Nat → Nat → Int32) (rx : Nat) (qm : Nat) (qx : Nat → Nat → Nat) (gx : Nat → Nat → Int32) (ax : Nat → Nat → Nat → Int32) (qs : Nat) (sx : Nat → Option Nat) (qo : Nat → Nat) (go : Nat → Int32) (ao : Nat → Nat → Int32) (qp : Nat → Nat) (gp_ : Nat → Int32) (ap : Nat → Nat → Int32) (L : va_W) (m : Nat) (hm5 : m ≤ 5) (hgm : gf 0 = nI m) (i v : Int32) : CT E yX5_set cX5_set 4 mX5_set.2.2.2.1 3 0 0 [.ref kq, .int 4, .int i, .int v] (wK E kq cg qf gf af qd gd ad qk gk ak ql gl al qr gr ar rx qm qx gx ax qs sx qo go ao qp gp_ ap L) (ri (fun r ws => ((inI i 0 (gf 0 - 1) = 0 ∨ inI v 0 9 = 0) ∧ r = -2 ∧ ws = wK E kq cg qf gf af qd gd ad qk gk ak ql gl al qr gr ar rx qm qx gx ax qs sx qo go ao qp gp_ ap L) ∨ (¬ (inI i 0 (gf 0 - 1) = 0 ∨ inI v 0 9 = 0) ∧ r = af 5 i.toNatClampNeg ∧ ws = wK E kq cg qf gf (va_up af 5 (upd (af 5) i.toNatClampNeg v)) qd gd ad qk gk ak ql gl al qr gr ar rx qm qx gx ax qs sx qo go ao qp gp_ ap L))) := by
  refine CT.of (M := mX5_set) (ls := [some (.ref kq), some (.int 4), some (.int i), some (.int v)]) (by decide) rfl (by decide) rfl (Nat.le_of_ble_eq_true rfl) ?_
  refine A_iload_n (dX5_set 0 rfl) rfl ?_
  refine A_tableIn (189) 190 (dX5_set 1 rfl) (by decide) (by decide) rfl (by decide) ?_
  refine A_aload_n (dX5_set 72 rfl) rfl ?_
  refine A_iload_n (dX5_set 73 rfl) rfl ?_
  refine A_callVWi 1 (dX5_set 74 rfl) cbX5_isMan cwX5_110 (K_isMan E kq cg qf gf af qd gd ad qk gk ak ql gl al qr gr ar rx qm qx gx ax qs sx qo go ao qp gp_ ap L i m hm5 hgm) rfl rfl wK_0 rfl rfl (Nat.le_of_ble_eq_true rfl) (Nat.le_of_ble_eq_true rfl) (Nat.le_of_ble_eq_true rfl) (Nat.le_of_ble_eq_true rfl) (Nat.le_of_ble_eq_true rfl) ?_
  rintro r192 w1 ⟨rfl, rfl⟩
  refine AW.pcq (pc2 := 195) rfl ?_
  refine A_if_eq 222 (dX5_set 75 rfl) (by decide) (fun h195 => ?_) (fun h195 => ?_)
  · refine A_bipush (-2) (dX5_set 87 rfl) (by decide +kernel) ?_
    refine A_ri (dX5_set 88 rfl) rfl rfl ?_
    first
      | exact Or.inr ⟨hbad, rfl, rfl⟩
      | exact Or.inl ⟨Or.inl (by assumption), rfl, rfl⟩
      | exact Or.inl ⟨Or.inr (by assumption), rfl, rfl⟩
  · refine A_iload_n (dX5_set 76 rfl) rfl ?_
    refine A_bipush (9) (dX5_set 77 rfl) (by decide +kernel) ?_
    refine A_callSWi 2 (dX5_set 78 rfl) cbX5_within cwX5_87 (k_within E _ v 9) rfl rfl (Nat.le_of_ble_eq_true rfl) (Nat.le_of_ble_eq_true rfl) (Nat.le_of_ble_eq_true rfl) (Nat.le_of_ble_eq_true rfl) (Nat.le_of_ble_eq_true rfl) ?_
    rintro r201 w1 ⟨rfl, rfl⟩
    refine AW.pcq (pc2 := 204) rfl ?_
    refine A_if_eq 222 (dX5_set 79 rfl) (by decide) (fun h204 => ?_) (fun h204 => ?_)
    · refine A_bipush (-2) (dX5_set 87 rfl) (by decide +kernel) ?_
      refine A_ri (dX5_set 88 rfl) rfl rfl ?_
      first
        | exact Or.inr ⟨hbad, rfl, rfl⟩
        | exact Or.inl ⟨Or.inl (by assumption), rfl, rfl⟩
        | exact Or.inl ⟨Or.inr (by assumption), rfl, rfl⟩
    · refine A_aload_n (dX5_set 80 rfl) rfl ?_
      refine A_get (dX5_set 81 rfl) fwX5_10 wK_0 cK_f0_0 ?_
      refine A_get (dX5_set 82 rfl) fwX5_126 wK_1 cF_f0_5 ?_
      refine A_iload_n (dX5_set 83 rfl) rfl ?_
      refine A_iload_n (dX5_set 84 rfl) rfl ?_
      have hbad : ¬ (inI i 0 (gf 0 - 1) = 0 ∨ inI v 0 9 = 0) := fun z => z.elim h195 h204
      have hvp : vp_in i 5 := by
        obtain ⟨i0, hi0, e⟩ := man_nI hm5 (hgm ▸ h195)
        rw [e]; exact vp_in_nI (by omega) (by decide)
      refine A_callSi 3 (dX5_set 85 rfl) cbX5_exchange cwX5_103 (k_exchange E (qf 6) 5 (af 5) i v hvp) rfl rfl [7] rfl rfl (Nat.le_of_ble_eq_true rfl) (Nat.le_of_ble_eq_true rfl) (Nat.le_of_ble_eq_true rfl) (Nat.le_of_ble_eq_true rfl) (Nat.le_of_ble_eq_true rfl) (by rintro _ _ ⟨_, rfl⟩; exact (Nat.le_of_ble_eq_true rfl)) ?_
      rintro r216 w1 ⟨rfl, rfl⟩
      refine AW.world (ws2 := wK E kq cg qf gf (va_up af 5 (upd (af 5) i.toNatClampNeg v)) qd gd ad qk gk ak ql gl al qr gr ar rx qm qx gx ax qs sx qo go ao qp gp_ ap L) mK_a5 ?_
      refine AW.pcq (pc2 := 219) rfl ?_
      refine A_goto 224 (dX5_set 86 rfl) (by decide) ?_
      refine A_ri (dX5_set 88 rfl) rfl rfl ?_
      first
        | exact Or.inr ⟨hbad, rfl, rfl⟩
        | exact Or.inl ⟨Or.inl (by assumption), rfl, rfl⟩
        | exact Or.inl ⟨Or.inr (by assumption), rfl, rfl⟩

set_option maxRecDepth 100000 in
set_option maxHeartbeats 400000 in
theorem K_set2 (E : ag) (kq : Nat) (cg : Nat → Int32) (qf : Nat → Nat) (gf : Nat → Int32) (af : Nat → Nat → Int32) (qd : Nat → Nat) (gd : Nat → Int32) (ad : Nat → Nat → Int32) (qk : Nat → Nat) (gk : Nat → Int32) (ak : Nat → Nat → Int32) (ql : Nat → Nat) (gl : Nat → Int32) (al : Nat → Nat → Int32) (qr : Nat → Nat) (gr : Nat → Int32) (ar : Nat → Nat → Int32) (rx : Nat) (qm : Nat) (qx : Nat → Nat → Nat) (gx : Nat → Nat → Int32) (ax : Nat → Nat → Nat → Int32) (qs : Nat) (sx : Nat → Option Nat) (qo : Nat → Nat) (go : Nat → Int32) (ao : Nat → Nat → Int32) (qp : Nat → Nat) (gp_ : Nat → Int32) (ap : Nat → Nat → Int32) (L : va_W) (m : Nat) (hm5 : m ≤ 5) (hgm : gf 0 = nI m) (i v : Int32) : CT E yX5_set cX5_set 4 mX5_set.2.2.2.1 3 0 0 [.ref kq, .int 2, .int i, .int v] (wK E kq cg qf gf af qd gd ad qk gk ak ql gl al qr gr ar rx qm qx gx ax qs sx qo go ao qp gp_ ap L) (ri (fun r ws => ((inI i 0 (gf 0 - 1) = 0 ∨ inI v 0 239 = 0) ∧ r = -2 ∧ ws = wK E kq cg qf gf af qd gd ad qk gk ak ql gl al qr gr ar rx qm qx gx ax qs sx qo go ao qp gp_ ap L) ∨ (¬ (inI i 0 (gf 0 - 1) = 0 ∨ inI v 0 239 = 0) ∧ r = af 3 i.toNatClampNeg ∧ ws = wK E kq cg qf gf (va_up af 3 (upd (af 3) i.toNatClampNeg (hld v (gf 1)))) qd gd ad qk gk ak ql gl al qr gr ar rx qm qx gx ax qs sx qo go ao qp gp_ ap L))) := by
  refine CT.of (M := mX5_set) (ls := [some (.ref kq), some (.int 2), some (.int i), some (.int v)]) (by decide) rfl (by decide) rfl (Nat.le_of_ble_eq_true rfl) ?_
  refine A_iload_n (dX5_set 0 rfl) rfl ?_
  refine A_tableIn (108) 109 (dX5_set 1 rfl) (by decide) (by decide) rfl (by decide) ?_
  refine A_aload_n (dX5_set 34 rfl) rfl ?_
  refine A_iload_n (dX5_set 35 rfl) rfl ?_
  refine A_callVWi 1 (dX5_set 36 rfl) cbX5_isMan cwX5_110 (K_isMan E kq cg qf gf af qd gd ad qk gk ak ql gl al qr gr ar rx qm qx gx ax qs sx qo go ao qp gp_ ap L i m hm5 hgm) rfl rfl wK_0 rfl rfl (Nat.le_of_ble_eq_true rfl) (Nat.le_of_ble_eq_true rfl) (Nat.le_of_ble_eq_true rfl) (Nat.le_of_ble_eq_true rfl) (Nat.le_of_ble_eq_true rfl) ?_
  rintro r111 w1 ⟨rfl, rfl⟩
  refine AW.pcq (pc2 := 114) rfl ?_
  refine A_if_eq 152 (dX5_set 37 rfl) (by decide) (fun h114 => ?_) (fun h114 => ?_)
  · refine A_bipush (-2) (dX5_set 53 rfl) (by decide +kernel) ?_
    refine A_ri (dX5_set 54 rfl) rfl rfl ?_
    first
      | exact Or.inr ⟨hbad, rfl, rfl⟩
      | exact Or.inl ⟨Or.inl (by assumption), rfl, rfl⟩
      | exact Or.inl ⟨Or.inr (by assumption), rfl, rfl⟩
  · refine A_iload_n (dX5_set 38 rfl) rfl ?_
    refine A_sipush (239) (dX5_set 39 rfl) (by decide +kernel) ?_
    refine A_callSWi 2 (dX5_set 40 rfl) cbX5_within cwX5_87 (k_within E _ v 239) rfl rfl (Nat.le_of_ble_eq_true rfl) (Nat.le_of_ble_eq_true rfl) (Nat.le_of_ble_eq_true rfl) (Nat.le_of_ble_eq_true rfl) (Nat.le_of_ble_eq_true rfl) ?_
    rintro r121 w1 ⟨rfl, rfl⟩
    refine AW.pcq (pc2 := 124) rfl ?_
    refine A_if_eq 152 (dX5_set 41 rfl) (by decide) (fun h124 => ?_) (fun h124 => ?_)
    · refine A_bipush (-2) (dX5_set 53 rfl) (by decide +kernel) ?_
      refine A_ri (dX5_set 54 rfl) rfl rfl ?_
      first
        | exact Or.inr ⟨hbad, rfl, rfl⟩
        | exact Or.inl ⟨Or.inl (by assumption), rfl, rfl⟩
        | exact Or.inl ⟨Or.inr (by assumption), rfl, rfl⟩
    · refine A_aload_n (dX5_set 42 rfl) rfl ?_
      refine A_get (dX5_set 43 rfl) fwX5_10 wK_0 cK_f0_0 ?_
      refine A_get (dX5_set 44 rfl) fwX5_113 wK_1 cF_f0_3 ?_
      refine A_iload_n (dX5_set 45 rfl) rfl ?_
      refine A_iload_n (dX5_set 46 rfl) rfl ?_
      refine A_aload_n (dX5_set 47 rfl) rfl ?_
      refine A_get (dX5_set 48 rfl) fwX5_10 wK_0 cK_f0_0 ?_
      refine A_get (dX5_set 49 rfl) fwX5_116 wK_1 cF_f0_7 ?_
      refine AW.pcq (pc2 := 143) rfl ?_
      refine A_callSWi 2 (dX5_set 50 rfl) cbX5_held cwX5_119 (k_held E _ v (gf 1)) rfl rfl (Nat.le_of_ble_eq_true rfl) (Nat.le_of_ble_eq_true rfl) (Nat.le_of_ble_eq_true rfl) (Nat.le_of_ble_eq_true rfl) (Nat.le_of_ble_eq_true rfl) ?_
      rintro r143 w1 ⟨rfl, rfl⟩
      refine AW.pcq (pc2 := 146) rfl ?_
      have hbad : ¬ (inI i 0 (gf 0 - 1) = 0 ∨ inI v 0 239 = 0) := fun z => z.elim h114 h124
      have hvp : vp_in i 5 := by
        obtain ⟨i0, hi0, e⟩ := man_nI hm5 (hgm ▸ h114)
        rw [e]; exact vp_in_nI (by omega) (by decide)
      refine A_callSi 3 (dX5_set 51 rfl) cbX5_exchange cwX5_103 (k_exchange E (qf 4) 5 (af 3) i _ hvp) rfl rfl [5] rfl rfl (Nat.le_of_ble_eq_true rfl) (Nat.le_of_ble_eq_true rfl) (Nat.le_of_ble_eq_true rfl) (Nat.le_of_ble_eq_true rfl) (Nat.le_of_ble_eq_true rfl) (by rintro _ _ ⟨_, rfl⟩; exact (Nat.le_of_ble_eq_true rfl)) ?_
      rintro r146 w1 ⟨rfl, rfl⟩
      refine AW.world (ws2 := wK E kq cg qf gf (va_up af 3 (upd (af 3) i.toNatClampNeg (hld v (gf 1)))) qd gd ad qk gk ak ql gl al qr gr ar rx qm qx gx ax qs sx qo go ao qp gp_ ap L) mK_a3 ?_
      refine AW.pcq (pc2 := 149) rfl ?_
      refine A_goto 154 (dX5_set 52 rfl) (by decide) ?_
      refine A_ri (dX5_set 54 rfl) rfl rfl ?_
      first
        | exact Or.inr ⟨hbad, rfl, rfl⟩
        | exact Or.inl ⟨Or.inl (by assumption), rfl, rfl⟩
        | exact Or.inl ⟨Or.inr (by assumption), rfl, rfl⟩

set_option maxRecDepth 100000 in
set_option maxHeartbeats 400000 in
theorem K_set5 (E : ag) (kq : Nat) (cg : Nat → Int32) (qf : Nat → Nat) (gf : Nat → Int32) (af : Nat → Nat → Int32) (qd : Nat → Nat) (gd : Nat → Int32) (ad : Nat → Nat → Int32) (qk : Nat → Nat) (gk : Nat → Int32) (ak : Nat → Nat → Int32) (ql : Nat → Nat) (gl : Nat → Int32) (al : Nat → Nat → Int32) (qr : Nat → Nat) (gr : Nat → Int32) (ar : Nat → Nat → Int32) (rx : Nat) (qm : Nat) (qx : Nat → Nat → Nat) (gx : Nat → Nat → Int32) (ax : Nat → Nat → Nat → Int32) (qs : Nat) (sx : Nat → Option Nat) (qo : Nat → Nat) (go : Nat → Int32) (ao : Nat → Nat → Int32) (qp : Nat → Nat) (gp_ : Nat → Int32) (ap : Nat → Nat → Int32) (L : va_W) (m : Nat) (hm5 : m ≤ 5) (hgm : gf 0 = nI m) (i v : Int32) : CT E yX5_set cX5_set 4 mX5_set.2.2.2.1 3 0 0 [.ref kq, .int 5, .int i, .int v] (wK E kq cg qf gf af qd gd ad qk gk ak ql gl al qr gr ar rx qm qx gx ax qs sx qo go ao qp gp_ ap L) (ri (fun r ws => ((inI v 12 240 = 0) ∧ r = -2 ∧ ws = wK E kq cg qf gf af qd gd ad qk gk ak ql gl al qr gr ar rx qm qx gx ax qs sx qo go ao qp gp_ ap L) ∨ (¬ (inI v 12 240 = 0) ∧ r = gf 1 ∧ ws = wK E kq cg qf (upd gf 1 v) (va_up af 3 (cp m (fun k => hld (af 3 k) v) (af 3))) qd gd ad qk gk ak ql gl al qr gr ar rx qm qx gx ax qs sx qo go ao qp gp_ ap L))) := by
  refine CT.of (M := mX5_set) (ls := [some (.ref kq), some (.int 5), some (.int i), some (.int v)]) (by decide) rfl (by decide) rfl (Nat.le_of_ble_eq_true rfl) ?_
  refine A_iload_n (dX5_set 0 rfl) rfl ?_
  refine A_tableIn (224) 225 (dX5_set 1 rfl) (by decide) (by decide) rfl (by decide) ?_
  refine A_iload_n (dX5_set 89 rfl) rfl ?_
  refine A_bipush (12) (dX5_set 90 rfl) (by decide +kernel) ?_
  refine A_icmp_lt 249 (dX5_set 91 rfl) (by decide) (fun h228 => ?_) (fun h228 => ?_)
  · refine A_bipush (-2) (dX5_set 100 rfl) (by decide +kernel) ?_
    refine A_ri (dX5_set 101 rfl) rfl rfl ?_
    first
      | exact Or.inr ⟨by rw [inI_of (Int32.not_lt.mp h228) (Int32.not_lt.mp h235)]; decide, rfl, rfl⟩
      | exact Or.inl ⟨inI_lo (fun z => absurd z (Int32.not_le.mpr (by assumption))), rfl, rfl⟩
      | exact Or.inl ⟨inI_hi (fun z => absurd z (Int32.not_le.mpr (by assumption))), rfl, rfl⟩
  · refine A_iload_n (dX5_set 92 rfl) rfl ?_
    refine A_sipush (240) (dX5_set 93 rfl) (by decide +kernel) ?_
    refine A_icmp_gt 249 (dX5_set 94 rfl) (by decide) (fun h235 => ?_) (fun h235 => ?_)
    · refine A_bipush (-2) (dX5_set 100 rfl) (by decide +kernel) ?_
      refine A_ri (dX5_set 101 rfl) rfl rfl ?_
      first
        | exact Or.inr ⟨by rw [inI_of (Int32.not_lt.mp h228) (Int32.not_lt.mp h235)]; decide, rfl, rfl⟩
        | exact Or.inl ⟨inI_lo (fun z => absurd z (Int32.not_le.mpr (by assumption))), rfl, rfl⟩
        | exact Or.inl ⟨inI_hi (fun z => absurd z (Int32.not_le.mpr (by assumption))), rfl, rfl⟩
    · refine A_aload_n (dX5_set 95 rfl) rfl ?_
      refine A_get (dX5_set 96 rfl) fwX5_10 wK_0 cK_f0_0 ?_
      refine A_iload_n (dX5_set 97 rfl) rfl ?_
      refine A_callVi 1 (dX5_set 98 rfl) cbX1_holdBy cwX5_129 (f_holdBy E qf gf af v m hm5 hgm) rfl rfl wF_0 rfl rfl [1, 2, 3, 4, 5, 6, 7] rfl rfl (Nat.le_of_ble_eq_true rfl) (Nat.le_of_ble_eq_true rfl) (Nat.le_of_ble_eq_true rfl) (Nat.le_of_ble_eq_true rfl) (Nat.le_of_ble_eq_true rfl) (by rintro _ _ ⟨_, rfl⟩; exact (Nat.le_of_ble_eq_true rfl)) ?_
      rintro r243 w1 ⟨rfl, rfl⟩
      refine AW.world (ws2 := wK E kq cg qf (upd gf 1 v) (va_up af 3 (cp m (fun k => hld (af 3 k) v) (af 3))) qd gd ad qk gk ak ql gl al qr gr ar rx qm qx gx ax qs sx qo go ao qp gp_ ap L) mK_f ?_
      refine AW.pcq (pc2 := 246) rfl ?_
      refine A_goto 251 (dX5_set 99 rfl) (by decide) ?_
      refine A_ri (dX5_set 101 rfl) rfl rfl ?_
      first
        | exact Or.inr ⟨by rw [inI_of (Int32.not_lt.mp h228) (Int32.not_lt.mp h235)]; decide, rfl, rfl⟩
        | exact Or.inl ⟨inI_lo (fun z => absurd z (Int32.not_le.mpr (by assumption))), rfl, rfl⟩
        | exact Or.inl ⟨inI_hi (fun z => absurd z (Int32.not_le.mpr (by assumption))), rfl, rfl⟩

theorem in05_out {k : Int32} (h : inI k 0 5 = 0) : k.toInt < 0 ∨ 5 < k.toInt := by
  by_cases a : k.toInt < 0
  · exact Or.inl a
  by_cases b : 5 < k.toInt
  · exact Or.inr b
  · rw [inI_of (Int32.le_iff_toInt_le.mpr (by rw [show (0 : Int32).toInt = 0 from by decide]; omega)) (Int32.le_iff_toInt_le.mpr (by rw [show (5 : Int32).toInt = 5 from by decide]; omega))] at h
    exact absurd h (by decide)
set_option maxRecDepth 100000 in
set_option maxHeartbeats 400000 in
theorem K_setN (E : ag) (kq : Nat) (cg : Nat → Int32) (qf : Nat → Nat) (gf : Nat → Int32) (af : Nat → Nat → Int32) (qd : Nat → Nat) (gd : Nat → Int32) (ad : Nat → Nat → Int32) (qk : Nat → Nat) (gk : Nat → Int32) (ak : Nat → Nat → Int32) (ql : Nat → Nat) (gl : Nat → Int32) (al : Nat → Nat → Int32) (qr : Nat → Nat) (gr : Nat → Int32) (ar : Nat → Nat → Int32) (rx : Nat) (qm : Nat) (qx : Nat → Nat → Nat) (gx : Nat → Nat → Int32) (ax : Nat → Nat → Nat → Int32) (qs : Nat) (sx : Nat → Option Nat) (qo : Nat → Nat) (go : Nat → Int32) (ao : Nat → Nat → Int32) (qp : Nat → Nat) (gp_ : Nat → Int32) (ap : Nat → Nat → Int32) (L : va_W) (k i v : Int32) (hk : inI k 0 5 = 0) : CT E yX5_set cX5_set 4 mX5_set.2.2.2.1 3 0 0 [.ref kq, .int k, .int i, .int v] (wK E kq cg qf gf af qd gd ad qk gk ak ql gl al qr gr ar rx qm qx gx ax qs sx qo go ao qp gp_ ap L) (ri (fun r ws => r = -2 ∧ ws = wK E kq cg qf gf af qd gd ad qk gk ak ql gl al qr gr ar rx qm qx gx ax qs sx qo go ao qp gp_ ap L)) := by
  refine CT.of (M := mX5_set) (ls := [some (.ref kq), some (.int k), some (.int i), some (.int v)]) (by decide) rfl (by decide) rfl (Nat.le_of_ble_eq_true rfl) ?_
  refine A_iload_n (dX5_set 0 rfl) rfl ?_
  refine A_tableOut 252 (dX5_set 1 rfl) (in05_out hk) (by decide) ?_
  refine A_bipush (-2) (dX5_set 102 rfl) (by decide +kernel) ?_
  refine A_ri (dX5_set 103 rfl) rfl rfl ?_
  exact ⟨rfl, rfl⟩

