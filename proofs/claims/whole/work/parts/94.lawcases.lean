theorem lg_same (x : Int64) : lg_cmp x x = 0 := by
  unfold lg_cmp
  rw [if_neg (show ¬ x > x from Int64.lt_irrefl), if_pos rfl]
set_option maxRecDepth 100000 in
set_option maxHeartbeats 400000 in
theorem lw_man {E : ag} {b0 L0 : Nat} {xs0 : Nat → Int32} {bc bs : Nat} (q : Nat → Nat) (kq : Nat) (i : Nat) (hi : i + 6 ≤ L0) (hL : L0 ≤ 3072) (h2 : 2 ≤ bc) (h42 : 42 ≤ bs) {w1 w2 : va_W} (hR : REL E q kq w1 w2) (KK : ∀ w1 w2, REL E q kq w1 w2 → LW E b0 L0 xs0 (bc - 2) (bs - 42) 1009 [some (.ref b0), some (.ref kq), some (.ref (q 0)), some (.int (nI i))] [] (w1 ++ w2)) : LW E b0 L0 xs0 bc bs 168 [some (.ref b0), some (.ref kq), some (.ref (q 0)), some (.int (nI i))] [] (w1 ++ w2) := by
  obtain ⟨cg, qf, gf, af, qd, gd, ad, qk, gk, ak, ql, gl, al, qr, gr, ar, rx, qm, qx, gx, ax, qs, sx, qo, go, ao, qp, gp_, ap, T, ix, g, tw, a, m, tr, tc, n, rfl, rfl, h⟩ := hR
  obtain ⟨Pc, Pr, k1, k2, k3⟩ := op_man E q kq cg qf gf af qd gd ad qk gk ak ql gl al qr gr ar rx qm qx gx ax qs sx qo go ao qp gp_ ap T ix g tw a m tr tc n h (xs0 (i + 1)) (xs0 (i + 2)) (xs0 (i + 3))
  refine L_aload_n (dL0 22 rfl) rfl ?_
  refine L_aload_n (dL0 23 rfl) rfl ?_
  refine L_iload_n (dL0 24 rfl) rfl ?_
  refine L_iconst (1) (dL0 25 rfl) (by decide +kernel) ?_
  refine L_iadd (dL0 26 rfl) ?_
  rw [show nI i + 1 = nI (i + 1) from nI_add i 1]
  refine L_sld (dL0 27 rfl) (vp_in_nI (n := i + 1) (by omega) (by omega)) ?_
  rw [nI_clamp (n := i + 1) (by omega)]
  refine L_aload_n (dL0 28 rfl) rfl ?_
  refine L_iload_n (dL0 29 rfl) rfl ?_
  refine LW.pcq (pc2 := 176) rfl ?_
  refine L_iconst (2) (dL0 30 rfl) (by decide +kernel) ?_
  refine L_iadd (dL0 31 rfl) ?_
  rw [show nI i + 2 = nI (i + 2) from nI_add i 2]
  refine L_sld (dL0 32 rfl) (vp_in_nI (n := i + 2) (by omega) (by omega)) ?_
  rw [nI_clamp (n := i + 2) (by omega)]
  refine L_aload_n (dL0 33 rfl) rfl ?_
  refine L_iload_n (dL0 34 rfl) rfl ?_
  refine L_iconst (3) (dL0 35 rfl) (by decide +kernel) ?_
  refine L_iadd (dL0 36 rfl) ?_
  rw [show nI i + 3 = nI (i + 3) from nI_add i 3]
  refine L_sld (dL0 37 rfl) (vp_in_nI (n := i + 3) (by omega) (by omega)) ?_
  rw [nI_clamp (n := i + 3) (by omega)]
  refine L_callV 3 (dL0 38 rfl) cbX5_man cwL_13 k1 rfl rfl (q0 := 0) wK_0 rfl rfl (Nat.le_of_ble_eq_true rfl) (Nat.le_of_ble_eq_true rfl) (Nat.le_of_ble_eq_true rfl) (Nat.zero_le _) (Nat.zero_le _) ?_
  rintro v1 u1 ⟨r1, rfl, p1⟩
  refine LW.pcq (pc2 := 187) rfl ?_
  refine L_aload_n (dL0 39 rfl) rfl ?_
  refine L_aload_n (dL0 40 rfl) rfl ?_
  refine L_iload_n (dL0 41 rfl) rfl ?_
  refine L_iconst (1) (dL0 42 rfl) (by decide +kernel) ?_
  refine L_iadd (dL0 43 rfl) ?_
  rw [show nI i + 1 = nI (i + 1) from nI_add i 1]
  refine L_sld (dL0 44 rfl) (vp_in_nI (n := i + 1) (by omega) (by omega)) ?_
  rw [nI_clamp (n := i + 1) (by omega)]
  refine L_aload_n (dL0 45 rfl) rfl ?_
  refine L_iload_n (dL0 46 rfl) rfl ?_
  refine LW.pcq (pc2 := 195) rfl ?_
  refine L_iconst (2) (dL0 47 rfl) (by decide +kernel) ?_
  refine L_iadd (dL0 48 rfl) ?_
  rw [show nI i + 2 = nI (i + 2) from nI_add i 2]
  refine L_sld (dL0 49 rfl) (vp_in_nI (n := i + 2) (by omega) (by omega)) ?_
  rw [nI_clamp (n := i + 2) (by omega)]
  refine L_aload_n (dL0 50 rfl) rfl ?_
  refine L_iload_n (dL0 51 rfl) rfl ?_
  refine L_iconst (3) (dL0 52 rfl) (by decide +kernel) ?_
  refine L_iadd (dL0 53 rfl) ?_
  rw [show nI i + 3 = nI (i + 3) from nI_add i 3]
  refine L_sld (dL0 54 rfl) (vp_in_nI (n := i + 3) (by omega) (by omega)) ?_
  rw [nI_clamp (n := i + 3) (by omega)]
  refine L_callV 3 (dL0 55 rfl) cbX6_man cwL_17 k2 rfl rfl (q0 := 0) MW_0 rfl rfl (Nat.le_of_ble_eq_true rfl) (Nat.le_of_ble_eq_true rfl) (Nat.le_of_ble_eq_true rfl) (Nat.zero_le _) (Nat.zero_le _) ?_
  rintro v2 u2 ⟨r2, rfl, p2⟩
  refine LW.pcq (pc2 := 206) rfl ?_
  obtain ⟨e, hR⟩ := k3 r1 u1 r2 u2 p1 p2
  refine L_icmp_eq 1009 (dL0 56 rfl) (by decide) (fun _ => ?_) (fun z => absurd e z)
  exact LW.less (by omega) (by omega) (KK _ _ hR)
set_option maxRecDepth 100000 in
set_option maxHeartbeats 400000 in
theorem lw_set {E : ag} {b0 L0 : Nat} {xs0 : Nat → Int32} {bc bs : Nat} (q : Nat → Nat) (kq : Nat) (i : Nat) (hi : i + 6 ≤ L0) (hL : L0 ≤ 3072) (h2 : 2 ≤ bc) (h42 : 42 ≤ bs) {w1 w2 : va_W} (hR : REL E q kq w1 w2) (KK : ∀ w1 w2, REL E q kq w1 w2 → LW E b0 L0 xs0 (bc - 2) (bs - 42) 1009 [some (.ref b0), some (.ref kq), some (.ref (q 0)), some (.int (nI i))] [] (w1 ++ w2)) : LW E b0 L0 xs0 bc bs 211 [some (.ref b0), some (.ref kq), some (.ref (q 0)), some (.int (nI i))] [] (w1 ++ w2) := by
  obtain ⟨cg, qf, gf, af, qd, gd, ad, qk, gk, ak, ql, gl, al, qr, gr, ar, rx, qm, qx, gx, ax, qs, sx, qo, go, ao, qp, gp_, ap, T, ix, g, tw, a, m, tr, tc, n, rfl, rfl, h⟩ := hR
  obtain ⟨Pc, Pr, k1, k2, k3⟩ := op_set E q kq cg qf gf af qd gd ad qk gk ak ql gl al qr gr ar rx qm qx gx ax qs sx qo go ao qp gp_ ap T ix g tw a m tr tc n h (xs0 (i + 1)) (xs0 (i + 2)) (xs0 (i + 3))
  refine L_aload_n (dL0 59 rfl) rfl ?_
  refine L_aload_n (dL1 0 rfl) rfl ?_
  refine L_iload_n (dL1 1 rfl) rfl ?_
  refine L_iconst (1) (dL1 2 rfl) (by decide +kernel) ?_
  refine L_iadd (dL1 3 rfl) ?_
  rw [show nI i + 1 = nI (i + 1) from nI_add i 1]
  refine L_sld (dL1 4 rfl) (vp_in_nI (n := i + 1) (by omega) (by omega)) ?_
  rw [nI_clamp (n := i + 1) (by omega)]
  refine L_aload_n (dL1 5 rfl) rfl ?_
  refine L_iload_n (dL1 6 rfl) rfl ?_
  refine LW.pcq (pc2 := 219) rfl ?_
  refine L_iconst (2) (dL1 7 rfl) (by decide +kernel) ?_
  refine L_iadd (dL1 8 rfl) ?_
  rw [show nI i + 2 = nI (i + 2) from nI_add i 2]
  refine L_sld (dL1 9 rfl) (vp_in_nI (n := i + 2) (by omega) (by omega)) ?_
  rw [nI_clamp (n := i + 2) (by omega)]
  refine L_aload_n (dL1 10 rfl) rfl ?_
  refine L_iload_n (dL1 11 rfl) rfl ?_
  refine L_iconst (3) (dL1 12 rfl) (by decide +kernel) ?_
  refine L_iadd (dL1 13 rfl) ?_
  rw [show nI i + 3 = nI (i + 3) from nI_add i 3]
  refine L_sld (dL1 14 rfl) (vp_in_nI (n := i + 3) (by omega) (by omega)) ?_
  rw [nI_clamp (n := i + 3) (by omega)]
  refine L_callV 3 (dL1 15 rfl) cbX5_set cwL_18 k1 rfl rfl (q0 := 0) wK_0 rfl rfl (Nat.le_of_ble_eq_true rfl) (Nat.le_of_ble_eq_true rfl) (Nat.le_of_ble_eq_true rfl) (Nat.zero_le _) (Nat.zero_le _) ?_
  rintro v1 u1 ⟨r1, rfl, p1⟩
  refine LW.pcq (pc2 := 230) rfl ?_
  refine L_aload_n (dL1 16 rfl) rfl ?_
  refine L_aload_n (dL1 17 rfl) rfl ?_
  refine L_iload_n (dL1 18 rfl) rfl ?_
  refine L_iconst (1) (dL1 19 rfl) (by decide +kernel) ?_
  refine L_iadd (dL1 20 rfl) ?_
  rw [show nI i + 1 = nI (i + 1) from nI_add i 1]
  refine L_sld (dL1 21 rfl) (vp_in_nI (n := i + 1) (by omega) (by omega)) ?_
  rw [nI_clamp (n := i + 1) (by omega)]
  refine L_aload_n (dL1 22 rfl) rfl ?_
  refine L_iload_n (dL1 23 rfl) rfl ?_
  refine LW.pcq (pc2 := 238) rfl ?_
  refine L_iconst (2) (dL1 24 rfl) (by decide +kernel) ?_
  refine L_iadd (dL1 25 rfl) ?_
  rw [show nI i + 2 = nI (i + 2) from nI_add i 2]
  refine L_sld (dL1 26 rfl) (vp_in_nI (n := i + 2) (by omega) (by omega)) ?_
  rw [nI_clamp (n := i + 2) (by omega)]
  refine L_aload_n (dL1 27 rfl) rfl ?_
  refine L_iload_n (dL1 28 rfl) rfl ?_
  refine L_iconst (3) (dL1 29 rfl) (by decide +kernel) ?_
  refine L_iadd (dL1 30 rfl) ?_
  rw [show nI i + 3 = nI (i + 3) from nI_add i 3]
  refine L_sld (dL1 31 rfl) (vp_in_nI (n := i + 3) (by omega) (by omega)) ?_
  rw [nI_clamp (n := i + 3) (by omega)]
  refine L_callV 3 (dL1 32 rfl) cbX6_set cwL_21 k2 rfl rfl (q0 := 0) MW_0 rfl rfl (Nat.le_of_ble_eq_true rfl) (Nat.le_of_ble_eq_true rfl) (Nat.le_of_ble_eq_true rfl) (Nat.zero_le _) (Nat.zero_le _) ?_
  rintro v2 u2 ⟨r2, rfl, p2⟩
  refine LW.pcq (pc2 := 249) rfl ?_
  obtain ⟨e, hR⟩ := k3 r1 u1 r2 u2 p1 p2
  refine L_icmp_eq 1009 (dL1 33 rfl) (by decide) (fun _ => ?_) (fun z => absurd e z)
  exact LW.less (by omega) (by omega) (KK _ _ hR)
set_option maxRecDepth 100000 in
set_option maxHeartbeats 400000 in
theorem lw_told {E : ag} {b0 L0 : Nat} {xs0 : Nat → Int32} {bc bs : Nat} (q : Nat → Nat) (kq : Nat) (i : Nat) (hi : i + 6 ≤ L0) (hL : L0 ≤ 3072) (h2 : 2 ≤ bc) (h42 : 42 ≤ bs) {w1 w2 : va_W} (hR : REL E q kq w1 w2) (KK : ∀ w1 w2, REL E q kq w1 w2 → LW E b0 L0 xs0 (bc - 2) (bs - 42) 1009 [some (.ref b0), some (.ref kq), some (.ref (q 0)), some (.int (nI i))] [] (w1 ++ w2)) : LW E b0 L0 xs0 bc bs 254 [some (.ref b0), some (.ref kq), some (.ref (q 0)), some (.int (nI i))] [] (w1 ++ w2) := by
  obtain ⟨cg, qf, gf, af, qd, gd, ad, qk, gk, ak, ql, gl, al, qr, gr, ar, rx, qm, qx, gx, ax, qs, sx, qo, go, ao, qp, gp_, ap, T, ix, g, tw, a, m, tr, tc, n, rfl, rfl, h⟩ := hR
  obtain ⟨Pc, Pr, k1, k2, k3⟩ := op_told E q kq cg qf gf af qd gd ad qk gk ak ql gl al qr gr ar rx qm qx gx ax qs sx qo go ao qp gp_ ap T ix g tw a m tr tc n h (xs0 (i + 1)) (xs0 (i + 2))
  refine L_aload_n (dL1 36 rfl) rfl ?_
  refine L_aload_n (dL1 37 rfl) rfl ?_
  refine L_iload_n (dL1 38 rfl) rfl ?_
  refine L_iconst (1) (dL1 39 rfl) (by decide +kernel) ?_
  refine L_iadd (dL1 40 rfl) ?_
  rw [show nI i + 1 = nI (i + 1) from nI_add i 1]
  refine L_sld (dL1 41 rfl) (vp_in_nI (n := i + 1) (by omega) (by omega)) ?_
  rw [nI_clamp (n := i + 1) (by omega)]
  refine L_aload_n (dL1 42 rfl) rfl ?_
  refine L_iload_n (dL1 43 rfl) rfl ?_
  refine LW.pcq (pc2 := 262) rfl ?_
  refine L_iconst (2) (dL1 44 rfl) (by decide +kernel) ?_
  refine L_iadd (dL1 45 rfl) ?_
  rw [show nI i + 2 = nI (i + 2) from nI_add i 2]
  refine L_sld (dL1 46 rfl) (vp_in_nI (n := i + 2) (by omega) (by omega)) ?_
  rw [nI_clamp (n := i + 2) (by omega)]
  refine L_callV 2 (dL1 47 rfl) cbX5_told cwL_22 k1 rfl rfl (q0 := 0) wK_0 rfl rfl (Nat.le_of_ble_eq_true rfl) (Nat.le_of_ble_eq_true rfl) (Nat.le_of_ble_eq_true rfl) (Nat.zero_le _) (Nat.zero_le _) ?_
  rintro v1 u1 ⟨r1, rfl, p1⟩
  refine LW.pcq (pc2 := 268) rfl ?_
  refine L_aload_n (dL1 48 rfl) rfl ?_
  refine L_aload_n (dL1 49 rfl) rfl ?_
  refine L_iload_n (dL1 50 rfl) rfl ?_
  refine L_iconst (1) (dL1 51 rfl) (by decide +kernel) ?_
  refine L_iadd (dL1 52 rfl) ?_
  rw [show nI i + 1 = nI (i + 1) from nI_add i 1]
  refine L_sld (dL1 53 rfl) (vp_in_nI (n := i + 1) (by omega) (by omega)) ?_
  rw [nI_clamp (n := i + 1) (by omega)]
  refine L_aload_n (dL1 54 rfl) rfl ?_
  refine L_iload_n (dL1 55 rfl) rfl ?_
  refine LW.pcq (pc2 := 276) rfl ?_
  refine L_iconst (2) (dL1 56 rfl) (by decide +kernel) ?_
  refine L_iadd (dL1 57 rfl) ?_
  rw [show nI i + 2 = nI (i + 2) from nI_add i 2]
  refine L_sld (dL1 58 rfl) (vp_in_nI (n := i + 2) (by omega) (by omega)) ?_
  rw [nI_clamp (n := i + 2) (by omega)]
  refine L_callV 2 (dL1 59 rfl) cbX6_told cwL_26 k2 rfl rfl (q0 := 0) MW_0 rfl rfl (Nat.le_of_ble_eq_true rfl) (Nat.le_of_ble_eq_true rfl) (Nat.le_of_ble_eq_true rfl) (Nat.zero_le _) (Nat.zero_le _) ?_
  rintro v2 u2 ⟨r2, rfl, p2⟩
  refine LW.pcq (pc2 := 282) rfl ?_
  obtain ⟨e, hR⟩ := k3 r1 u1 r2 u2 p1 p2
  refine L_icmp_eq 1009 (dL2 0 rfl) (by decide) (fun _ => ?_) (fun z => absurd e z)
  exact LW.less (by omega) (by omega) (KK _ _ hR)
set_option maxRecDepth 100000 in
set_option maxHeartbeats 400000 in
theorem lw_mends {E : ag} {b0 L0 : Nat} {xs0 : Nat → Int32} {bc bs : Nat} (q : Nat → Nat) (kq : Nat) (i : Nat) (hi : i + 6 ≤ L0) (hL : L0 ≤ 3072) (h2 : 2 ≤ bc) (h42 : 42 ≤ bs) {w1 w2 : va_W} (hR : REL E q kq w1 w2) (KK : ∀ w1 w2, REL E q kq w1 w2 → LW E b0 L0 xs0 (bc - 2) (bs - 42) 1009 [some (.ref b0), some (.ref kq), some (.ref (q 0)), some (.int (nI i))] [] (w1 ++ w2)) : LW E b0 L0 xs0 bc bs 287 [some (.ref b0), some (.ref kq), some (.ref (q 0)), some (.int (nI i))] [] (w1 ++ w2) := by
  obtain ⟨cg, qf, gf, af, qd, gd, ad, qk, gk, ak, ql, gl, al, qr, gr, ar, rx, qm, qx, gx, ax, qs, sx, qo, go, ao, qp, gp_, ap, T, ix, g, tw, a, m, tr, tc, n, rfl, rfl, h⟩ := hR
  obtain ⟨Pc, Pr, k1, k2, k3⟩ := op_mends E q kq cg qf gf af qd gd ad qk gk ak ql gl al qr gr ar rx qm qx gx ax qs sx qo go ao qp gp_ ap T ix g tw a m tr tc n h (xs0 (i + 1)) (xs0 (i + 2))
  refine L_aload_n (dL2 3 rfl) rfl ?_
  refine L_aload_n (dL2 4 rfl) rfl ?_
  refine L_iload_n (dL2 5 rfl) rfl ?_
  refine L_iconst (1) (dL2 6 rfl) (by decide +kernel) ?_
  refine L_iadd (dL2 7 rfl) ?_
  rw [show nI i + 1 = nI (i + 1) from nI_add i 1]
  refine L_sld (dL2 8 rfl) (vp_in_nI (n := i + 1) (by omega) (by omega)) ?_
  rw [nI_clamp (n := i + 1) (by omega)]
  refine L_aload_n (dL2 9 rfl) rfl ?_
  refine L_iload_n (dL2 10 rfl) rfl ?_
  refine LW.pcq (pc2 := 295) rfl ?_
  refine L_iconst (2) (dL2 11 rfl) (by decide +kernel) ?_
  refine L_iadd (dL2 12 rfl) ?_
  rw [show nI i + 2 = nI (i + 2) from nI_add i 2]
  refine L_sld (dL2 13 rfl) (vp_in_nI (n := i + 2) (by omega) (by omega)) ?_
  rw [nI_clamp (n := i + 2) (by omega)]
  refine L_callV 2 (dL2 14 rfl) cbX5_mends cwL_27 k1 rfl rfl (q0 := 0) wK_0 rfl rfl (Nat.le_of_ble_eq_true rfl) (Nat.le_of_ble_eq_true rfl) (Nat.le_of_ble_eq_true rfl) (Nat.zero_le _) (Nat.zero_le _) ?_
  rintro v1 u1 ⟨r1, rfl, p1⟩
  refine LW.pcq (pc2 := 301) rfl ?_
  refine L_aload_n (dL2 15 rfl) rfl ?_
  refine L_aload_n (dL2 16 rfl) rfl ?_
  refine L_iload_n (dL2 17 rfl) rfl ?_
  refine L_iconst (1) (dL2 18 rfl) (by decide +kernel) ?_
  refine L_iadd (dL2 19 rfl) ?_
  rw [show nI i + 1 = nI (i + 1) from nI_add i 1]
  refine L_sld (dL2 20 rfl) (vp_in_nI (n := i + 1) (by omega) (by omega)) ?_
  rw [nI_clamp (n := i + 1) (by omega)]
  refine L_aload_n (dL2 21 rfl) rfl ?_
  refine L_iload_n (dL2 22 rfl) rfl ?_
  refine LW.pcq (pc2 := 309) rfl ?_
  refine L_iconst (2) (dL2 23 rfl) (by decide +kernel) ?_
  refine L_iadd (dL2 24 rfl) ?_
  rw [show nI i + 2 = nI (i + 2) from nI_add i 2]
  refine L_sld (dL2 25 rfl) (vp_in_nI (n := i + 2) (by omega) (by omega)) ?_
  rw [nI_clamp (n := i + 2) (by omega)]
  refine L_callV 2 (dL2 26 rfl) cbX6_mends cwL_30 k2 rfl rfl (q0 := 0) MW_0 rfl rfl (Nat.le_of_ble_eq_true rfl) (Nat.le_of_ble_eq_true rfl) (Nat.le_of_ble_eq_true rfl) (Nat.zero_le _) (Nat.zero_le _) ?_
  rintro v2 u2 ⟨r2, rfl, p2⟩
  refine LW.pcq (pc2 := 315) rfl ?_
  obtain ⟨e, hR⟩ := k3 r1 u1 r2 u2 p1 p2
  refine L_icmp_eq 1009 (dL2 27 rfl) (by decide) (fun _ => ?_) (fun z => absurd e z)
  exact LW.less (by omega) (by omega) (KK _ _ hR)
set_option maxRecDepth 100000 in
set_option maxHeartbeats 400000 in
theorem lw_feed {E : ag} {b0 L0 : Nat} {xs0 : Nat → Int32} {bc bs : Nat} (q : Nat → Nat) (kq : Nat) (i : Nat) (hi : i + 6 ≤ L0) (hL : L0 ≤ 3072) (h2 : 2 ≤ bc) (h42 : 42 ≤ bs) {w1 w2 : va_W} (hR : REL E q kq w1 w2) (KK : ∀ w1 w2, REL E q kq w1 w2 → LW E b0 L0 xs0 (bc - 2) (bs - 42) 1009 [some (.ref b0), some (.ref kq), some (.ref (q 0)), some (.int (nI i))] [] (w1 ++ w2)) : LW E b0 L0 xs0 bc bs 320 [some (.ref b0), some (.ref kq), some (.ref (q 0)), some (.int (nI i))] [] (w1 ++ w2) := by
  obtain ⟨cg, qf, gf, af, qd, gd, ad, qk, gk, ak, ql, gl, al, qr, gr, ar, rx, qm, qx, gx, ax, qs, sx, qo, go, ao, qp, gp_, ap, T, ix, g, tw, a, m, tr, tc, n, rfl, rfl, h⟩ := hR
  obtain ⟨Pc, Pr, k1, k2, k3⟩ := op_feed E q kq cg qf gf af qd gd ad qk gk ak ql gl al qr gr ar rx qm qx gx ax qs sx qo go ao qp gp_ ap T ix g tw a m tr tc n h (xs0 (i + 1))
  refine L_aload_n (dL2 30 rfl) rfl ?_
  refine L_aload_n (dL2 31 rfl) rfl ?_
  refine L_iload_n (dL2 32 rfl) rfl ?_
  refine L_iconst (1) (dL2 33 rfl) (by decide +kernel) ?_
  refine L_iadd (dL2 34 rfl) ?_
  rw [show nI i + 1 = nI (i + 1) from nI_add i 1]
  refine L_sld (dL2 35 rfl) (vp_in_nI (n := i + 1) (by omega) (by omega)) ?_
  rw [nI_clamp (n := i + 1) (by omega)]
  refine L_callV 1 (dL2 36 rfl) cbX5_feed cwL_31 k1 rfl rfl (q0 := 0) wK_0 rfl rfl (Nat.le_of_ble_eq_true rfl) (Nat.le_of_ble_eq_true rfl) (Nat.le_of_ble_eq_true rfl) (Nat.zero_le _) (Nat.zero_le _) ?_
  rintro v1 u1 ⟨r1, rfl, p1⟩
  refine LW.pcq (pc2 := 329) rfl ?_
  refine L_aload_n (dL2 37 rfl) rfl ?_
  refine L_aload_n (dL2 38 rfl) rfl ?_
  refine L_iload_n (dL2 39 rfl) rfl ?_
  refine L_iconst (1) (dL2 40 rfl) (by decide +kernel) ?_
  refine L_iadd (dL2 41 rfl) ?_
  rw [show nI i + 1 = nI (i + 1) from nI_add i 1]
  refine L_sld (dL2 42 rfl) (vp_in_nI (n := i + 1) (by omega) (by omega)) ?_
  rw [nI_clamp (n := i + 1) (by omega)]
  refine L_callV 1 (dL2 43 rfl) cbX6_feed cwL_35 k2 rfl rfl (q0 := 0) MW_0 rfl rfl (Nat.le_of_ble_eq_true rfl) (Nat.le_of_ble_eq_true rfl) (Nat.le_of_ble_eq_true rfl) (Nat.zero_le _) (Nat.zero_le _) ?_
  rintro v2 u2 ⟨r2, rfl, p2⟩
  refine LW.pcq (pc2 := 338) rfl ?_
  obtain ⟨e, hR⟩ := k3 r1 u1 r2 u2 p1 p2
  refine L_icmp_eq 1009 (dL2 44 rfl) (by decide) (fun _ => ?_) (fun z => absurd e z)
  exact LW.less (by omega) (by omega) (KK _ _ hR)
set_option maxRecDepth 100000 in
set_option maxHeartbeats 400000 in
theorem lw_text {E : ag} {b0 L0 : Nat} {xs0 : Nat → Int32} {bc bs : Nat} (q : Nat → Nat) (kq : Nat) (i : Nat) (hi : i + 6 ≤ L0) (hL : L0 ≤ 3072) (h2 : 2 ≤ bc) (h42 : 42 ≤ bs) {w1 w2 : va_W} (hR : REL E q kq w1 w2) (KK : ∀ w1 w2, REL E q kq w1 w2 → LW E b0 L0 xs0 (bc - 2) (bs - 42) 1009 [some (.ref b0), some (.ref kq), some (.ref (q 0)), some (.int (nI i))] [] (w1 ++ w2)) : LW E b0 L0 xs0 bc bs 343 [some (.ref b0), some (.ref kq), some (.ref (q 0)), some (.int (nI i))] [] (w1 ++ w2) := by
  obtain ⟨cg, qf, gf, af, qd, gd, ad, qk, gk, ak, ql, gl, al, qr, gr, ar, rx, qm, qx, gx, ax, qs, sx, qo, go, ao, qp, gp_, ap, T, ix, g, tw, a, m, tr, tc, n, rfl, rfl, h⟩ := hR
  obtain ⟨Pc, Pr, k1, k2, k3⟩ := op_text E q kq cg qf gf af qd gd ad qk gk ak ql gl al qr gr ar rx qm qx gx ax qs sx qo go ao qp gp_ ap T ix g tw a m tr tc n h
  refine L_aload_n (dL2 47 rfl) rfl ?_
  refine L_callV 0 (dL2 48 rfl) cbX5_text cwL_36 k1 rfl rfl (q0 := 0) wK_0 rfl rfl (Nat.le_of_ble_eq_true rfl) (Nat.le_of_ble_eq_true rfl) (Nat.le_of_ble_eq_true rfl) (Nat.zero_le _) (Nat.zero_le _) ?_
  rintro v1 u1 ⟨r1, rfl, p1⟩
  refine LW.pcq (pc2 := 347) rfl ?_
  refine L_aload_n (dL2 49 rfl) rfl ?_
  refine L_callV 0 (dL2 50 rfl) cbX6_text cwL_40 k2 rfl rfl (q0 := 0) MW_0 rfl rfl (Nat.le_of_ble_eq_true rfl) (Nat.le_of_ble_eq_true rfl) (Nat.le_of_ble_eq_true rfl) (Nat.zero_le _) (Nat.zero_le _) ?_
  rintro v2 u2 ⟨r2, rfl, p2⟩
  refine LW.pcq (pc2 := 351) rfl ?_
  obtain ⟨e, hR⟩ := k3 r1 u1 r2 u2 p1 p2
  refine L_icmp_eq 1009 (dL2 51 rfl) (by decide) (fun _ => ?_) (fun z => absurd e z)
  exact LW.less (by omega) (by omega) (KK _ _ hR)
set_option maxRecDepth 100000 in
set_option maxHeartbeats 400000 in
theorem lw_force {E : ag} {b0 L0 : Nat} {xs0 : Nat → Int32} {bc bs : Nat} (q : Nat → Nat) (kq : Nat) (i : Nat) (hi : i + 6 ≤ L0) (hL : L0 ≤ 3072) (h2 : 2 ≤ bc) (h42 : 42 ≤ bs) {w1 w2 : va_W} (hR : REL E q kq w1 w2) (KK : ∀ w1 w2, REL E q kq w1 w2 → LW E b0 L0 xs0 (bc - 2) (bs - 42) 1009 [some (.ref b0), some (.ref kq), some (.ref (q 0)), some (.int (nI i))] [] (w1 ++ w2)) : LW E b0 L0 xs0 bc bs 356 [some (.ref b0), some (.ref kq), some (.ref (q 0)), some (.int (nI i))] [] (w1 ++ w2) := by
  obtain ⟨cg, qf, gf, af, qd, gd, ad, qk, gk, ak, ql, gl, al, qr, gr, ar, rx, qm, qx, gx, ax, qs, sx, qo, go, ao, qp, gp_, ap, T, ix, g, tw, a, m, tr, tc, n, rfl, rfl, h⟩ := hR
  obtain ⟨Pc, Pr, k1, k2, k3⟩ := op_force E q kq cg qf gf af qd gd ad qk gk ak ql gl al qr gr ar rx qm qx gx ax qs sx qo go ao qp gp_ ap T ix g tw a m tr tc n h (xs0 (i + 1))
  refine L_aload_n (dL2 54 rfl) rfl ?_
  refine L_aload_n (dL2 55 rfl) rfl ?_
  refine L_iload_n (dL2 56 rfl) rfl ?_
  refine L_iconst (1) (dL2 57 rfl) (by decide +kernel) ?_
  refine L_iadd (dL2 58 rfl) ?_
  rw [show nI i + 1 = nI (i + 1) from nI_add i 1]
  refine L_sld (dL2 59 rfl) (vp_in_nI (n := i + 1) (by omega) (by omega)) ?_
  rw [nI_clamp (n := i + 1) (by omega)]
  refine L_callV 1 (dL3 0 rfl) cbX5_force cwL_41 k1 rfl rfl (q0 := 0) wK_0 rfl rfl (Nat.le_of_ble_eq_true rfl) (Nat.le_of_ble_eq_true rfl) (Nat.le_of_ble_eq_true rfl) (Nat.zero_le _) (Nat.zero_le _) ?_
  rintro v1 u1 ⟨r1, rfl, p1⟩
  refine LW.pcq (pc2 := 365) rfl ?_
  refine L_aload_n (dL3 1 rfl) rfl ?_
  refine L_aload_n (dL3 2 rfl) rfl ?_
  refine L_iload_n (dL3 3 rfl) rfl ?_
  refine L_iconst (1) (dL3 4 rfl) (by decide +kernel) ?_
  refine L_iadd (dL3 5 rfl) ?_
  rw [show nI i + 1 = nI (i + 1) from nI_add i 1]
  refine L_sld (dL3 6 rfl) (vp_in_nI (n := i + 1) (by omega) (by omega)) ?_
  rw [nI_clamp (n := i + 1) (by omega)]
  refine L_callV 1 (dL3 7 rfl) cbX6_force cwL_44 k2 rfl rfl (q0 := 0) MW_0 rfl rfl (Nat.le_of_ble_eq_true rfl) (Nat.le_of_ble_eq_true rfl) (Nat.le_of_ble_eq_true rfl) (Nat.zero_le _) (Nat.zero_le _) ?_
  rintro v2 u2 ⟨r2, rfl, p2⟩
  refine LW.pcq (pc2 := 374) rfl ?_
  obtain ⟨e, hR⟩ := k3 r1 u1 r2 u2 p1 p2
  refine L_icmp_eq 1009 (dL3 8 rfl) (by decide) (fun _ => ?_) (fun z => absurd e z)
  exact LW.less (by omega) (by omega) (KK _ _ hR)
set_option maxRecDepth 100000 in
set_option maxHeartbeats 400000 in
theorem lw_round {E : ag} {b0 L0 : Nat} {xs0 : Nat → Int32} {bc bs : Nat} (q : Nat → Nat) (kq : Nat) (i : Nat) (hi : i + 6 ≤ L0) (hL : L0 ≤ 3072) (h2 : 2 ≤ bc) (h42 : 42 ≤ bs) {w1 w2 : va_W} (hR : REL E q kq w1 w2) (KK : ∀ w1 w2, REL E q kq w1 w2 → LW E b0 L0 xs0 (bc - 2) (bs - 42) 1009 [some (.ref b0), some (.ref kq), some (.ref (q 0)), some (.int (nI i))] [] (w1 ++ w2)) : LW E b0 L0 xs0 bc bs 379 [some (.ref b0), some (.ref kq), some (.ref (q 0)), some (.int (nI i))] [] (w1 ++ w2) := by
  obtain ⟨cg, qf, gf, af, qd, gd, ad, qk, gk, ak, ql, gl, al, qr, gr, ar, rx, qm, qx, gx, ax, qs, sx, qo, go, ao, qp, gp_, ap, T, ix, g, tw, a, m, tr, tc, n, rfl, rfl, h⟩ := hR
  obtain ⟨Pc, Pr, k1, k2, k3⟩ := op_round E q kq cg qf gf af qd gd ad qk gk ak ql gl al qr gr ar rx qm qx gx ax qs sx qo go ao qp gp_ ap T ix g tw a m tr tc n h
  refine L_aload_n (dL3 11 rfl) rfl ?_
  refine L_callV 0 (dL3 12 rfl) cbX5_round cwL_45 k1 rfl rfl (q0 := 0) wK_0 rfl rfl (Nat.le_of_ble_eq_true rfl) (Nat.le_of_ble_eq_true rfl) (Nat.le_of_ble_eq_true rfl) (Nat.zero_le _) (Nat.zero_le _) ?_
  rintro v1 u1 ⟨r1, rfl, p1⟩
  refine LW.pcq (pc2 := 383) rfl ?_
  refine L_aload_n (dL3 13 rfl) rfl ?_
  refine L_callV 0 (dL3 14 rfl) cbX6_round cwL_48 k2 rfl rfl (q0 := 0) MW_0 rfl rfl (Nat.le_of_ble_eq_true rfl) (Nat.le_of_ble_eq_true rfl) (Nat.le_of_ble_eq_true rfl) (Nat.zero_le _) (Nat.zero_le _) ?_
  rintro v2 u2 ⟨r2, rfl, p2⟩
  refine LW.pcq (pc2 := 387) rfl ?_
  obtain ⟨e, hR⟩ := k3 r1 u1 r2 u2 p1 p2
  refine L_icmp_eq 1009 (dL3 15 rfl) (by decide) (fun _ => ?_) (fun z => absurd e z)
  exact LW.less (by omega) (by omega) (KK _ _ hR)
set_option maxRecDepth 100000 in
set_option maxHeartbeats 400000 in
theorem lw_run {E : ag} {b0 L0 : Nat} {xs0 : Nat → Int32} {bc bs : Nat} (q : Nat → Nat) (kq : Nat) (i : Nat) (hi : i + 6 ≤ L0) (hL : L0 ≤ 3072) (h2 : 2 ≤ bc) (h42 : 42 ≤ bs) {w1 w2 : va_W} (hR : REL E q kq w1 w2) (KK : ∀ w1 w2, REL E q kq w1 w2 → LW E b0 L0 xs0 (bc - 2) (bs - 42) 1009 [some (.ref b0), some (.ref kq), some (.ref (q 0)), some (.int (nI i))] [] (w1 ++ w2)) : LW E b0 L0 xs0 bc bs 392 [some (.ref b0), some (.ref kq), some (.ref (q 0)), some (.int (nI i))] [] (w1 ++ w2) := by
  obtain ⟨cg, qf, gf, af, qd, gd, ad, qk, gk, ak, ql, gl, al, qr, gr, ar, rx, qm, qx, gx, ax, qs, sx, qo, go, ao, qp, gp_, ap, T, ix, g, tw, a, m, tr, tc, n, rfl, rfl, h⟩ := hR
  obtain ⟨Pc, Pr, k1, k2, k3⟩ := op_run E q kq cg qf gf af qd gd ad qk gk ak ql gl al qr gr ar rx qm qx gx ax qs sx qo go ao qp gp_ ap T ix g tw a m tr tc n h (xs0 (i + 1)) (xs0 (i + 2))
  refine L_aload_n (dL3 18 rfl) rfl ?_
  refine L_aload_n (dL3 19 rfl) rfl ?_
  refine L_iload_n (dL3 20 rfl) rfl ?_
  refine L_iconst (1) (dL3 21 rfl) (by decide +kernel) ?_
  refine L_iadd (dL3 22 rfl) ?_
  rw [show nI i + 1 = nI (i + 1) from nI_add i 1]
  refine L_sld (dL3 23 rfl) (vp_in_nI (n := i + 1) (by omega) (by omega)) ?_
  rw [nI_clamp (n := i + 1) (by omega)]
  refine L_aload_n (dL3 24 rfl) rfl ?_
  refine L_iload_n (dL3 25 rfl) rfl ?_
  refine LW.pcq (pc2 := 400) rfl ?_
  refine L_iconst (2) (dL3 26 rfl) (by decide +kernel) ?_
  refine L_iadd (dL3 27 rfl) ?_
  rw [show nI i + 2 = nI (i + 2) from nI_add i 2]
  refine L_sld (dL3 28 rfl) (vp_in_nI (n := i + 2) (by omega) (by omega)) ?_
  rw [nI_clamp (n := i + 2) (by omega)]
  refine L_callV 2 (dL3 29 rfl) cbX5_run cwL_49 k1 rfl rfl (q0 := 0) wK_0 rfl rfl (Nat.le_of_ble_eq_true rfl) (Nat.le_of_ble_eq_true rfl) (Nat.le_of_ble_eq_true rfl) (Nat.zero_le _) (Nat.zero_le _) ?_
  rintro v1 u1 ⟨r1, rfl, p1⟩
  refine LW.pcq (pc2 := 406) rfl ?_
  refine L_aload_n (dL3 30 rfl) rfl ?_
  refine L_aload_n (dL3 31 rfl) rfl ?_
  refine L_iload_n (dL3 32 rfl) rfl ?_
  refine L_iconst (1) (dL3 33 rfl) (by decide +kernel) ?_
  refine L_iadd (dL3 34 rfl) ?_
  rw [show nI i + 1 = nI (i + 1) from nI_add i 1]
  refine L_sld (dL3 35 rfl) (vp_in_nI (n := i + 1) (by omega) (by omega)) ?_
  rw [nI_clamp (n := i + 1) (by omega)]
  refine L_aload_n (dL3 36 rfl) rfl ?_
  refine L_iload_n (dL3 37 rfl) rfl ?_
  refine LW.pcq (pc2 := 414) rfl ?_
  refine L_iconst (2) (dL3 38 rfl) (by decide +kernel) ?_
  refine L_iadd (dL3 39 rfl) ?_
  rw [show nI i + 2 = nI (i + 2) from nI_add i 2]
  refine L_sld (dL3 40 rfl) (vp_in_nI (n := i + 2) (by omega) (by omega)) ?_
  rw [nI_clamp (n := i + 2) (by omega)]
  refine L_callV 2 (dL3 41 rfl) cbX6_run cwL_52 k2 rfl rfl (q0 := 0) MW_0 rfl rfl (Nat.le_of_ble_eq_true rfl) (Nat.le_of_ble_eq_true rfl) (Nat.le_of_ble_eq_true rfl) (Nat.zero_le _) (Nat.zero_le _) ?_
  rintro v2 u2 ⟨r2, rfl, p2⟩
  refine LW.pcq (pc2 := 420) rfl ?_
  obtain ⟨e, hR⟩ := k3 r1 u1 r2 u2 p1 p2
  refine L_icmp_eq 1009 (dL3 42 rfl) (by decide) (fun _ => ?_) (fun z => absurd e z)
  exact LW.less (by omega) (by omega) (KK _ _ hR)
set_option maxRecDepth 100000 in
set_option maxHeartbeats 400000 in
theorem lw_beat {E : ag} {b0 L0 : Nat} {xs0 : Nat → Int32} {bc bs : Nat} (q : Nat → Nat) (kq : Nat) (i : Nat) (hi : i + 6 ≤ L0) (hL : L0 ≤ 3072) (h2 : 2 ≤ bc) (h42 : 42 ≤ bs) {w1 w2 : va_W} (hR : REL E q kq w1 w2) (KK : ∀ w1 w2, REL E q kq w1 w2 → LW E b0 L0 xs0 (bc - 2) (bs - 42) 1009 [some (.ref b0), some (.ref kq), some (.ref (q 0)), some (.int (nI i))] [] (w1 ++ w2)) : LW E b0 L0 xs0 bc bs 425 [some (.ref b0), some (.ref kq), some (.ref (q 0)), some (.int (nI i))] [] (w1 ++ w2) := by
  obtain ⟨cg, qf, gf, af, qd, gd, ad, qk, gk, ak, ql, gl, al, qr, gr, ar, rx, qm, qx, gx, ax, qs, sx, qo, go, ao, qp, gp_, ap, T, ix, g, tw, a, m, tr, tc, n, rfl, rfl, h⟩ := hR
  obtain ⟨Pc, Pr, k1, k2, k3⟩ := op_beat E q kq cg qf gf af qd gd ad qk gk ak ql gl al qr gr ar rx qm qx gx ax qs sx qo go ao qp gp_ ap T ix g tw a m tr tc n h (xs0 (i + 1)) (xs0 (i + 2))
  refine L_aload_n (dL3 45 rfl) rfl ?_
  refine L_aload_n (dL3 46 rfl) rfl ?_
  refine L_iload_n (dL3 47 rfl) rfl ?_
  refine L_iconst (1) (dL3 48 rfl) (by decide +kernel) ?_
  refine L_iadd (dL3 49 rfl) ?_
  rw [show nI i + 1 = nI (i + 1) from nI_add i 1]
  refine L_sld (dL3 50 rfl) (vp_in_nI (n := i + 1) (by omega) (by omega)) ?_
  rw [nI_clamp (n := i + 1) (by omega)]
  refine L_aload_n (dL3 51 rfl) rfl ?_
  refine L_iload_n (dL3 52 rfl) rfl ?_
  refine LW.pcq (pc2 := 433) rfl ?_
  refine L_iconst (2) (dL3 53 rfl) (by decide +kernel) ?_
  refine L_iadd (dL3 54 rfl) ?_
  rw [show nI i + 2 = nI (i + 2) from nI_add i 2]
  refine L_sld (dL3 55 rfl) (vp_in_nI (n := i + 2) (by omega) (by omega)) ?_
  rw [nI_clamp (n := i + 2) (by omega)]
  refine L_callV 2 (dL3 56 rfl) cbX5_beat cwL_53 k1 rfl rfl (q0 := 0) wK_0 rfl rfl (Nat.le_of_ble_eq_true rfl) (Nat.le_of_ble_eq_true rfl) (Nat.le_of_ble_eq_true rfl) (Nat.zero_le _) (Nat.zero_le _) ?_
  rintro v1 u1 ⟨r1, rfl, p1⟩
  refine LW.pcq (pc2 := 439) rfl ?_
  refine L_aload_n (dL3 57 rfl) rfl ?_
  refine L_aload_n (dL3 58 rfl) rfl ?_
  refine L_iload_n (dL3 59 rfl) rfl ?_
  refine L_iconst (1) (dL4 0 rfl) (by decide +kernel) ?_
  refine L_iadd (dL4 1 rfl) ?_
  rw [show nI i + 1 = nI (i + 1) from nI_add i 1]
  refine L_sld (dL4 2 rfl) (vp_in_nI (n := i + 1) (by omega) (by omega)) ?_
  rw [nI_clamp (n := i + 1) (by omega)]
  refine L_aload_n (dL4 3 rfl) rfl ?_
  refine L_iload_n (dL4 4 rfl) rfl ?_
  refine LW.pcq (pc2 := 447) rfl ?_
  refine L_iconst (2) (dL4 5 rfl) (by decide +kernel) ?_
  refine L_iadd (dL4 6 rfl) ?_
  rw [show nI i + 2 = nI (i + 2) from nI_add i 2]
  refine L_sld (dL4 7 rfl) (vp_in_nI (n := i + 2) (by omega) (by omega)) ?_
  rw [nI_clamp (n := i + 2) (by omega)]
  refine L_callV 2 (dL4 8 rfl) cbX6_beat cwL_56 k2 rfl rfl (q0 := 0) MW_0 rfl rfl (Nat.le_of_ble_eq_true rfl) (Nat.le_of_ble_eq_true rfl) (Nat.le_of_ble_eq_true rfl) (Nat.zero_le _) (Nat.zero_le _) ?_
  rintro v2 u2 ⟨r2, rfl, p2⟩
  refine LW.pcq (pc2 := 453) rfl ?_
  obtain ⟨e, hR⟩ := k3 r1 u1 r2 u2 p1 p2
  refine L_icmp_eq 1009 (dL4 9 rfl) (by decide) (fun _ => ?_) (fun z => absurd e z)
  exact LW.less (by omega) (by omega) (KK _ _ hR)
set_option maxRecDepth 100000 in
set_option maxHeartbeats 400000 in
theorem lw_holds {E : ag} {b0 L0 : Nat} {xs0 : Nat → Int32} {bc bs : Nat} (q : Nat → Nat) (kq : Nat) (i : Nat) (hi : i + 6 ≤ L0) (hL : L0 ≤ 3072) (h2 : 2 ≤ bc) (h42 : 42 ≤ bs) {w1 w2 : va_W} (hR : REL E q kq w1 w2) (KK : ∀ w1 w2, REL E q kq w1 w2 → LW E b0 L0 xs0 (bc - 2) (bs - 42) 1009 [some (.ref b0), some (.ref kq), some (.ref (q 0)), some (.int (nI i))] [] (w1 ++ w2)) : LW E b0 L0 xs0 bc bs 458 [some (.ref b0), some (.ref kq), some (.ref (q 0)), some (.int (nI i))] [] (w1 ++ w2) := by
  obtain ⟨cg, qf, gf, af, qd, gd, ad, qk, gk, ak, ql, gl, al, qr, gr, ar, rx, qm, qx, gx, ax, qs, sx, qo, go, ao, qp, gp_, ap, T, ix, g, tw, a, m, tr, tc, n, rfl, rfl, h⟩ := hR
  obtain ⟨Pc, Pr, k1, k2, k3⟩ := op_holds E q kq cg qf gf af qd gd ad qk gk ak ql gl al qr gr ar rx qm qx gx ax qs sx qo go ao qp gp_ ap T ix g tw a m tr tc n h
  refine L_aload_n (dL4 12 rfl) rfl ?_
  refine L_callV 0 (dL4 13 rfl) cbX5_holds cwL_57 k1 rfl rfl (q0 := 0) wK_0 rfl rfl (Nat.le_of_ble_eq_true rfl) (Nat.le_of_ble_eq_true rfl) (Nat.le_of_ble_eq_true rfl) (Nat.zero_le _) (Nat.zero_le _) ?_
  rintro v1 u1 ⟨r1, rfl, p1⟩
  refine LW.pcq (pc2 := 462) rfl ?_
  refine L_aload_n (dL4 14 rfl) rfl ?_
  refine L_callV 0 (dL4 15 rfl) cbX6_holds cwL_60 k2 rfl rfl (q0 := 0) MW_0 rfl rfl (Nat.le_of_ble_eq_true rfl) (Nat.le_of_ble_eq_true rfl) (Nat.le_of_ble_eq_true rfl) (Nat.zero_le _) (Nat.zero_le _) ?_
  rintro v2 u2 ⟨r2, rfl, p2⟩
  refine LW.pcq (pc2 := 466) rfl ?_
  obtain ⟨e, hR⟩ := k3 r1 u1 r2 u2 p1 p2
  refine L_icmp_eq 1009 (dL4 16 rfl) (by decide) (fun _ => ?_) (fun z => absurd e z)
  exact LW.less (by omega) (by omega) (KK _ _ hR)
set_option maxRecDepth 100000 in
set_option maxHeartbeats 400000 in
theorem lw_bar {E : ag} {b0 L0 : Nat} {xs0 : Nat → Int32} {bc bs : Nat} (q : Nat → Nat) (kq : Nat) (i : Nat) (hi : i + 6 ≤ L0) (hL : L0 ≤ 3072) (h2 : 2 ≤ bc) (h42 : 42 ≤ bs) {w1 w2 : va_W} (hR : REL E q kq w1 w2) (KK : ∀ w1 w2, REL E q kq w1 w2 → LW E b0 L0 xs0 (bc - 2) (bs - 42) 1009 [some (.ref b0), some (.ref kq), some (.ref (q 0)), some (.int (nI i))] [] (w1 ++ w2)) : LW E b0 L0 xs0 bc bs 471 [some (.ref b0), some (.ref kq), some (.ref (q 0)), some (.int (nI i))] [] (w1 ++ w2) := by
  obtain ⟨cg, qf, gf, af, qd, gd, ad, qk, gk, ak, ql, gl, al, qr, gr, ar, rx, qm, qx, gx, ax, qs, sx, qo, go, ao, qp, gp_, ap, T, ix, g, tw, a, m, tr, tc, n, rfl, rfl, h⟩ := hR
  obtain ⟨Pc, Pr, k1, k2, k3⟩ := op_bar E q kq cg qf gf af qd gd ad qk gk ak ql gl al qr gr ar rx qm qx gx ax qs sx qo go ao qp gp_ ap T ix g tw a m tr tc n h (xs0 (i + 1))
  refine L_aload_n (dL4 19 rfl) rfl ?_
  refine L_aload_n (dL4 20 rfl) rfl ?_
  refine L_iload_n (dL4 21 rfl) rfl ?_
  refine L_iconst (1) (dL4 22 rfl) (by decide +kernel) ?_
  refine L_iadd (dL4 23 rfl) ?_
  rw [show nI i + 1 = nI (i + 1) from nI_add i 1]
  refine L_sld (dL4 24 rfl) (vp_in_nI (n := i + 1) (by omega) (by omega)) ?_
  rw [nI_clamp (n := i + 1) (by omega)]
  refine L_callV 1 (dL4 25 rfl) cbX5_bar cwL_61 k1 rfl rfl (q0 := 0) wK_0 rfl rfl (Nat.le_of_ble_eq_true rfl) (Nat.le_of_ble_eq_true rfl) (Nat.le_of_ble_eq_true rfl) (Nat.zero_le _) (Nat.zero_le _) ?_
  rintro v1 u1 ⟨r1, rfl, p1⟩
  refine LW.pcq (pc2 := 480) rfl ?_
  refine L_aload_n (dL4 26 rfl) rfl ?_
  refine L_aload_n (dL4 27 rfl) rfl ?_
  refine L_iload_n (dL4 28 rfl) rfl ?_
  refine L_iconst (1) (dL4 29 rfl) (by decide +kernel) ?_
  refine L_iadd (dL4 30 rfl) ?_
  rw [show nI i + 1 = nI (i + 1) from nI_add i 1]
  refine L_sld (dL4 31 rfl) (vp_in_nI (n := i + 1) (by omega) (by omega)) ?_
  rw [nI_clamp (n := i + 1) (by omega)]
  refine L_callV 1 (dL4 32 rfl) cbX6_bar cwL_64 k2 rfl rfl (q0 := 0) MW_0 rfl rfl (Nat.le_of_ble_eq_true rfl) (Nat.le_of_ble_eq_true rfl) (Nat.le_of_ble_eq_true rfl) (Nat.zero_le _) (Nat.zero_le _) ?_
  rintro v2 u2 ⟨r2, rfl, p2⟩
  refine LW.pcq (pc2 := 489) rfl ?_
  obtain ⟨e, hR⟩ := k3 r1 u1 r2 u2 p1 p2
  refine L_icmp_eq 1009 (dL4 33 rfl) (by decide) (fun _ => ?_) (fun z => absurd e z)
  exact LW.less (by omega) (by omega) (KK _ _ hR)
set_option maxRecDepth 100000 in
set_option maxHeartbeats 400000 in
theorem lw_order {E : ag} {b0 L0 : Nat} {xs0 : Nat → Int32} {bc bs : Nat} (q : Nat → Nat) (kq : Nat) (i : Nat) (hi : i + 6 ≤ L0) (hL : L0 ≤ 3072) (h2 : 2 ≤ bc) (h42 : 42 ≤ bs) {w1 w2 : va_W} (hR : REL E q kq w1 w2) (KK : ∀ w1 w2, REL E q kq w1 w2 → LW E b0 L0 xs0 (bc - 2) (bs - 42) 1009 [some (.ref b0), some (.ref kq), some (.ref (q 0)), some (.int (nI i))] [] (w1 ++ w2)) : LW E b0 L0 xs0 bc bs 494 [some (.ref b0), some (.ref kq), some (.ref (q 0)), some (.int (nI i))] [] (w1 ++ w2) := by
  obtain ⟨cg, qf, gf, af, qd, gd, ad, qk, gk, ak, ql, gl, al, qr, gr, ar, rx, qm, qx, gx, ax, qs, sx, qo, go, ao, qp, gp_, ap, T, ix, g, tw, a, m, tr, tc, n, rfl, rfl, h⟩ := hR
  obtain ⟨Pc, Pr, k1, k2, k3⟩ := op_order E q kq cg qf gf af qd gd ad qk gk ak ql gl al qr gr ar rx qm qx gx ax qs sx qo go ao qp gp_ ap T ix g tw a m tr tc n h (xs0 (i + 1))
  refine L_aload_n (dL4 36 rfl) rfl ?_
  refine L_aload_n (dL4 37 rfl) rfl ?_
  refine L_iload_n (dL4 38 rfl) rfl ?_
  refine L_iconst (1) (dL4 39 rfl) (by decide +kernel) ?_
  refine L_iadd (dL4 40 rfl) ?_
  rw [show nI i + 1 = nI (i + 1) from nI_add i 1]
  refine L_sld (dL4 41 rfl) (vp_in_nI (n := i + 1) (by omega) (by omega)) ?_
  rw [nI_clamp (n := i + 1) (by omega)]
  refine L_callV 1 (dL4 42 rfl) cbX5_order cwL_65 k1 rfl rfl (q0 := 0) wK_0 rfl rfl (Nat.le_of_ble_eq_true rfl) (Nat.le_of_ble_eq_true rfl) (Nat.le_of_ble_eq_true rfl) (Nat.zero_le _) (Nat.zero_le _) ?_
  rintro v1 u1 ⟨r1, rfl, p1⟩
  refine LW.pcq (pc2 := 503) rfl ?_
  refine L_aload_n (dL4 43 rfl) rfl ?_
  refine L_aload_n (dL4 44 rfl) rfl ?_
  refine L_iload_n (dL4 45 rfl) rfl ?_
  refine L_iconst (1) (dL4 46 rfl) (by decide +kernel) ?_
  refine L_iadd (dL4 47 rfl) ?_
  rw [show nI i + 1 = nI (i + 1) from nI_add i 1]
  refine L_sld (dL4 48 rfl) (vp_in_nI (n := i + 1) (by omega) (by omega)) ?_
  rw [nI_clamp (n := i + 1) (by omega)]
  refine L_callV 1 (dL4 49 rfl) cbX6_order cwL_68 k2 rfl rfl (q0 := 0) MW_0 rfl rfl (Nat.le_of_ble_eq_true rfl) (Nat.le_of_ble_eq_true rfl) (Nat.le_of_ble_eq_true rfl) (Nat.zero_le _) (Nat.zero_le _) ?_
  rintro v2 u2 ⟨r2, rfl, p2⟩
  refine LW.pcq (pc2 := 512) rfl ?_
  obtain ⟨e, hR⟩ := k3 r1 u1 r2 u2 p1 p2
  refine L_icmp_eq 1009 (dL4 50 rfl) (by decide) (fun _ => ?_) (fun z => absurd e z)
  exact LW.less (by omega) (by omega) (KK _ _ hR)
set_option maxRecDepth 100000 in
set_option maxHeartbeats 400000 in
theorem lw_home {E : ag} {b0 L0 : Nat} {xs0 : Nat → Int32} {bc bs : Nat} (q : Nat → Nat) (kq : Nat) (i : Nat) (hi : i + 6 ≤ L0) (hL : L0 ≤ 3072) (h2 : 2 ≤ bc) (h42 : 42 ≤ bs) {w1 w2 : va_W} (hR : REL E q kq w1 w2) (KK : ∀ w1 w2, REL E q kq w1 w2 → LW E b0 L0 xs0 (bc - 2) (bs - 42) 1009 [some (.ref b0), some (.ref kq), some (.ref (q 0)), some (.int (nI i))] [] (w1 ++ w2)) : LW E b0 L0 xs0 bc bs 517 [some (.ref b0), some (.ref kq), some (.ref (q 0)), some (.int (nI i))] [] (w1 ++ w2) := by
  obtain ⟨cg, qf, gf, af, qd, gd, ad, qk, gk, ak, ql, gl, al, qr, gr, ar, rx, qm, qx, gx, ax, qs, sx, qo, go, ao, qp, gp_, ap, T, ix, g, tw, a, m, tr, tc, n, rfl, rfl, h⟩ := hR
  obtain ⟨Pc, Pr, k1, k2, k3⟩ := op_home E q kq cg qf gf af qd gd ad qk gk ak ql gl al qr gr ar rx qm qx gx ax qs sx qo go ao qp gp_ ap T ix g tw a m tr tc n h
  refine L_aload_n (dL4 53 rfl) rfl ?_
  refine L_callV 0 (dL4 54 rfl) cbX5_home cwL_69 k1 rfl rfl (q0 := 0) wK_0 rfl rfl (Nat.le_of_ble_eq_true rfl) (Nat.le_of_ble_eq_true rfl) (Nat.le_of_ble_eq_true rfl) (Nat.zero_le _) (Nat.zero_le _) ?_
  rintro v1 u1 ⟨r1, rfl, p1⟩
  refine LW.pcq (pc2 := 521) rfl ?_
  refine L_aload_n (dL4 55 rfl) rfl ?_
  refine L_callV 0 (dL4 56 rfl) cbX6_home cwL_72 k2 rfl rfl (q0 := 0) MW_0 rfl rfl (Nat.le_of_ble_eq_true rfl) (Nat.le_of_ble_eq_true rfl) (Nat.le_of_ble_eq_true rfl) (Nat.zero_le _) (Nat.zero_le _) ?_
  rintro v2 u2 ⟨r2, rfl, p2⟩
  refine LW.pcq (pc2 := 525) rfl ?_
  obtain ⟨e, hR⟩ := k3 r1 u1 r2 u2 p1 p2
  refine L_icmp_eq 1009 (dL4 57 rfl) (by decide) (fun _ => ?_) (fun z => absurd e z)
  exact LW.less (by omega) (by omega) (KK _ _ hR)
set_option maxRecDepth 100000 in
set_option maxHeartbeats 400000 in
theorem lw_turn {E : ag} {b0 L0 : Nat} {xs0 : Nat → Int32} {bc bs : Nat} (q : Nat → Nat) (kq : Nat) (i : Nat) (hi : i + 6 ≤ L0) (hL : L0 ≤ 3072) (h2 : 2 ≤ bc) (h42 : 42 ≤ bs) {w1 w2 : va_W} (hR : REL E q kq w1 w2) (KK : ∀ w1 w2, REL E q kq w1 w2 → LW E b0 L0 xs0 (bc - 2) (bs - 42) 1009 [some (.ref b0), some (.ref kq), some (.ref (q 0)), some (.int (nI i))] [] (w1 ++ w2)) : LW E b0 L0 xs0 bc bs 530 [some (.ref b0), some (.ref kq), some (.ref (q 0)), some (.int (nI i))] [] (w1 ++ w2) := by
  obtain ⟨cg, qf, gf, af, qd, gd, ad, qk, gk, ak, ql, gl, al, qr, gr, ar, rx, qm, qx, gx, ax, qs, sx, qo, go, ao, qp, gp_, ap, T, ix, g, tw, a, m, tr, tc, n, rfl, rfl, h⟩ := hR
  obtain ⟨Pc, Pr, k1, k2, k3⟩ := op_turn E q kq cg qf gf af qd gd ad qk gk ak ql gl al qr gr ar rx qm qx gx ax qs sx qo go ao qp gp_ ap T ix g tw a m tr tc n h
  refine L_aload_n (dL5 0 rfl) rfl ?_
  refine L_callV 0 (dL5 1 rfl) cbX5_turn cwL_73 k1 rfl rfl (q0 := 0) wK_0 rfl rfl (Nat.le_of_ble_eq_true rfl) (Nat.le_of_ble_eq_true rfl) (Nat.le_of_ble_eq_true rfl) (Nat.zero_le _) (Nat.zero_le _) ?_
  rintro v1 u1 ⟨r1, rfl, p1⟩
  refine LW.pcq (pc2 := 534) rfl ?_
  refine L_aload_n (dL5 2 rfl) rfl ?_
  refine L_callV 0 (dL5 3 rfl) cbX6_turn cwL_76 k2 rfl rfl (q0 := 0) MW_0 rfl rfl (Nat.le_of_ble_eq_true rfl) (Nat.le_of_ble_eq_true rfl) (Nat.le_of_ble_eq_true rfl) (Nat.zero_le _) (Nat.zero_le _) ?_
  rintro v2 u2 ⟨r2, rfl, p2⟩
  refine LW.pcq (pc2 := 538) rfl ?_
  obtain ⟨e, hR⟩ := k3 r1 u1 r2 u2 p1 p2
  refine L_icmp_eq 1009 (dL5 4 rfl) (by decide) (fun _ => ?_) (fun z => absurd e z)
  exact LW.less (by omega) (by omega) (KK _ _ hR)
set_option maxRecDepth 100000 in
set_option maxHeartbeats 400000 in
theorem lw_when {E : ag} {b0 L0 : Nat} {xs0 : Nat → Int32} {bc bs : Nat} (q : Nat → Nat) (kq : Nat) (i : Nat) (hi : i + 6 ≤ L0) (hL : L0 ≤ 3072) (h2 : 2 ≤ bc) (h42 : 42 ≤ bs) {w1 w2 : va_W} (hR : REL E q kq w1 w2) (KK : ∀ w1 w2, REL E q kq w1 w2 → LW E b0 L0 xs0 (bc - 2) (bs - 42) 1009 [some (.ref b0), some (.ref kq), some (.ref (q 0)), some (.int (nI i))] [] (w1 ++ w2)) : LW E b0 L0 xs0 bc bs 543 [some (.ref b0), some (.ref kq), some (.ref (q 0)), some (.int (nI i))] [] (w1 ++ w2) := by
  obtain ⟨cg, qf, gf, af, qd, gd, ad, qk, gk, ak, ql, gl, al, qr, gr, ar, rx, qm, qx, gx, ax, qs, sx, qo, go, ao, qp, gp_, ap, T, ix, g, tw, a, m, tr, tc, n, rfl, rfl, h⟩ := hR
  obtain ⟨Pc, Pr, k1, k2, k3⟩ := op_when E q kq cg qf gf af qd gd ad qk gk ak ql gl al qr gr ar rx qm qx gx ax qs sx qo go ao qp gp_ ap T ix g tw a m tr tc n h
  refine L_aload_n (dL5 7 rfl) rfl ?_
  refine L_callV 0 (dL5 8 rfl) cbX5_when cwL_77 k1 rfl rfl (q0 := 0) wK_0 rfl rfl (Nat.le_of_ble_eq_true rfl) (Nat.le_of_ble_eq_true rfl) (Nat.le_of_ble_eq_true rfl) (Nat.zero_le _) (Nat.zero_le _) ?_
  rintro v1 u1 ⟨r1, rfl, p1⟩
  refine LW.pcq (pc2 := 547) rfl ?_
  refine L_aload_n (dL5 9 rfl) rfl ?_
  refine L_callV 0 (dL5 10 rfl) cbX6_when cwL_80 k2 rfl rfl (q0 := 0) MW_0 rfl rfl (Nat.le_of_ble_eq_true rfl) (Nat.le_of_ble_eq_true rfl) (Nat.le_of_ble_eq_true rfl) (Nat.zero_le _) (Nat.zero_le _) ?_
  rintro v2 u2 ⟨r2, rfl, p2⟩
  refine LW.pcq (pc2 := 551) rfl ?_
  obtain ⟨e, hR⟩ := k3 r1 u1 r2 u2 p1 p2
  refine L_icmp_eq 1009 (dL5 11 rfl) (by decide) (fun _ => ?_) (fun z => absurd e z)
  exact LW.less (by omega) (by omega) (KK _ _ hR)
set_option maxRecDepth 100000 in
set_option maxHeartbeats 400000 in
theorem lw_stop {E : ag} {b0 L0 : Nat} {xs0 : Nat → Int32} {bc bs : Nat} (q : Nat → Nat) (kq : Nat) (i : Nat) (hi : i + 6 ≤ L0) (hL : L0 ≤ 3072) (h2 : 2 ≤ bc) (h42 : 42 ≤ bs) {w1 w2 : va_W} (hR : REL E q kq w1 w2) (KK : ∀ w1 w2, REL E q kq w1 w2 → LW E b0 L0 xs0 (bc - 2) (bs - 42) 1009 [some (.ref b0), some (.ref kq), some (.ref (q 0)), some (.int (nI i))] [] (w1 ++ w2)) : LW E b0 L0 xs0 bc bs 556 [some (.ref b0), some (.ref kq), some (.ref (q 0)), some (.int (nI i))] [] (w1 ++ w2) := by
  obtain ⟨cg, qf, gf, af, qd, gd, ad, qk, gk, ak, ql, gl, al, qr, gr, ar, rx, qm, qx, gx, ax, qs, sx, qo, go, ao, qp, gp_, ap, T, ix, g, tw, a, m, tr, tc, n, rfl, rfl, h⟩ := hR
  obtain ⟨Pc, Pr, k1, k2, k3⟩ := op_stop E q kq cg qf gf af qd gd ad qk gk ak ql gl al qr gr ar rx qm qx gx ax qs sx qo go ao qp gp_ ap T ix g tw a m tr tc n h (xs0 (i + 1))
  refine L_aload_n (dL5 14 rfl) rfl ?_
  refine L_aload_n (dL5 15 rfl) rfl ?_
  refine L_iload_n (dL5 16 rfl) rfl ?_
  refine L_iconst (1) (dL5 17 rfl) (by decide +kernel) ?_
  refine L_iadd (dL5 18 rfl) ?_
  rw [show nI i + 1 = nI (i + 1) from nI_add i 1]
  refine L_sld (dL5 19 rfl) (vp_in_nI (n := i + 1) (by omega) (by omega)) ?_
  rw [nI_clamp (n := i + 1) (by omega)]
  refine L_callV 1 (dL5 20 rfl) cbX5_stop cwL_81 k1 rfl rfl (q0 := 0) wK_0 rfl rfl (Nat.le_of_ble_eq_true rfl) (Nat.le_of_ble_eq_true rfl) (Nat.le_of_ble_eq_true rfl) (Nat.zero_le _) (Nat.zero_le _) ?_
  rintro v1 u1 ⟨r1, rfl, p1⟩
  refine LW.pcq (pc2 := 565) rfl ?_
  refine L_aload_n (dL5 21 rfl) rfl ?_
  refine L_aload_n (dL5 22 rfl) rfl ?_
  refine L_iload_n (dL5 23 rfl) rfl ?_
  refine L_iconst (1) (dL5 24 rfl) (by decide +kernel) ?_
  refine L_iadd (dL5 25 rfl) ?_
  rw [show nI i + 1 = nI (i + 1) from nI_add i 1]
  refine L_sld (dL5 26 rfl) (vp_in_nI (n := i + 1) (by omega) (by omega)) ?_
  rw [nI_clamp (n := i + 1) (by omega)]
  refine L_callV 1 (dL5 27 rfl) cbX6_stop cwL_84 k2 rfl rfl (q0 := 0) MW_0 rfl rfl (Nat.le_of_ble_eq_true rfl) (Nat.le_of_ble_eq_true rfl) (Nat.le_of_ble_eq_true rfl) (Nat.zero_le _) (Nat.zero_le _) ?_
  rintro v2 u2 ⟨r2, rfl, p2⟩
  refine LW.pcq (pc2 := 574) rfl ?_
  obtain ⟨e, hR⟩ := k3 r1 u1 r2 u2 p1 p2
  refine L_icmp_eq 1009 (dL5 28 rfl) (by decide) (fun _ => ?_) (fun z => absurd e z)
  exact LW.less (by omega) (by omega) (KK _ _ hR)
set_option maxRecDepth 100000 in
set_option maxHeartbeats 400000 in
theorem lw_fewest {E : ag} {b0 L0 : Nat} {xs0 : Nat → Int32} {bc bs : Nat} (q : Nat → Nat) (kq : Nat) (i : Nat) (hi : i + 6 ≤ L0) (hL : L0 ≤ 3072) (h2 : 2 ≤ bc) (h42 : 42 ≤ bs) {w1 w2 : va_W} (hR : REL E q kq w1 w2) (KK : ∀ w1 w2, REL E q kq w1 w2 → LW E b0 L0 xs0 (bc - 2) (bs - 42) 1009 [some (.ref b0), some (.ref kq), some (.ref (q 0)), some (.int (nI i))] [] (w1 ++ w2)) : LW E b0 L0 xs0 bc bs 579 [some (.ref b0), some (.ref kq), some (.ref (q 0)), some (.int (nI i))] [] (w1 ++ w2) := by
  obtain ⟨cg, qf, gf, af, qd, gd, ad, qk, gk, ak, ql, gl, al, qr, gr, ar, rx, qm, qx, gx, ax, qs, sx, qo, go, ao, qp, gp_, ap, T, ix, g, tw, a, m, tr, tc, n, rfl, rfl, h⟩ := hR
  obtain ⟨Pc, Pr, k1, k2, k3⟩ := op_fewest E q kq cg qf gf af qd gd ad qk gk ak ql gl al qr gr ar rx qm qx gx ax qs sx qo go ao qp gp_ ap T ix g tw a m tr tc n h (xs0 (i + 1))
  refine L_aload_n (dL5 31 rfl) rfl ?_
  refine L_aload_n (dL5 32 rfl) rfl ?_
  refine L_iload_n (dL5 33 rfl) rfl ?_
  refine L_iconst (1) (dL5 34 rfl) (by decide +kernel) ?_
  refine L_iadd (dL5 35 rfl) ?_
  rw [show nI i + 1 = nI (i + 1) from nI_add i 1]
  refine L_sld (dL5 36 rfl) (vp_in_nI (n := i + 1) (by omega) (by omega)) ?_
  rw [nI_clamp (n := i + 1) (by omega)]
  refine L_callV 1 (dL5 37 rfl) cbX5_fewest cwL_85 k1 rfl rfl (q0 := 0) wK_0 rfl rfl (Nat.le_of_ble_eq_true rfl) (Nat.le_of_ble_eq_true rfl) (Nat.le_of_ble_eq_true rfl) (Nat.zero_le _) (Nat.zero_le _) ?_
  rintro v1 u1 ⟨r1, rfl, p1⟩
  refine LW.pcq (pc2 := 588) rfl ?_
  refine L_aload_n (dL5 38 rfl) rfl ?_
  refine L_aload_n (dL5 39 rfl) rfl ?_
  refine L_iload_n (dL5 40 rfl) rfl ?_
  refine L_iconst (1) (dL5 41 rfl) (by decide +kernel) ?_
  refine L_iadd (dL5 42 rfl) ?_
  rw [show nI i + 1 = nI (i + 1) from nI_add i 1]
  refine L_sld (dL5 43 rfl) (vp_in_nI (n := i + 1) (by omega) (by omega)) ?_
  rw [nI_clamp (n := i + 1) (by omega)]
  refine L_callV 1 (dL5 44 rfl) cbX6_fewest cwL_88 k2 rfl rfl (q0 := 0) MW_0 rfl rfl (Nat.le_of_ble_eq_true rfl) (Nat.le_of_ble_eq_true rfl) (Nat.le_of_ble_eq_true rfl) (Nat.zero_le _) (Nat.zero_le _) ?_
  rintro v2 u2 ⟨r2, rfl, p2⟩
  refine LW.pcq (pc2 := 597) rfl ?_
  obtain ⟨e, hR⟩ := k3 r1 u1 r2 u2 p1 p2
  refine L_icmp_eq 1009 (dL5 45 rfl) (by decide) (fun _ => ?_) (fun z => absurd e z)
  exact LW.less (by omega) (by omega) (KK _ _ hR)
set_option maxRecDepth 100000 in
set_option maxHeartbeats 400000 in
theorem lw_judge {E : ag} {b0 L0 : Nat} {xs0 : Nat → Int32} {bc bs : Nat} (q : Nat → Nat) (kq : Nat) (i : Nat) (hi : i + 6 ≤ L0) (hL : L0 ≤ 3072) (h2 : 2 ≤ bc) (h42 : 42 ≤ bs) {w1 w2 : va_W} (hR : REL E q kq w1 w2) (KK : ∀ w1 w2, REL E q kq w1 w2 → LW E b0 L0 xs0 (bc - 2) (bs - 42) 1009 [some (.ref b0), some (.ref kq), some (.ref (q 0)), some (.int (nI i))] [] (w1 ++ w2)) : LW E b0 L0 xs0 bc bs 602 [some (.ref b0), some (.ref kq), some (.ref (q 0)), some (.int (nI i))] [] (w1 ++ w2) := by
  obtain ⟨cg, qf, gf, af, qd, gd, ad, qk, gk, ak, ql, gl, al, qr, gr, ar, rx, qm, qx, gx, ax, qs, sx, qo, go, ao, qp, gp_, ap, T, ix, g, tw, a, m, tr, tc, n, rfl, rfl, h⟩ := hR
  obtain ⟨Pc, Pr, k1, k2, k3⟩ := op_judge E q kq cg qf gf af qd gd ad qk gk ak ql gl al qr gr ar rx qm qx gx ax qs sx qo go ao qp gp_ ap T ix g tw a m tr tc n h (xs0 (i + 1)) (xs0 (i + 2))
  refine L_aload_n (dL5 48 rfl) rfl ?_
  refine L_aload_n (dL5 49 rfl) rfl ?_
  refine L_iload_n (dL5 50 rfl) rfl ?_
  refine L_iconst (1) (dL5 51 rfl) (by decide +kernel) ?_
  refine L_iadd (dL5 52 rfl) ?_
  rw [show nI i + 1 = nI (i + 1) from nI_add i 1]
  refine L_sld (dL5 53 rfl) (vp_in_nI (n := i + 1) (by omega) (by omega)) ?_
  rw [nI_clamp (n := i + 1) (by omega)]
  refine L_aload_n (dL5 54 rfl) rfl ?_
  refine L_iload_n (dL5 55 rfl) rfl ?_
  refine LW.pcq (pc2 := 610) rfl ?_
  refine L_iconst (2) (dL5 56 rfl) (by decide +kernel) ?_
  refine L_iadd (dL5 57 rfl) ?_
  rw [show nI i + 2 = nI (i + 2) from nI_add i 2]
  refine L_sld (dL5 58 rfl) (vp_in_nI (n := i + 2) (by omega) (by omega)) ?_
  rw [nI_clamp (n := i + 2) (by omega)]
  refine L_callV 2 (dL5 59 rfl) cbX5_judge cwL_89 k1 rfl rfl (q0 := 0) wK_0 rfl rfl (Nat.le_of_ble_eq_true rfl) (Nat.le_of_ble_eq_true rfl) (Nat.le_of_ble_eq_true rfl) (Nat.zero_le _) (Nat.zero_le _) ?_
  rintro v1 u1 ⟨r1, rfl, p1⟩
  refine LW.pcq (pc2 := 616) rfl ?_
  refine L_aload_n (dL6 0 rfl) rfl ?_
  refine L_aload_n (dL6 1 rfl) rfl ?_
  refine L_iload_n (dL6 2 rfl) rfl ?_
  refine L_iconst (1) (dL6 3 rfl) (by decide +kernel) ?_
  refine L_iadd (dL6 4 rfl) ?_
  rw [show nI i + 1 = nI (i + 1) from nI_add i 1]
  refine L_sld (dL6 5 rfl) (vp_in_nI (n := i + 1) (by omega) (by omega)) ?_
  rw [nI_clamp (n := i + 1) (by omega)]
  refine L_aload_n (dL6 6 rfl) rfl ?_
  refine L_iload_n (dL6 7 rfl) rfl ?_
  refine LW.pcq (pc2 := 624) rfl ?_
  refine L_iconst (2) (dL6 8 rfl) (by decide +kernel) ?_
  refine L_iadd (dL6 9 rfl) ?_
  rw [show nI i + 2 = nI (i + 2) from nI_add i 2]
  refine L_sld (dL6 10 rfl) (vp_in_nI (n := i + 2) (by omega) (by omega)) ?_
  rw [nI_clamp (n := i + 2) (by omega)]
  refine L_callV 2 (dL6 11 rfl) cbX6_judge cwL_92 k2 rfl rfl (q0 := 0) MW_0 rfl rfl (Nat.le_of_ble_eq_true rfl) (Nat.le_of_ble_eq_true rfl) (Nat.le_of_ble_eq_true rfl) (Nat.zero_le _) (Nat.zero_le _) ?_
  rintro v2 u2 ⟨r2, rfl, p2⟩
  refine LW.pcq (pc2 := 630) rfl ?_
  obtain ⟨e, hR⟩ := k3 r1 u1 r2 u2 p1 p2
  refine L_icmp_eq 1009 (dL6 12 rfl) (by decide) (fun _ => ?_) (fun z => absurd e z)
  exact LW.less (by omega) (by omega) (KK _ _ hR)
set_option maxRecDepth 100000 in
set_option maxHeartbeats 400000 in
theorem lw_slow {E : ag} {b0 L0 : Nat} {xs0 : Nat → Int32} {bc bs : Nat} (q : Nat → Nat) (kq : Nat) (i : Nat) (hi : i + 6 ≤ L0) (hL : L0 ≤ 3072) (h2 : 2 ≤ bc) (h42 : 42 ≤ bs) {w1 w2 : va_W} (hR : REL E q kq w1 w2) (KK : ∀ w1 w2, REL E q kq w1 w2 → LW E b0 L0 xs0 (bc - 2) (bs - 42) 1009 [some (.ref b0), some (.ref kq), some (.ref (q 0)), some (.int (nI i))] [] (w1 ++ w2)) : LW E b0 L0 xs0 bc bs 635 [some (.ref b0), some (.ref kq), some (.ref (q 0)), some (.int (nI i))] [] (w1 ++ w2) := by
  obtain ⟨cg, qf, gf, af, qd, gd, ad, qk, gk, ak, ql, gl, al, qr, gr, ar, rx, qm, qx, gx, ax, qs, sx, qo, go, ao, qp, gp_, ap, T, ix, g, tw, a, m, tr, tc, n, rfl, rfl, h⟩ := hR
  obtain ⟨Pc, Pr, k1, k2, k3⟩ := op_slow E q kq cg qf gf af qd gd ad qk gk ak ql gl al qr gr ar rx qm qx gx ax qs sx qo go ao qp gp_ ap T ix g tw a m tr tc n h (xs0 (i + 1))
  refine L_aload_n (dL6 15 rfl) rfl ?_
  refine L_aload_n (dL6 16 rfl) rfl ?_
  refine L_iload_n (dL6 17 rfl) rfl ?_
  refine L_iconst (1) (dL6 18 rfl) (by decide +kernel) ?_
  refine L_iadd (dL6 19 rfl) ?_
  rw [show nI i + 1 = nI (i + 1) from nI_add i 1]
  refine L_sld (dL6 20 rfl) (vp_in_nI (n := i + 1) (by omega) (by omega)) ?_
  rw [nI_clamp (n := i + 1) (by omega)]
  refine L_callV 1 (dL6 21 rfl) cbX5_slow cwL_93 k1 rfl rfl (q0 := 0) wK_0 rfl rfl (Nat.le_of_ble_eq_true rfl) (Nat.le_of_ble_eq_true rfl) (Nat.le_of_ble_eq_true rfl) (Nat.zero_le _) (Nat.zero_le _) ?_
  rintro v1 u1 ⟨r1, rfl, p1⟩
  refine LW.pcq (pc2 := 644) rfl ?_
  refine L_aload_n (dL6 22 rfl) rfl ?_
  refine L_aload_n (dL6 23 rfl) rfl ?_
  refine L_iload_n (dL6 24 rfl) rfl ?_
  refine L_iconst (1) (dL6 25 rfl) (by decide +kernel) ?_
  refine L_iadd (dL6 26 rfl) ?_
  rw [show nI i + 1 = nI (i + 1) from nI_add i 1]
  refine L_sld (dL6 27 rfl) (vp_in_nI (n := i + 1) (by omega) (by omega)) ?_
  rw [nI_clamp (n := i + 1) (by omega)]
  refine L_callV 1 (dL6 28 rfl) cbX6_slow cwL_96 k2 rfl rfl (q0 := 0) MW_0 rfl rfl (Nat.le_of_ble_eq_true rfl) (Nat.le_of_ble_eq_true rfl) (Nat.le_of_ble_eq_true rfl) (Nat.zero_le _) (Nat.zero_le _) ?_
  rintro v2 u2 ⟨r2, rfl, p2⟩
  refine LW.pcq (pc2 := 653) rfl ?_
  obtain ⟨e, hR⟩ := k3 r1 u1 r2 u2 p1 p2
  refine L_icmp_eq 1009 (dL6 29 rfl) (by decide) (fun _ => ?_) (fun z => absurd e z)
  exact LW.less (by omega) (by omega) (KK _ _ hR)
set_option maxRecDepth 100000 in
set_option maxHeartbeats 400000 in
theorem lw_drawn {E : ag} {b0 L0 : Nat} {xs0 : Nat → Int32} {bc bs : Nat} (q : Nat → Nat) (kq : Nat) (i : Nat) (hi : i + 6 ≤ L0) (hL : L0 ≤ 3072) (h2 : 2 ≤ bc) (h42 : 42 ≤ bs) {w1 w2 : va_W} (hR : REL E q kq w1 w2) (KK : ∀ w1 w2, REL E q kq w1 w2 → LW E b0 L0 xs0 (bc - 2) (bs - 42) 1009 [some (.ref b0), some (.ref kq), some (.ref (q 0)), some (.int (nI i))] [] (w1 ++ w2)) : LW E b0 L0 xs0 bc bs 658 [some (.ref b0), some (.ref kq), some (.ref (q 0)), some (.int (nI i))] [] (w1 ++ w2) := by
  obtain ⟨cg, qf, gf, af, qd, gd, ad, qk, gk, ak, ql, gl, al, qr, gr, ar, rx, qm, qx, gx, ax, qs, sx, qo, go, ao, qp, gp_, ap, T, ix, g, tw, a, m, tr, tc, n, rfl, rfl, h⟩ := hR
  obtain ⟨Pc, Pr, k1, k2, k3⟩ := op_drawn E q kq cg qf gf af qd gd ad qk gk ak ql gl al qr gr ar rx qm qx gx ax qs sx qo go ao qp gp_ ap T ix g tw a m tr tc n h (xs0 (i + 1)) (xs0 (i + 2))
  refine L_aload_n (dL6 32 rfl) rfl ?_
  refine L_aload_n (dL6 33 rfl) rfl ?_
  refine L_iload_n (dL6 34 rfl) rfl ?_
  refine L_iconst (1) (dL6 35 rfl) (by decide +kernel) ?_
  refine L_iadd (dL6 36 rfl) ?_
  rw [show nI i + 1 = nI (i + 1) from nI_add i 1]
  refine L_sld (dL6 37 rfl) (vp_in_nI (n := i + 1) (by omega) (by omega)) ?_
  rw [nI_clamp (n := i + 1) (by omega)]
  refine L_aload_n (dL6 38 rfl) rfl ?_
  refine L_iload_n (dL6 39 rfl) rfl ?_
  refine LW.pcq (pc2 := 666) rfl ?_
  refine L_iconst (2) (dL6 40 rfl) (by decide +kernel) ?_
  refine L_iadd (dL6 41 rfl) ?_
  rw [show nI i + 2 = nI (i + 2) from nI_add i 2]
  refine L_sld (dL6 42 rfl) (vp_in_nI (n := i + 2) (by omega) (by omega)) ?_
  rw [nI_clamp (n := i + 2) (by omega)]
  refine L_callV 2 (dL6 43 rfl) cbX5_drawn cwL_97 k1 rfl rfl (q0 := 0) wK_0 rfl rfl (Nat.le_of_ble_eq_true rfl) (Nat.le_of_ble_eq_true rfl) (Nat.le_of_ble_eq_true rfl) (Nat.zero_le _) (Nat.zero_le _) ?_
  rintro v1 u1 ⟨r1, rfl, p1⟩
  refine LW.pcq (pc2 := 672) rfl ?_
  refine L_aload_n (dL6 44 rfl) rfl ?_
  refine L_aload_n (dL6 45 rfl) rfl ?_
  refine L_iload_n (dL6 46 rfl) rfl ?_
  refine L_iconst (1) (dL6 47 rfl) (by decide +kernel) ?_
  refine L_iadd (dL6 48 rfl) ?_
  rw [show nI i + 1 = nI (i + 1) from nI_add i 1]
  refine L_sld (dL6 49 rfl) (vp_in_nI (n := i + 1) (by omega) (by omega)) ?_
  rw [nI_clamp (n := i + 1) (by omega)]
  refine L_aload_n (dL6 50 rfl) rfl ?_
  refine L_iload_n (dL6 51 rfl) rfl ?_
  refine LW.pcq (pc2 := 680) rfl ?_
  refine L_iconst (2) (dL6 52 rfl) (by decide +kernel) ?_
  refine L_iadd (dL6 53 rfl) ?_
  rw [show nI i + 2 = nI (i + 2) from nI_add i 2]
  refine L_sld (dL6 54 rfl) (vp_in_nI (n := i + 2) (by omega) (by omega)) ?_
  rw [nI_clamp (n := i + 2) (by omega)]
  refine L_callV 2 (dL6 55 rfl) cbX6_drawn cwL_100 k2 rfl rfl (q0 := 0) MW_0 rfl rfl (Nat.le_of_ble_eq_true rfl) (Nat.le_of_ble_eq_true rfl) (Nat.le_of_ble_eq_true rfl) (Nat.zero_le _) (Nat.zero_le _) ?_
  rintro v2 u2 ⟨r2, rfl, p2⟩
  refine LW.pcq (pc2 := 686) rfl ?_
  obtain ⟨e, hR⟩ := k3 r1 u1 r2 u2 p1 p2
  refine L_icmp_eq 1009 (dL6 56 rfl) (by decide) (fun _ => ?_) (fun z => absurd e z)
  exact LW.less (by omega) (by omega) (KK _ _ hR)
set_option maxRecDepth 100000 in
set_option maxHeartbeats 400000 in
theorem lw_once {E : ag} {b0 L0 : Nat} {xs0 : Nat → Int32} {bc bs : Nat} (q : Nat → Nat) (kq : Nat) (i : Nat) (hi : i + 6 ≤ L0) (hL : L0 ≤ 3072) (h2 : 2 ≤ bc) (h42 : 42 ≤ bs) {w1 w2 : va_W} (hR : REL E q kq w1 w2) (KK : ∀ w1 w2, REL E q kq w1 w2 → LW E b0 L0 xs0 (bc - 2) (bs - 42) 1009 [some (.ref b0), some (.ref kq), some (.ref (q 0)), some (.int (nI i))] [] (w1 ++ w2)) : LW E b0 L0 xs0 bc bs 691 [some (.ref b0), some (.ref kq), some (.ref (q 0)), some (.int (nI i))] [] (w1 ++ w2) := by
  obtain ⟨cg, qf, gf, af, qd, gd, ad, qk, gk, ak, ql, gl, al, qr, gr, ar, rx, qm, qx, gx, ax, qs, sx, qo, go, ao, qp, gp_, ap, T, ix, g, tw, a, m, tr, tc, n, rfl, rfl, h⟩ := hR
  obtain ⟨Pc, Pr, k1, k2, k3⟩ := op_once E q kq cg qf gf af qd gd ad qk gk ak ql gl al qr gr ar rx qm qx gx ax qs sx qo go ao qp gp_ ap T ix g tw a m tr tc n h (xs0 (i + 1)) (xs0 (i + 2))
  refine L_aload_n (dL6 59 rfl) rfl ?_
  refine L_aload_n (dL7 0 rfl) rfl ?_
  refine L_iload_n (dL7 1 rfl) rfl ?_
  refine L_iconst (1) (dL7 2 rfl) (by decide +kernel) ?_
  refine L_iadd (dL7 3 rfl) ?_
  rw [show nI i + 1 = nI (i + 1) from nI_add i 1]
  refine L_sld (dL7 4 rfl) (vp_in_nI (n := i + 1) (by omega) (by omega)) ?_
  rw [nI_clamp (n := i + 1) (by omega)]
  refine L_aload_n (dL7 5 rfl) rfl ?_
  refine L_iload_n (dL7 6 rfl) rfl ?_
  refine LW.pcq (pc2 := 699) rfl ?_
  refine L_iconst (2) (dL7 7 rfl) (by decide +kernel) ?_
  refine L_iadd (dL7 8 rfl) ?_
  rw [show nI i + 2 = nI (i + 2) from nI_add i 2]
  refine L_sld (dL7 9 rfl) (vp_in_nI (n := i + 2) (by omega) (by omega)) ?_
  rw [nI_clamp (n := i + 2) (by omega)]
  refine L_callV 2 (dL7 10 rfl) cbX5_once cwL_101 k1 rfl rfl (q0 := 0) wK_0 rfl rfl (Nat.le_of_ble_eq_true rfl) (Nat.le_of_ble_eq_true rfl) (Nat.le_of_ble_eq_true rfl) (Nat.zero_le _) (Nat.zero_le _) ?_
  rintro v1 u1 ⟨r1, rfl, p1⟩
  refine LW.pcq (pc2 := 705) rfl ?_
  refine L_aload_n (dL7 11 rfl) rfl ?_
  refine L_aload_n (dL7 12 rfl) rfl ?_
  refine L_iload_n (dL7 13 rfl) rfl ?_
  refine L_iconst (1) (dL7 14 rfl) (by decide +kernel) ?_
  refine L_iadd (dL7 15 rfl) ?_
  rw [show nI i + 1 = nI (i + 1) from nI_add i 1]
  refine L_sld (dL7 16 rfl) (vp_in_nI (n := i + 1) (by omega) (by omega)) ?_
  rw [nI_clamp (n := i + 1) (by omega)]
  refine L_aload_n (dL7 17 rfl) rfl ?_
  refine L_iload_n (dL7 18 rfl) rfl ?_
  refine LW.pcq (pc2 := 713) rfl ?_
  refine L_iconst (2) (dL7 19 rfl) (by decide +kernel) ?_
  refine L_iadd (dL7 20 rfl) ?_
  rw [show nI i + 2 = nI (i + 2) from nI_add i 2]
  refine L_sld (dL7 21 rfl) (vp_in_nI (n := i + 2) (by omega) (by omega)) ?_
  rw [nI_clamp (n := i + 2) (by omega)]
  refine L_callV 2 (dL7 22 rfl) cbX6_once cwL_105 k2 rfl rfl (q0 := 0) MW_0 rfl rfl (Nat.le_of_ble_eq_true rfl) (Nat.le_of_ble_eq_true rfl) (Nat.le_of_ble_eq_true rfl) (Nat.zero_le _) (Nat.zero_le _) ?_
  rintro v2 u2 ⟨r2, rfl, p2⟩
  refine LW.pcq (pc2 := 719) rfl ?_
  obtain ⟨e, hR⟩ := k3 r1 u1 r2 u2 p1 p2
  refine L_lcmp (dL7 23 rfl) ?_
  refine L_if_eq 1009 (dL7 24 rfl) (by decide) (fun _ => ?_) (fun z => absurd (by rw [e]; exact lg_same _) z)
  exact LW.less (by omega) (by omega) (KK _ _ hR)
set_option maxRecDepth 100000 in
set_option maxHeartbeats 400000 in
theorem lw_image {E : ag} {b0 L0 : Nat} {xs0 : Nat → Int32} {bc bs : Nat} (q : Nat → Nat) (kq : Nat) (i : Nat) (hi : i + 6 ≤ L0) (hL : L0 ≤ 3072) (h2 : 2 ≤ bc) (h42 : 42 ≤ bs) {w1 w2 : va_W} (hR : REL E q kq w1 w2) (KK : ∀ w1 w2, REL E q kq w1 w2 → LW E b0 L0 xs0 (bc - 2) (bs - 42) 1009 [some (.ref b0), some (.ref kq), some (.ref (q 0)), some (.int (nI i))] [] (w1 ++ w2)) : LW E b0 L0 xs0 bc bs 725 [some (.ref b0), some (.ref kq), some (.ref (q 0)), some (.int (nI i))] [] (w1 ++ w2) := by
  obtain ⟨cg, qf, gf, af, qd, gd, ad, qk, gk, ak, ql, gl, al, qr, gr, ar, rx, qm, qx, gx, ax, qs, sx, qo, go, ao, qp, gp_, ap, T, ix, g, tw, a, m, tr, tc, n, rfl, rfl, h⟩ := hR
  obtain ⟨Pc, Pr, k1, k2, k3⟩ := op_image E q kq cg qf gf af qd gd ad qk gk ak ql gl al qr gr ar rx qm qx gx ax qs sx qo go ao qp gp_ ap T ix g tw a m tr tc n h
  refine L_aload_n (dL7 27 rfl) rfl ?_
  refine L_callV 0 (dL7 28 rfl) cbX5_image cwL_106 k1 rfl rfl (q0 := 0) wK_0 rfl rfl (Nat.le_of_ble_eq_true rfl) (Nat.le_of_ble_eq_true rfl) (Nat.le_of_ble_eq_true rfl) (Nat.zero_le _) (Nat.zero_le _) ?_
  rintro v1 u1 ⟨r1, rfl, p1⟩
  refine LW.pcq (pc2 := 729) rfl ?_
  refine L_aload_n (dL7 29 rfl) rfl ?_
  refine L_callV 0 (dL7 30 rfl) cbX6_image cwL_109 k2 rfl rfl (q0 := 0) MW_0 rfl rfl (Nat.le_of_ble_eq_true rfl) (Nat.le_of_ble_eq_true rfl) (Nat.le_of_ble_eq_true rfl) (Nat.zero_le _) (Nat.zero_le _) ?_
  rintro v2 u2 ⟨r2, rfl, p2⟩
  refine LW.pcq (pc2 := 733) rfl ?_
  obtain ⟨e, hR⟩ := k3 r1 u1 r2 u2 p1 p2
  refine L_icmp_eq 1009 (dL7 31 rfl) (by decide) (fun _ => ?_) (fun z => absurd e z)
  exact LW.less (by omega) (by omega) (KK _ _ hR)
set_option maxRecDepth 100000 in
set_option maxHeartbeats 400000 in
theorem lw_back {E : ag} {b0 L0 : Nat} {xs0 : Nat → Int32} {bc bs : Nat} (q : Nat → Nat) (kq : Nat) (i : Nat) (hi : i + 6 ≤ L0) (hL : L0 ≤ 3072) (h2 : 2 ≤ bc) (h42 : 42 ≤ bs) {w1 w2 : va_W} (hR : REL E q kq w1 w2) (KK : ∀ w1 w2, REL E q kq w1 w2 → LW E b0 L0 xs0 (bc - 2) (bs - 42) 1009 [some (.ref b0), some (.ref kq), some (.ref (q 0)), some (.int (nI i))] [] (w1 ++ w2)) : LW E b0 L0 xs0 bc bs 738 [some (.ref b0), some (.ref kq), some (.ref (q 0)), some (.int (nI i))] [] (w1 ++ w2) := by
  obtain ⟨cg, qf, gf, af, qd, gd, ad, qk, gk, ak, ql, gl, al, qr, gr, ar, rx, qm, qx, gx, ax, qs, sx, qo, go, ao, qp, gp_, ap, T, ix, g, tw, a, m, tr, tc, n, rfl, rfl, h⟩ := hR
  obtain ⟨Pc, Pr, k1, k2, k3⟩ := op_back E q kq cg qf gf af qd gd ad qk gk ak ql gl al qr gr ar rx qm qx gx ax qs sx qo go ao qp gp_ ap T ix g tw a m tr tc n h
  refine L_aload_n (dL7 34 rfl) rfl ?_
  refine L_callV 0 (dL7 35 rfl) cbX5_back cwL_110 k1 rfl rfl (q0 := 0) wK_0 rfl rfl (Nat.le_of_ble_eq_true rfl) (Nat.le_of_ble_eq_true rfl) (Nat.le_of_ble_eq_true rfl) (Nat.zero_le _) (Nat.zero_le _) ?_
  rintro v1 u1 ⟨r1, rfl, p1⟩
  refine LW.pcq (pc2 := 742) rfl ?_
  refine L_aload_n (dL7 36 rfl) rfl ?_
  refine L_callV 0 (dL7 37 rfl) cbX6_back cwL_113 k2 rfl rfl (q0 := 0) MW_0 rfl rfl (Nat.le_of_ble_eq_true rfl) (Nat.le_of_ble_eq_true rfl) (Nat.le_of_ble_eq_true rfl) (Nat.zero_le _) (Nat.zero_le _) ?_
  rintro v2 u2 ⟨r2, rfl, p2⟩
  refine LW.pcq (pc2 := 746) rfl ?_
  obtain ⟨e, hR⟩ := k3 r1 u1 r2 u2 p1 p2
  refine L_icmp_eq 1009 (dL7 38 rfl) (by decide) (fun _ => ?_) (fun z => absurd e z)
  exact LW.less (by omega) (by omega) (KK _ _ hR)
set_option maxRecDepth 100000 in
set_option maxHeartbeats 400000 in
theorem lw_count {E : ag} {b0 L0 : Nat} {xs0 : Nat → Int32} {bc bs : Nat} (q : Nat → Nat) (kq : Nat) (i : Nat) (hi : i + 6 ≤ L0) (hL : L0 ≤ 3072) (h2 : 2 ≤ bc) (h42 : 42 ≤ bs) {w1 w2 : va_W} (hR : REL E q kq w1 w2) (KK : ∀ w1 w2, REL E q kq w1 w2 → LW E b0 L0 xs0 (bc - 2) (bs - 42) 1009 [some (.ref b0), some (.ref kq), some (.ref (q 0)), some (.int (nI i))] [] (w1 ++ w2)) : LW E b0 L0 xs0 bc bs 751 [some (.ref b0), some (.ref kq), some (.ref (q 0)), some (.int (nI i))] [] (w1 ++ w2) := by
  obtain ⟨cg, qf, gf, af, qd, gd, ad, qk, gk, ak, ql, gl, al, qr, gr, ar, rx, qm, qx, gx, ax, qs, sx, qo, go, ao, qp, gp_, ap, T, ix, g, tw, a, m, tr, tc, n, rfl, rfl, h⟩ := hR
  obtain ⟨Pc, Pr, k1, k2, k3⟩ := op_count E q kq cg qf gf af qd gd ad qk gk ak ql gl al qr gr ar rx qm qx gx ax qs sx qo go ao qp gp_ ap T ix g tw a m tr tc n h (xs0 (i + 1))
  refine L_aload_n (dL7 41 rfl) rfl ?_
  refine L_aload_n (dL7 42 rfl) rfl ?_
  refine L_iload_n (dL7 43 rfl) rfl ?_
  refine L_iconst (1) (dL7 44 rfl) (by decide +kernel) ?_
  refine L_iadd (dL7 45 rfl) ?_
  rw [show nI i + 1 = nI (i + 1) from nI_add i 1]
  refine L_sld (dL7 46 rfl) (vp_in_nI (n := i + 1) (by omega) (by omega)) ?_
  rw [nI_clamp (n := i + 1) (by omega)]
  refine L_callV 1 (dL7 47 rfl) cbX5_count cwL_114 k1 rfl rfl (q0 := 0) wK_0 rfl rfl (Nat.le_of_ble_eq_true rfl) (Nat.le_of_ble_eq_true rfl) (Nat.le_of_ble_eq_true rfl) (Nat.zero_le _) (Nat.zero_le _) ?_
  rintro v1 u1 ⟨r1, rfl, p1⟩
  refine LW.pcq (pc2 := 760) rfl ?_
  refine L_aload_n (dL7 48 rfl) rfl ?_
  refine L_aload_n (dL7 49 rfl) rfl ?_
  refine L_iload_n (dL7 50 rfl) rfl ?_
  refine L_iconst (1) (dL7 51 rfl) (by decide +kernel) ?_
  refine L_iadd (dL7 52 rfl) ?_
  rw [show nI i + 1 = nI (i + 1) from nI_add i 1]
  refine L_sld (dL7 53 rfl) (vp_in_nI (n := i + 1) (by omega) (by omega)) ?_
  rw [nI_clamp (n := i + 1) (by omega)]
  refine L_callV 1 (dL7 54 rfl) cbX6_count cwL_117 k2 rfl rfl (q0 := 0) MW_0 rfl rfl (Nat.le_of_ble_eq_true rfl) (Nat.le_of_ble_eq_true rfl) (Nat.le_of_ble_eq_true rfl) (Nat.zero_le _) (Nat.zero_le _) ?_
  rintro v2 u2 ⟨r2, rfl, p2⟩
  refine LW.pcq (pc2 := 769) rfl ?_
  obtain ⟨e, hR⟩ := k3 r1 u1 r2 u2 p1 p2
  refine L_icmp_eq 1009 (dL7 55 rfl) (by decide) (fun _ => ?_) (fun z => absurd e z)
  exact LW.less (by omega) (by omega) (KK _ _ hR)
set_option maxRecDepth 100000 in
set_option maxHeartbeats 400000 in
theorem lw_sheet {E : ag} {b0 L0 : Nat} {xs0 : Nat → Int32} {bc bs : Nat} (q : Nat → Nat) (kq : Nat) (i : Nat) (hi : i + 6 ≤ L0) (hL : L0 ≤ 3072) (h2 : 2 ≤ bc) (h42 : 42 ≤ bs) {w1 w2 : va_W} (hR : REL E q kq w1 w2) (KK : ∀ w1 w2, REL E q kq w1 w2 → LW E b0 L0 xs0 (bc - 2) (bs - 42) 1009 [some (.ref b0), some (.ref kq), some (.ref (q 0)), some (.int (nI i))] [] (w1 ++ w2)) : LW E b0 L0 xs0 bc bs 774 [some (.ref b0), some (.ref kq), some (.ref (q 0)), some (.int (nI i))] [] (w1 ++ w2) := by
  obtain ⟨cg, qf, gf, af, qd, gd, ad, qk, gk, ak, ql, gl, al, qr, gr, ar, rx, qm, qx, gx, ax, qs, sx, qo, go, ao, qp, gp_, ap, T, ix, g, tw, a, m, tr, tc, n, rfl, rfl, h⟩ := hR
  obtain ⟨Pc, Pr, k1, k2, k3⟩ := op_sheet E q kq cg qf gf af qd gd ad qk gk ak ql gl al qr gr ar rx qm qx gx ax qs sx qo go ao qp gp_ ap T ix g tw a m tr tc n h (xs0 (i + 1)) (xs0 (i + 2)) (xs0 (i + 3))
  refine L_aload_n (dL7 58 rfl) rfl ?_
  refine L_aload_n (dL7 59 rfl) rfl ?_
  refine L_iload_n (dL8 0 rfl) rfl ?_
  refine L_iconst (1) (dL8 1 rfl) (by decide +kernel) ?_
  refine L_iadd (dL8 2 rfl) ?_
  rw [show nI i + 1 = nI (i + 1) from nI_add i 1]
  refine L_sld (dL8 3 rfl) (vp_in_nI (n := i + 1) (by omega) (by omega)) ?_
  rw [nI_clamp (n := i + 1) (by omega)]
  refine L_aload_n (dL8 4 rfl) rfl ?_
  refine L_iload_n (dL8 5 rfl) rfl ?_
  refine LW.pcq (pc2 := 782) rfl ?_
  refine L_iconst (2) (dL8 6 rfl) (by decide +kernel) ?_
  refine L_iadd (dL8 7 rfl) ?_
  rw [show nI i + 2 = nI (i + 2) from nI_add i 2]
  refine L_sld (dL8 8 rfl) (vp_in_nI (n := i + 2) (by omega) (by omega)) ?_
  rw [nI_clamp (n := i + 2) (by omega)]
  refine L_aload_n (dL8 9 rfl) rfl ?_
  refine L_iload_n (dL8 10 rfl) rfl ?_
  refine L_iconst (3) (dL8 11 rfl) (by decide +kernel) ?_
  refine L_iadd (dL8 12 rfl) ?_
  rw [show nI i + 3 = nI (i + 3) from nI_add i 3]
  refine L_sld (dL8 13 rfl) (vp_in_nI (n := i + 3) (by omega) (by omega)) ?_
  rw [nI_clamp (n := i + 3) (by omega)]
  refine L_callV 3 (dL8 14 rfl) cbX5_sheet cwL_118 k1 rfl rfl (q0 := 0) wK_0 rfl rfl (Nat.le_of_ble_eq_true rfl) (Nat.le_of_ble_eq_true rfl) (Nat.le_of_ble_eq_true rfl) h2 h42 ?_
  rintro v1 u1 ⟨r1, rfl, p1⟩
  refine LW.pcq (pc2 := 793) rfl ?_
  refine L_aload_n (dL8 15 rfl) rfl ?_
  refine L_aload_n (dL8 16 rfl) rfl ?_
  refine L_iload_n (dL8 17 rfl) rfl ?_
  refine L_iconst (1) (dL8 18 rfl) (by decide +kernel) ?_
  refine L_iadd (dL8 19 rfl) ?_
  rw [show nI i + 1 = nI (i + 1) from nI_add i 1]
  refine L_sld (dL8 20 rfl) (vp_in_nI (n := i + 1) (by omega) (by omega)) ?_
  rw [nI_clamp (n := i + 1) (by omega)]
  refine L_aload_n (dL8 21 rfl) rfl ?_
  refine L_iload_n (dL8 22 rfl) rfl ?_
  refine LW.pcq (pc2 := 801) rfl ?_
  refine L_iconst (2) (dL8 23 rfl) (by decide +kernel) ?_
  refine L_iadd (dL8 24 rfl) ?_
  rw [show nI i + 2 = nI (i + 2) from nI_add i 2]
  refine L_sld (dL8 25 rfl) (vp_in_nI (n := i + 2) (by omega) (by omega)) ?_
  rw [nI_clamp (n := i + 2) (by omega)]
  refine L_aload_n (dL8 26 rfl) rfl ?_
  refine L_iload_n (dL8 27 rfl) rfl ?_
  refine L_iconst (3) (dL8 28 rfl) (by decide +kernel) ?_
  refine L_iadd (dL8 29 rfl) ?_
  rw [show nI i + 3 = nI (i + 3) from nI_add i 3]
  refine L_sld (dL8 30 rfl) (vp_in_nI (n := i + 3) (by omega) (by omega)) ?_
  rw [nI_clamp (n := i + 3) (by omega)]
  refine L_callV 3 (dL8 31 rfl) cbX6_sheet cwL_121 k2 rfl rfl (q0 := 0) MW_0 rfl rfl (Nat.le_of_ble_eq_true rfl) (Nat.le_of_ble_eq_true rfl) (Nat.le_of_ble_eq_true rfl) (Nat.zero_le _) (Nat.zero_le _) ?_
  rintro v2 u2 ⟨r2, rfl, p2⟩
  refine LW.pcq (pc2 := 812) rfl ?_
  obtain ⟨e, hR⟩ := k3 r1 u1 r2 u2 p1 p2
  refine L_icmp_eq 1009 (dL8 32 rfl) (by decide) (fun _ => ?_) (fun z => absurd e z)
  exact LW.less (by omega) (by omega) (KK _ _ hR)
set_option maxRecDepth 100000 in
set_option maxHeartbeats 400000 in
theorem lw_cell {E : ag} {b0 L0 : Nat} {xs0 : Nat → Int32} {bc bs : Nat} (q : Nat → Nat) (kq : Nat) (i : Nat) (hi : i + 6 ≤ L0) (hL : L0 ≤ 3072) (h2 : 2 ≤ bc) (h42 : 42 ≤ bs) {w1 w2 : va_W} (hR : REL E q kq w1 w2) (KK : ∀ w1 w2, REL E q kq w1 w2 → LW E b0 L0 xs0 (bc - 2) (bs - 42) 1009 [some (.ref b0), some (.ref kq), some (.ref (q 0)), some (.int (nI i))] [] (w1 ++ w2)) : LW E b0 L0 xs0 bc bs 817 [some (.ref b0), some (.ref kq), some (.ref (q 0)), some (.int (nI i))] [] (w1 ++ w2) := by
  obtain ⟨cg, qf, gf, af, qd, gd, ad, qk, gk, ak, ql, gl, al, qr, gr, ar, rx, qm, qx, gx, ax, qs, sx, qo, go, ao, qp, gp_, ap, T, ix, g, tw, a, m, tr, tc, n, rfl, rfl, h⟩ := hR
  obtain ⟨Pc, Pr, k1, k2, k3⟩ := op_cell E q kq cg qf gf af qd gd ad qk gk ak ql gl al qr gr ar rx qm qx gx ax qs sx qo go ao qp gp_ ap T ix g tw a m tr tc n h (xs0 (i + 1)) (xs0 (i + 2)) (xs0 (i + 3))
  refine L_aload_n (dL8 35 rfl) rfl ?_
  refine L_aload_n (dL8 36 rfl) rfl ?_
  refine L_iload_n (dL8 37 rfl) rfl ?_
  refine L_iconst (1) (dL8 38 rfl) (by decide +kernel) ?_
  refine L_iadd (dL8 39 rfl) ?_
  rw [show nI i + 1 = nI (i + 1) from nI_add i 1]
  refine L_sld (dL8 40 rfl) (vp_in_nI (n := i + 1) (by omega) (by omega)) ?_
  rw [nI_clamp (n := i + 1) (by omega)]
  refine L_aload_n (dL8 41 rfl) rfl ?_
  refine L_iload_n (dL8 42 rfl) rfl ?_
  refine LW.pcq (pc2 := 825) rfl ?_
  refine L_iconst (2) (dL8 43 rfl) (by decide +kernel) ?_
  refine L_iadd (dL8 44 rfl) ?_
  rw [show nI i + 2 = nI (i + 2) from nI_add i 2]
  refine L_sld (dL8 45 rfl) (vp_in_nI (n := i + 2) (by omega) (by omega)) ?_
  rw [nI_clamp (n := i + 2) (by omega)]
  refine L_aload_n (dL8 46 rfl) rfl ?_
  refine L_iload_n (dL8 47 rfl) rfl ?_
  refine L_iconst (3) (dL8 48 rfl) (by decide +kernel) ?_
  refine L_iadd (dL8 49 rfl) ?_
  rw [show nI i + 3 = nI (i + 3) from nI_add i 3]
  refine L_sld (dL8 50 rfl) (vp_in_nI (n := i + 3) (by omega) (by omega)) ?_
  rw [nI_clamp (n := i + 3) (by omega)]
  refine L_callV 3 (dL8 51 rfl) cbX5_cell cwL_122 k1 rfl rfl (q0 := 0) wK_0 rfl rfl (Nat.le_of_ble_eq_true rfl) (Nat.le_of_ble_eq_true rfl) (Nat.le_of_ble_eq_true rfl) (Nat.zero_le _) (Nat.zero_le _) ?_
  rintro v1 u1 ⟨r1, rfl, p1⟩
  refine LW.pcq (pc2 := 836) rfl ?_
  refine L_aload_n (dL8 52 rfl) rfl ?_
  refine L_aload_n (dL8 53 rfl) rfl ?_
  refine L_iload_n (dL8 54 rfl) rfl ?_
  refine L_iconst (1) (dL8 55 rfl) (by decide +kernel) ?_
  refine L_iadd (dL8 56 rfl) ?_
  rw [show nI i + 1 = nI (i + 1) from nI_add i 1]
  refine L_sld (dL8 57 rfl) (vp_in_nI (n := i + 1) (by omega) (by omega)) ?_
  rw [nI_clamp (n := i + 1) (by omega)]
  refine L_aload_n (dL8 58 rfl) rfl ?_
  refine L_iload_n (dL8 59 rfl) rfl ?_
  refine LW.pcq (pc2 := 844) rfl ?_
  refine L_iconst (2) (dL9 0 rfl) (by decide +kernel) ?_
  refine L_iadd (dL9 1 rfl) ?_
  rw [show nI i + 2 = nI (i + 2) from nI_add i 2]
  refine L_sld (dL9 2 rfl) (vp_in_nI (n := i + 2) (by omega) (by omega)) ?_
  rw [nI_clamp (n := i + 2) (by omega)]
  refine L_aload_n (dL9 3 rfl) rfl ?_
  refine L_iload_n (dL9 4 rfl) rfl ?_
  refine L_iconst (3) (dL9 5 rfl) (by decide +kernel) ?_
  refine L_iadd (dL9 6 rfl) ?_
  rw [show nI i + 3 = nI (i + 3) from nI_add i 3]
  refine L_sld (dL9 7 rfl) (vp_in_nI (n := i + 3) (by omega) (by omega)) ?_
  rw [nI_clamp (n := i + 3) (by omega)]
  refine L_callV 3 (dL9 8 rfl) cbX6_cell cwL_125 k2 rfl rfl (q0 := 0) MW_0 rfl rfl (Nat.le_of_ble_eq_true rfl) (Nat.le_of_ble_eq_true rfl) (Nat.le_of_ble_eq_true rfl) (Nat.zero_le _) (Nat.zero_le _) ?_
  rintro v2 u2 ⟨r2, rfl, p2⟩
  refine LW.pcq (pc2 := 855) rfl ?_
  obtain ⟨e, hR⟩ := k3 r1 u1 r2 u2 p1 p2
  refine L_icmp_eq 1009 (dL9 9 rfl) (by decide) (fun _ => ?_) (fun z => absurd e z)
  exact LW.less (by omega) (by omega) (KK _ _ hR)
set_option maxRecDepth 100000 in
set_option maxHeartbeats 400000 in
theorem lw_copy {E : ag} {b0 L0 : Nat} {xs0 : Nat → Int32} {bc bs : Nat} (q : Nat → Nat) (kq : Nat) (i : Nat) (hi : i + 6 ≤ L0) (hL : L0 ≤ 3072) (h2 : 2 ≤ bc) (h42 : 42 ≤ bs) {w1 w2 : va_W} (hR : REL E q kq w1 w2) (KK : ∀ w1 w2, REL E q kq w1 w2 → LW E b0 L0 xs0 (bc - 2) (bs - 42) 1009 [some (.ref b0), some (.ref kq), some (.ref (q 0)), some (.int (nI i))] [] (w1 ++ w2)) : LW E b0 L0 xs0 bc bs 860 [some (.ref b0), some (.ref kq), some (.ref (q 0)), some (.int (nI i))] [] (w1 ++ w2) := by
  obtain ⟨cg, qf, gf, af, qd, gd, ad, qk, gk, ak, ql, gl, al, qr, gr, ar, rx, qm, qx, gx, ax, qs, sx, qo, go, ao, qp, gp_, ap, T, ix, g, tw, a, m, tr, tc, n, rfl, rfl, h⟩ := hR
  obtain ⟨Pc, Pr, k1, k2, k3⟩ := op_copy E q kq cg qf gf af qd gd ad qk gk ak ql gl al qr gr ar rx qm qx gx ax qs sx qo go ao qp gp_ ap T ix g tw a m tr tc n h (xs0 (i + 1)) (xs0 (i + 2)) (xs0 (i + 3)) (xs0 (i + 4)) (xs0 (i + 5))
  refine L_aload_n (dL9 12 rfl) rfl ?_
  refine L_aload_n (dL9 13 rfl) rfl ?_
  refine L_iload_n (dL9 14 rfl) rfl ?_
  refine L_iconst (1) (dL9 15 rfl) (by decide +kernel) ?_
  refine L_iadd (dL9 16 rfl) ?_
  rw [show nI i + 1 = nI (i + 1) from nI_add i 1]
  refine L_sld (dL9 17 rfl) (vp_in_nI (n := i + 1) (by omega) (by omega)) ?_
  rw [nI_clamp (n := i + 1) (by omega)]
  refine L_aload_n (dL9 18 rfl) rfl ?_
  refine L_iload_n (dL9 19 rfl) rfl ?_
  refine LW.pcq (pc2 := 868) rfl ?_
  refine L_iconst (2) (dL9 20 rfl) (by decide +kernel) ?_
  refine L_iadd (dL9 21 rfl) ?_
  rw [show nI i + 2 = nI (i + 2) from nI_add i 2]
  refine L_sld (dL9 22 rfl) (vp_in_nI (n := i + 2) (by omega) (by omega)) ?_
  rw [nI_clamp (n := i + 2) (by omega)]
  refine L_aload_n (dL9 23 rfl) rfl ?_
  refine L_iload_n (dL9 24 rfl) rfl ?_
  refine L_iconst (3) (dL9 25 rfl) (by decide +kernel) ?_
  refine L_iadd (dL9 26 rfl) ?_
  rw [show nI i + 3 = nI (i + 3) from nI_add i 3]
  refine L_sld (dL9 27 rfl) (vp_in_nI (n := i + 3) (by omega) (by omega)) ?_
  rw [nI_clamp (n := i + 3) (by omega)]
  refine LW.pcq (pc2 := 876) rfl ?_
  refine L_aload_n (dL9 28 rfl) rfl ?_
  refine L_iload_n (dL9 29 rfl) rfl ?_
  refine L_iconst (4) (dL9 30 rfl) (by decide +kernel) ?_
  refine L_iadd (dL9 31 rfl) ?_
  rw [show nI i + 4 = nI (i + 4) from nI_add i 4]
  refine L_sld (dL9 32 rfl) (vp_in_nI (n := i + 4) (by omega) (by omega)) ?_
  rw [nI_clamp (n := i + 4) (by omega)]
  refine L_aload_n (dL9 33 rfl) rfl ?_
  refine L_iload_n (dL9 34 rfl) rfl ?_
  refine L_iconst (5) (dL9 35 rfl) (by decide +kernel) ?_
  refine LW.pcq (pc2 := 884) rfl ?_
  refine L_iadd (dL9 36 rfl) ?_
  rw [show nI i + 5 = nI (i + 5) from nI_add i 5]
  refine L_sld (dL9 37 rfl) (vp_in_nI (n := i + 5) (by omega) (by omega)) ?_
  rw [nI_clamp (n := i + 5) (by omega)]
  refine L_callV 5 (dL9 38 rfl) cbX5_copy cwL_126 k1 rfl rfl (q0 := 0) wK_0 rfl rfl (Nat.le_of_ble_eq_true rfl) (Nat.le_of_ble_eq_true rfl) (Nat.le_of_ble_eq_true rfl) (Nat.zero_le _) (Nat.zero_le _) ?_
  rintro v1 u1 ⟨r1, rfl, p1⟩
  refine LW.pcq (pc2 := 889) rfl ?_
  refine L_aload_n (dL9 39 rfl) rfl ?_
  refine L_aload_n (dL9 40 rfl) rfl ?_
  refine L_iload_n (dL9 41 rfl) rfl ?_
  refine L_iconst (1) (dL9 42 rfl) (by decide +kernel) ?_
  refine L_iadd (dL9 43 rfl) ?_
  rw [show nI i + 1 = nI (i + 1) from nI_add i 1]
  refine L_sld (dL9 44 rfl) (vp_in_nI (n := i + 1) (by omega) (by omega)) ?_
  rw [nI_clamp (n := i + 1) (by omega)]
  refine L_aload_n (dL9 45 rfl) rfl ?_
  refine L_iload_n (dL9 46 rfl) rfl ?_
  refine LW.pcq (pc2 := 897) rfl ?_
  refine L_iconst (2) (dL9 47 rfl) (by decide +kernel) ?_
  refine L_iadd (dL9 48 rfl) ?_
  rw [show nI i + 2 = nI (i + 2) from nI_add i 2]
  refine L_sld (dL9 49 rfl) (vp_in_nI (n := i + 2) (by omega) (by omega)) ?_
  rw [nI_clamp (n := i + 2) (by omega)]
  refine L_aload_n (dL9 50 rfl) rfl ?_
  refine L_iload_n (dL9 51 rfl) rfl ?_
  refine L_iconst (3) (dL9 52 rfl) (by decide +kernel) ?_
  refine L_iadd (dL9 53 rfl) ?_
  rw [show nI i + 3 = nI (i + 3) from nI_add i 3]
  refine L_sld (dL9 54 rfl) (vp_in_nI (n := i + 3) (by omega) (by omega)) ?_
  rw [nI_clamp (n := i + 3) (by omega)]
  refine LW.pcq (pc2 := 905) rfl ?_
  refine L_aload_n (dL9 55 rfl) rfl ?_
  refine L_iload_n (dL9 56 rfl) rfl ?_
  refine L_iconst (4) (dL9 57 rfl) (by decide +kernel) ?_
  refine L_iadd (dL9 58 rfl) ?_
  rw [show nI i + 4 = nI (i + 4) from nI_add i 4]
  refine L_sld (dL9 59 rfl) (vp_in_nI (n := i + 4) (by omega) (by omega)) ?_
  rw [nI_clamp (n := i + 4) (by omega)]
  refine L_aload_n (dL10 0 rfl) rfl ?_
  refine L_iload_n (dL10 1 rfl) rfl ?_
  refine L_iconst (5) (dL10 2 rfl) (by decide +kernel) ?_
  refine LW.pcq (pc2 := 913) rfl ?_
  refine L_iadd (dL10 3 rfl) ?_
  rw [show nI i + 5 = nI (i + 5) from nI_add i 5]
  refine L_sld (dL10 4 rfl) (vp_in_nI (n := i + 5) (by omega) (by omega)) ?_
  rw [nI_clamp (n := i + 5) (by omega)]
  refine L_callV 5 (dL10 5 rfl) cbX6_copy cwL_130 k2 rfl rfl (q0 := 0) MW_0 rfl rfl (Nat.le_of_ble_eq_true rfl) (Nat.le_of_ble_eq_true rfl) (Nat.le_of_ble_eq_true rfl) (Nat.zero_le _) (Nat.zero_le _) ?_
  rintro v2 u2 ⟨r2, rfl, p2⟩
  refine LW.pcq (pc2 := 918) rfl ?_
  obtain ⟨e, hR⟩ := k3 r1 u1 r2 u2 p1 p2
  refine L_icmp_eq 1009 (dL10 6 rfl) (by decide) (fun _ => ?_) (fun z => absurd e z)
  exact LW.less (by omega) (by omega) (KK _ _ hR)
set_option maxRecDepth 100000 in
set_option maxHeartbeats 400000 in
theorem lw_men {E : ag} {b0 L0 : Nat} {xs0 : Nat → Int32} {bc bs : Nat} (q : Nat → Nat) (kq : Nat) (i : Nat) (hi : i + 6 ≤ L0) (hL : L0 ≤ 3072) (h2 : 2 ≤ bc) (h42 : 42 ≤ bs) {w1 w2 : va_W} (hR : REL E q kq w1 w2) (KK : ∀ w1 w2, REL E q kq w1 w2 → LW E b0 L0 xs0 (bc - 2) (bs - 42) 1009 [some (.ref b0), some (.ref kq), some (.ref (q 0)), some (.int (nI i))] [] (w1 ++ w2)) : LW E b0 L0 xs0 bc bs 923 [some (.ref b0), some (.ref kq), some (.ref (q 0)), some (.int (nI i))] [] (w1 ++ w2) := by
  obtain ⟨cg, qf, gf, af, qd, gd, ad, qk, gk, ak, ql, gl, al, qr, gr, ar, rx, qm, qx, gx, ax, qs, sx, qo, go, ao, qp, gp_, ap, T, ix, g, tw, a, m, tr, tc, n, rfl, rfl, h⟩ := hR
  obtain ⟨Pc, Pr, k1, k2, k3⟩ := op_men E q kq cg qf gf af qd gd ad qk gk ak ql gl al qr gr ar rx qm qx gx ax qs sx qo go ao qp gp_ ap T ix g tw a m tr tc n h (xs0 (i + 1)) (xs0 (i + 2)) (xs0 (i + 3)) (xs0 (i + 4))
  refine L_aload_n (dL10 9 rfl) rfl ?_
  refine L_aload_n (dL10 10 rfl) rfl ?_
  refine L_iload_n (dL10 11 rfl) rfl ?_
  refine L_iconst (1) (dL10 12 rfl) (by decide +kernel) ?_
  refine L_iadd (dL10 13 rfl) ?_
  rw [show nI i + 1 = nI (i + 1) from nI_add i 1]
  refine L_sld (dL10 14 rfl) (vp_in_nI (n := i + 1) (by omega) (by omega)) ?_
  rw [nI_clamp (n := i + 1) (by omega)]
  refine L_aload_n (dL10 15 rfl) rfl ?_
  refine L_iload_n (dL10 16 rfl) rfl ?_
  refine LW.pcq (pc2 := 931) rfl ?_
  refine L_iconst (2) (dL10 17 rfl) (by decide +kernel) ?_
  refine L_iadd (dL10 18 rfl) ?_
  rw [show nI i + 2 = nI (i + 2) from nI_add i 2]
  refine L_sld (dL10 19 rfl) (vp_in_nI (n := i + 2) (by omega) (by omega)) ?_
  rw [nI_clamp (n := i + 2) (by omega)]
  refine L_aload_n (dL10 20 rfl) rfl ?_
  refine L_iload_n (dL10 21 rfl) rfl ?_
  refine L_iconst (3) (dL10 22 rfl) (by decide +kernel) ?_
  refine L_iadd (dL10 23 rfl) ?_
  rw [show nI i + 3 = nI (i + 3) from nI_add i 3]
  refine L_sld (dL10 24 rfl) (vp_in_nI (n := i + 3) (by omega) (by omega)) ?_
  rw [nI_clamp (n := i + 3) (by omega)]
  refine LW.pcq (pc2 := 939) rfl ?_
  refine L_aload_n (dL10 25 rfl) rfl ?_
  refine L_iload_n (dL10 26 rfl) rfl ?_
  refine L_iconst (4) (dL10 27 rfl) (by decide +kernel) ?_
  refine L_iadd (dL10 28 rfl) ?_
  rw [show nI i + 4 = nI (i + 4) from nI_add i 4]
  refine L_sld (dL10 29 rfl) (vp_in_nI (n := i + 4) (by omega) (by omega)) ?_
  rw [nI_clamp (n := i + 4) (by omega)]
  refine L_callV 4 (dL10 30 rfl) cbX5_men cwL_131 k1 rfl rfl (q0 := 0) wK_0 rfl rfl (Nat.le_of_ble_eq_true rfl) (Nat.le_of_ble_eq_true rfl) (Nat.le_of_ble_eq_true rfl) (Nat.zero_le _) (Nat.zero_le _) ?_
  rintro v1 u1 ⟨r1, rfl, p1⟩
  refine LW.pcq (pc2 := 947) rfl ?_
  refine L_aload_n (dL10 31 rfl) rfl ?_
  refine L_aload_n (dL10 32 rfl) rfl ?_
  refine L_iload_n (dL10 33 rfl) rfl ?_
  refine L_iconst (1) (dL10 34 rfl) (by decide +kernel) ?_
  refine L_iadd (dL10 35 rfl) ?_
  rw [show nI i + 1 = nI (i + 1) from nI_add i 1]
  refine L_sld (dL10 36 rfl) (vp_in_nI (n := i + 1) (by omega) (by omega)) ?_
  rw [nI_clamp (n := i + 1) (by omega)]
  refine L_aload_n (dL10 37 rfl) rfl ?_
  refine L_iload_n (dL10 38 rfl) rfl ?_
  refine LW.pcq (pc2 := 955) rfl ?_
  refine L_iconst (2) (dL10 39 rfl) (by decide +kernel) ?_
  refine L_iadd (dL10 40 rfl) ?_
  rw [show nI i + 2 = nI (i + 2) from nI_add i 2]
  refine L_sld (dL10 41 rfl) (vp_in_nI (n := i + 2) (by omega) (by omega)) ?_
  rw [nI_clamp (n := i + 2) (by omega)]
  refine L_aload_n (dL10 42 rfl) rfl ?_
  refine L_iload_n (dL10 43 rfl) rfl ?_
  refine L_iconst (3) (dL10 44 rfl) (by decide +kernel) ?_
  refine L_iadd (dL10 45 rfl) ?_
  rw [show nI i + 3 = nI (i + 3) from nI_add i 3]
  refine L_sld (dL10 46 rfl) (vp_in_nI (n := i + 3) (by omega) (by omega)) ?_
  rw [nI_clamp (n := i + 3) (by omega)]
  refine LW.pcq (pc2 := 963) rfl ?_
  refine L_aload_n (dL10 47 rfl) rfl ?_
  refine L_iload_n (dL10 48 rfl) rfl ?_
  refine L_iconst (4) (dL10 49 rfl) (by decide +kernel) ?_
  refine L_iadd (dL10 50 rfl) ?_
  rw [show nI i + 4 = nI (i + 4) from nI_add i 4]
  refine L_sld (dL10 51 rfl) (vp_in_nI (n := i + 4) (by omega) (by omega)) ?_
  rw [nI_clamp (n := i + 4) (by omega)]
  refine L_callV 4 (dL10 52 rfl) cbX6_men cwL_135 k2 rfl rfl (q0 := 0) MW_0 rfl rfl (Nat.le_of_ble_eq_true rfl) (Nat.le_of_ble_eq_true rfl) (Nat.le_of_ble_eq_true rfl) (Nat.zero_le _) (Nat.zero_le _) ?_
  rintro v2 u2 ⟨r2, rfl, p2⟩
  refine LW.pcq (pc2 := 971) rfl ?_
  obtain ⟨e, hR⟩ := k3 r1 u1 r2 u2 p1 p2
  refine L_icmp_eq 1009 (dL10 53 rfl) (by decide) (fun _ => ?_) (fun z => absurd e z)
  exact LW.less (by omega) (by omega) (KK _ _ hR)
set_option maxRecDepth 100000 in
set_option maxHeartbeats 400000 in
theorem lw_taken {E : ag} {b0 L0 : Nat} {xs0 : Nat → Int32} {bc bs : Nat} (q : Nat → Nat) (kq : Nat) (i : Nat) (hi : i + 6 ≤ L0) (hL : L0 ≤ 3072) (h2 : 2 ≤ bc) (h42 : 42 ≤ bs) {w1 w2 : va_W} (hR : REL E q kq w1 w2) (KK : ∀ w1 w2, REL E q kq w1 w2 → LW E b0 L0 xs0 (bc - 2) (bs - 42) 1009 [some (.ref b0), some (.ref kq), some (.ref (q 0)), some (.int (nI i))] [] (w1 ++ w2)) : LW E b0 L0 xs0 bc bs 976 [some (.ref b0), some (.ref kq), some (.ref (q 0)), some (.int (nI i))] [] (w1 ++ w2) := by
  obtain ⟨cg, qf, gf, af, qd, gd, ad, qk, gk, ak, ql, gl, al, qr, gr, ar, rx, qm, qx, gx, ax, qs, sx, qo, go, ao, qp, gp_, ap, T, ix, g, tw, a, m, tr, tc, n, rfl, rfl, h⟩ := hR
  obtain ⟨Pc, Pr, k1, k2, k3⟩ := op_taken E q kq cg qf gf af qd gd ad qk gk ak ql gl al qr gr ar rx qm qx gx ax qs sx qo go ao qp gp_ ap T ix g tw a m tr tc n h (xs0 (i + 1)) (xs0 (i + 2))
  refine L_aload_n (dL10 56 rfl) rfl ?_
  refine L_aload_n (dL10 57 rfl) rfl ?_
  refine L_iload_n (dL10 58 rfl) rfl ?_
  refine L_iconst (1) (dL10 59 rfl) (by decide +kernel) ?_
  refine L_iadd (dL11 0 rfl) ?_
  rw [show nI i + 1 = nI (i + 1) from nI_add i 1]
  refine L_sld (dL11 1 rfl) (vp_in_nI (n := i + 1) (by omega) (by omega)) ?_
  rw [nI_clamp (n := i + 1) (by omega)]
  refine L_aload_n (dL11 2 rfl) rfl ?_
  refine L_iload_n (dL11 3 rfl) rfl ?_
  refine LW.pcq (pc2 := 984) rfl ?_
  refine L_iconst (2) (dL11 4 rfl) (by decide +kernel) ?_
  refine L_iadd (dL11 5 rfl) ?_
  rw [show nI i + 2 = nI (i + 2) from nI_add i 2]
  refine L_sld (dL11 6 rfl) (vp_in_nI (n := i + 2) (by omega) (by omega)) ?_
  rw [nI_clamp (n := i + 2) (by omega)]
  refine L_callV 2 (dL11 7 rfl) cbX5_taken cwL_136 k1 rfl rfl (q0 := 0) wK_0 rfl rfl (Nat.le_of_ble_eq_true rfl) (Nat.le_of_ble_eq_true rfl) (Nat.le_of_ble_eq_true rfl) (Nat.zero_le _) (Nat.zero_le _) ?_
  rintro v1 u1 ⟨r1, rfl, p1⟩
  refine LW.pcq (pc2 := 990) rfl ?_
  refine L_aload_n (dL11 8 rfl) rfl ?_
  refine L_aload_n (dL11 9 rfl) rfl ?_
  refine L_iload_n (dL11 10 rfl) rfl ?_
  refine L_iconst (1) (dL11 11 rfl) (by decide +kernel) ?_
  refine L_iadd (dL11 12 rfl) ?_
  rw [show nI i + 1 = nI (i + 1) from nI_add i 1]
  refine L_sld (dL11 13 rfl) (vp_in_nI (n := i + 1) (by omega) (by omega)) ?_
  rw [nI_clamp (n := i + 1) (by omega)]
  refine L_aload_n (dL11 14 rfl) rfl ?_
  refine L_iload_n (dL11 15 rfl) rfl ?_
  refine LW.pcq (pc2 := 998) rfl ?_
  refine L_iconst (2) (dL11 16 rfl) (by decide +kernel) ?_
  refine L_iadd (dL11 17 rfl) ?_
  rw [show nI i + 2 = nI (i + 2) from nI_add i 2]
  refine L_sld (dL11 18 rfl) (vp_in_nI (n := i + 2) (by omega) (by omega)) ?_
  rw [nI_clamp (n := i + 2) (by omega)]
  refine L_callV 2 (dL11 19 rfl) cbX6_taken cwL_139 k2 rfl rfl (q0 := 0) MW_0 rfl rfl (Nat.le_of_ble_eq_true rfl) (Nat.le_of_ble_eq_true rfl) (Nat.le_of_ble_eq_true rfl) (Nat.zero_le _) (Nat.zero_le _) ?_
  rintro v2 u2 ⟨r2, rfl, p2⟩
  refine LW.pcq (pc2 := 1004) rfl ?_
  obtain ⟨e, hR⟩ := k3 r1 u1 r2 u2 p1 p2
  refine L_icmp_eq 1009 (dL11 20 rfl) (by decide) (fun _ => ?_) (fun z => absurd e z)
  exact LW.less (by omega) (by omega) (KK _ _ hR)
