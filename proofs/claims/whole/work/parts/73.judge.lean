set_option maxRecDepth 100000 in
set_option maxHeartbeats 400000 in
theorem K_judgeL (E : ag) (kq : Nat) (cg : Nat → Int32) (qf : Nat → Nat) (gf : Nat → Int32) (af : Nat → Nat → Int32) (qd : Nat → Nat) (gd : Nat → Int32) (ad : Nat → Nat → Int32) (qk : Nat → Nat) (gk : Nat → Int32) (ak : Nat → Nat → Int32) (ql : Nat → Nat) (gl : Nat → Int32) (al : Nat → Nat → Int32) (qr : Nat → Nat) (gr : Nat → Int32) (ar : Nat → Nat → Int32) (rx : Nat) (qm : Nat) (qx : Nat → Nat → Nat) (gx : Nat → Nat → Int32) (ax : Nat → Nat → Nat → Int32) (qs : Nat) (sx : Nat → Option Nat) (qo : Nat → Nat) (go : Nat → Int32) (ao : Nat → Nat → Int32) (qp : Nat → Nat) (gp_ : Nat → Int32) (ap : Nat → Nat → Int32) (t m : Nat) (ht : t < 6) (C : Nat → List Int32) (hr4 : gf 4 = nI t) (hC : TKC (ax t) C) (hG : GOOD (cfs gf af gl) m) (T : List SE) (i0 j : Nat) (hi0 : i0 < m) (a b : Nat) (kk : Int32) (N : Nat) (f : Nat → Int32) (hN : N ≤ 40) {ii : Nat} (he : T[ii]? = some (a, b, kk, N, f)) : ∀ (n c : Nat), c + n = N → ∀ (gd1 : Nat → Int32) (ad1 : Nat → Nat → Int32) (gl1 : Nat → Int32) (al1 : Nat → Nat → Int32) (s : FS), EQ m 0 (cfs gd1 ad1 gl1) s → gl1 0 = 0 → GOOD s m → AW E mX5_judge 6 0 0 39 [some (.ref kq), some (.int (nI i0)), some (.int (nI j)), some (.ref a), some (.int (nI c))] [] (wK E kq cg qf gf af qd gd1 ad1 qk gk ak ql gl1 al1 qr gr ar rx qm qx gx ax qs sx qo go ao qp gp_ ap (shl E T)) (ri (fun r w => r = p_judge C i0 f n c s ∧ QK E kq cg qf gf af qd gd ad qk gk ak ql gl al qr gr ar rx qm qx gx ax qs sx qo go ao qp gp_ ap (shl E T) w)) := by
  intro n
  induction n with
  | zero =>
    intro c hc
    intro gd1 ad1 gl1 al1 s hE1 hl1 hG1
    obtain rfl : c = N := by omega
    refine A_iload (dX5_judge 22 rfl) rfl ?_
    refine A_aload_n (dX5_judge 23 rfl) rfl ?_
    refine A_get (dX5_judge 24 rfl) fwX5_201 (wK_e0 he) rfl ?_
    refine A_alen _ (dX5_judge 25 rfl) (wK_e1 he) rfl ?_
    refine A_icmp_ge 82 (dX5_judge 26 rfl) (by decide) (fun h46 => ?_) (fun h46 => absurd (show nI c ≤ nI c from nI_le (Nat.le_refl _) (by omega)) h46)
    refine A_iconst (-1) (dX5_judge 44 rfl) (by decide +kernel) ?_
    refine A_ri (dX5_judge 45 rfl) rfl rfl ?_
    exact ⟨rfl, ⟨gd1, ad1, gl1, al1, go, ao, gp_, ap, rfl⟩⟩
  | succ n ih =>
    intro c hc
    have hlt : c < N := by omega
    intro gd1 ad1 gl1 al1 s hE1 hl1 hG1
    have hm5 := hG.1.1
    refine A_iload (dX5_judge 22 rfl) rfl ?_
    refine A_aload_n (dX5_judge 23 rfl) rfl ?_
    refine A_get (dX5_judge 24 rfl) fwX5_201 (wK_e0 he) rfl ?_
    refine A_alen _ (dX5_judge 25 rfl) (wK_e1 he) rfl ?_
    refine A_icmp_ge 82 (dX5_judge 26 rfl) (by decide) (fun h46 => absurd h46 (nI_ge hlt (by omega))) (fun h46 => ?_)
    refine A_aload_n (dX5_judge 27 rfl) rfl ?_
    refine A_iconst (1) (dX5_judge 28 rfl) (by decide +kernel) ?_
    refine A_callVWv 1 (dX5_judge 29 rfl) cbX5_tryRounds cwX5_168 (K_tryT E kq cg qf gf af qd gd1 ad1 qk gk ak ql gl1 al1 qr gr ar rx qm qx gx ax qs sx qo go ao qp gp_ ap (shl E T) t m ht C hr4 hC 1 (by decide) _ rfl hl1 (hG1.eq hE1)) rfl rfl wK_0 rfl rfl (Nat.le_of_ble_eq_true rfl) (Nat.le_of_ble_eq_true rfl) (Nat.le_of_ble_eq_true rfl) (Nat.le_of_ble_eq_true rfl) (Nat.le_of_ble_eq_true rfl) ?_
    rintro w1 ⟨gd2, ad2, gl2, al2, rfl, h2, hl2⟩
    have hE2 := (hE1.rounds (C := C) (hG1.eq hE1).1 1)
    rw [← h2] at hE2
    have hE2 : EQ m 0 (cfs gd2 ad2 gl2) (p_round C zro s) := hE2
    refine AW.pcq (pc2 := 54) rfl ?_
    refine A_aload_n (dX5_judge 30 rfl) rfl ?_
    refine A_get (dX5_judge 31 rfl) fwX5_16 wK_0 cK_f0_1 ?_
    refine A_get (dX5_judge 32 rfl) fwX5_113 wK_8 cF_f0_3 ?_
    refine A_iload_n (dX5_judge 33 rfl) rfl ?_
    refine A_iald (dX5_judge 34 rfl) wK_12 (vp_in_nI (n := i0) (by omega) (by decide)) ?_
    refine A_aload_n (dX5_judge 35 rfl) rfl ?_
    refine A_get (dX5_judge 36 rfl) fwX5_201 (wK_e0 he) rfl ?_
    refine A_iload (dX5_judge 37 rfl) rfl ?_
    refine AW.pcq (pc2 := 69) rfl ?_
    refine A_iald (dX5_judge 38 rfl) (wK_e1 he) (vp_in_nI (n := c) hlt (by omega)) ?_
    rw [nI_clamp (n := i0) (by omega), nI_clamp (n := c) (by omega)]
    have hbt : ad2 3 i0 = (p_round C zro s).2 3 i0 := hE2.2.2.2.2.1 i0 hi0
    refine A_icmp_eq 76 (dX5_judge 39 rfl) (by decide) (fun h70 => ?_) (fun h70 => ?_)
    · rw [show p_judge C i0 f (n + 1) c s = p_judge C i0 f n (c + 1) (p_round C zro s) from if_pos (hbt.symm.trans h70)]
      refine A_iinc (ls2 := [_, _, _, _, _]) (nI (c + 1)) (dX5_judge 42 rfl) rfl (nI_1 c) (by decide) rfl rfl ?_
      refine A_goto 39 (dX5_judge 43 rfl) (by decide) ?_
      exact ih (c + 1) (by omega) gd2 ad2 gl2 al2 _ hE2 hl2 (hG1.round zro)
    · rw [show p_judge C i0 f (n + 1) c s = nI c from if_neg (fun z => h70 (hbt.trans z))]
      refine A_iload (dX5_judge 40 rfl) rfl ?_
      refine A_ri (dX5_judge 41 rfl) rfl rfl ?_
      exact ⟨rfl, ⟨gd2, ad2, gl2, al2, go, ao, gp_, ap, rfl⟩⟩

set_option maxRecDepth 100000 in
set_option maxHeartbeats 400000 in
theorem K_judge (E : ag) (kq : Nat) (cg : Nat → Int32) (qf : Nat → Nat) (gf : Nat → Int32) (af : Nat → Nat → Int32) (qd : Nat → Nat) (gd : Nat → Int32) (ad : Nat → Nat → Int32) (qk : Nat → Nat) (gk : Nat → Int32) (ak : Nat → Nat → Int32) (ql : Nat → Nat) (gl : Nat → Int32) (al : Nat → Nat → Int32) (qr : Nat → Nat) (gr : Nat → Int32) (ar : Nat → Nat → Int32) (rx : Nat) (qm : Nat) (qx : Nat → Nat → Nat) (gx : Nat → Nat → Int32) (ax : Nat → Nat → Nat → Int32) (qs : Nat) (sx : Nat → Option Nat) (qo : Nat → Nat) (go : Nat → Int32) (ao : Nat → Nat → Int32) (qp : Nat → Nat) (gp_ : Nat → Int32) (ap : Nat → Nat → Int32) (T : List SE) (ix : Nat → Nat) (hsx : ∀ j, j < 4 → sx j = none ∨ ∃ (a b : Nat) (k : Int32) (N : Nat) (f : Nat → Int32), T[ix j]? = some (a, b, k, N, f) ∧ sx j = some a ∧ N ≤ 40) (t m : Nat) (ht : t < 6) (C : Nat → List Int32) (hr4 : gf 4 = nI t) (hC : TKC (ax t) C) (hG : GOOD (cfs gf af gl) m) (i s : Int32) : CT E yX5_judge cX5_judge 5 mX5_judge.2.2.2.1 6 0 0 [.ref kq, .int i, .int s] (wK E kq cg qf gf af qd gd ad qk gk ak ql gl al qr gr ar rx qm qx gx ax qs sx qo go ao qp gp_ ap (shl E T)) (ri (fun r w => (((inI i 0 (gf 0 - 1) = 0 ∨ inI s 0 3 = 0) ∧ r = -2) ∨ (¬ (inI i 0 (gf 0 - 1) = 0 ∨ inI s 0 3 = 0) ∧ ∃ j, j < 4 ∧ s = nI j ∧ ((sx j = none ∧ r = -11) ∨ (∃ (a b : Nat) (kk : Int32) (N : Nat) (f : Nat → Int32), T[ix j]? = some (a, b, kk, N, f) ∧ sx j = some a ∧ N ≤ 40 ∧ r = p_judge C i.toNatClampNeg f N 0 (p_beg (cfs gf af gl)))))) ∧ QK E kq cg qf gf af qd gd ad qk gk ak ql gl al qr gr ar rx qm qx gx ax qs sx qo go ao qp gp_ ap (shl E T) w)) := by
  refine CT.of (M := mX5_judge) (ls := [some (.ref kq), some (.int i), some (.int s), none, none]) (by decide) rfl (by decide) rfl (Nat.le_of_ble_eq_true rfl) ?_
  refine A_aload_n (dX5_judge 0 rfl) rfl ?_
  refine A_iload_n (dX5_judge 1 rfl) rfl ?_
  refine A_callVWi 1 (dX5_judge 2 rfl) cbX5_isMan cwX5_110 (K_isMan E kq cg qf gf af qd gd ad qk gk ak ql gl al qr gr ar rx qm qx gx ax qs sx qo go ao qp gp_ ap (shl E T) i m hG.1.1 hG.1.2.1) rfl rfl wK_0 rfl rfl (Nat.le_of_ble_eq_true rfl) (Nat.le_of_ble_eq_true rfl) (Nat.le_of_ble_eq_true rfl) (Nat.le_of_ble_eq_true rfl) (Nat.le_of_ble_eq_true rfl) ?_
  rintro r2 w1 ⟨rfl, rfl⟩
  refine AW.pcq (pc2 := 5) rfl ?_
  refine A_if_eq 15 (dX5_judge 3 rfl) (by decide) (fun h5 => ?_) (fun h5 => ?_)
  · refine A_bipush (-2) (dX5_judge 7 rfl) (by decide +kernel) ?_
    refine A_ri (dX5_judge 8 rfl) rfl rfl ?_
    exact ⟨Or.inl ⟨by first | exact Or.inl h5 | exact Or.inr (by first | assumption | exact Classical.not_not.mp h12), rfl⟩, ⟨gd, ad, gl, al, go, ao, gp_, ap, rfl⟩⟩
  · refine A_iload_n (dX5_judge 4 rfl) rfl ?_
    refine A_callSWi 1 (dX5_judge 5 rfl) cbX5_isSheet cwX5_198 (k_isSheet E _ s) rfl rfl (Nat.le_of_ble_eq_true rfl) (Nat.le_of_ble_eq_true rfl) (Nat.le_of_ble_eq_true rfl) (Nat.le_of_ble_eq_true rfl) (Nat.le_of_ble_eq_true rfl) ?_
    rintro r9 w1 ⟨rfl, rfl⟩
    refine AW.pcq (pc2 := 12) rfl ?_
    refine A_if_ne 18 (dX5_judge 6 rfl) (by decide) (fun h12 => ?_) (fun h12 => ?_)
    · have hbad : ¬ (inI i 0 (gf 0 - 1) = 0 ∨ inI s 0 3 = 0) := fun z => z.elim h5 h12
      obtain ⟨j, hj, rfl⟩ := sheet_nI h12
      obtain ⟨i0, hi0, rfl⟩ := man_nI hG.1.1 (show ¬ inI i 0 (nI m - 1) = 0 by rw [← show gf 0 = nI m from hG.1.2.1]; exact h5)
      have hm5 := hG.1.1
      refine A_aload_n (dX5_judge 9 rfl) rfl ?_
      refine A_get (dX5_judge 10 rfl) fwX5_52 wK_0 cK_f0_8 ?_
      refine A_iload_n (dX5_judge 11 rfl) rfl ?_
      refine A_aald 2 (dX5_judge 12 rfl) wK_46 rfl (vp_in_nI (n := j) (by omega) (by decide)) ?_
      rw [nI_clamp (n := j) (by omega)]
      rcases hsx j hj with hn | ⟨a, b, kk, N, f, he, hs, hN⟩
      · refine AW.stack (st2 := [.null]) (by rw [hn]; rfl) ?_
        refine AW.pcq (pc2 := 24) rfl ?_
        refine A_astoreN_n (ls2 := [_, _, _, _, _]) (dX5_judge 13 rfl) (by decide) rfl rfl ?_
        refine A_aload_nN (dX5_judge 14 rfl) rfl ?_
        refine A_ifnonnullN (dX5_judge 15 rfl) ?_
        refine A_bipush (-11) (dX5_judge 16 rfl) (by decide +kernel) ?_
        refine A_ri (dX5_judge 17 rfl) rfl rfl ?_
        exact ⟨Or.inr ⟨hbad, j, hj, rfl, Or.inl ⟨hn, rfl⟩⟩, ⟨gd, ad, gl, al, go, ao, gp_, ap, rfl⟩⟩
      · refine AW.stack (st2 := [.ref a]) (by rw [hs]; rfl) ?_
        refine AW.pcq (pc2 := 24) rfl ?_
        refine A_astore_n (ls2 := [_, _, _, _, _]) (dX5_judge 13 rfl) (by decide) rfl rfl ?_
        refine A_aload_n (dX5_judge 14 rfl) rfl ?_
        refine A_ifnonnull 32 (dX5_judge 15 rfl) (by decide) ?_
        refine A_aload_n (dX5_judge 18 rfl) rfl ?_
        refine A_callVWv 0 (dX5_judge 19 rfl) cbX5_beginTrial cwX5_165 (K_begin E kq cg qf gf af qd gd ad qk gk ak ql gl al qr gr ar rx qm qx gx ax qs sx qo go ao qp gp_ ap (shl E T)) rfl rfl wK_0 rfl rfl (Nat.le_of_ble_eq_true rfl) (Nat.le_of_ble_eq_true rfl) (Nat.le_of_ble_eq_true rfl) (Nat.le_of_ble_eq_true rfl) (Nat.le_of_ble_eq_true rfl) ?_
        rintro w1 rfl
        have hE := kb_EQ (gd := gd) (ad := ad) (gf := gf) (af := af) (gl := gl) (gl0 := gl) hG.1.1
        refine AW.pcq (pc2 := 36) rfl ?_
        refine A_iconst (0) (dX5_judge 20 rfl) (by decide +kernel) ?_
        refine A_istore (ls2 := [_, _, _, _, _]) (dX5_judge 21 rfl) (by decide) rfl rfl ?_
        have h9 := K_judgeL E kq cg qf gf af qd gd ad qk gk ak ql gl al qr gr ar rx qm qx gx ax qs sx qo go ao qp gp_ ap t m ht C hr4 hC hG T i0 j hi0 a b kk N f hN he N 0 (by omega) _ _ _ al _ hE rfl hG.beg
        refine AW.mono h9 (fun v9 w9 hz => ?_)
        obtain ⟨r, e1, e2, e3⟩ := hz
        refine ⟨r, e1, Or.inr ⟨hbad, j, hj, rfl, Or.inr ⟨a, b, kk, N, f, he, hs, hN, ?_⟩⟩, e3⟩
        rw [nI_clamp (n := i0) (by omega)]
        exact e2
    · refine A_bipush (-2) (dX5_judge 7 rfl) (by decide +kernel) ?_
      refine A_ri (dX5_judge 8 rfl) rfl rfl ?_
      exact ⟨Or.inl ⟨by first | exact Or.inl h5 | exact Or.inr (by first | assumption | exact Classical.not_not.mp h12), rfl⟩, ⟨gd, ad, gl, al, go, ao, gp_, ap, rfl⟩⟩

