theorem hld_b {b : Int32} {V : Nat} (hb : ¬ inI b 0 239 = 0) (h1 : 12 ≤ V) (h2 : V ≤ 240) : hld b (nI V) = b - b / nI V * nI V := by
  obtain ⟨x, y⟩ := inI_yes hb
  have h0 : (0 : Int32).toInt = 0 := by decide
  have h239 : (239 : Int32).toInt = 239 := by decide
  obtain ⟨B, hB, rfl⟩ := nI_of (x := b) (fun z => by have := Int32.lt_iff_toInt_lt.mp z; omega)
  rw [nI_toInt hB] at y
  exact hld_n (by omega) h1 h2
theorem cf_man {gf gl : Nat → Int32} {af : Nat → Nat → Int32} {m V : Nat} {k b w : Int32} (hm : m ≤ 5) (hg : gf 0 = nI m) (hv : gf 1 = nI V) (h1 : 12 ≤ V) (h2 : V ≤ 240) (hb : ¬ bad3 k b w) : cfs (upd gf 0 (gf 0 + 1)) (va_up (va_up (va_up (va_up af 2 (upd (af 2) m k)) 3 (upd (af 3) m (hld b (gf 1)))) 4 (upd (af 4) m (w / 10))) 5 (upd (af 5) m (w - w / 10 * 10))) gl = p_add k b w (cfs gf af gl) := by
  have e : (cfs gf af gl).1 0 = nI m := hg
  have e1 : (cfs gf af gl).1 1 = nI V := hv
  refine cfs_eq rfl rfl rfl rfl rfl rfl (fun j hj => ?_) rfl rfl ?_ ?_ ?_ ?_ (fun j hj => ?_)
  · show upd (cfs gf af gl).1 0 _ j = 0
    simp only [upd]
    rw [if_neg (by omega)]
    exact cfs_z hj
  · show upd (af 2) m k = upd (af 2) ((cfs gf af gl).1 0).toNatClampNeg k
    rw [e, nI_clamp (by omega)]
  · show upd (af 3) m (hld b (gf 1)) = upd (af 3) ((cfs gf af gl).1 0).toNatClampNeg (b - b / (cfs gf af gl).1 1 * (cfs gf af gl).1 1)
    rw [e, e1, hv, nI_clamp (by omega), hld_b (fun z => hb (Or.inr (Or.inl z))) h1 h2]
  · show upd (af 4) m (w / 10) = upd (af 4) ((cfs gf af gl).1 0).toNatClampNeg (w / 10)
    rw [e, nI_clamp (by omega)]
  · show upd (af 5) m (w - w / 10 * 10) = upd (af 5) ((cfs gf af gl).1 0).toNatClampNeg (w - w / 10 * 10)
    rw [e, nI_clamp (by omega)]
  · show (p_add k b w (cfs gf af gl)).2 j = _
    simp only [p_add, va_up]
    rw [if_neg (by omega), if_neg (by omega), if_neg (by omega), if_neg (by omega)]
    exact cfs_az (gf := gf) (gl := gl) hj
theorem nI_2 (a : Nat) : nI a + 2 = nI (a + 2) := nI_add a 2
theorem nI_3 (a : Nat) : nI a + Int32.ofInt 3 = nI (a + 3) := nI_add a 3
def MAI (at0 x7 : Int32) (c N : Nat) : Prop := (at0 < 0 ∧ c = 0 ∧ x7 = at0) ∨ (∃ A, at0 = nI A ∧ A < 2 ^ 31 ∧ x7 = nI (A + 3 * c) ∧ (c = 0 ∨ A + 3 * c ≤ N))
theorem MAI.lo {at0 x7 : Int32} {c N : Nat} (hN : N ≤ 40) (h : MAI at0 x7 c N) (hc : x7 < 0 ∨ (3 : Int32) < 0 ∨ nI N - x7 < 3) : at0 < 0 ∨ N < at0.toNatClampNeg + 3 * c + 3 := by
  rcases h with ⟨h, -, -⟩ | ⟨A, rfl, hA, rfl, ho⟩
  · exact Or.inl h
  · have hX : A + 3 * c < 2 ^ 31 := by omega
    rcases hc with z | z | z
    · exact absurd z (nI_pos hX)
    · exact absurd z (by decide)
    · rw [Int32.lt_iff_toInt_lt, subN hN hX, show (3 : Int32).toInt = 3 from by decide] at z
      rw [nI_clamp hA]
      exact Or.inr (by omega)
theorem MAI.hi {at0 x7 : Int32} {c N : Nat} (hN : N ≤ 40) (h : MAI at0 x7 c N) (hc : ¬ (x7 < 0 ∨ (3 : Int32) < 0 ∨ nI N - x7 < 3)) : ∃ A, at0 = nI A ∧ A < 2 ^ 31 ∧ x7 = nI (A + 3 * c) ∧ A + 3 * c + 3 ≤ N := by
  rcases h with ⟨h, -, rfl⟩ | ⟨A, rfl, hA, rfl, ho⟩
  · exact absurd (Or.inl h) hc
  · have hX : A + 3 * c < 2 ^ 31 := by omega
    refine ⟨A, rfl, hA, rfl, ?_⟩
    have z : ¬ nI N - nI (A + 3 * c) < 3 := fun z => hc (Or.inr (Or.inr z))
    rw [Int32.lt_iff_toInt_lt, subN hN hX, show (3 : Int32).toInt = 3 from by decide] at z
    omega
theorem K_manP (E : ag) (kq : Nat) (cg : Nat → Int32) (qf : Nat → Nat) (gf : Nat → Int32) (af : Nat → Nat → Int32) (qd : Nat → Nat) (gd : Nat → Int32) (ad : Nat → Nat → Int32) (qk : Nat → Nat) (gk : Nat → Int32) (ak : Nat → Nat → Int32) (ql : Nat → Nat) (gl : Nat → Int32) (al : Nat → Nat → Int32) (qr : Nat → Nat) (gr : Nat → Int32) (ar : Nat → Nat → Int32) (rx : Nat) (qm : Nat) (qx : Nat → Nat → Nat) (gx : Nat → Nat → Int32) (ax : Nat → Nat → Nat → Int32) (qs : Nat) (sx : Nat → Option Nat) (qo : Nat → Nat) (go : Nat → Int32) (ao : Nat → Nat → Int32) (qp : Nat → Nat) (gp_ : Nat → Int32) (ap : Nat → Nat → Int32) (L : va_W) (m V : Nat) (hm : m ≤ 5) (hg : gf 0 = nI m) (hv : gf 1 = nI V) (h1 : 12 ≤ V) (h2 : V ≤ 240) {k b w r : Int32} {ws : va_W} (h : (bad3 k b w ∧ r = -2 ∧ ws = wK E kq cg qf gf af qd gd ad qk gk ak ql gl al qr gr ar rx qm qx gx ax qs sx qo go ao qp gp_ ap L) ∨ (¬ bad3 k b w ∧ m = 5 ∧ r = -4 ∧ ws = wK E kq cg qf gf af qd gd ad qk gk ak ql gl al qr gr ar rx qm qx gx ax qs sx qo go ao qp gp_ ap L) ∨ (¬ bad3 k b w ∧ m < 5 ∧ r = gf 0 ∧ ws = wK E kq cg qf (upd gf 0 (gf 0 + 1)) (va_up (va_up (va_up (va_up af 2 (upd (af 2) m k)) 3 (upd (af 3) m (hld b (gf 1)))) 4 (upd (af 4) m (w / 10))) 5 (upd (af 5) m (w - w / 10 * 10))) qd gd ad qk gk ak ql gl al qr gr ar rx qm qx gx ax qs sx qo go ao qp gp_ ap L)) : ∃ (gf3 : Nat → Int32) (af3 : Nat → Nat → Int32) (m3 : Nat), ws = wK E kq cg qf gf3 af3 qd gd ad qk gk ak ql gl al qr gr ar rx qm qx gx ax qs sx qo go ao qp gp_ ap L ∧ m3 ≤ 5 ∧ gf3 0 = nI m3 ∧ gf3 1 = gf 1 ∧ gf3 4 = gf 4 ∧ (cfs gf3 af3 gl, r) = p_man k b w (cfs gf af gl) := by
  have e : (cfs gf af gl).1 0 = nI m := hg
  unfold p_man
  rcases h with ⟨hb, rfl, rfl⟩ | ⟨hb, rfl, rfl, rfl⟩ | ⟨hb, hm5, rfl, rfl⟩
  · exact ⟨gf, af, m, rfl, hm, hg, rfl, rfl, (if_pos hb).symm⟩
  · refine ⟨gf, af, 5, rfl, hm, hg, rfl, rfl, ?_⟩
    rw [if_neg (show ¬ (inI k 0 5 = 0 ∨ inI b 0 239 = 0 ∨ inI w 0 99 = 0) from hb), if_pos (show (cfs gf af gl).1 0 = 5 from e)]
  · refine ⟨_, _, m + 1, rfl, hm5, ?_, rfl, rfl, ?_⟩
    · show gf 0 + 1 = _
      rw [hg, nI_1]
    · rw [if_neg (show ¬ (inI k 0 5 = 0 ∨ inI b 0 239 = 0 ∨ inI w 0 99 = 0) from hb), if_neg (show ¬ (cfs gf af gl).1 0 = 5 from fun z => by
        rw [e] at z
        have := (nI_eq (a := m) (b := 5) (by omega) (by decide)).mp z
        omega), cf_man hm hg hv h1 h2 hb]
      rfl
set_option maxRecDepth 100000 in
set_option maxHeartbeats 400000 in
theorem K_menL (E : ag) (kq : Nat) (cg : Nat → Int32) (qf : Nat → Nat) (gf : Nat → Int32) (af : Nat → Nat → Int32) (qd : Nat → Nat) (gd : Nat → Int32) (ad : Nat → Nat → Int32) (qk : Nat → Nat) (gk : Nat → Int32) (ak : Nat → Nat → Int32) (ql : Nat → Nat) (gl : Nat → Int32) (al : Nat → Nat → Int32) (qr : Nat → Nat) (gr : Nat → Int32) (ar : Nat → Nat → Int32) (rx : Nat) (qm : Nat) (qx : Nat → Nat → Nat) (gx : Nat → Nat → Int32) (ax : Nat → Nat → Nat → Int32) (qs : Nat) (sx : Nat → Option Nat) (qo : Nat → Nat) (go : Nat → Int32) (ao : Nat → Nat → Int32) (qp : Nat → Nat) (gp_ : Nat → Int32) (ap : Nat → Nat → Int32) (T : List SE) (j : Nat) (k at0 : Int32) (V : Nat) (hv : gf 1 = nI V) (hV1 : 12 ≤ V) (hV2 : V ≤ 240) (nn : Nat) (hnn : nn ≤ 5) (a b : Nat) (kk : Int32) (N : Nat) (f : Nat → Int32) (hN : N ≤ 40) {ii : Nat} (he : T[ii]? = some (a, b, kk, N, f)) : ∀ (n c : Nat), c + n = nn → ∀ (gf1 : Nat → Int32) (af1 : Nat → Nat → Int32) (m1 : Nat) (c5 x7 : Int32), m1 ≤ 5 → gf1 0 = nI m1 → gf1 1 = gf 1 → gf1 4 = gf 4 → MAI at0 x7 c N → AW E mX5_men 5 0 0 70 [some (.ref kq), some (.int (nI j)), some (.int k), some (.int at0), some (.int (nI nn)), some (.ref a), some (.int c5), some (.int x7), some (.int (nI c))] [] (wK E kq cg qf gf1 af1 qd gd ad qk gk ak ql gl al qr gr ar rx qm qx gx ax qs sx qo go ao qp gp_ ap (shl E T)) (ri (fun r w => ∃ (gf2 : Nat → Int32) (af2 : Nat → Nat → Int32), w = wK E kq cg qf gf2 af2 qd gd ad qk gk ak ql gl al qr gr ar rx qm qx gx ax qs sx qo go ao qp gp_ ap (shl E T) ∧ gf2 4 = gf 4 ∧ (cfs gf2 af2 gl, r) = p_mens f at0 N n c (cfs gf1 af1 gl) c5)) := by
  intro n
  induction n with
  | zero =>
    intro c hc
    intro gf1 af1 m1 c5 x7 hm1 h01 h11 h4 hx7
    obtain rfl : c = nn := by omega
    refine A_iload (dX5_men 37 rfl) rfl ?_
    refine A_iload (dX5_men 38 rfl) rfl ?_
    refine A_icmp_ge 138 (dX5_men 39 rfl) (by decide) (fun h74 => ?_) (fun h74 => absurd (nI_le (a := c) (b := c) (Nat.le_refl _) (by omega)) h74)
    refine A_iload (dX5_men 70 rfl) rfl ?_
    refine A_ri (dX5_men 71 rfl) rfl rfl ?_
    exact ⟨gf1, af1, rfl, h4, rfl⟩
  | succ n ih =>
    intro c hc
    have hlt : c < nn := by omega
    intro gf1 af1 m1 c5 x7 hm1 h01 h11 h4 hx7
    refine A_iload (dX5_men 37 rfl) rfl ?_
    refine A_iload (dX5_men 38 rfl) rfl ?_
    refine A_icmp_ge 138 (dX5_men 39 rfl) (by decide) (fun h74 => absurd h74 (nI_ge hlt (by omega))) (fun h74 => ?_)
    refine A_aload (dX5_men 40 rfl) rfl ?_
    refine A_iload (dX5_men 41 rfl) rfl ?_
    refine A_iconst (3) (dX5_men 42 rfl) (by decide +kernel) ?_
    refine A_callVWi 2 (dX5_men 43 rfl) cbX3_has cwX5_229 (s_has E _ (49 + 2 * ii) (49 + (2 * ii + 1)) a b kk N f (wK_e0 he) (wK_e1 he) x7 3) rfl rfl (wK_e0 he) rfl rfl (Nat.le_of_ble_eq_true rfl) (Nat.le_of_ble_eq_true rfl) (Nat.le_of_ble_eq_true rfl) (Nat.le_of_ble_eq_true rfl) (Nat.le_of_ble_eq_true rfl) ?_
    rintro r82 w1 ⟨rfl, rfl⟩
    refine AW.pcq (pc2 := 85) rfl ?_
    refine A_if_ne 91 (dX5_men 44 rfl) (by decide) (fun h85 => ?_) (fun h85 => ?_)
    · obtain ⟨A, hat, hA, rfl, hAN⟩ := MAI.hi hN hx7 (hz01b h85)
      have hok : ¬ (at0 < 0 ∨ N < at0.toNatClampNeg + 3 * c + 3) := by
        rw [hat, nI_clamp hA]
        rintro (z | z)
        · exact nI_pos hA z
        · omega
      refine A_aload_n (dX5_men 47 rfl) rfl ?_
      refine A_aload (dX5_men 48 rfl) rfl ?_
      refine A_get (dX5_men 49 rfl) fwX5_201 (wK_e0 he) rfl ?_
      refine A_iload (dX5_men 50 rfl) rfl ?_
      refine A_iald (dX5_men 51 rfl) (wK_e1 he) (vp_in_nI (n := A + 3 * c) (by omega) (by omega)) ?_
      refine A_aload (dX5_men 52 rfl) rfl ?_
      refine A_get (dX5_men 53 rfl) fwX5_201 (wK_e0 he) rfl ?_
      refine A_iload (dX5_men 54 rfl) rfl ?_
      refine AW.pcq (pc2 := 107) rfl ?_
      refine A_iconst (1) (dX5_men 55 rfl) (by decide +kernel) ?_
      refine A_iadd (dX5_men 56 rfl) ?_
      rw [nI_1]
      refine A_iald (dX5_men 57 rfl) (wK_e1 he) (vp_in_nI (n := A + 3 * c + 1) (by omega) (by omega)) ?_
      refine A_aload (dX5_men 58 rfl) rfl ?_
      refine A_get (dX5_men 59 rfl) fwX5_201 (wK_e0 he) rfl ?_
      refine A_iload (dX5_men 60 rfl) rfl ?_
      refine A_iconst (2) (dX5_men 61 rfl) (by decide +kernel) ?_
      refine A_iadd (dX5_men 62 rfl) ?_
      rw [nI_2]
      refine AW.pcq (pc2 := 119) rfl ?_
      refine A_iald (dX5_men 63 rfl) (wK_e1 he) (vp_in_nI (n := A + 3 * c + 2) (by omega) (by omega)) ?_
      rw [nI_clamp (n := A + 3 * c) (by omega), nI_clamp (n := A + 3 * c + 1) (by omega), nI_clamp (n := A + 3 * c + 2) (by omega)]
      refine A_callVWi 3 (dX5_men 64 rfl) cbX5_man cwX5_238 (K_man E kq cg qf gf1 af1 qd gd ad qk gk ak ql gl al qr gr ar rx qm qx gx ax qs sx qo go ao qp gp_ ap (shl E T) m1 hm1 h01 (f (A + 3 * c)) (f (A + 3 * c + 1)) (f (A + 3 * c + 2))) rfl rfl wK_0 rfl rfl (Nat.le_of_ble_eq_true rfl) (Nat.le_of_ble_eq_true rfl) (Nat.le_of_ble_eq_true rfl) (Nat.le_of_ble_eq_true rfl) (Nat.le_of_ble_eq_true rfl) ?_
      rintro r120 w1 hw
      obtain ⟨gf3, af3, m3, rfl, hm3, h03, h13, h43, hp3⟩ := K_manP E kq cg qf gf1 af1 qd gd ad qk gk ak ql gl al qr gr ar rx qm qx gx ax qs sx qo go ao qp gp_ ap (shl E T) m1 V hm1 h01 (h11.trans hv) hV1 hV2 hw
      have e : p_mens f at0 N (n + 1) c (cfs gf1 af1 gl) c5 = p_mens f at0 N n (c + 1) (cfs gf3 af3 gl) (c5 + if 0 ≤ r120 then 1 else 0) := by
        rw [show p_mens f at0 N (n + 1) c (cfs gf1 af1 gl) c5 = _ from if_neg hok, hat, nI_clamp hA, ← hp3]
      refine AW.pcq (pc2 := 123) rfl ?_
      refine A_if_lt 129 (dX5_men 65 rfl) (by decide) (fun h123 => ?_) (fun h123 => ?_)
      · rw [e, if_neg (Int32.not_le.mpr h123), Int32.add_zero]
        refine A_iinc (ls2 := [_, _, _, _, _, _, _, _, _]) (nI (A + 3 * c + 3)) (dX5_men 67 rfl) rfl (nI_3 (A + 3 * c)) (by decide) rfl rfl ?_
        refine A_iinc (ls2 := [_, _, _, _, _, _, _, _, _]) (nI (c + 1)) (dX5_men 68 rfl) rfl (nI_1 c) (by decide) rfl rfl ?_
        refine A_goto 70 (dX5_men 69 rfl) (by decide) ?_
        exact ih (c + 1) (by omega) gf3 af3 m3 _ _ hm3 h03 (h13.trans h11) (h43.trans h4) (Or.inr ⟨A, hat, hA, by congr 1, Or.inr (by omega)⟩)
      · rw [e, if_pos (Int32.not_lt.mp h123)]
        refine A_iinc (ls2 := [_, _, _, _, _, _, _, _, _]) _ (dX5_men 66 rfl) rfl rfl (by decide) rfl rfl ?_
        refine A_iinc (ls2 := [_, _, _, _, _, _, _, _, _]) (nI (A + 3 * c + 3)) (dX5_men 67 rfl) rfl (nI_3 (A + 3 * c)) (by decide) rfl rfl ?_
        refine A_iinc (ls2 := [_, _, _, _, _, _, _, _, _]) (nI (c + 1)) (dX5_men 68 rfl) rfl (nI_1 c) (by decide) rfl rfl ?_
        refine A_goto 70 (dX5_men 69 rfl) (by decide) ?_
        exact ih (c + 1) (by omega) gf3 af3 m3 _ _ hm3 h03 (h13.trans h11) (h43.trans h4) (Or.inr ⟨A, hat, hA, by congr 1, Or.inr (by omega)⟩)
    · have hlow := MAI.lo hN hx7 (hz01 (by first | exact h85 | exact Classical.not_not.mp h85))
      refine A_bipush (-12) (dX5_men 45 rfl) (by decide +kernel) ?_
      refine A_ri (dX5_men 46 rfl) rfl rfl ?_
      exact ⟨gf1, af1, rfl, h4, (show p_mens f at0 N (n + 1) c (cfs gf1 af1 gl) c5 = (cfs gf1 af1 gl, -12) from if_pos hlow).symm⟩

theorem in05n {n : Int32} (h : ¬ inI n 0 5 = 0) : ∃ j, j ≤ 5 ∧ n = nI j := by
  obtain ⟨x, y⟩ := inI_yes h
  have h0 : (0 : Int32).toInt = 0 := by decide
  have h5 : (5 : Int32).toInt = 5 := by decide
  obtain ⟨B, hB, rfl⟩ := nI_of (x := n) (fun z => by have := Int32.lt_iff_toInt_lt.mp z; omega)
  rw [nI_toInt hB] at y
  exact ⟨B, by omega, rfl⟩
set_option maxRecDepth 100000 in
set_option maxHeartbeats 400000 in
theorem K_men (E : ag) (kq : Nat) (cg : Nat → Int32) (qf : Nat → Nat) (gf : Nat → Int32) (af : Nat → Nat → Int32) (qd : Nat → Nat) (gd : Nat → Int32) (ad : Nat → Nat → Int32) (qk : Nat → Nat) (gk : Nat → Int32) (ak : Nat → Nat → Int32) (ql : Nat → Nat) (gl : Nat → Int32) (al : Nat → Nat → Int32) (qr : Nat → Nat) (gr : Nat → Int32) (ar : Nat → Nat → Int32) (rx : Nat) (qm : Nat) (qx : Nat → Nat → Nat) (gx : Nat → Nat → Int32) (ax : Nat → Nat → Nat → Int32) (qs : Nat) (sx : Nat → Option Nat) (qo : Nat → Nat) (go : Nat → Int32) (ao : Nat → Nat → Int32) (qp : Nat → Nat) (gp_ : Nat → Int32) (ap : Nat → Nat → Int32) (T : List SE) (ix : Nat → Nat) (hsx : ∀ j, j < 4 → sx j = none ∨ ∃ (a b : Nat) (k : Int32) (N : Nat) (f : Nat → Int32), T[ix j]? = some (a, b, k, N, f) ∧ sx j = some a ∧ N ≤ 40) (V : Nat) (hv : gf 1 = nI V) (hV1 : 12 ≤ V) (hV2 : V ≤ 240) (m : Nat) (hm5 : m ≤ 5) (hgm : gf 0 = nI m) (s k at0 n : Int32) : CT E yX5_men cX5_men 9 mX5_men.2.2.2.1 5 0 0 [.ref kq, .int s, .int k, .int at0, .int n] (wK E kq cg qf gf af qd gd ad qk gk ak ql gl al qr gr ar rx qm qx gx ax qs sx qo go ao qp gp_ ap (shl E T)) (ri (fun r w => ((inI s 0 3 = 0 ∨ inI k 0 2 = 0 ∨ inI n 0 5 = 0) ∧ r = -2 ∧ w = wK E kq cg qf gf af qd gd ad qk gk ak ql gl al qr gr ar rx qm qx gx ax qs sx qo go ao qp gp_ ap (shl E T)) ∨ (¬ (inI s 0 3 = 0 ∨ inI k 0 2 = 0 ∨ inI n 0 5 = 0) ∧ ∃ j, j < 4 ∧ s = nI j ∧ ((sx j = none ∧ r = -11 ∧ w = wK E kq cg qf gf af qd gd ad qk gk ak ql gl al qr gr ar rx qm qx gx ax qs sx qo go ao qp gp_ ap (shl E T)) ∨ (∃ (a b : Nat) (kk : Int32) (N : Nat) (f : Nat → Int32), T[ix j]? = some (a, b, kk, N, f) ∧ sx j = some a ∧ N ≤ 40 ∧ ((¬ kk = k ∧ r = -13 ∧ w = wK E kq cg qf gf af qd gd ad qk gk ak ql gl al qr gr ar rx qm qx gx ax qs sx qo go ao qp gp_ ap (shl E T)) ∨ (kk = k ∧ ∃ nn, nn ≤ 5 ∧ n = nI nn ∧ ∃ (gf2 : Nat → Int32) (af2 : Nat → Nat → Int32), w = wK E kq cg qf gf2 af2 qd gd ad qk gk ak ql gl al qr gr ar rx qm qx gx ax qs sx qo go ao qp gp_ ap (shl E T) ∧ gf2 4 = gf 4 ∧ (cfs gf2 af2 gl, r) = p_mens f at0 N nn 0 (cfs gf af gl) 0))))))) := by
  refine CT.of (M := mX5_men) (ls := [some (.ref kq), some (.int s), some (.int k), some (.int at0), some (.int n), none, none, none, none]) (by decide) rfl (by decide) rfl (Nat.le_of_ble_eq_true rfl) ?_
  refine A_iload_n (dX5_men 0 rfl) rfl ?_
  refine A_callSWi 1 (dX5_men 1 rfl) cbX5_isSheet cwX5_198 (k_isSheet E _ s) rfl rfl (Nat.le_of_ble_eq_true rfl) (Nat.le_of_ble_eq_true rfl) (Nat.le_of_ble_eq_true rfl) (Nat.le_of_ble_eq_true rfl) (Nat.le_of_ble_eq_true rfl) ?_
  rintro r1 w1 ⟨rfl, rfl⟩
  refine AW.pcq (pc2 := 4) rfl ?_
  refine A_if_eq 25 (dX5_men 2 rfl) (by decide) (fun h4 => ?_) (fun h4 => ?_)
  · refine A_bipush (-2) (dX5_men 12 rfl) (by decide +kernel) ?_
    refine A_ri (dX5_men 13 rfl) rfl rfl ?_
    refine Or.inl ⟨?_, rfl, rfl⟩
    first
      | exact Or.inl h4
      | exact Or.inr (Or.inl (inI_lo (fun z => absurd z (Int32.not_le.mpr h8))))
      | exact Or.inr (Or.inl (inI_hi (fun z => absurd z (Int32.not_le.mpr h13))))
      | exact Or.inr (Or.inr (by first | exact h22 | exact Classical.not_not.mp h22))
  · refine A_iload_n (dX5_men 3 rfl) rfl ?_
    refine A_if_lt 25 (dX5_men 4 rfl) (by decide) (fun h8 => ?_) (fun h8 => ?_)
    · refine A_bipush (-2) (dX5_men 12 rfl) (by decide +kernel) ?_
      refine A_ri (dX5_men 13 rfl) rfl rfl ?_
      refine Or.inl ⟨?_, rfl, rfl⟩
      first
        | exact Or.inl h4
        | exact Or.inr (Or.inl (inI_lo (fun z => absurd z (Int32.not_le.mpr h8))))
        | exact Or.inr (Or.inl (inI_hi (fun z => absurd z (Int32.not_le.mpr h13))))
        | exact Or.inr (Or.inr (by first | exact h22 | exact Classical.not_not.mp h22))
    · refine A_iload_n (dX5_men 5 rfl) rfl ?_
      refine A_iconst (2) (dX5_men 6 rfl) (by decide +kernel) ?_
      refine A_icmp_gt 25 (dX5_men 7 rfl) (by decide) (fun h13 => ?_) (fun h13 => ?_)
      · refine A_bipush (-2) (dX5_men 12 rfl) (by decide +kernel) ?_
        refine A_ri (dX5_men 13 rfl) rfl rfl ?_
        refine Or.inl ⟨?_, rfl, rfl⟩
        first
          | exact Or.inl h4
          | exact Or.inr (Or.inl (inI_lo (fun z => absurd z (Int32.not_le.mpr h8))))
          | exact Or.inr (Or.inl (inI_hi (fun z => absurd z (Int32.not_le.mpr h13))))
          | exact Or.inr (Or.inr (by first | exact h22 | exact Classical.not_not.mp h22))
      · refine A_iload (dX5_men 8 rfl) rfl ?_
        refine A_iconst (5) (dX5_men 9 rfl) (by decide +kernel) ?_
        refine A_callSWi 2 (dX5_men 10 rfl) cbX5_within cwX5_87 (k_within E _ n 5) rfl rfl (Nat.le_of_ble_eq_true rfl) (Nat.le_of_ble_eq_true rfl) (Nat.le_of_ble_eq_true rfl) (Nat.le_of_ble_eq_true rfl) (Nat.le_of_ble_eq_true rfl) ?_
        rintro r19 w1 ⟨rfl, rfl⟩
        refine AW.pcq (pc2 := 22) rfl ?_
        refine A_if_ne 28 (dX5_men 11 rfl) (by decide) (fun h22 => ?_) (fun h22 => ?_)
        · have hbad : ¬ (inI s 0 3 = 0 ∨ inI k 0 2 = 0 ∨ inI n 0 5 = 0) := by
            rintro (z | z | z)
            · exact h4 z
            · rw [inI_of (Int32.not_lt.mp h8) (Int32.not_lt.mp h13)] at z; exact absurd z (by decide)
            · exact h22 z
          obtain ⟨j, hj, rfl⟩ := sheet_nI h4
          refine A_aload_n (dX5_men 14 rfl) rfl ?_
          refine A_get (dX5_men 15 rfl) fwX5_52 wK_0 cK_f0_8 ?_
          refine A_iload_n (dX5_men 16 rfl) rfl ?_
          refine A_aald 2 (dX5_men 17 rfl) wK_46 rfl (vp_in_nI (n := j) (by omega) (by decide)) ?_
          rw [nI_clamp (n := j) (by omega)]
          rcases hsx j hj with hn | ⟨a, b, kk, N, f, he, hs, hN⟩
          · refine AW.stack (st2 := [.null]) (by rw [hn]; rfl) ?_
            refine AW.pcq (pc2 := 34) rfl ?_
            refine A_astoreN (ls2 := [_, _, _, _, _, _, _, _, _]) (dX5_men 18 rfl) (by decide) rfl rfl ?_
            refine A_aloadN (dX5_men 19 rfl) rfl ?_
            refine A_ifnullN 53 (dX5_men 20 rfl) (by decide) ?_
            refine A_aloadN (dX5_men 27 rfl) rfl ?_
            refine A_ifnonnullN (dX5_men 28 rfl) ?_
            refine A_bipush (-11) (dX5_men 29 rfl) (by decide +kernel) ?_
            refine A_ri (dX5_men 30 rfl) rfl rfl ?_
            exact Or.inr ⟨hbad, j, hj, rfl, Or.inl ⟨hn, rfl, rfl⟩⟩
          · refine AW.stack (st2 := [.ref a]) (by rw [hs]; rfl) ?_
            refine AW.pcq (pc2 := 34) rfl ?_
            refine A_astore (ls2 := [_, _, _, _, _, _, _, _, _]) (dX5_men 18 rfl) (by decide) rfl rfl ?_
            refine A_aload (dX5_men 19 rfl) rfl ?_
            refine A_ifnull (dX5_men 20 rfl) ?_
            refine A_aload (dX5_men 21 rfl) rfl ?_
            refine A_get (dX5_men 22 rfl) fwX5_226 (wK_e0 he) rfl ?_
            refine A_iload_n (dX5_men 23 rfl) rfl ?_
            refine A_icmp_eq 53 (dX5_men 24 rfl) (by decide) (fun h47 => ?_) (fun h47 => ?_)
            · refine A_aload (dX5_men 27 rfl) rfl ?_
              refine A_ifnonnull 61 (dX5_men 28 rfl) (by decide) ?_
              obtain ⟨nn, hnn, rfl⟩ := in05n h22
              refine A_iconst (0) (dX5_men 31 rfl) (by decide +kernel) ?_
              refine A_istore (ls2 := [_, _, _, _, _, _, _, _, _]) (dX5_men 32 rfl) (by decide) rfl rfl ?_
              refine A_iload_n (dX5_men 33 rfl) rfl ?_
              refine A_istore (ls2 := [_, _, _, _, _, _, _, _, _]) (dX5_men 34 rfl) (by decide) rfl rfl ?_
              refine A_iconst (0) (dX5_men 35 rfl) (by decide +kernel) ?_
              refine A_istore (ls2 := [_, _, _, _, _, _, _, _, _]) (dX5_men 36 rfl) (by decide) rfl rfl ?_
              have h9 := K_menL E kq cg qf gf af qd gd ad qk gk ak ql gl al qr gr ar rx qm qx gx ax qs sx qo go ao qp gp_ ap T j k at0 V hv hV1 hV2 nn hnn a b kk N f hN he nn 0 (by omega) gf af m 0 at0 hm5 hgm rfl rfl (by
                by_cases z : at0 < 0
                · exact Or.inl ⟨z, rfl, rfl⟩
                · obtain ⟨A, hA, rfl⟩ := nI_of z
                  exact Or.inr ⟨A, rfl, hA, rfl, Or.inl rfl⟩)
              refine AW.mono h9 (fun v9 w9 hz => ?_)
              obtain ⟨r, e1, e2⟩ := hz
              exact ⟨r, e1, Or.inr ⟨hbad, j, hj, rfl, Or.inr ⟨a, b, kk, N, f, he, hs, hN, Or.inr ⟨h47, nn, hnn, rfl, e2⟩⟩⟩⟩
            · refine A_bipush (-13) (dX5_men 25 rfl) (by decide +kernel) ?_
              refine A_ri (dX5_men 26 rfl) rfl rfl ?_
              exact Or.inr ⟨hbad, j, hj, rfl, Or.inr ⟨a, b, kk, N, f, he, hs, hN, Or.inl ⟨h47, rfl, rfl⟩⟩⟩
        · refine A_bipush (-2) (dX5_men 12 rfl) (by decide +kernel) ?_
          refine A_ri (dX5_men 13 rfl) rfl rfl ?_
          refine Or.inl ⟨?_, rfl, rfl⟩
          first
            | exact Or.inl h4
            | exact Or.inr (Or.inl (inI_lo (fun z => absurd z (Int32.not_le.mpr h8))))
            | exact Or.inr (Or.inl (inI_hi (fun z => absurd z (Int32.not_le.mpr h13))))
            | exact Or.inr (Or.inr (by first | exact h22 | exact Classical.not_not.mp h22))

