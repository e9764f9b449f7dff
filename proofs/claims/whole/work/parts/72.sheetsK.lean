theorem A_aload_nN {E : ag} {M : am} {d bc bs pc : Nat} {ls : List (Option Value)} {rest : List Value} {ws : va_W} {post : Option Value → va_W → Prop} {n : Fin 4} (hd : decode M.2.1 pc = .ok (.aload_n n, 1)) (h : ls[(n : Nat)]? = some (some .null)) (k : AW E M d bc bs (pc + 1) ls (.null :: rest) ws post) : AW E M d bc bs (pc) ls (rest) ws post := by
  intro p l e s m args below meth c H locs cells slots mc ms A la X hl hP hD hS hbc hbs
  obtain ⟨hx, hb, hml, hown, hts, hr, hlk, hin, hC, hA⟩ := id X
  refine lv_aload_nN hx hb hd rfl (ps_at hl h) ?_
  exact k p l e s m args below meth c H locs cells slots mc ms A la X hl hP hD hS hbc hbs
theorem A_aloadN {E : ag} {M : am} {d bc bs pc : Nat} {ls : List (Option Value)} {rest : List Value} {ws : va_W} {post : Option Value → va_W → Prop} {i : Nat} (hd : decode M.2.1 pc = .ok (.aload i, 2)) (h : ls[i]? = some (some .null)) (k : AW E M d bc bs (pc + 2) ls (.null :: rest) ws post) : AW E M d bc bs (pc) ls (rest) ws post := by
  intro p l e s m args below meth c H locs cells slots mc ms A la X hl hP hD hS hbc hbs
  obtain ⟨hx, hb, hml, hown, hts, hr, hlk, hin, hC, hA⟩ := id X
  refine lv_aloadN hx hb hd (ps_at hl h) ?_
  exact k p l e s m args below meth c H locs cells slots mc ms A la X hl hP hD hS hbc hbs
theorem tl_at {α : Type} (T : List α) (e : α) : (T ++ [e])[T.length]? = some e := by simp
theorem km1 {k : Int32} (h1 : ¬ k < -1) (h2 : ¬ k = -1) : ¬ k < 0 := by
  intro h3
  rw [Int32.lt_iff_toInt_lt, show (-1 : Int32).toInt = -1 from by decide] at h1
  rw [Int32.lt_iff_toInt_lt, show (0 : Int32).toInt = 0 from by decide] at h3
  exact h2 (Int32.toInt_inj.mp (by rw [show (-1 : Int32).toInt = -1 from by decide]; omega))
theorem hasB {N : Nat} {i n : Int32} (hN : N ≤ 40) (hi : ¬ i < 0) (hn : ¬ n < 0) : nI N - i < n ↔ nI N - n < i := by
  obtain ⟨I, hI, rfl⟩ := nI_of hi
  obtain ⟨J, hJ, rfl⟩ := nI_of hn
  rw [Int32.lt_iff_toInt_lt, Int32.lt_iff_toInt_lt, subN hN hI, subN hN hJ, nI_toInt hI, nI_toInt hJ]
  omega
theorem hz01 {p : Prop} {_ : Decidable p} (h : (if p then (0 : Int32) else 1) = 0) : p := by
  by_cases hp : p
  · exact hp
  · rw [if_neg hp] at h; exact absurd h (by decide)
theorem hz01b {p : Prop} {_ : Decidable p} (h : ¬ (if p then (0 : Int32) else 1) = 0) : ¬ p := fun hp => h (if_pos hp)
set_option maxRecDepth 100000 in
set_option maxHeartbeats 400000 in
theorem K_sheet (E : ag) (kq : Nat) (cg : Nat → Int32) (qf : Nat → Nat) (gf : Nat → Int32) (af : Nat → Nat → Int32) (qd : Nat → Nat) (gd : Nat → Int32) (ad : Nat → Nat → Int32) (qk : Nat → Nat) (gk : Nat → Int32) (ak : Nat → Nat → Int32) (ql : Nat → Nat) (gl : Nat → Int32) (al : Nat → Nat → Int32) (qr : Nat → Nat) (gr : Nat → Int32) (ar : Nat → Nat → Int32) (rx : Nat) (qm : Nat) (qx : Nat → Nat → Nat) (gx : Nat → Nat → Int32) (ax : Nat → Nat → Nat → Int32) (qs : Nat) (sx : Nat → Option Nat) (qo : Nat → Nat) (go : Nat → Int32) (ao : Nat → Nat → Int32) (qp : Nat → Nat) (gp_ : Nat → Int32) (ap : Nat → Nat → Int32) (T : List SE) (s k n : Int32) : CT E yX5_sheet cX5_sheet 4 mX5_sheet.2.2.2.1 3 2 42 [.ref kq, .int s, .int k, .int n] (wK E kq cg qf gf af qd gd ad qk gk ak ql gl al qr gr ar rx qm qx gx ax qs sx qo go ao qp gp_ ap (shl E T)) (ri (fun r w => (shB s k n ∧ r = -2 ∧ w = wK E kq cg qf gf af qd gd ad qk gk ak ql gl al qr gr ar rx qm qx gx ax qs sx qo go ao qp gp_ ap (shl E T)) ∨ (¬ shB s k n ∧ ¬ k < 0 ∧ n < 0 ∧ r = -14 ∧ w = wK E kq cg qf gf af qd gd ad qk gk ak ql gl al qr gr ar rx qm qx gx ax qs sx qo go ao qp gp_ ap (shl E T)) ∨ (∃ j, j < 4 ∧ s = nI j ∧ k < 0 ∧ ¬ shB s k n ∧ r = 1 ∧ w = wK E kq cg qf gf af qd gd ad qk gk ak ql gl al qr gr ar rx qm qx gx ax qs (va_up sx j none) qo go ao qp gp_ ap (shl E T)) ∨ (∃ j N a b, j < 4 ∧ N ≤ 40 ∧ s = nI j ∧ n = nI N ∧ ¬ k < 0 ∧ ¬ shB s k n ∧ r = 1 ∧ w = wK E kq cg qf gf af qd gd ad qk gk ak ql gl al qr gr ar rx qm qx gx ax qs (va_up sx j (some a)) qo go ao qp gp_ ap (shl E (T ++ [(a, b, k, N, fun _ => 0)]))))) := by
  refine CT.of (M := mX5_sheet) (ls := [some (.ref kq), some (.int s), some (.int k), some (.int n)]) (by decide) rfl (by decide) rfl (Nat.le_of_ble_eq_true rfl) ?_
  refine A_iload_n (dX5_sheet 0 rfl) rfl ?_
  refine A_callSWi 1 (dX5_sheet 1 rfl) cbX5_isSheet cwX5_198 (k_isSheet E _ s) rfl rfl (Nat.le_of_ble_eq_true rfl) (Nat.le_of_ble_eq_true rfl) (Nat.le_of_ble_eq_true rfl) (Nat.le_of_ble_eq_true rfl) (Nat.le_of_ble_eq_true rfl) ?_
  rintro r1 w1 ⟨rfl, rfl⟩
  refine AW.pcq (pc2 := 4) rfl ?_
  refine A_if_eq 17 (dX5_sheet 2 rfl) (by decide) (fun h4 => ?_) (fun h4 => ?_)
  · refine A_bipush (-2) (dX5_sheet 9 rfl) (by decide +kernel) ?_
    refine A_ri (dX5_sheet 10 rfl) rfl rfl ?_
    refine Or.inl ⟨?_, rfl, rfl⟩
    first
      | exact Or.inl h4
      | exact Or.inr (Or.inl (inI_lo (fun z => absurd z (Int32.not_le.mpr h9))))
      | exact Or.inr (Or.inl (inI_hi h14))
  · refine A_iload_n (dX5_sheet 3 rfl) rfl ?_
    refine A_iconst (-1) (dX5_sheet 4 rfl) (by decide +kernel) ?_
    refine A_icmp_lt 17 (dX5_sheet 5 rfl) (by decide) (fun h9 => ?_) (fun h9 => ?_)
    · refine A_bipush (-2) (dX5_sheet 9 rfl) (by decide +kernel) ?_
      refine A_ri (dX5_sheet 10 rfl) rfl rfl ?_
      refine Or.inl ⟨?_, rfl, rfl⟩
      first
        | exact Or.inl h4
        | exact Or.inr (Or.inl (inI_lo (fun z => absurd z (Int32.not_le.mpr h9))))
        | exact Or.inr (Or.inl (inI_hi h14))
    · refine A_iload_n (dX5_sheet 6 rfl) rfl ?_
      refine A_iconst (2) (dX5_sheet 7 rfl) (by decide +kernel) ?_
      refine A_icmp_le 20 (dX5_sheet 8 rfl) (by decide) (fun h14 => ?_) (fun h14 => ?_)
      · have hk2 : ¬ inI k (-1) 2 = 0 := by rw [inI_of (Int32.not_lt.mp h9) h14]; decide
        obtain ⟨j, hj, rfl⟩ := sheet_nI h4
        refine A_iload_n (dX5_sheet 11 rfl) rfl ?_
        refine A_iconst (-1) (dX5_sheet 12 rfl) (by decide +kernel) ?_
        refine A_icmp_ne 34 (dX5_sheet 13 rfl) (by decide) (fun h22 => ?_) (fun h22 => ?_)
        · have hk0 : ¬ k < 0 := km1 h9 h22
          refine A_iload_n (dX5_sheet 21 rfl) rfl ?_
          refine A_bipush (40) (dX5_sheet 22 rfl) (by decide +kernel) ?_
          refine A_icmp_le 43 (dX5_sheet 23 rfl) (by decide) (fun h37 => ?_) (fun h37 => ?_)
          · have hbad : ¬ shB (nI j) k n := fun z => z.elim h4 (fun z => z.elim hk2 (fun z => absurd h37 (Int32.not_le.mpr z.2)))
            refine A_iload_n (dX5_sheet 26 rfl) rfl ?_
            refine A_if_ge 50 (dX5_sheet 27 rfl) (by decide) (fun h44 => ?_) (fun h44 => ?_)
            · obtain ⟨N, hN, rfl⟩ := in40 (n := n) (by rw [inI_of h44 h37]; decide)
              refine A_aload_n (dX5_sheet 30 rfl) rfl ?_
              refine A_get (dX5_sheet 31 rfl) fwX5_52 wK_0 cK_f0_8 ?_
              refine A_iload_n (dX5_sheet 32 rfl) rfl ?_
              refine A_new (dX5_sheet 33 rfl) nwX5_50 (Nat.le_of_ble_eq_true rfl) (Nat.le_of_ble_eq_true rfl) (fun qa => ?_)
              refine A_dup (dX5_sheet 34 rfl) rfl ?_
              refine A_iload_n (dX5_sheet 35 rfl) rfl ?_
              refine A_iload_n (dX5_sheet 36 rfl) rfl ?_
              refine A_callIv 2 (dX5_sheet 37 rfl) cbX3_init cwX5_220 (s_init E qa k N hN) rfl rfl [49 + 2 * T.length] (congrArg (fun o => [o]) wK_new) rfl (Nat.le_of_ble_eq_true rfl) (Nat.le_of_ble_eq_true rfl) (Nat.le_of_ble_eq_true rfl) (Nat.le_of_ble_eq_true rfl) (Nat.le_of_ble_eq_true rfl) (by rintro _ ⟨_, rfl⟩; exact (Nat.le_of_ble_eq_true rfl)) ?_
              rintro w1 ⟨qb, rfl⟩
              refine AW.world (ws2 := wK E kq cg qf gf af qd gd ad qk gk ak ql gl al qr gr ar rx qm qx gx ax qs sx qo go ao qp gp_ ap (shl E (T ++ [(qa, qb, k, N, fun _ => 0)]))) wK_mk ?_
              refine AW.pcq (pc2 := 64) rfl ?_
              refine A_aast 2 (49 + 2 * T.length) 3 (dX5_sheet 38 rfl) wK_46 (by exact rfl) (wK_e0 (tl_at T (qa, qb, k, N, fun _ => 0))) rfl (vp_in_nI (n := j) (by omega) (by decide)) (wK_s46 _) ?_
              rw [nI_clamp (n := j) (by omega)]
              refine A_iconst (1) (dX5_sheet 39 rfl) (by decide +kernel) ?_
              refine A_ri (dX5_sheet 40 rfl) rfl rfl ?_
              exact Or.inr (Or.inr (Or.inr ⟨j, N, qa, qb, hj, hN, rfl, rfl, hk0, hbad, rfl, rfl⟩))
            · refine A_bipush (-14) (dX5_sheet 28 rfl) (by decide +kernel) ?_
              refine A_ri (dX5_sheet 29 rfl) rfl rfl ?_
              exact Or.inr (Or.inl ⟨hbad, hk0, Int32.not_le.mp h44, rfl, rfl⟩)
          · refine A_bipush (-2) (dX5_sheet 24 rfl) (by decide +kernel) ?_
            refine A_ri (dX5_sheet 25 rfl) rfl rfl ?_
            exact Or.inl ⟨Or.inr (Or.inr ⟨hk0, Int32.not_le.mp h37⟩), rfl, rfl⟩
        · have hk22 : k = -1 := by first | exact h22 | exact Classical.not_not.mp h22
          have hk0 : k < 0 := by rw [hk22]; decide
          have hbad : ¬ shB (nI j) k n := fun z => z.elim h4 (fun z => z.elim hk2 (fun z => z.1 hk0))
          refine A_aload_n (dX5_sheet 14 rfl) rfl ?_
          refine A_get (dX5_sheet 15 rfl) fwX5_52 wK_0 cK_f0_8 ?_
          refine A_iload_n (dX5_sheet 16 rfl) rfl ?_
          refine A_aconst_null (dX5_sheet 17 rfl) ?_
          refine A_aastN 2 (dX5_sheet 18 rfl) wK_46 rfl (vp_in_nI (n := j) (by omega) (by decide)) (wK_s46 _) ?_
          rw [nI_clamp (n := j) (by omega)]
          refine A_iconst (1) (dX5_sheet 19 rfl) (by decide +kernel) ?_
          refine A_ri (dX5_sheet 20 rfl) rfl rfl ?_
          exact Or.inr (Or.inr (Or.inl ⟨j, hj, rfl, hk0, hbad, rfl, rfl⟩))
      · refine A_bipush (-2) (dX5_sheet 9 rfl) (by decide +kernel) ?_
        refine A_ri (dX5_sheet 10 rfl) rfl rfl ?_
        refine Or.inl ⟨?_, rfl, rfl⟩
        first
          | exact Or.inl h4
          | exact Or.inr (Or.inl (inI_lo (fun z => absurd z (Int32.not_le.mpr h9))))
          | exact Or.inr (Or.inl (inI_hi h14))

set_option maxRecDepth 100000 in
set_option maxHeartbeats 400000 in
theorem K_cell (E : ag) (kq : Nat) (cg : Nat → Int32) (qf : Nat → Nat) (gf : Nat → Int32) (af : Nat → Nat → Int32) (qd : Nat → Nat) (gd : Nat → Int32) (ad : Nat → Nat → Int32) (qk : Nat → Nat) (gk : Nat → Int32) (ak : Nat → Nat → Int32) (ql : Nat → Nat) (gl : Nat → Int32) (al : Nat → Nat → Int32) (qr : Nat → Nat) (gr : Nat → Int32) (ar : Nat → Nat → Int32) (rx : Nat) (qm : Nat) (qx : Nat → Nat → Nat) (gx : Nat → Nat → Int32) (ax : Nat → Nat → Nat → Int32) (qs : Nat) (sx : Nat → Option Nat) (qo : Nat → Nat) (go : Nat → Int32) (ao : Nat → Nat → Int32) (qp : Nat → Nat) (gp_ : Nat → Int32) (ap : Nat → Nat → Int32) (T : List SE) (ix : Nat → Nat) (hsx : ∀ j, j < 4 → sx j = none ∨ ∃ (a b : Nat) (k : Int32) (N : Nat) (f : Nat → Int32), T[ix j]? = some (a, b, k, N, f) ∧ sx j = some a ∧ N ≤ 40) (s i v : Int32) : CT E yX5_cell cX5_cell 5 mX5_cell.2.2.2.1 2 0 0 [.ref kq, .int s, .int i, .int v] (wK E kq cg qf gf af qd gd ad qk gk ak ql gl al qr gr ar rx qm qx gx ax qs sx qo go ao qp gp_ ap (shl E T)) (ri (fun r w => (inI s 0 3 = 0 ∧ r = -2 ∧ w = wK E kq cg qf gf af qd gd ad qk gk ak ql gl al qr gr ar rx qm qx gx ax qs sx qo go ao qp gp_ ap (shl E T)) ∨ (∃ j, j < 4 ∧ s = nI j ∧ ((sx j = none ∧ r = -11 ∧ w = wK E kq cg qf gf af qd gd ad qk gk ak ql gl al qr gr ar rx qm qx gx ax qs sx qo go ao qp gp_ ap (shl E T)) ∨ (∃ (a b : Nat) (kk : Int32) (N : Nat) (f : Nat → Int32), T[ix j]? = some (a, b, kk, N, f) ∧ sx j = some a ∧ N ≤ 40 ∧ ((inI i 0 (nI N - 1) = 0 ∧ r = -12 ∧ w = wK E kq cg qf gf af qd gd ad qk gk ak ql gl al qr gr ar rx qm qx gx ax qs sx qo go ao qp gp_ ap (shl E T)) ∨ (∃ c, c < N ∧ i = nI c ∧ r = 1 ∧ w = wK E kq cg qf gf af qd gd ad qk gk ak ql gl al qr gr ar rx qm qx gx ax qs sx qo go ao qp gp_ ap (shl E (T.set (ix j) (a, b, kk, N, upd f c (narS kk v))))))))))) := by
  refine CT.of (M := mX5_cell) (ls := [some (.ref kq), some (.int s), some (.int i), some (.int v), none]) (by decide) rfl (by decide) rfl (Nat.le_of_ble_eq_true rfl) ?_
  refine A_iload_n (dX5_cell 0 rfl) rfl ?_
  refine A_callSWi 1 (dX5_cell 1 rfl) cbX5_isSheet cwX5_198 (k_isSheet E _ s) rfl rfl (Nat.le_of_ble_eq_true rfl) (Nat.le_of_ble_eq_true rfl) (Nat.le_of_ble_eq_true rfl) (Nat.le_of_ble_eq_true rfl) (Nat.le_of_ble_eq_true rfl) ?_
  rintro r1 w1 ⟨rfl, rfl⟩
  refine AW.pcq (pc2 := 4) rfl ?_
  refine A_if_ne 10 (dX5_cell 2 rfl) (by decide) (fun h4 => ?_) (fun h4 => ?_)
  · obtain ⟨j, hj, rfl⟩ := sheet_nI h4
    refine A_aload_n (dX5_cell 5 rfl) rfl ?_
    refine A_get (dX5_cell 6 rfl) fwX5_52 wK_0 cK_f0_8 ?_
    refine A_iload_n (dX5_cell 7 rfl) rfl ?_
    refine A_aald 2 (dX5_cell 8 rfl) wK_46 rfl (vp_in_nI (n := j) (by omega) (by decide)) ?_
    rw [nI_clamp (n := j) (by omega)]
    rcases hsx j hj with hn | ⟨a, b, kk, N, f, he, hs, hN⟩
    · refine AW.stack (st2 := [.null]) (by rw [hn]; rfl) ?_
      refine AW.pcq (pc2 := 16) rfl ?_
      refine A_astoreN (ls2 := [_, _, _, _, _]) (dX5_cell 9 rfl) (by decide) rfl rfl ?_
      refine A_aloadN (dX5_cell 10 rfl) rfl ?_
      refine A_ifnonnullN (dX5_cell 11 rfl) ?_
      refine A_bipush (-11) (dX5_cell 12 rfl) (by decide +kernel) ?_
      refine A_ri (dX5_cell 13 rfl) rfl rfl ?_
      exact Or.inr ⟨j, hj, rfl, Or.inl ⟨hn, rfl, rfl⟩⟩
    · refine AW.stack (st2 := [.ref a]) (by rw [hs]; rfl) ?_
      refine AW.pcq (pc2 := 16) rfl ?_
      refine A_astore (ls2 := [_, _, _, _, _]) (dX5_cell 9 rfl) (by decide) rfl rfl ?_
      refine A_aload (dX5_cell 10 rfl) rfl ?_
      refine A_ifnonnull 26 (dX5_cell 11 rfl) (by decide) ?_
      refine A_aload (dX5_cell 14 rfl) rfl ?_
      refine A_iload_n (dX5_cell 15 rfl) rfl ?_
      refine A_iload_n (dX5_cell 16 rfl) rfl ?_
      refine A_callVWi 2 (dX5_cell 17 rfl) cbX3_put cwX5_223 (s_put E _ (49 + 2 * ix j) (49 + (2 * ix j + 1)) a b kk N f (wK_e0 he) (wK_e1 he) hN i v) rfl rfl (wK_e0 he) rfl rfl (Nat.le_of_ble_eq_true rfl) (Nat.le_of_ble_eq_true rfl) (Nat.le_of_ble_eq_true rfl) (Nat.le_of_ble_eq_true rfl) (Nat.le_of_ble_eq_true rfl) ?_
      rintro r30 w1 hw
      rcases hw with ⟨hb, rfl, rfl⟩ | ⟨c, hc, rfl, rfl, rfl⟩
      · refine AW.pcq (pc2 := 33) rfl ?_
        refine A_if_eq 40 (dX5_cell 18 rfl) (by decide) (fun h33 => ?_) (fun h33 => absurd (show (0 : Int32) = 0 from rfl) h33)
        refine A_bipush (-12) (dX5_cell 21 rfl) (by decide +kernel) ?_
        refine A_ri (dX5_cell 22 rfl) rfl rfl ?_
        exact Or.inr ⟨j, hj, rfl, Or.inr ⟨a, b, kk, N, f, he, hs, hN, Or.inl ⟨hb, rfl, rfl⟩⟩⟩
      · refine AW.world (ws2 := wK E kq cg qf gf af qd gd ad qk gk ak ql gl al qr gr ar rx qm qx gx ax qs sx qo go ao qp gp_ ap (shl E (T.set (ix j) (a, b, kk, N, upd f c (narS kk v))))) (wK_e1s he _) ?_
        refine AW.pcq (pc2 := 33) rfl ?_
        refine A_if_eq 40 (dX5_cell 18 rfl) (by decide) (fun h33 => absurd h33 (by decide)) (fun h33 => ?_)
        refine A_iconst (1) (dX5_cell 19 rfl) (by decide +kernel) ?_
        refine A_goto 42 (dX5_cell 20 rfl) (by decide) ?_
        refine A_ri (dX5_cell 22 rfl) rfl rfl ?_
        exact Or.inr ⟨j, hj, rfl, Or.inr ⟨a, b, kk, N, f, he, hs, hN, Or.inr ⟨c, hc, rfl, rfl, rfl⟩⟩⟩
  · refine A_bipush (-2) (dX5_cell 3 rfl) (by decide +kernel) ?_
    refine A_ri (dX5_cell 4 rfl) rfl rfl ?_
    exact Or.inl ⟨by first | assumption | exact Classical.not_not.mp h4, rfl, rfl⟩

set_option maxRecDepth 100000 in
set_option maxHeartbeats 400000 in
theorem K_copy (E : ag) (kq : Nat) (cg : Nat → Int32) (qf : Nat → Nat) (gf : Nat → Int32) (af : Nat → Nat → Int32) (qd : Nat → Nat) (gd : Nat → Int32) (ad : Nat → Nat → Int32) (qk : Nat → Nat) (gk : Nat → Int32) (ak : Nat → Nat → Int32) (ql : Nat → Nat) (gl : Nat → Int32) (al : Nat → Nat → Int32) (qr : Nat → Nat) (gr : Nat → Int32) (ar : Nat → Nat → Int32) (rx : Nat) (qm : Nat) (qx : Nat → Nat → Nat) (gx : Nat → Nat → Int32) (ax : Nat → Nat → Nat → Int32) (qs : Nat) (sx : Nat → Option Nat) (qo : Nat → Nat) (go : Nat → Int32) (ao : Nat → Nat → Int32) (qp : Nat → Nat) (gp_ : Nat → Int32) (ap : Nat → Nat → Int32) (T : List SE) (ix : Nat → Nat) (hsx : ∀ j, j < 4 → sx j = none ∨ ∃ (a b : Nat) (k : Int32) (N : Nat) (f : Nat → Int32), T[ix j]? = some (a, b, k, N, f) ∧ sx j = some a ∧ N ≤ 40) (s i o j n : Int32) : CT E yX5_copy cX5_copy 8 mX5_copy.2.2.2.1 2 0 0 [.ref kq, .int s, .int i, .int o, .int j, .int n] (wK E kq cg qf gf af qd gd ad qk gk ak ql gl al qr gr ar rx qm qx gx ax qs sx qo go ao qp gp_ ap (shl E T)) (ri (fun r w => ((inI s 0 3 = 0 ∨ inI o 0 3 = 0) ∧ r = -2 ∧ w = wK E kq cg qf gf af qd gd ad qk gk ak ql gl al qr gr ar rx qm qx gx ax qs sx qo go ao qp gp_ ap (shl E T)) ∨ (∃ S O, S < 4 ∧ O < 4 ∧ s = nI S ∧ o = nI O ∧ (((sx S = none ∨ sx O = none) ∧ r = -11 ∧ w = wK E kq cg qf gf af qd gd ad qk gk ak ql gl al qr gr ar rx qm qx gx ax qs sx qo go ao qp gp_ ap (shl E T)) ∨ (∃ (a b : Nat) (kk : Int32) (N : Nat) (f : Nat → Int32) (a2 b2 : Nat) (k2 : Int32) (N2 : Nat) (f2 : Nat → Int32), T[ix S]? = some (a, b, kk, N, f) ∧ sx S = some a ∧ N ≤ 40 ∧ T[ix O]? = some (a2, b2, k2, N2, f2) ∧ sx O = some a2 ∧ N2 ≤ 40 ∧ ((¬ kk = k2 ∧ r = -13 ∧ w = wK E kq cg qf gf af qd gd ad qk gk ak ql gl al qr gr ar rx qm qx gx ax qs sx qo go ao qp gp_ ap (shl E T)) ∨ (kk = k2 ∧ cpB i j n N N2 ∧ r = -12 ∧ w = wK E kq cg qf gf af qd gd ad qk gk ak ql gl al qr gr ar rx qm qx gx ax qs sx qo go ao qp gp_ ap (shl E T)) ∨ (kk = k2 ∧ ¬ cpB i j n N N2 ∧ ∃ I J L, i = nI I ∧ j = nI J ∧ n = nI L ∧ I + L ≤ N ∧ J + L ≤ N2 ∧ r = nI L ∧ w = wK E kq cg qf gf af qd gd ad qk gk ak ql gl al qr gr ar rx qm qx gx ax qs sx qo go ao qp gp_ ap (shl E (T.set (ix O) (a2, b2, k2, N2, va_cpy f f2 I J L)))))))))) := by
  refine CT.of (M := mX5_copy) (ls := [some (.ref kq), some (.int s), some (.int i), some (.int o), some (.int j), some (.int n), none, none]) (by decide) rfl (by decide) rfl (Nat.le_of_ble_eq_true rfl) ?_
  refine A_iload_n (dX5_copy 0 rfl) rfl ?_
  refine A_callSWi 1 (dX5_copy 1 rfl) cbX5_isSheet cwX5_198 (k_isSheet E _ s) rfl rfl (Nat.le_of_ble_eq_true rfl) (Nat.le_of_ble_eq_true rfl) (Nat.le_of_ble_eq_true rfl) (Nat.le_of_ble_eq_true rfl) (Nat.le_of_ble_eq_true rfl) ?_
  rintro r1 w1 ⟨rfl, rfl⟩
  refine AW.pcq (pc2 := 4) rfl ?_
  refine A_if_eq 14 (dX5_copy 2 rfl) (by decide) (fun h4 => ?_) (fun h4 => ?_)
  · refine A_bipush (-2) (dX5_copy 6 rfl) (by decide +kernel) ?_
    refine A_ri (dX5_copy 7 rfl) rfl rfl ?_
    exact Or.inl ⟨by first | exact Or.inl h4 | exact Or.inr (by first | assumption | exact Classical.not_not.mp h11), rfl, rfl⟩
  · refine A_iload_n (dX5_copy 3 rfl) rfl ?_
    refine A_callSWi 1 (dX5_copy 4 rfl) cbX5_isSheet cwX5_198 (k_isSheet E _ o) rfl rfl (Nat.le_of_ble_eq_true rfl) (Nat.le_of_ble_eq_true rfl) (Nat.le_of_ble_eq_true rfl) (Nat.le_of_ble_eq_true rfl) (Nat.le_of_ble_eq_true rfl) ?_
    rintro r8 w1 ⟨rfl, rfl⟩
    refine AW.pcq (pc2 := 11) rfl ?_
    refine A_if_ne 17 (dX5_copy 5 rfl) (by decide) (fun h11 => ?_) (fun h11 => ?_)
    · obtain ⟨S, hS, rfl⟩ := sheet_nI h4
      obtain ⟨O, hO, rfl⟩ := sheet_nI h11
      refine A_aload_n (dX5_copy 8 rfl) rfl ?_
      refine A_get (dX5_copy 9 rfl) fwX5_52 wK_0 cK_f0_8 ?_
      refine A_iload_n (dX5_copy 10 rfl) rfl ?_
      refine A_aald 2 (dX5_copy 11 rfl) wK_46 rfl (vp_in_nI (n := S) (by omega) (by decide)) ?_
      rw [nI_clamp (n := S) (by omega)]
      rcases hsx S hS with hn | ⟨a, b, kk, N, f, he, hs, hN⟩
      · refine AW.stack (st2 := [.null]) (by rw [hn]; rfl) ?_
        refine AW.pcq (pc2 := 23) rfl ?_
        refine A_astoreN (ls2 := [_, _, _, _, _, _, _, _]) (dX5_copy 12 rfl) (by decide) rfl rfl ?_
        refine A_aload_n (dX5_copy 13 rfl) rfl ?_
        refine A_get (dX5_copy 14 rfl) fwX5_52 wK_0 cK_f0_8 ?_
        refine A_iload_n (dX5_copy 15 rfl) rfl ?_
        refine A_aald 2 (dX5_copy 16 rfl) wK_46 rfl (vp_in_nI (n := O) (by omega) (by decide)) ?_
        rw [nI_clamp (n := O) (by omega)]
        rcases hsx O hO with hn2 | ⟨a2, b2, k2, N2, f2, he2, hs2, hN2⟩
        · refine AW.stack (st2 := [.null]) (by rw [hn2]; rfl) ?_
          refine AW.pcq (pc2 := 31) rfl ?_
          refine A_astoreN (ls2 := [_, _, _, _, _, _, _, _]) (dX5_copy 17 rfl) (by decide) rfl rfl ?_
          refine A_aloadN (dX5_copy 18 rfl) rfl ?_
          refine A_ifnullN 43 (dX5_copy 19 rfl) (by decide) ?_
          refine A_bipush (-11) (dX5_copy 22 rfl) (by decide +kernel) ?_
          refine A_ri (dX5_copy 23 rfl) rfl rfl ?_
          exact Or.inr ⟨S, O, hS, hO, rfl, rfl, Or.inl ⟨Or.inl hn, rfl, rfl⟩⟩
        · refine AW.stack (st2 := [.ref a2]) (by rw [hs2]; rfl) ?_
          refine AW.pcq (pc2 := 31) rfl ?_
          refine A_astore (ls2 := [_, _, _, _, _, _, _, _]) (dX5_copy 17 rfl) (by decide) rfl rfl ?_
          refine A_aloadN (dX5_copy 18 rfl) rfl ?_
          refine A_ifnullN 43 (dX5_copy 19 rfl) (by decide) ?_
          refine A_bipush (-11) (dX5_copy 22 rfl) (by decide +kernel) ?_
          refine A_ri (dX5_copy 23 rfl) rfl rfl ?_
          exact Or.inr ⟨S, O, hS, hO, rfl, rfl, Or.inl ⟨Or.inl hn, rfl, rfl⟩⟩
      · refine AW.stack (st2 := [.ref a]) (by rw [hs]; rfl) ?_
        refine AW.pcq (pc2 := 23) rfl ?_
        refine A_astore (ls2 := [_, _, _, _, _, _, _, _]) (dX5_copy 12 rfl) (by decide) rfl rfl ?_
        refine A_aload_n (dX5_copy 13 rfl) rfl ?_
        refine A_get (dX5_copy 14 rfl) fwX5_52 wK_0 cK_f0_8 ?_
        refine A_iload_n (dX5_copy 15 rfl) rfl ?_
        refine A_aald 2 (dX5_copy 16 rfl) wK_46 rfl (vp_in_nI (n := O) (by omega) (by decide)) ?_
        rw [nI_clamp (n := O) (by omega)]
        rcases hsx O hO with hn2 | ⟨a2, b2, k2, N2, f2, he2, hs2, hN2⟩
        · refine AW.stack (st2 := [.null]) (by rw [hn2]; rfl) ?_
          refine AW.pcq (pc2 := 31) rfl ?_
          refine A_astoreN (ls2 := [_, _, _, _, _, _, _, _]) (dX5_copy 17 rfl) (by decide) rfl rfl ?_
          refine A_aload (dX5_copy 18 rfl) rfl ?_
          refine A_ifnull (dX5_copy 19 rfl) ?_
          refine A_aloadN (dX5_copy 20 rfl) rfl ?_
          refine A_ifnonnullN (dX5_copy 21 rfl) ?_
          refine A_bipush (-11) (dX5_copy 22 rfl) (by decide +kernel) ?_
          refine A_ri (dX5_copy 23 rfl) rfl rfl ?_
          exact Or.inr ⟨S, O, hS, hO, rfl, rfl, Or.inl ⟨Or.inr hn2, rfl, rfl⟩⟩
        · refine AW.stack (st2 := [.ref a2]) (by rw [hs2]; rfl) ?_
          refine AW.pcq (pc2 := 31) rfl ?_
          refine A_astore (ls2 := [_, _, _, _, _, _, _, _]) (dX5_copy 17 rfl) (by decide) rfl rfl ?_
          refine A_aload (dX5_copy 18 rfl) rfl ?_
          refine A_ifnull (dX5_copy 19 rfl) ?_
          refine A_aload (dX5_copy 20 rfl) rfl ?_
          refine A_ifnonnull 46 (dX5_copy 21 rfl) (by decide) ?_
          refine A_aload (dX5_copy 24 rfl) rfl ?_
          refine A_get (dX5_copy 25 rfl) fwX5_226 (wK_e0 he) rfl ?_
          refine A_aload (dX5_copy 26 rfl) rfl ?_
          refine A_get (dX5_copy 27 rfl) fwX5_226 (wK_e0 he2) rfl ?_
          refine A_icmp_eq 62 (dX5_copy 28 rfl) (by decide) (fun h56 => ?_) (fun h56 => ?_)
          · refine A_aload (dX5_copy 31 rfl) rfl ?_
            refine A_iload_n (dX5_copy 32 rfl) rfl ?_
            refine A_iload (dX5_copy 33 rfl) rfl ?_
            refine A_callVWi 2 (dX5_copy 34 rfl) cbX3_has cwX5_229 (s_has E _ (49 + 2 * ix S) (49 + (2 * ix S + 1)) a b kk N f (wK_e0 he) (wK_e1 he) i n) rfl rfl (wK_e0 he) rfl rfl (Nat.le_of_ble_eq_true rfl) (Nat.le_of_ble_eq_true rfl) (Nat.le_of_ble_eq_true rfl) (Nat.le_of_ble_eq_true rfl) (Nat.le_of_ble_eq_true rfl) ?_
            rintro r67 w1 ⟨rfl, rfl⟩
            refine AW.pcq (pc2 := 70) rfl ?_
            refine A_if_eq 85 (dX5_copy 35 rfl) (by decide) (fun h70 => ?_) (fun h70 => ?_)
            · have hcp : cpB i j n N N2 := by
                rcases hz01 h70 with z | z | z
                · exact Or.inr (Or.inl z)
                · exact Or.inl z
                · by_cases hi : i < 0
                  · exact Or.inr (Or.inl hi)
                  by_cases hn0 : n < 0
                  · exact Or.inl hn0
                  exact Or.inr (Or.inr (Or.inr (Or.inl ((hasB hN hi hn0).mp z))))
              refine A_bipush (-12) (dX5_copy 41 rfl) (by decide +kernel) ?_
              refine A_ri (dX5_copy 42 rfl) rfl rfl ?_
              exact Or.inr ⟨S, O, hS, hO, rfl, rfl, Or.inr ⟨a, b, kk, N, f, a2, b2, k2, N2, f2, he, hs, hN, he2, hs2, hN2, Or.inr (Or.inl ⟨h56, hcp, rfl, rfl⟩)⟩⟩
            · refine A_aload (dX5_copy 36 rfl) rfl ?_
              refine A_iload (dX5_copy 37 rfl) rfl ?_
              refine A_iload (dX5_copy 38 rfl) rfl ?_
              refine A_callVWi 2 (dX5_copy 39 rfl) cbX3_has cwX5_229 (s_has E _ (49 + 2 * ix O) (49 + (2 * ix O + 1)) a2 b2 k2 N2 f2 (wK_e0 he2) (wK_e1 he2) j n) rfl rfl (wK_e0 he2) rfl rfl (Nat.le_of_ble_eq_true rfl) (Nat.le_of_ble_eq_true rfl) (Nat.le_of_ble_eq_true rfl) (Nat.le_of_ble_eq_true rfl) (Nat.le_of_ble_eq_true rfl) ?_
              rintro r79 w1 ⟨rfl, rfl⟩
              refine AW.pcq (pc2 := 82) rfl ?_
              refine A_if_ne 88 (dX5_copy 40 rfl) (by decide) (fun h82 => ?_) (fun h82 => ?_)
              · have q1 := hz01b h70
                have q2 := hz01b h82
                have hcp : ¬ cpB i j n N N2 := by
                  rintro (z | z | z | z | z)
                  · exact q1 (Or.inr (Or.inl z))
                  · exact q1 (Or.inl z)
                  · exact q2 (Or.inl z)
                  · exact q1 (Or.inr (Or.inr ((hasB hN (fun z => q1 (Or.inl z)) (fun z => q1 (Or.inr (Or.inl z)))).mpr z)))
                  · exact q2 (Or.inr (Or.inr ((hasB hN2 (fun z => q2 (Or.inl z)) (fun z => q2 (Or.inr (Or.inl z)))).mpr z)))
                obtain ⟨I, J, L, rfl, rfl, rfl, hL1, hL2⟩ := cp_ok hN hN2 hcp
                refine A_aload (dX5_copy 43 rfl) rfl ?_
                refine A_get (dX5_copy 44 rfl) fwX5_201 (wK_e0 he) rfl ?_
                refine A_iload_n (dX5_copy 45 rfl) rfl ?_
                refine A_aload (dX5_copy 46 rfl) rfl ?_
                refine A_get (dX5_copy 47 rfl) fwX5_201 (wK_e0 he2) rfl ?_
                refine A_iload (dX5_copy 48 rfl) rfl ?_
                refine A_iload (dX5_copy 49 rfl) rfl ?_
                refine A_copy (dX5_copy 50 rfl) acX5_232 (Nat.le_of_ble_eq_true rfl) (Nat.le_of_ble_eq_true rfl) (wK_e1 he) (wK_e1 he2) (nI_pos (by omega)) (nI_pos (by omega)) (nI_pos (by omega)) (by rw [nI_clamp (n := I) (by omega), nI_clamp (n := L) (by omega)]; omega) (by rw [nI_clamp (n := J) (by omega), nI_clamp (n := L) (by omega)]; omega) (wK_e1s he2 _) ?_
                rw [nI_clamp (n := I) (by omega), nI_clamp (n := J) (by omega), nI_clamp (n := L) (by omega)]
                refine AW.pcq (pc2 := 106) rfl ?_
                refine A_iload (dX5_copy 51 rfl) rfl ?_
                refine A_ri (dX5_copy 52 rfl) rfl rfl ?_
                exact Or.inr ⟨S, O, hS, hO, rfl, rfl, Or.inr ⟨a, b, kk, N, f, a2, b2, k2, N2, f2, he, hs, hN, he2, hs2, hN2, Or.inr (Or.inr ⟨h56, hcp, I, J, L, rfl, rfl, rfl, hL1, hL2, rfl, rfl⟩)⟩⟩
              · have hcp : cpB i j n N N2 := by
                  rcases hz01 (by first | exact h82 | exact Classical.not_not.mp h82) with z | z | z
                  · exact Or.inr (Or.inr (Or.inl z))
                  · exact Or.inl z
                  · by_cases hi : j < 0
                    · exact Or.inr (Or.inr (Or.inl hi))
                    by_cases hn0 : n < 0
                    · exact Or.inl hn0
                    exact Or.inr (Or.inr (Or.inr (Or.inr ((hasB hN2 hi hn0).mp z))))
                refine A_bipush (-12) (dX5_copy 41 rfl) (by decide +kernel) ?_
                refine A_ri (dX5_copy 42 rfl) rfl rfl ?_
                exact Or.inr ⟨S, O, hS, hO, rfl, rfl, Or.inr ⟨a, b, kk, N, f, a2, b2, k2, N2, f2, he, hs, hN, he2, hs2, hN2, Or.inr (Or.inl ⟨h56, hcp, rfl, rfl⟩)⟩⟩
          · refine A_bipush (-13) (dX5_copy 29 rfl) (by decide +kernel) ?_
            refine A_ri (dX5_copy 30 rfl) rfl rfl ?_
            exact Or.inr ⟨S, O, hS, hO, rfl, rfl, Or.inr ⟨a, b, kk, N, f, a2, b2, k2, N2, f2, he, hs, hN, he2, hs2, hN2, Or.inl ⟨h56, rfl, rfl⟩⟩⟩
    · refine A_bipush (-2) (dX5_copy 6 rfl) (by decide +kernel) ?_
      refine A_ri (dX5_copy 7 rfl) rfl rfl ?_
      exact Or.inl ⟨by first | exact Or.inl h4 | exact Or.inr (by first | assumption | exact Classical.not_not.mp h11), rfl, rfl⟩

