theorem nfi_le (v : Nat → Nat) : ∀ n, nfi v n ≤ n := by
  intro n
  induction n with
  | zero => exact Nat.le_refl _
  | succ n ih => rw [nfi]; split <;> omega
theorem nfj_b (v : Nat → Nat) (i : Nat) : ∀ n, i ≤ nfj v i n ∧ nfj v i n ≤ i + n := by
  intro n
  induction n with
  | zero => exact ⟨Nat.le_refl _, Nat.le_refl _⟩
  | succ n ih => rw [nfj]; split <;> omega
theorem nI_m2 (k : Nat) : nI (k + 1) - 2 = nI k - 1 := by
  rw [← nI_1, Int32.sub_eq_add_neg, Int32.sub_eq_add_neg, Int32.add_assoc]
  exact congrArg (nI k + ·) (by decide)
set_option maxRecDepth 100000 in
set_option maxHeartbeats 400000 in
theorem K_nx31a (E : ag) (kq : Nat) (cg : Nat → Int32) (qf : Nat → Nat) (gf : Nat → Int32) (af : Nat → Nat → Int32) (qd : Nat → Nat) (gd : Nat → Int32) (ad : Nat → Nat → Int32) (qk : Nat → Nat) (gk : Nat → Int32) (ak : Nat → Nat → Int32) (ql : Nat → Nat) (gl : Nat → Int32) (al : Nat → Nat → Int32) (qr : Nat → Nat) (gr : Nat → Int32) (ar : Nat → Nat → Int32) (rx : Nat) (qm : Nat) (qx : Nat → Nat → Nat) (gx : Nat → Nat → Int32) (ax : Nat → Nat → Nat → Int32) (qs : Nat) (sx : Nat → Option Nat) (qo : Nat → Nat) (go : Nat → Int32) (ao : Nat → Nat → Int32) (qp : Nat → Nat) (gp_ : Nat → Int32) (ap : Nat → Nat → Int32) (L : va_W) (m : Nat) (v : Nat → Nat) (hm : m ≤ 5) (h : RWS (ao 0) v m) (hj : nfi v (m - 1) = 0) (x : Int32) (hx0 : x < 0) : AW E mX5_nextRow 2 0 0 31 [some (.ref kq), some (.int (nI m)), some (.int x), none, none, none] [] (wK E kq cg qf gf af qd gd ad qk gk ak ql gl al qr gr ar rx qm qx gx ax qs sx qo go ao qp gp_ ap L) (ri (fun r w => ∃ f2, w = wK E kq cg qf gf af qd gd ad qk gk ak ql gl al qr gr ar rx qm qx gx ax qs sx qo go (va_up ao 0 f2) qp gp_ ap L ∧ (if nfi v (m - 1) = 0 then r = 0 else r = 1 ∧ RWS f2 (nxv v m) m))) := by
  refine A_iload_n (dX5_nextRow 19 rfl) rfl ?_
  refine A_if_ge 37 (dX5_nextRow 20 rfl) (by decide) (fun h32 => absurd hx0 (Int32.not_lt.mpr h32)) (fun h32 => ?_)
  refine A_iconst (0) (dX5_nextRow 21 rfl) (by decide +kernel) ?_
  refine A_ri (dX5_nextRow 22 rfl) rfl rfl ?_
  exact ⟨ao 0, by rw [up_same], by rw [if_pos hj]⟩
set_option maxRecDepth 100000 in
set_option maxHeartbeats 400000 in
theorem K_nx31b (E : ag) (kq : Nat) (cg : Nat → Int32) (qf : Nat → Nat) (gf : Nat → Int32) (af : Nat → Nat → Int32) (qd : Nat → Nat) (gd : Nat → Int32) (ad : Nat → Nat → Int32) (qk : Nat → Nat) (gk : Nat → Int32) (ak : Nat → Nat → Int32) (ql : Nat → Nat) (gl : Nat → Int32) (al : Nat → Nat → Int32) (qr : Nat → Nat) (gr : Nat → Int32) (ar : Nat → Nat → Int32) (rx : Nat) (qm : Nat) (qx : Nat → Nat → Nat) (gx : Nat → Nat → Int32) (ax : Nat → Nat → Nat → Int32) (qs : Nat) (sx : Nat → Option Nat) (qo : Nat → Nat) (go : Nat → Int32) (ao : Nat → Nat → Int32) (qp : Nat → Nat) (gp_ : Nat → Int32) (ap : Nat → Nat → Int32) (L : va_W) (m : Nat) (v : Nat → Nat) (hm : m ≤ 5) (h : RWS (ao 0) v m) (i : Nat) (hj : nfi v (m - 1) = i + 1) : AW E mX5_nextRow 2 0 0 31 [some (.ref kq), some (.int (nI m)), some (.int (nI i)), none, none, none] [] (wK E kq cg qf gf af qd gd ad qk gk ak ql gl al qr gr ar rx qm qx gx ax qs sx qo go ao qp gp_ ap L) (ri (fun r w => ∃ f2, w = wK E kq cg qf gf af qd gd ad qk gk ak ql gl al qr gr ar rx qm qx gx ax qs sx qo go (va_up ao 0 f2) qp gp_ ap L ∧ (if nfi v (m - 1) = 0 then r = 0 else r = 1 ∧ RWS f2 (nxv v m) m))) := by
  have hi := nfi_le v (m - 1)
  rw [hj] at hi
  obtain ⟨j1, j2⟩ := nfj_b v i (m - 1 - i)
  have hne : ¬ nfi v (m - 1) = 0 := by omega
  have h1 : nI m - 1 = nI (i + (m - 1 - i)) := by
    obtain ⟨k, rfl⟩ : ∃ k, m = k + 1 := ⟨m - 1, by omega⟩
    rw [nI_pred]; congr 1; omega
  have h2 : nI m - 1 = nI (m - 1) := by rw [h1]; congr 1; omega
  refine A_iload_n (dX5_nextRow 19 rfl) rfl ?_
  refine A_if_ge 37 (dX5_nextRow 20 rfl) (by decide) (fun h32 => ?_) (fun h32 => absurd (Int32.not_lt.mp (nI_pos (by omega))) h32)
  refine A_iload_n (dX5_nextRow 23 rfl) rfl ?_
  refine A_iconst (1) (dX5_nextRow 24 rfl) (by decide +kernel) ?_
  refine A_isub (dX5_nextRow 25 rfl) ?_
  rw [h1]
  refine A_istore_n (ls2 := [_, _, _, _, _, _]) (dX5_nextRow 26 rfl) (by decide) rfl rfl ?_
  refine K_nfJ E kq cg qf gf af qd gd ad qk gk ak ql gl al qr gr ar rx qm qx gx ax qs sx qo go ao qp gp_ ap L m v hm h _ i (m - 1 - i) (by omega) ?_
  generalize hjj : nfj v i (m - 1 - i) = j at j1 j2
  refine A_aload_n (dX5_nextRow 41 rfl) rfl ?_
  refine A_get (dX5_nextRow 42 rfl) fwX5_56 wK_0 cK_f0_9 ?_
  refine A_iload_n (dX5_nextRow 43 rfl) rfl ?_
  refine A_aload_n (dX5_nextRow 44 rfl) rfl ?_
  refine A_get (dX5_nextRow 45 rfl) fwX5_56 wK_0 cK_f0_9 ?_
  refine A_iload_n (dX5_nextRow 46 rfl) rfl ?_
  refine A_aload_n (dX5_nextRow 47 rfl) rfl ?_
  refine A_get (dX5_nextRow 48 rfl) fwX5_56 wK_0 cK_f0_9 ?_
  refine AW.pcq (pc2 := 81) rfl ?_
  refine A_iload_n (dX5_nextRow 49 rfl) rfl ?_
  refine A_iald (dX5_nextRow 50 rfl) wK_47 (vp_in_nI (n := j) (by omega) (by decide)) ?_
  rw [nI_clamp (n := j) (by omega)]
  refine A_callSi 3 (dX5_nextRow 51 rfl) cbX5_exchange cwX5_103 (k_exchange E (qo 0) 5 (ao 0) (nI i) (ao 0 j) (vp_in_nI (by omega) (by decide))) rfl rfl [47] rfl rfl (Nat.le_of_ble_eq_true rfl) (Nat.le_of_ble_eq_true rfl) (Nat.le_of_ble_eq_true rfl) (Nat.le_of_ble_eq_true rfl) (Nat.le_of_ble_eq_true rfl) (by rintro _ _ ⟨_, rfl⟩; exact (Nat.le_of_ble_eq_true rfl)) ?_
  rintro r83 w1 ⟨rfl, rfl⟩
  rw [nI_clamp (n := i) (by omega)]
  refine AW.world (ws2 := wK E kq cg qf gf af qd gd ad qk gk ak ql gl al qr gr ar rx qm qx gx ax qs sx qo go (va_up ao 0 (upd (ao 0) i (ao 0 j))) qp gp_ ap L) mK_o ?_
  refine AW.pcq (pc2 := 86) rfl ?_
  refine A_iast (dX5_nextRow 52 rfl) wK_47 (vp_in_nI (n := j) (by omega) (by decide)) (wK_s47 _) ?_
  rw [nI_clamp (n := j) (by omega)]
  refine AW.world (ws2 := wK E kq cg qf gf af qd gd ad qk gk ak ql gl al qr gr ar rx qm qx gx ax qs sx qo go (va_up ao 0 (upd (upd (ao 0) i (ao 0 j)) j (ao 0 i))) qp gp_ ap L) (by rw [up24]; rfl) ?_
  refine A_iload_n (dX5_nextRow 53 rfl) rfl ?_
  refine A_iconst (1) (dX5_nextRow 54 rfl) (by decide +kernel) ?_
  refine A_isub (dX5_nextRow 55 rfl) ?_
  rw [h2]
  refine A_istore (ls2 := [_, _, _, _, _, _]) (dX5_nextRow 56 rfl) (by decide) rfl rfl ?_
  refine A_iload_n (dX5_nextRow 57 rfl) rfl ?_
  refine A_iconst (1) (dX5_nextRow 58 rfl) (by decide +kernel) ?_
  refine A_iadd (dX5_nextRow 59 rfl) ?_
  rw [nI_1]
  refine AW.pcq (pc2 := 95) rfl ?_
  refine A_istore (ls2 := [_, _, _, _, _, _]) (dX5_nextRow 60 rfl) (by decide) rfl rfl ?_
  have h9 := K_nrv E kq cg qf gf af qd gd ad qk gk ak ql gl al qr gr ar rx qm qx gx ax qs sx qo go ao qp gp_ ap L m hm (some (.int (nI i))) (some (.int (nI j))) rfl m _ (nsw v i j) (i + 1) (m - 1) (by omega) (by omega) (by omega) ((h.put (h j (by omega)).1 (h j (by omega)).2).put (h i (by omega)).1 (h i (by omega)).2)
  refine AW.mono h9 (fun v9 w9 hz => ?_)
  obtain ⟨r, h91, f2, h92, h93, h94⟩ := hz
  refine ⟨r, h91, f2, h92, ?_⟩
  rw [if_neg hne]
  refine ⟨h93, ?_⟩
  unfold nxv
  rw [hj, show i + 1 - 1 = i by omega, hjj]
  exact h94
set_option maxRecDepth 100000 in
set_option maxHeartbeats 400000 in
theorem K_nextRow (E : ag) (kq : Nat) (cg : Nat → Int32) (qf : Nat → Nat) (gf : Nat → Int32) (af : Nat → Nat → Int32) (qd : Nat → Nat) (gd : Nat → Int32) (ad : Nat → Nat → Int32) (qk : Nat → Nat) (gk : Nat → Int32) (ak : Nat → Nat → Int32) (ql : Nat → Nat) (gl : Nat → Int32) (al : Nat → Nat → Int32) (qr : Nat → Nat) (gr : Nat → Int32) (ar : Nat → Nat → Int32) (rx : Nat) (qm : Nat) (qx : Nat → Nat → Nat) (gx : Nat → Nat → Int32) (ax : Nat → Nat → Nat → Int32) (qs : Nat) (sx : Nat → Option Nat) (qo : Nat → Nat) (go : Nat → Int32) (ao : Nat → Nat → Int32) (qp : Nat → Nat) (gp_ : Nat → Int32) (ap : Nat → Nat → Int32) (L : va_W) (m : Nat) (v : Nat → Nat) (hm : m ≤ 5) (h : RWS (ao 0) v m) : CT E yX5_nextRow cX5_nextRow 6 mX5_nextRow.2.2.2.1 2 0 0 [.ref kq, .int (nI m)] (wK E kq cg qf gf af qd gd ad qk gk ak ql gl al qr gr ar rx qm qx gx ax qs sx qo go ao qp gp_ ap L) (ri (fun r w => ∃ f2, w = wK E kq cg qf gf af qd gd ad qk gk ak ql gl al qr gr ar rx qm qx gx ax qs sx qo go (va_up ao 0 f2) qp gp_ ap L ∧ (if nfi v (m - 1) = 0 then r = 0 else r = 1 ∧ RWS f2 (nxv v m) m))) := by
  refine CT.of (M := mX5_nextRow) (ls := [some (.ref kq), some (.int (nI m)), none, none, none, none]) (by decide) rfl (by decide) rfl (Nat.le_of_ble_eq_true rfl) ?_
  refine A_iload_n (dX5_nextRow 0 rfl) rfl ?_
  refine A_iconst (2) (dX5_nextRow 1 rfl) (by decide +kernel) ?_
  refine A_isub (dX5_nextRow 2 rfl) ?_
  refine A_istore_n (ls2 := [_, _, _, _, _, _]) (dX5_nextRow 3 rfl) (by decide) rfl rfl ?_
  rcases m with _ | k
  · refine A_iload_n (dX5_nextRow 4 rfl) rfl ?_
    refine A_if_lt 31 (dX5_nextRow 5 rfl) (by decide) (fun h5 => ?_) (fun h5 => absurd (show nI 0 - 2 < 0 by decide) h5)
    exact K_nx31a E kq cg qf gf af qd gd ad qk gk ak ql gl al qr gr ar rx qm qx gx ax qs sx qo go ao qp gp_ ap L 0 v hm h rfl _ (by decide)
  · rw [nI_m2]
    refine K_nfL E kq cg qf gf af qd gd ad qk gk ak ql gl al qr gr ar rx qm qx gx ax qs sx qo go ao qp gp_ ap L (k + 1) v hm h _ k (by omega) ?_
    rcases e : nfi v k with _ | i
    · exact K_nx31a E kq cg qf gf af qd gd ad qk gk ak ql gl al qr gr ar rx qm qx gx ax qs sx qo go ao qp gp_ ap L (k + 1) v hm h e _ (by decide)
    · rw [nI_pred]
      exact K_nx31b E kq cg qf gf af qd gd ad qk gk ak ql gl al qr gr ar rx qm qx gx ax qs sx qo go ao qp gp_ ap L (k + 1) v hm h i e

