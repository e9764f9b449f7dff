set_option maxRecDepth 100000 in
set_option maxHeartbeats 400000 in
theorem K_fillL (E : ag) (kq : Nat) (cg : Nat → Int32) (qf : Nat → Nat) (gf : Nat → Int32) (af : Nat → Nat → Int32) (qd : Nat → Nat) (gd : Nat → Int32) (ad : Nat → Nat → Int32) (qk : Nat → Nat) (gk : Nat → Int32) (ak : Nat → Nat → Int32) (ql : Nat → Nat) (gl : Nat → Int32) (al : Nat → Nat → Int32) (qr : Nat → Nat) (gr : Nat → Int32) (ar : Nat → Nat → Int32) (rx : Nat) (qm : Nat) (qx : Nat → Nat → Nat) (gx : Nat → Nat → Int32) (ax : Nat → Nat → Nat → Int32) (qs : Nat) (sx : Nat → Option Nat) (qo : Nat → Nat) (go : Nat → Int32) (ao : Nat → Nat → Int32) (qp : Nat → Nat) (gp_ : Nat → Int32) (ap : Nat → Nat → Int32) (L : va_W) (m : Nat) (hm : m ≤ 5) (post : Option Value → va_W → Prop) (K : ∀ f, RWS f (fun k => k) m → AW E mX5_seekOrder 6 0 0 28 [some (.ref kq), some (.int (nI m)), some (.int (nI m)), none, none, none] [] (wK E kq cg qf gf af qd gd ad qk gk ak ql gl al qr gr ar rx qm qx gx ax qs sx qo go (va_up ao 0 f) qp gp_ ap L) post) : ∀ (n c : Nat), c + n = m → ∀ (f : Nat → Int32), (∀ k, k < c → f k = nI k) → AW E mX5_seekOrder 6 0 0 10 [some (.ref kq), some (.int (nI m)), some (.int (nI c)), none, none, none] [] (wK E kq cg qf gf af qd gd ad qk gk ak ql gl al qr gr ar rx qm qx gx ax qs sx qo go (va_up ao 0 f) qp gp_ ap L) (post) := by
  intro n
  induction n with
  | zero =>
    intro c hc
    intro f hf
    obtain rfl : m = c := by omega
    refine A_iload_n (dX5_seekOrder 6 rfl) rfl ?_
    refine A_iload_n (dX5_seekOrder 7 rfl) rfl ?_
    refine A_icmp_ge 28 (dX5_seekOrder 8 rfl) (by decide) (fun h12 => ?_) (fun h12 => absurd (nI_le (a := m) (b := m) (Nat.le_refl _) (by omega)) h12)
    exact K f (fun k hk => ⟨hk, hf k hk⟩)
  | succ n ih =>
    intro c hc
    have hlt : c < m := by omega
    intro f hf
    refine A_iload_n (dX5_seekOrder 6 rfl) rfl ?_
    refine A_iload_n (dX5_seekOrder 7 rfl) rfl ?_
    refine A_icmp_ge 28 (dX5_seekOrder 8 rfl) (by decide) (fun h12 => absurd h12 (nI_ge hlt (by omega))) (fun h12 => ?_)
    refine A_aload_n (dX5_seekOrder 9 rfl) rfl ?_
    refine A_get (dX5_seekOrder 10 rfl) fwX5_56 wK_0 cK_f0_9 ?_
    refine A_iload_n (dX5_seekOrder 11 rfl) rfl ?_
    refine A_iload_n (dX5_seekOrder 12 rfl) rfl ?_
    refine A_iast (dX5_seekOrder 13 rfl) wK_47 (vp_in_nI (n := c) (by omega) (by decide)) (wK_s47 _) ?_
    rw [nI_clamp (n := c) (by omega)]
    refine AW.world (ws2 := wK E kq cg qf gf af qd gd ad qk gk ak ql gl al qr gr ar rx qm qx gx ax qs sx qo go (va_up ao 0 (upd f c (nI c))) qp gp_ ap L) (by rw [up24]; rfl) ?_
    refine AW.pcq (pc2 := 22) rfl ?_
    refine A_iinc (ls2 := [_, _, _, _, _, _]) (nI (c + 1)) (dX5_seekOrder 14 rfl) rfl (nI_1 c) (by decide) rfl rfl ?_
    refine A_goto 10 (dX5_seekOrder 15 rfl) (by decide) ?_
    refine ih (c + 1) (by omega) _ (fun k hk => ?_)
    simp only [upd]
    split
    · rename_i z; rw [z]
    · exact hf k (by omega)

set_option maxRecDepth 100000 in
set_option maxHeartbeats 400000 in
theorem K_seekT (E : ag) (kq : Nat) (cg : Nat → Int32) (qf : Nat → Nat) (gf : Nat → Int32) (af : Nat → Nat → Int32) (qd : Nat → Nat) (gd : Nat → Int32) (ad : Nat → Nat → Int32) (qk : Nat → Nat) (gk : Nat → Int32) (ak : Nat → Nat → Int32) (ql : Nat → Nat) (gl : Nat → Int32) (al : Nat → Nat → Int32) (qr : Nat → Nat) (gr : Nat → Int32) (ar : Nat → Nat → Int32) (rx : Nat) (qm : Nat) (qx : Nat → Nat → Nat) (gx : Nat → Nat → Int32) (ax : Nat → Nat → Nat → Int32) (qs : Nat) (sx : Nat → Option Nat) (qo : Nat → Nat) (go : Nat → Int32) (ao : Nat → Nat → Int32) (qp : Nat → Nat) (gp_ : Nat → Int32) (ap : Nat → Nat → Int32) (L : va_W) (m : Nat) (hm : m ≤ 5) (d c : Nat) (l : List Nat) (x2 x3 x4 : Int32) (F : Int32 → va_W → Prop) (h : RWS (ao 0) (dv m d) m) (hck : chk m (d :: l) = true) (hcl : c + (l.length + 1) ≤ 120) (K0 : l = [] → ∀ f2, F x2 (wK E kq cg qf gf af qd gd ad qk gk ak ql gl al qr gr ar rx qm qx gx ax qs sx qo go (va_up ao 0 f2) qp gp_ ap L)) (K1 : ∀ e l2, l = e :: l2 → ∀ f2, RWS f2 (dv m e) m → AW E mX5_seekOrder 6 0 0 38 [some (.ref kq), some (.int (nI m)), some (.int (x2)), some (.int (x3)), some (.int (1)), some (.int (nI (c + 1)))] [] (wK E kq cg qf gf af qd gd ad qk gk ak ql gl al qr gr ar rx qm qx gx ax qs sx qo go (va_up ao 0 f2) qp gp_ ap L) (ri F)) : AW E mX5_seekOrder 6 0 0 143 [some (.ref kq), some (.int (nI m)), some (.int (x2)), some (.int (x3)), some (.int (x4)), some (.int (nI c))] [] (wK E kq cg qf gf af qd gd ad qk gk ak ql gl al qr gr ar rx qm qx gx ax qs sx qo go ao qp gp_ ap L) (ri F) := by
  refine A_aload_n (dX5_seekOrder 74 rfl) rfl ?_
  refine A_iload_n (dX5_seekOrder 75 rfl) rfl ?_
  refine A_callVWi 1 (dX5_seekOrder 76 rfl) cbX5_nextRow cwX5_259 (K_nextRow E kq cg qf gf af qd gd ad qk gk ak ql gl al qr gr ar rx qm qx gx ax qs sx qo go ao qp gp_ ap L m _ hm h) rfl rfl wK_0 rfl rfl (Nat.le_of_ble_eq_true rfl) (Nat.le_of_ble_eq_true rfl) (Nat.le_of_ble_eq_true rfl) (Nat.le_of_ble_eq_true rfl) (Nat.le_of_ble_eq_true rfl) ?_
  rintro r1 w1 ⟨f2, rfl, hr⟩
  refine AW.pcq (pc2 := 148) rfl ?_
  refine A_istore (ls2 := [_, _, _, _, _, _]) (dX5_seekOrder 77 rfl) (by decide) rfl rfl ?_
  refine A_iinc (ls2 := [_, _, _, _, _, _]) (nI (c + 1)) (dX5_seekOrder 78 rfl) rfl (nI_1 c) (by decide) rfl rfl ?_
  refine A_goto 38 (dX5_seekOrder 79 rfl) (by decide) ?_
  cases l with
  | nil =>
    rw [if_pos (chk_1 hck)] at hr
    subst hr
    refine A_iload (dX5_seekOrder 24 rfl) rfl ?_
    refine A_bipush (120) (dX5_seekOrder 25 rfl) (by decide +kernel) ?_
    refine A_icmp_ge 156 (dX5_seekOrder 26 rfl) (by decide) (fun h42 => ?_) (fun h42 => ?_)
    · refine A_iload_n (dX5_seekOrder 80 rfl) rfl ?_
      refine A_ri (dX5_seekOrder 81 rfl) rfl rfl ?_
      exact K0 rfl f2
    · refine A_iload (dX5_seekOrder 27 rfl) rfl ?_
      refine A_if_eq 156 (dX5_seekOrder 28 rfl) (by decide) (fun h47 => ?_) (fun h47 => absurd (show (0 : Int32) = 0 from rfl) h47)
      refine A_iload_n (dX5_seekOrder 80 rfl) rfl ?_
      refine A_ri (dX5_seekOrder 81 rfl) rfl rfl ?_
      exact K0 rfl f2
  | cons e l2 =>
    obtain ⟨k1, k2, k3⟩ := chk_2 hck
    rw [if_neg k1] at hr
    obtain ⟨r1, r2⟩ := hr
    subst r1
    exact K1 e l2 rfl f2 (r2.same k2)
set_option maxRecDepth 100000 in
set_option maxHeartbeats 400000 in
theorem K_seekC (E : ag) (kq : Nat) (cg : Nat → Int32) (qf : Nat → Nat) (gf : Nat → Int32) (af : Nat → Nat → Int32) (qd : Nat → Nat) (gd : Nat → Int32) (ad : Nat → Nat → Int32) (qk : Nat → Nat) (gk : Nat → Int32) (ak : Nat → Nat → Int32) (ql : Nat → Nat) (gl : Nat → Int32) (al : Nat → Nat → Int32) (qr : Nat → Nat) (gr : Nat → Int32) (ar : Nat → Nat → Int32) (rx : Nat) (qm : Nat) (qx : Nat → Nat → Nat) (gx : Nat → Nat → Int32) (ax : Nat → Nat → Nat → Int32) (qs : Nat) (sx : Nat → Option Nat) (qo : Nat → Nat) (go : Nat → Int32) (ao : Nat → Nat → Int32) (qp : Nat → Nat) (gp_ : Nat → Int32) (ap : Nat → Nat → Int32) (L : va_W) (m : Nat) (hm : m ≤ 5) (x2 x3 : Int32) (x4 x5 : Option Value) (hx : noL [x4, x5] = true) (F : Int32 → va_W → Prop) (K : AW E mX5_seekOrder 6 0 0 143 [some (.ref kq), some (.int (nI m)), some (.int (gl 2)), some (.int (gd 3)), x4, x5] [] (wK E kq cg qf gf af qd gd ad qk gk ak ql gl al qr gr ar rx qm qx gx ax qs sx qo go ao qp gp_ (va_up ap 0 (va_cpy (ao 0) (ap 0) 0 0 m)) L) (ri F)) : AW E mX5_seekOrder 6 0 0 113 [some (.ref kq), some (.int (nI m)), some (.int (x2)), some (.int (x3)), x4, x5] [] (wK E kq cg qf gf af qd gd ad qk gk ak ql gl al qr gr ar rx qm qx gx ax qs sx qo go ao qp gp_ ap L) (ri F) := by
  refine A_aload_n (dX5_seekOrder 58 rfl) rfl ?_
  refine A_get (dX5_seekOrder 59 rfl) fwX5_29 wK_0 cK_f0_4 ?_
  refine A_get (dX5_seekOrder 60 rfl) fwX5_172 wK_22 cL_f0_4 ?_
  refine A_istore_n (ls2 := [_, _, _, _, _, _]) (dX5_seekOrder 61 rfl) (by decide) (by have := hx; simp_all [noL, Value.category]) rfl ?_
  refine A_aload_n (dX5_seekOrder 62 rfl) rfl ?_
  refine A_get (dX5_seekOrder 63 rfl) fwX5_16 wK_0 cK_f0_1 ?_
  refine A_get (dX5_seekOrder 64 rfl) fwX5_155 wK_8 cF_f0_9 ?_
  refine A_istore_n (ls2 := [_, _, _, _, _, _]) (dX5_seekOrder 65 rfl) (by decide) (by have := hx; simp_all [noL, Value.category]) rfl ?_
  refine AW.pcq (pc2 := 129) rfl ?_
  refine A_aload_n (dX5_seekOrder 66 rfl) rfl ?_
  refine A_get (dX5_seekOrder 67 rfl) fwX5_56 wK_0 cK_f0_9 ?_
  refine A_iconst (0) (dX5_seekOrder 68 rfl) (by decide +kernel) ?_
  refine A_aload_n (dX5_seekOrder 69 rfl) rfl ?_
  refine A_get (dX5_seekOrder 70 rfl) fwX5_60 wK_0 cK_f0_10 ?_
  refine A_iconst (0) (dX5_seekOrder 71 rfl) (by decide +kernel) ?_
  refine A_iload_n (dX5_seekOrder 72 rfl) rfl ?_
  refine A_copy (dX5_seekOrder 73 rfl) acX5_232 (Nat.le_of_ble_eq_true rfl) (Nat.le_of_ble_eq_true rfl) wK_47 wK_48 (by decide) (by decide) (nI_pos (by omega)) (by rw [nI_clamp (n := m) (by omega)]; show 0 + m ≤ 5; omega) (by rw [nI_clamp (n := m) (by omega)]; show 0 + m ≤ 5; omega) (wK_s48 _) ?_
  rw [nI_clamp (n := m) (by omega)]
  exact K
