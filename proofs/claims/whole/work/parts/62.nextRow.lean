theorem nIle_of {a b : Nat} (ha : a < 2 ^ 31) (h : nI a ≤ nI b) : a ≤ b := by
  rcases Nat.lt_or_ge b a with z | z
  · exact absurd h (nI_ge z ha)
  · exact z
set_option maxRecDepth 100000 in
set_option maxHeartbeats 400000 in
theorem K_nfL (E : ag) (kq : Nat) (cg : Nat → Int32) (qf : Nat → Nat) (gf : Nat → Int32) (af : Nat → Nat → Int32) (qd : Nat → Nat) (gd : Nat → Int32) (ad : Nat → Nat → Int32) (qk : Nat → Nat) (gk : Nat → Int32) (ak : Nat → Nat → Int32) (ql : Nat → Nat) (gl : Nat → Int32) (al : Nat → Nat → Int32) (qr : Nat → Nat) (gr : Nat → Int32) (ar : Nat → Nat → Int32) (rx : Nat) (qm : Nat) (qx : Nat → Nat → Nat) (gx : Nat → Nat → Int32) (ax : Nat → Nat → Nat → Int32) (qs : Nat) (sx : Nat → Option Nat) (qo : Nat → Nat) (go : Nat → Int32) (ao : Nat → Nat → Int32) (qp : Nat → Nat) (gp_ : Nat → Int32) (ap : Nat → Nat → Int32) (L : va_W) (m : Nat) (v : Nat → Nat) (hm : m ≤ 5) (h : RWS (ao 0) v m) (post : Option Value → va_W → Prop) : ∀ n, n < m → AW E mX5_nextRow 2 0 0 31 [some (.ref kq), some (.int (nI m)), some (.int (nI (nfi v n) - 1)), none, none, none] [] (wK E kq cg qf gf af qd gd ad qk gk ak ql gl al qr gr ar rx qm qx gx ax qs sx qo go ao qp gp_ ap L) post → AW E mX5_nextRow 2 0 0 4 [some (.ref kq), some (.int (nI m)), some (.int (nI n - 1)), none, none, none] [] (wK E kq cg qf gf af qd gd ad qk gk ak ql gl al qr gr ar rx qm qx gx ax qs sx qo go ao qp gp_ ap L) post := by
  intro n
  induction n with
  | zero =>
    intro hn K
    refine A_iload_n (dX5_nextRow 4 rfl) rfl ?_
    refine A_if_lt 31 (dX5_nextRow 5 rfl) (by decide) (fun h5 => ?_) (fun h5 => absurd (show nI 0 - 1 < 0 by decide) h5)
    exact K
  | succ n ih =>
    intro hn K
    rw [nI_pred]
    refine A_iload_n (dX5_nextRow 4 rfl) rfl ?_
    refine A_if_lt 31 (dX5_nextRow 5 rfl) (by decide) (fun h5 => absurd h5 (nI_pos (by omega))) (fun h5 => ?_)
    refine A_aload_n (dX5_nextRow 6 rfl) rfl ?_
    refine A_get (dX5_nextRow 7 rfl) fwX5_56 wK_0 cK_f0_9 ?_
    refine A_iload_n (dX5_nextRow 8 rfl) rfl ?_
    refine A_iald (dX5_nextRow 9 rfl) wK_47 (vp_in_nI (n := n) (by omega) (by decide)) ?_
    refine A_aload_n (dX5_nextRow 10 rfl) rfl ?_
    refine A_get (dX5_nextRow 11 rfl) fwX5_56 wK_0 cK_f0_9 ?_
    refine AW.pcq (pc2 := 18) rfl ?_
    refine A_iload_n (dX5_nextRow 12 rfl) rfl ?_
    refine A_iconst (1) (dX5_nextRow 13 rfl) (by decide +kernel) ?_
    refine A_iadd (dX5_nextRow 14 rfl) ?_
    rw [nI_1]
    refine A_iald (dX5_nextRow 15 rfl) wK_47 (vp_in_nI (n := n + 1) (by omega) (by decide)) ?_
    rw [nI_clamp (n := n) (by omega), nI_clamp (n := n + 1) (by omega), (h (n) (by omega)).2, (h (n + 1) (by omega)).2]
    refine A_icmp_le 31 (dX5_nextRow 16 rfl) (by decide) (fun h22 => ?_) (fun h22 => ?_)
    · have hv : v n < m := (h n (by omega)).1
      have e : v n ≤ v (n + 1) := nIle_of (by omega) h22
      rw [nfi, if_pos e, nI_pred] at K
      exact K
    · have hv : v (n + 1) < m := (h (n + 1) hn).1
      have e : ¬ v n ≤ v (n + 1) := fun z => h22 (nI_le z (by omega))
      rw [nfi, if_neg e] at K
      refine A_iinc (ls2 := [_, _, _, _, _, _]) (nI n - 1) (dX5_nextRow 17 rfl) rfl (sub1 (nI n)) (by decide) rfl rfl ?_
      refine A_goto 4 (dX5_nextRow 18 rfl) (by decide) ?_
      exact ih (by omega) K
set_option maxRecDepth 100000 in
set_option maxHeartbeats 400000 in
theorem K_nfJ (E : ag) (kq : Nat) (cg : Nat → Int32) (qf : Nat → Nat) (gf : Nat → Int32) (af : Nat → Nat → Int32) (qd : Nat → Nat) (gd : Nat → Int32) (ad : Nat → Nat → Int32) (qk : Nat → Nat) (gk : Nat → Int32) (ak : Nat → Nat → Int32) (ql : Nat → Nat) (gl : Nat → Int32) (al : Nat → Nat → Int32) (qr : Nat → Nat) (gr : Nat → Int32) (ar : Nat → Nat → Int32) (rx : Nat) (qm : Nat) (qx : Nat → Nat → Nat) (gx : Nat → Nat → Int32) (ax : Nat → Nat → Nat → Int32) (qs : Nat) (sx : Nat → Option Nat) (qo : Nat → Nat) (go : Nat → Int32) (ao : Nat → Nat → Int32) (qp : Nat → Nat) (gp_ : Nat → Int32) (ap : Nat → Nat → Int32) (L : va_W) (m : Nat) (v : Nat → Nat) (hm : m ≤ 5) (h : RWS (ao 0) v m) (post : Option Value → va_W → Prop) (i : Nat) : ∀ n, i + n < m → AW E mX5_nextRow 2 0 0 67 [some (.ref kq), some (.int (nI m)), some (.int (nI i)), some (.int (nI (nfj v i n))), none, none] [] (wK E kq cg qf gf af qd gd ad qk gk ak ql gl al qr gr ar rx qm qx gx ax qs sx qo go ao qp gp_ ap L) post → AW E mX5_nextRow 2 0 0 41 [some (.ref kq), some (.int (nI m)), some (.int (nI i)), some (.int (nI (i + n))), none, none] [] (wK E kq cg qf gf af qd gd ad qk gk ak ql gl al qr gr ar rx qm qx gx ax qs sx qo go ao qp gp_ ap L) post := by
  intro n
  induction n with
  | zero =>
    intro hn K
    refine A_iload_n (dX5_nextRow 27 rfl) rfl ?_
    refine A_iload_n (dX5_nextRow 28 rfl) rfl ?_
    refine A_icmp_le 67 (dX5_nextRow 29 rfl) (by decide) (fun h43 => ?_) (fun h43 => absurd (nI_le (a := i + 0) (b := i) (by omega) (by omega)) h43)
    exact K
  | succ n ih =>
    intro hn K
    refine A_iload_n (dX5_nextRow 27 rfl) rfl ?_
    refine A_iload_n (dX5_nextRow 28 rfl) rfl ?_
    refine A_icmp_le 67 (dX5_nextRow 29 rfl) (by decide) (fun h43 => absurd h43 (nI_ge (a := i) (b := i + (n + 1)) (by omega) (by omega))) (fun h43 => ?_)
    refine A_aload_n (dX5_nextRow 30 rfl) rfl ?_
    refine A_get (dX5_nextRow 31 rfl) fwX5_56 wK_0 cK_f0_9 ?_
    refine A_iload_n (dX5_nextRow 32 rfl) rfl ?_
    refine A_iald (dX5_nextRow 33 rfl) wK_47 (vp_in_nI (n := i + (n + 1)) (by omega) (by decide)) ?_
    refine A_aload_n (dX5_nextRow 34 rfl) rfl ?_
    refine AW.pcq (pc2 := 53) rfl ?_
    refine A_get (dX5_nextRow 35 rfl) fwX5_56 wK_0 cK_f0_9 ?_
    refine A_iload_n (dX5_nextRow 36 rfl) rfl ?_
    refine A_iald (dX5_nextRow 37 rfl) wK_47 (vp_in_nI (n := i) (by omega) (by decide)) ?_
    rw [nI_clamp (n := i + (n + 1)) (by omega), nI_clamp (n := i) (by omega), (h (i + (n + 1)) (by omega)).2, (h (i) (by omega)).2]
    refine A_icmp_ge 67 (dX5_nextRow 38 rfl) (by decide) (fun h58 => ?_) (fun h58 => ?_)
    · have hv : v i < m := (h i (by omega)).1
      have e : v i ≤ v (i + n + 1) := nIle_of (by omega) h58
      rw [nfj, if_pos e] at K
      exact K
    · have hv : v (i + n + 1) < m := (h (i + n + 1) hn).1
      have e : ¬ v i ≤ v (i + n + 1) := fun z => h58 (nI_le (b := v (i + n + 1)) z (by omega))
      rw [nfj, if_neg e] at K
      refine A_iinc (ls2 := [_, _, _, _, _, _]) (nI (i + n)) (dX5_nextRow 39 rfl) rfl (by rw [sub1]; exact nI_pred (i + n)) (by decide) rfl rfl ?_
      refine A_goto 41 (dX5_nextRow 40 rfl) (by decide) ?_
      exact ih (by omega) K
set_option maxRecDepth 100000 in
set_option maxHeartbeats 400000 in
theorem K_nrv (E : ag) (kq : Nat) (cg : Nat → Int32) (qf : Nat → Nat) (gf : Nat → Int32) (af : Nat → Nat → Int32) (qd : Nat → Nat) (gd : Nat → Int32) (ad : Nat → Nat → Int32) (qk : Nat → Nat) (gk : Nat → Int32) (ak : Nat → Nat → Int32) (ql : Nat → Nat) (gl : Nat → Int32) (al : Nat → Nat → Int32) (qr : Nat → Nat) (gr : Nat → Int32) (ar : Nat → Nat → Int32) (rx : Nat) (qm : Nat) (qx : Nat → Nat → Nat) (gx : Nat → Nat → Int32) (ax : Nat → Nat → Nat → Int32) (qs : Nat) (sx : Nat → Option Nat) (qo : Nat → Nat) (go : Nat → Int32) (ao : Nat → Nat → Int32) (qp : Nat → Nat) (gp_ : Nat → Int32) (ap : Nat → Nat → Int32) (L : va_W) (m : Nat) (hm : m ≤ 5) (x2 x3 : Option Value) (hx : noL [x2, x3] = true) : ∀ (n : Nat) (f : Nat → Int32) (v : Nat → Nat) (a b : Nat), b < m → a ≤ m → b ≤ a + n → RWS f v m → AW E mX5_nextRow 2 0 0 97 [some (.ref kq), some (.int (nI m)), x2, x3, some (.int (nI b)), some (.int (nI a))] [] (wK E kq cg qf gf af qd gd ad qk gk ak ql gl al qr gr ar rx qm qx gx ax qs sx qo go (va_up ao 0 f) qp gp_ ap L) (ri (fun r w => ∃ f2, w = wK E kq cg qf gf af qd gd ad qk gk ak ql gl al qr gr ar rx qm qx gx ax qs sx qo go (va_up ao 0 f2) qp gp_ ap L ∧ r = 1 ∧ RWS f2 (nrv n v a b) m)) := by
  intro n
  induction n with
  | zero =>
    intro f v a b hb ha hn h
    refine A_iload (dX5_nextRow 61 rfl) rfl ?_
    refine A_iload (dX5_nextRow 62 rfl) rfl ?_
    refine A_icmp_ge 136 (dX5_nextRow 63 rfl) (by decide) (fun h101 => ?_) (fun h101 => absurd (nI_le (a := b) (b := a) (by omega) (by omega)) h101)
    refine A_iconst (1) (dX5_nextRow 79 rfl) (by decide +kernel) ?_
    refine A_ri (dX5_nextRow 80 rfl) rfl rfl ?_
    exact ⟨f, rfl, rfl, h⟩
  | succ n ih =>
    intro f v a b hb ha hn h
    refine A_iload (dX5_nextRow 61 rfl) rfl ?_
    refine A_iload (dX5_nextRow 62 rfl) rfl ?_
    refine A_icmp_ge 136 (dX5_nextRow 63 rfl) (by decide) (fun h101 => ?_) (fun h101 => ?_)
    · have e : ¬ a < b := fun z => absurd h101 (nI_ge z (by omega))
      rw [show nrv (n + 1) v a b = v from if_neg e]
      refine A_iconst (1) (dX5_nextRow 79 rfl) (by decide +kernel) ?_
      refine A_ri (dX5_nextRow 80 rfl) rfl rfl ?_
      exact ⟨f, rfl, rfl, h⟩
    · have e : a < b := by
        rcases Nat.lt_or_ge a b with z | z
        · exact z
        · exact absurd (nI_le z (by omega)) h101
      rw [show nrv (n + 1) v a b = nrv n (un (un v a (v b)) b (v a)) (a + 1) (b - 1) from if_pos e]
      refine A_aload_n (dX5_nextRow 64 rfl) rfl ?_
      refine A_get (dX5_nextRow 65 rfl) fwX5_56 wK_0 cK_f0_9 ?_
      refine A_iload (dX5_nextRow 66 rfl) rfl ?_
      refine A_aload_n (dX5_nextRow 67 rfl) rfl ?_
      refine A_get (dX5_nextRow 68 rfl) fwX5_56 wK_0 cK_f0_9 ?_
      refine A_iload (dX5_nextRow 69 rfl) rfl ?_
      refine A_aload_n (dX5_nextRow 70 rfl) rfl ?_
      refine A_get (dX5_nextRow 71 rfl) fwX5_56 wK_0 cK_f0_9 ?_
      refine AW.pcq (pc2 := 120) rfl ?_
      refine A_iload (dX5_nextRow 72 rfl) rfl ?_
      refine A_iald (dX5_nextRow 73 rfl) wK_47 (vp_in_nI (n := b) (by omega) (by decide)) ?_
      rw [nI_clamp (n := b) (by omega)]
      refine A_callSi 3 (dX5_nextRow 74 rfl) cbX5_exchange cwX5_103 (k_exchange E (qo 0) 5 f (nI a) (f b) (vp_in_nI (by omega) (by decide))) rfl rfl [47] rfl rfl (Nat.le_of_ble_eq_true rfl) (Nat.le_of_ble_eq_true rfl) (Nat.le_of_ble_eq_true rfl) (Nat.le_of_ble_eq_true rfl) (Nat.le_of_ble_eq_true rfl) (by rintro _ _ ⟨_, rfl⟩; exact (Nat.le_of_ble_eq_true rfl)) ?_
      rintro r123 w1 ⟨rfl, rfl⟩
      rw [nI_clamp (n := a) (by omega)]
      refine AW.world (ws2 := wK E kq cg qf gf af qd gd ad qk gk ak ql gl al qr gr ar rx qm qx gx ax qs sx qo go (va_up ao 0 (upd f a (f b))) qp gp_ ap L) (mK_o.trans (by rw [up24])) ?_
      refine AW.pcq (pc2 := 126) rfl ?_
      refine A_iast (dX5_nextRow 75 rfl) wK_47 (vp_in_nI (n := b) (by omega) (by decide)) (wK_s47 _) ?_
      rw [nI_clamp (n := b) (by omega)]
      refine AW.world (ws2 := wK E kq cg qf gf af qd gd ad qk gk ak ql gl al qr gr ar rx qm qx gx ax qs sx qo go (va_up ao 0 (upd (upd f a (f b)) b (f a))) qp gp_ ap L) (by rw [up24]; rfl) ?_
      refine A_iinc (ls2 := [_, _, _, _, _, _]) (nI (b - 1)) (dX5_nextRow 76 rfl) rfl (by rw [sub1]; obtain ⟨j, rfl⟩ : ∃ j, b = j + 1 := ⟨b - 1, by omega⟩; exact nI_pred j) (by decide) (by have := hx; simp_all [noL, Value.category]) rfl ?_
      refine A_iinc (ls2 := [_, _, _, _, _, _]) (nI (a + 1)) (dX5_nextRow 77 rfl) rfl (nI_1 a) (by decide) (by have := hx; simp_all [noL, Value.category]) rfl ?_
      refine A_goto 97 (dX5_nextRow 78 rfl) (by decide) ?_
      exact ih _ _ (a + 1) (b - 1) (by omega) (by omega) (by omega) ((h.put (h b hb).1 (h b hb).2).put (h a (by omega)).1 (h a (by omega)).2)
