theorem nIle_of {a b : Nat} (ha : a < 2 ^ 31) (h : nI a ≤ nI b) : a ≤ b := by
  rcases Nat.lt_or_ge b a with z | z
  · exact absurd h (nI_ge z ha)
  · exact z
set_option maxRecDepth 100000 in
set_option maxHeartbeats 400000 in
theorem K_nfL (E : ag) (kq : Nat) (cg : Nat → Int32) (qf : Nat → Nat) (gf : Nat → Int32) (af : Nat → Nat → Int32) (qd : Nat → Nat) (gd : Nat → Int32) (ad : Nat → Nat → Int32) (qk : Nat → Nat) (gk : Nat → Int32) (ak : Nat → Nat → Int32) (ql : Nat → Nat) (gl : Nat → Int32) (al : Nat → Nat → Int32) (qr : Nat → Nat) (gr : Nat → Int32) (ar : Nat → Nat → Int32) (rx : Nat) (qm : Nat) (qx : Nat → Nat → Nat) (gx : Nat → Nat → Int32) (ax : Nat → Nat → Nat → Int32) (qs : Nat) (sx : Nat → Option Nat) (qo : Nat → Nat) (go : Nat → Int32) (ao : Nat → Nat → Int32) (qp : Nat → Nat) (gp_ : Nat → Int32) (ap : Nat → Nat → Int32) (L : va_W) (m : Nat) (v : Nat → Nat) (hm : m ≤ 5) (h : RWS (ao 0) v m) (post : Option Value → va_W → Prop) : ∀ n, n < m → AW E mX5_nextRow 2 0 0 31 [some (.ref kq), some (.int (nI m)), some (.int (nI (nfi v n) - 1)), none, none, none] [] (wK E kq cg qf gf af qd gd ad qk gk ak ql gl al qr gr ar rx qm qx gx ax qs sx qo go ao qp gp_ ap L) post → AW E mX5_nextRow 2 0 0 4 [some (.ref kq), some (.int (nI m)), some (.int (nI n - 1)), none, none, none] [] (wK E kq cg qf gf af qd gd ad qk gk ak ql gl al qr gr ar rx qm qx gx ax qs sx qo go ao qp gp_ ap L) post := by
  intro n
  induction n with
  | zero =>
    intro hn K
    refine A_iload_n (dX5_nextRow 4 rfl) rfl ?_
    refine A_if_lt 31 (dX5_nextRow 5 rfl) (by decide) (fun h5 => ?_) (fun h5 => absurd (show nI 0 - 1 < 0 by decide) h5)
    exact K
  | succ n ih =>
    intro hn K
    rw [nI_pred]
    refine A_iload_n (dX5_nextRow 4 rfl) rfl ?_
    refine A_if_lt 31 (dX5_nextRow 5 rfl) (by decide) (fun h5 => absurd h5 (nI_pos (by omega))) (fun h5 => ?_)
    refine A_aload_n (dX5_nextRow 6 rfl) rfl ?_
    refine A_get (dX5_nextRow 7 rfl) fwX5_56 wK_0 cK_f0_9 ?_
    refine A_iload_n (dX5_nextRow 8 rfl) rfl ?_
    refine A_iald (dX5_nextRow 9 rfl) wK_47 (vp_in_nI (n := n) (by omega) (by decide)) ?_
    refine A_aload_n (dX5_nextRow 10 rfl) rfl ?_
    refine A_get (dX5_nextRow 11 rfl) fwX5_56 wK_0 cK_f0_9 ?_
    refine AW.pcq (pc2 := 18) rfl ?_
    refine A_iload_n (dX5_nextRow 12 rfl) rfl ?_
    refine A_iconst (1) (dX5_nextRow 13 rfl) (by decide +kernel) ?_
    refine A_iadd (dX5_nextRow 14 rfl) ?_
    rw [nI_1]
    refine A_iald (dX5_nextRow 15 rfl) wK_47 (vp_in_nI (n := n + 1) (by omega) (by decide)) ?_
    rw [nI_clamp (n := n) (by omega), nI_clamp (n := n + 1) (by omega), (h (n) (by omega)).2, (h (n + 1) (by omega)).2]
    refine A_icmp_le 31 (dX5_nextRow 16 rfl) (by decide) (fun h22 => ?_) (fun h22 => ?_)
    · have hv : v n < m := (h n (by omega)).1
      have e : v n ≤ v (n + 1) := nIle_of (by omega) h22
      rw [nfi, if_pos e, nI_pred] at K
      exact K
    · have hv : v (n + 1) < m := (h (n + 1) hn).1
      have e : ¬ v n ≤ v (n + 1) := fun z => h22 (nI_le z (by omega))
      rw [nfi, if_neg e] at K
      refine A_iinc (ls2 := [_, _, _, _, _, _]) (nI n - 1) (dX5_nextRow 17 rfl) rfl (sub1 (nI n)) (by decide) rfl rfl ?_
      refine A_goto 4 (dX5_nextRow 18 rfl) (by decide) ?_
      exact ih (by omega) K
