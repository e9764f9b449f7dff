def kbG (gd gf : Nat → Int32) : Nat → Int32 := upd (upd (upd (upd (upd (upd gd 0 (gf 0)) 1 (gf 1)) 2 (gf 2)) 3 (gf 3)) 4 (gf 4)) 3 0
def kbA (ad af : Nat → Nat → Int32) : Nat → Nat → Int32 := (va_up (va_up (va_up (va_up (va_up (va_up ad 0 (va_cpy (af 0) (ad 0) 0 0 12)) 1 (va_cpy (af 1) (ad 1) 0 0 12)) 2 (va_cpy (af 2) (ad 2) 0 0 5)) 3 (va_cpy (af 3) (ad 3) 0 0 5)) 4 (va_cpy (af 4) (ad 4) 0 0 5)) 5 (va_cpy (af 5) (ad 5) 0 0 5))
def kbL (gl : Nat → Int32) : Nat → Int32 := upd (upd (upd gl 0 0) 2 0) 3 0
def p_cr (C : Nat → List Int32) (m : Nat) (gl : Nat → Int32) (n : Nat) (s : FS) : FS := if gl 0 = 0 then p_rounds C n s else p_draws C m (gl 1) n s
theorem p_cr_s (C : Nat → List Int32) (m : Nat) (gl : Nat → Int32) (n : Nat) (s : FS) : p_cr C m gl (n + 1) s = p_round C (if gl 0 = 0 then zro else dzs (zit (n * m) (gl 1))) (p_cr C m gl n s) := by
  unfold p_cr
  by_cases h : gl 0 = 0
  · rw [if_pos h, if_pos h, if_pos h]; rfl
  · rw [if_neg h, if_neg h, if_neg h]; rfl
theorem p_cr_0 {C : Nat → List Int32} {m : Nat} {gl : Nat → Int32} {s : FS} : p_cr C m gl 0 s = s := by unfold p_cr; split <;> rfl
theorem MEN.next {s : FS} {m : Nat} (h : MEN s m) : MEN (p_next s) m := h
theorem MEN.round {s : FS} {m : Nat} (h : MEN s m) (C : Nat → List Int32) (lt : Nat → Int32) : MEN (p_round C lt s) m := h.turns C lt _
theorem MEN.cr {s : FS} {m : Nat} (h : MEN s m) (C : Nat → List Int32) (m2 : Nat) (gl : Nat → Int32) : ∀ n, MEN (p_cr C m2 gl n s) m := by
  intro n
  induction n with
  | zero => rw [p_cr_0]; exact h
  | succ n ih => rw [p_cr_s]; exact ih.round C _
theorem FI.cr {s : FS} {m : Nat} (h : FI s m) (C : Nat → List Int32) (m2 : Nat) (gl : Nat → Int32) : ∀ n, FI (p_cr C m2 gl n s) m := by
  intro n
  induction n with
  | zero => rw [p_cr_0]; exact h
  | succ n ih => rw [p_cr_s]; exact ih.round C _
theorem p_round_1 {C : Nat → List Int32} {lt : Nat → Int32} {s : FS} : (p_round C lt s).1 1 = s.1 1 := p_turns_G (k := 1) (by decide) _
theorem p_cr_1 {C : Nat → List Int32} {m : Nat} {gl : Nat → Int32} {s : FS} : ∀ n, (p_cr C m gl n s).1 1 = s.1 1 := by
  intro n
  induction n with
  | zero => rw [p_cr_0]
  | succ n ih => rw [p_cr_s, p_round_1, ih]
set_option maxRecDepth 100000 in
set_option maxHeartbeats 400000 in
theorem K_isMan (E : ag) (kq : Nat) (cg : Nat → Int32) (qf : Nat → Nat) (gf : Nat → Int32) (af : Nat → Nat → Int32) (qd : Nat → Nat) (gd : Nat → Int32) (ad : Nat → Nat → Int32) (qk : Nat → Nat) (gk : Nat → Int32) (ak : Nat → Nat → Int32) (ql : Nat → Nat) (gl : Nat → Int32) (al : Nat → Nat → Int32) (qr : Nat → Nat) (gr : Nat → Int32) (ar : Nat → Nat → Int32) (rx : Nat) (qm : Nat) (qx : Nat → Nat → Nat) (gx : Nat → Nat → Int32) (ax : Nat → Nat → Nat → Int32) (qs : Nat) (sx : Nat → Option Nat) (qo : Nat → Nat) (go : Nat → Int32) (ao : Nat → Nat → Int32) (qp : Nat → Nat) (gp_ : Nat → Int32) (ap : Nat → Nat → Int32) (L : va_W) (i : Int32) (m : Nat) (hm : m ≤ 5) (hg : gf 0 = nI m) : CT E yX5_isMan cX5_isMan 2 mX5_isMan.2.2.2.1 1 0 0 [.ref kq, .int i] (wK E kq cg qf gf af qd gd ad qk gk ak ql gl al qr gr ar rx qm qx gx ax qs sx qo go ao qp gp_ ap L) (ri (fun r w => r = inI i 0 (gf 0 - 1) ∧ w = wK E kq cg qf gf af qd gd ad qk gk ak ql gl al qr gr ar rx qm qx gx ax qs sx qo go ao qp gp_ ap L)) := by
  refine CT.of (M := mX5_isMan) (ls := [some (.ref kq), some (.int i)]) (by decide) rfl (by decide) rfl (Nat.le_of_ble_eq_true rfl) ?_
  refine A_iload_n (dX5_isMan 0 rfl) rfl ?_
  refine A_if_lt 19 (dX5_isMan 1 rfl) (by decide) (fun h1 => ?_) (fun h1 => ?_)
  · refine A_iconst (0) (dX5_isMan 9 rfl) (by decide +kernel) ?_
    refine A_ri (dX5_isMan 10 rfl) rfl (by decide) ?_
    refine ⟨?_, rfl⟩
    rw [hg] at *
    first | exact (inI_lo (fun z => absurd z (Int32.not_le.mpr (by assumption)))).symm | exact (inI_hi (fun z => absurd ((le_m1 hm).mpr z) (Int32.not_lt.mpr (by assumption)))).symm | exact (inI_of (Int32.not_lt.mp (by assumption)) ((le_m1 hm).mp (by first | assumption | exact Int32.not_le.mp (by assumption)))).symm
  · refine A_iload_n (dX5_isMan 2 rfl) rfl ?_
    refine A_aload_n (dX5_isMan 3 rfl) rfl ?_
    refine A_get (dX5_isMan 4 rfl) fwX5_10 wK_0 cK_f0_0 ?_
    refine A_get (dX5_isMan 5 rfl) fwX5_91 wK_1 cF_f0_6 ?_
    refine A_icmp_ge 19 (dX5_isMan 6 rfl) (by decide) (fun h12 => ?_) (fun h12 => ?_)
    · refine A_iconst (0) (dX5_isMan 9 rfl) (by decide +kernel) ?_
      refine A_ri (dX5_isMan 10 rfl) rfl (by decide) ?_
      refine ⟨?_, rfl⟩
      rw [hg] at *
      first | exact (inI_lo (fun z => absurd z (Int32.not_le.mpr (by assumption)))).symm | exact (inI_hi (fun z => absurd ((le_m1 hm).mpr z) (Int32.not_lt.mpr (by assumption)))).symm | exact (inI_of (Int32.not_lt.mp (by assumption)) ((le_m1 hm).mp (by first | assumption | exact Int32.not_le.mp (by assumption)))).symm
    · refine A_iconst (1) (dX5_isMan 7 rfl) (by decide +kernel) ?_
      refine A_goto 20 (dX5_isMan 8 rfl) (by decide) ?_
      refine A_ri (dX5_isMan 10 rfl) rfl (by decide) ?_
      refine ⟨?_, rfl⟩
      rw [hg] at *
      first | exact (inI_lo (fun z => absurd z (Int32.not_le.mpr (by assumption)))).symm | exact (inI_hi (fun z => absurd ((le_m1 hm).mpr z) (Int32.not_lt.mpr (by assumption)))).symm | exact (inI_of (Int32.not_lt.mp (by assumption)) ((le_m1 hm).mp (by first | assumption | exact Int32.not_le.mp (by assumption)))).symm

set_option maxRecDepth 100000 in
theorem k_under0 (E : ag) (ws : va_W) (k : Int32) : CT E yX5_isUnder cX5_isUnder 4 mX5_isUnder.2.2.2.1 1 0 0 [.int 0, .int k] ws (ri (fun r w => ((und 0 k ∧ r = 1) ∨ (¬ und 0 k ∧ r = 0)) ∧ w = ws)) := by
  refine CT.of (M := mX5_isUnder) (ls := [some (.int 0), some (.int k), none, none]) (by decide) rfl (by decide) rfl (Nat.le_of_ble_eq_true rfl) ?_
  refine A_iload_n (dX5_isUnder 0 rfl) rfl ?_
  refine A_istore_n (ls2 := [_, _, _, _]) (dX5_isUnder 1 rfl) (by decide) rfl rfl ?_
  refine A_iconst 0 (dX5_isUnder 2 rfl) (by decide +kernel) ?_
  refine A_istore_n (ls2 := [_, _, _, _]) (dX5_isUnder 3 rfl) (by decide) rfl rfl ?_
  refine AW.loc (ls2 := [some (.int 0), some (.int k), some (.int 0), some (.int 0)]) rfl ?_
  refine A_iload_n (dX5_isUnder 4 rfl) rfl ?_
  refine A_above (dX5_isUnder 5 rfl) fsX5_252 ?_
  refine A_ablen (dX5_isUnder 6 rfl) ?_
  refine A_icmp_ge 43 (dX5_isUnder 7 rfl) (by decide) (fun h9 => absurd h9 (by decide)) (fun h9 => ?_)
  refine A_iload_n (dX5_isUnder 8 rfl) rfl ?_
  refine A_if_lt 43 (dX5_isUnder 9 rfl) (by decide) (fun h13 => absurd h13 (by decide)) (fun h13 => ?_)
  refine A_iload_n (dX5_isUnder 10 rfl) rfl ?_
  refine A_above (dX5_isUnder 11 rfl) fsX5_252 ?_
  refine AW.pcq (pc2 := 20) rfl ?_
  refine A_ablen (dX5_isUnder 12 rfl) ?_
  refine A_icmp_ge 43 (dX5_isUnder 13 rfl) (by decide) (fun h21 => absurd h21 (by decide)) (fun h21 => ?_)
  refine A_iload_n (dX5_isUnder 14 rfl) rfl ?_
  refine A_iload_n (dX5_isUnder 15 rfl) rfl ?_
  refine A_icmp_ne 31 (dX5_isUnder 16 rfl) (by decide) (fun e0 => ?_) (fun e0 => ?_)
  · refine A_above (dX5_isUnder 19 rfl) fsX5_252 ?_
    refine A_iload_n (dX5_isUnder 20 rfl) rfl ?_
    refine A_abld (dX5_isUnder 21 rfl) (by unfold vp_in; decide) ?_
    refine A_istore_n (ls2 := [_, _, _, _]) (dX5_isUnder 22 rfl) (by decide) rfl rfl ?_
    refine A_iinc (ls2 := [_, _, _, _]) (1) (dX5_isUnder 23 rfl) rfl (by decide) (by decide) rfl rfl ?_
    refine A_goto 4 (dX5_isUnder 24 rfl) (by decide) ?_
    refine AW.loc (ls2 := [some (.int 0), some (.int k), some (.int (-1)), some (.int 1)]) rfl ?_
    refine A_iload_n (dX5_isUnder 4 rfl) rfl ?_
    refine A_above (dX5_isUnder 5 rfl) fsX5_252 ?_
    refine A_ablen (dX5_isUnder 6 rfl) ?_
    refine A_icmp_ge 43 (dX5_isUnder 7 rfl) (by decide) (fun h9 => absurd h9 (by decide)) (fun h9 => ?_)
    refine A_iload_n (dX5_isUnder 8 rfl) rfl ?_
    refine A_if_lt 43 (dX5_isUnder 9 rfl) (by decide) (fun h13 => ?_) (fun h13 => absurd (by decide) h13)
    refine A_iconst (0) (dX5_isUnder 25 rfl) (by decide +kernel) ?_
    refine A_ri (dX5_isUnder 26 rfl) rfl (by decide) ?_
    refine ⟨Or.inr ⟨?_, rfl⟩, rfl⟩
    unfold und
    intro z
    rcases z with z | ⟨z0, z⟩ | ⟨z0, z⟩ | ⟨z0, z | z⟩ | ⟨z0, z | z⟩ | ⟨z0, z | z | z⟩ <;> subst_vars <;> first | contradiction | (revert z0; decide)
  · refine A_iconst (1) (dX5_isUnder 17 rfl) (by decide +kernel) ?_
    refine A_ri (dX5_isUnder 18 rfl) rfl (by decide) ?_
    exact ⟨Or.inl ⟨by unfold und; subst_vars; decide, rfl⟩, rfl⟩
set_option maxRecDepth 100000 in
theorem k_under1 (E : ag) (ws : va_W) (k : Int32) : CT E yX5_isUnder cX5_isUnder 4 mX5_isUnder.2.2.2.1 1 0 0 [.int 1, .int k] ws (ri (fun r w => ((und 1 k ∧ r = 1) ∨ (¬ und 1 k ∧ r = 0)) ∧ w = ws)) := by
  refine CT.of (M := mX5_isUnder) (ls := [some (.int 1), some (.int k), none, none]) (by decide) rfl (by decide) rfl (Nat.le_of_ble_eq_true rfl) ?_
  refine A_iload_n (dX5_isUnder 0 rfl) rfl ?_
  refine A_istore_n (ls2 := [_, _, _, _]) (dX5_isUnder 1 rfl) (by decide) rfl rfl ?_
  refine A_iconst 0 (dX5_isUnder 2 rfl) (by decide +kernel) ?_
  refine A_istore_n (ls2 := [_, _, _, _]) (dX5_isUnder 3 rfl) (by decide) rfl rfl ?_
  refine AW.loc (ls2 := [some (.int 1), some (.int k), some (.int 1), some (.int 0)]) rfl ?_
  refine A_iload_n (dX5_isUnder 4 rfl) rfl ?_
  refine A_above (dX5_isUnder 5 rfl) fsX5_252 ?_
  refine A_ablen (dX5_isUnder 6 rfl) ?_
  refine A_icmp_ge 43 (dX5_isUnder 7 rfl) (by decide) (fun h9 => absurd h9 (by decide)) (fun h9 => ?_)
  refine A_iload_n (dX5_isUnder 8 rfl) rfl ?_
  refine A_if_lt 43 (dX5_isUnder 9 rfl) (by decide) (fun h13 => absurd h13 (by decide)) (fun h13 => ?_)
  refine A_iload_n (dX5_isUnder 10 rfl) rfl ?_
  refine A_above (dX5_isUnder 11 rfl) fsX5_252 ?_
  refine AW.pcq (pc2 := 20) rfl ?_
  refine A_ablen (dX5_isUnder 12 rfl) ?_
  refine A_icmp_ge 43 (dX5_isUnder 13 rfl) (by decide) (fun h21 => absurd h21 (by decide)) (fun h21 => ?_)
  refine A_iload_n (dX5_isUnder 14 rfl) rfl ?_
  refine A_iload_n (dX5_isUnder 15 rfl) rfl ?_
  refine A_icmp_ne 31 (dX5_isUnder 16 rfl) (by decide) (fun e0 => ?_) (fun e0 => ?_)
  · refine A_above (dX5_isUnder 19 rfl) fsX5_252 ?_
    refine A_iload_n (dX5_isUnder 20 rfl) rfl ?_
    refine A_abld (dX5_isUnder 21 rfl) (by unfold vp_in; decide) ?_
    refine A_istore_n (ls2 := [_, _, _, _]) (dX5_isUnder 22 rfl) (by decide) rfl rfl ?_
    refine A_iinc (ls2 := [_, _, _, _]) (1) (dX5_isUnder 23 rfl) rfl (by decide) (by decide) rfl rfl ?_
    refine A_goto 4 (dX5_isUnder 24 rfl) (by decide) ?_
    refine AW.loc (ls2 := [some (.int 1), some (.int k), some (.int (0)), some (.int 1)]) rfl ?_
    refine A_iload_n (dX5_isUnder 4 rfl) rfl ?_
    refine A_above (dX5_isUnder 5 rfl) fsX5_252 ?_
    refine A_ablen (dX5_isUnder 6 rfl) ?_
    refine A_icmp_ge 43 (dX5_isUnder 7 rfl) (by decide) (fun h9 => absurd h9 (by decide)) (fun h9 => ?_)
    refine A_iload_n (dX5_isUnder 8 rfl) rfl ?_
    refine A_if_lt 43 (dX5_isUnder 9 rfl) (by decide) (fun h13 => absurd h13 (by decide)) (fun h13 => ?_)
    refine A_iload_n (dX5_isUnder 10 rfl) rfl ?_
    refine A_above (dX5_isUnder 11 rfl) fsX5_252 ?_
    refine AW.pcq (pc2 := 20) rfl ?_
    refine A_ablen (dX5_isUnder 12 rfl) ?_
    refine A_icmp_ge 43 (dX5_isUnder 13 rfl) (by decide) (fun h21 => absurd h21 (by decide)) (fun h21 => ?_)
    refine A_iload_n (dX5_isUnder 14 rfl) rfl ?_
    refine A_iload_n (dX5_isUnder 15 rfl) rfl ?_
    refine A_icmp_ne 31 (dX5_isUnder 16 rfl) (by decide) (fun e1 => ?_) (fun e1 => ?_)
    · refine A_above (dX5_isUnder 19 rfl) fsX5_252 ?_
      refine A_iload_n (dX5_isUnder 20 rfl) rfl ?_
      refine A_abld (dX5_isUnder 21 rfl) (by unfold vp_in; decide) ?_
      refine A_istore_n (ls2 := [_, _, _, _]) (dX5_isUnder 22 rfl) (by decide) rfl rfl ?_
      refine A_iinc (ls2 := [_, _, _, _]) (2) (dX5_isUnder 23 rfl) rfl (by decide) (by decide) rfl rfl ?_
      refine A_goto 4 (dX5_isUnder 24 rfl) (by decide) ?_
      refine AW.loc (ls2 := [some (.int 1), some (.int k), some (.int (-1)), some (.int 2)]) rfl ?_
      refine A_iload_n (dX5_isUnder 4 rfl) rfl ?_
      refine A_above (dX5_isUnder 5 rfl) fsX5_252 ?_
      refine A_ablen (dX5_isUnder 6 rfl) ?_
      refine A_icmp_ge 43 (dX5_isUnder 7 rfl) (by decide) (fun h9 => absurd h9 (by decide)) (fun h9 => ?_)
      refine A_iload_n (dX5_isUnder 8 rfl) rfl ?_
      refine A_if_lt 43 (dX5_isUnder 9 rfl) (by decide) (fun h13 => ?_) (fun h13 => absurd (by decide) h13)
      refine A_iconst (0) (dX5_isUnder 25 rfl) (by decide +kernel) ?_
      refine A_ri (dX5_isUnder 26 rfl) rfl (by decide) ?_
      refine ⟨Or.inr ⟨?_, rfl⟩, rfl⟩
      unfold und
      intro z
      rcases z with z | ⟨z0, z⟩ | ⟨z0, z⟩ | ⟨z0, z | z⟩ | ⟨z0, z | z⟩ | ⟨z0, z | z | z⟩ <;> subst_vars <;> first | contradiction | (revert z0; decide)
    · refine A_iconst (1) (dX5_isUnder 17 rfl) (by decide +kernel) ?_
      refine A_ri (dX5_isUnder 18 rfl) rfl (by decide) ?_
      exact ⟨Or.inl ⟨by unfold und; subst_vars; decide, rfl⟩, rfl⟩
  · refine A_iconst (1) (dX5_isUnder 17 rfl) (by decide +kernel) ?_
    refine A_ri (dX5_isUnder 18 rfl) rfl (by decide) ?_
    exact ⟨Or.inl ⟨by unfold und; subst_vars; decide, rfl⟩, rfl⟩
set_option maxRecDepth 100000 in
theorem k_under2 (E : ag) (ws : va_W) (k : Int32) : CT E yX5_isUnder cX5_isUnder 4 mX5_isUnder.2.2.2.1 1 0 0 [.int 2, .int k] ws (ri (fun r w => ((und 2 k ∧ r = 1) ∨ (¬ und 2 k ∧ r = 0)) ∧ w = ws)) := by
  refine CT.of (M := mX5_isUnder) (ls := [some (.int 2), some (.int k), none, none]) (by decide) rfl (by decide) rfl (Nat.le_of_ble_eq_true rfl) ?_
  refine A_iload_n (dX5_isUnder 0 rfl) rfl ?_
  refine A_istore_n (ls2 := [_, _, _, _]) (dX5_isUnder 1 rfl) (by decide) rfl rfl ?_
  refine A_iconst 0 (dX5_isUnder 2 rfl) (by decide +kernel) ?_
  refine A_istore_n (ls2 := [_, _, _, _]) (dX5_isUnder 3 rfl) (by decide) rfl rfl ?_
  refine AW.loc (ls2 := [some (.int 2), some (.int k), some (.int 2), some (.int 0)]) rfl ?_
  refine A_iload_n (dX5_isUnder 4 rfl) rfl ?_
  refine A_above (dX5_isUnder 5 rfl) fsX5_252 ?_
  refine A_ablen (dX5_isUnder 6 rfl) ?_
  refine A_icmp_ge 43 (dX5_isUnder 7 rfl) (by decide) (fun h9 => absurd h9 (by decide)) (fun h9 => ?_)
  refine A_iload_n (dX5_isUnder 8 rfl) rfl ?_
  refine A_if_lt 43 (dX5_isUnder 9 rfl) (by decide) (fun h13 => absurd h13 (by decide)) (fun h13 => ?_)
  refine A_iload_n (dX5_isUnder 10 rfl) rfl ?_
  refine A_above (dX5_isUnder 11 rfl) fsX5_252 ?_
  refine AW.pcq (pc2 := 20) rfl ?_
  refine A_ablen (dX5_isUnder 12 rfl) ?_
  refine A_icmp_ge 43 (dX5_isUnder 13 rfl) (by decide) (fun h21 => absurd h21 (by decide)) (fun h21 => ?_)
  refine A_iload_n (dX5_isUnder 14 rfl) rfl ?_
  refine A_iload_n (dX5_isUnder 15 rfl) rfl ?_
  refine A_icmp_ne 31 (dX5_isUnder 16 rfl) (by decide) (fun e0 => ?_) (fun e0 => ?_)
  · refine A_above (dX5_isUnder 19 rfl) fsX5_252 ?_
    refine A_iload_n (dX5_isUnder 20 rfl) rfl ?_
    refine A_abld (dX5_isUnder 21 rfl) (by unfold vp_in; decide) ?_
    refine A_istore_n (ls2 := [_, _, _, _]) (dX5_isUnder 22 rfl) (by decide) rfl rfl ?_
    refine A_iinc (ls2 := [_, _, _, _]) (1) (dX5_isUnder 23 rfl) rfl (by decide) (by decide) rfl rfl ?_
    refine A_goto 4 (dX5_isUnder 24 rfl) (by decide) ?_
    refine AW.loc (ls2 := [some (.int 2), some (.int k), some (.int (0)), some (.int 1)]) rfl ?_
    refine A_iload_n (dX5_isUnder 4 rfl) rfl ?_
    refine A_above (dX5_isUnder 5 rfl) fsX5_252 ?_
    refine A_ablen (dX5_isUnder 6 rfl) ?_
    refine A_icmp_ge 43 (dX5_isUnder 7 rfl) (by decide) (fun h9 => absurd h9 (by decide)) (fun h9 => ?_)
    refine A_iload_n (dX5_isUnder 8 rfl) rfl ?_
    refine A_if_lt 43 (dX5_isUnder 9 rfl) (by decide) (fun h13 => absurd h13 (by decide)) (fun h13 => ?_)
    refine A_iload_n (dX5_isUnder 10 rfl) rfl ?_
    refine A_above (dX5_isUnder 11 rfl) fsX5_252 ?_
    refine AW.pcq (pc2 := 20) rfl ?_
    refine A_ablen (dX5_isUnder 12 rfl) ?_
    refine A_icmp_ge 43 (dX5_isUnder 13 rfl) (by decide) (fun h21 => absurd h21 (by decide)) (fun h21 => ?_)
    refine A_iload_n (dX5_isUnder 14 rfl) rfl ?_
    refine A_iload_n (dX5_isUnder 15 rfl) rfl ?_
    refine A_icmp_ne 31 (dX5_isUnder 16 rfl) (by decide) (fun e1 => ?_) (fun e1 => ?_)
    · refine A_above (dX5_isUnder 19 rfl) fsX5_252 ?_
      refine A_iload_n (dX5_isUnder 20 rfl) rfl ?_
      refine A_abld (dX5_isUnder 21 rfl) (by unfold vp_in; decide) ?_
      refine A_istore_n (ls2 := [_, _, _, _]) (dX5_isUnder 22 rfl) (by decide) rfl rfl ?_
      refine A_iinc (ls2 := [_, _, _, _]) (2) (dX5_isUnder 23 rfl) rfl (by decide) (by decide) rfl rfl ?_
      refine A_goto 4 (dX5_isUnder 24 rfl) (by decide) ?_
      refine AW.loc (ls2 := [some (.int 2), some (.int k), some (.int (-1)), some (.int 2)]) rfl ?_
      refine A_iload_n (dX5_isUnder 4 rfl) rfl ?_
      refine A_above (dX5_isUnder 5 rfl) fsX5_252 ?_
      refine A_ablen (dX5_isUnder 6 rfl) ?_
      refine A_icmp_ge 43 (dX5_isUnder 7 rfl) (by decide) (fun h9 => absurd h9 (by decide)) (fun h9 => ?_)
      refine A_iload_n (dX5_isUnder 8 rfl) rfl ?_
      refine A_if_lt 43 (dX5_isUnder 9 rfl) (by decide) (fun h13 => ?_) (fun h13 => absurd (by decide) h13)
      refine A_iconst (0) (dX5_isUnder 25 rfl) (by decide +kernel) ?_
      refine A_ri (dX5_isUnder 26 rfl) rfl (by decide) ?_
      refine ⟨Or.inr ⟨?_, rfl⟩, rfl⟩
      unfold und
      intro z
      rcases z with z | ⟨z0, z⟩ | ⟨z0, z⟩ | ⟨z0, z | z⟩ | ⟨z0, z | z⟩ | ⟨z0, z | z | z⟩ <;> subst_vars <;> first | contradiction | (revert z0; decide)
    · refine A_iconst (1) (dX5_isUnder 17 rfl) (by decide +kernel) ?_
      refine A_ri (dX5_isUnder 18 rfl) rfl (by decide) ?_
      exact ⟨Or.inl ⟨by unfold und; subst_vars; decide, rfl⟩, rfl⟩
  · refine A_iconst (1) (dX5_isUnder 17 rfl) (by decide +kernel) ?_
    refine A_ri (dX5_isUnder 18 rfl) rfl (by decide) ?_
    exact ⟨Or.inl ⟨by unfold und; subst_vars; decide, rfl⟩, rfl⟩
set_option maxRecDepth 100000 in
theorem k_under3 (E : ag) (ws : va_W) (k : Int32) : CT E yX5_isUnder cX5_isUnder 4 mX5_isUnder.2.2.2.1 1 0 0 [.int 3, .int k] ws (ri (fun r w => ((und 3 k ∧ r = 1) ∨ (¬ und 3 k ∧ r = 0)) ∧ w = ws)) := by
  refine CT.of (M := mX5_isUnder) (ls := [some (.int 3), some (.int k), none, none]) (by decide) rfl (by decide) rfl (Nat.le_of_ble_eq_true rfl) ?_
  refine A_iload_n (dX5_isUnder 0 rfl) rfl ?_
  refine A_istore_n (ls2 := [_, _, _, _]) (dX5_isUnder 1 rfl) (by decide) rfl rfl ?_
  refine A_iconst 0 (dX5_isUnder 2 rfl) (by decide +kernel) ?_
  refine A_istore_n (ls2 := [_, _, _, _]) (dX5_isUnder 3 rfl) (by decide) rfl rfl ?_
  refine AW.loc (ls2 := [some (.int 3), some (.int k), some (.int 3), some (.int 0)]) rfl ?_
  refine A_iload_n (dX5_isUnder 4 rfl) rfl ?_
  refine A_above (dX5_isUnder 5 rfl) fsX5_252 ?_
  refine A_ablen (dX5_isUnder 6 rfl) ?_
  refine A_icmp_ge 43 (dX5_isUnder 7 rfl) (by decide) (fun h9 => absurd h9 (by decide)) (fun h9 => ?_)
  refine A_iload_n (dX5_isUnder 8 rfl) rfl ?_
  refine A_if_lt 43 (dX5_isUnder 9 rfl) (by decide) (fun h13 => absurd h13 (by decide)) (fun h13 => ?_)
  refine A_iload_n (dX5_isUnder 10 rfl) rfl ?_
  refine A_above (dX5_isUnder 11 rfl) fsX5_252 ?_
  refine AW.pcq (pc2 := 20) rfl ?_
  refine A_ablen (dX5_isUnder 12 rfl) ?_
  refine A_icmp_ge 43 (dX5_isUnder 13 rfl) (by decide) (fun h21 => absurd h21 (by decide)) (fun h21 => ?_)
  refine A_iload_n (dX5_isUnder 14 rfl) rfl ?_
  refine A_iload_n (dX5_isUnder 15 rfl) rfl ?_
  refine A_icmp_ne 31 (dX5_isUnder 16 rfl) (by decide) (fun e0 => ?_) (fun e0 => ?_)
  · refine A_above (dX5_isUnder 19 rfl) fsX5_252 ?_
    refine A_iload_n (dX5_isUnder 20 rfl) rfl ?_
    refine A_abld (dX5_isUnder 21 rfl) (by unfold vp_in; decide) ?_
    refine A_istore_n (ls2 := [_, _, _, _]) (dX5_isUnder 22 rfl) (by decide) rfl rfl ?_
    refine A_iinc (ls2 := [_, _, _, _]) (1) (dX5_isUnder 23 rfl) rfl (by decide) (by decide) rfl rfl ?_
    refine A_goto 4 (dX5_isUnder 24 rfl) (by decide) ?_
    refine AW.loc (ls2 := [some (.int 3), some (.int k), some (.int (2)), some (.int 1)]) rfl ?_
    refine A_iload_n (dX5_isUnder 4 rfl) rfl ?_
    refine A_above (dX5_isUnder 5 rfl) fsX5_252 ?_
    refine A_ablen (dX5_isUnder 6 rfl) ?_
    refine A_icmp_ge 43 (dX5_isUnder 7 rfl) (by decide) (fun h9 => absurd h9 (by decide)) (fun h9 => ?_)
    refine A_iload_n (dX5_isUnder 8 rfl) rfl ?_
    refine A_if_lt 43 (dX5_isUnder 9 rfl) (by decide) (fun h13 => absurd h13 (by decide)) (fun h13 => ?_)
    refine A_iload_n (dX5_isUnder 10 rfl) rfl ?_
    refine A_above (dX5_isUnder 11 rfl) fsX5_252 ?_
    refine AW.pcq (pc2 := 20) rfl ?_
    refine A_ablen (dX5_isUnder 12 rfl) ?_
    refine A_icmp_ge 43 (dX5_isUnder 13 rfl) (by decide) (fun h21 => absurd h21 (by decide)) (fun h21 => ?_)
    refine A_iload_n (dX5_isUnder 14 rfl) rfl ?_
    refine A_iload_n (dX5_isUnder 15 rfl) rfl ?_
    refine A_icmp_ne 31 (dX5_isUnder 16 rfl) (by decide) (fun e1 => ?_) (fun e1 => ?_)
    · refine A_above (dX5_isUnder 19 rfl) fsX5_252 ?_
      refine A_iload_n (dX5_isUnder 20 rfl) rfl ?_
      refine A_abld (dX5_isUnder 21 rfl) (by unfold vp_in; decide) ?_
      refine A_istore_n (ls2 := [_, _, _, _]) (dX5_isUnder 22 rfl) (by decide) rfl rfl ?_
      refine A_iinc (ls2 := [_, _, _, _]) (2) (dX5_isUnder 23 rfl) rfl (by decide) (by decide) rfl rfl ?_
      refine A_goto 4 (dX5_isUnder 24 rfl) (by decide) ?_
      refine AW.loc (ls2 := [some (.int 3), some (.int k), some (.int (0)), some (.int 2)]) rfl ?_
      refine A_iload_n (dX5_isUnder 4 rfl) rfl ?_
      refine A_above (dX5_isUnder 5 rfl) fsX5_252 ?_
      refine A_ablen (dX5_isUnder 6 rfl) ?_
      refine A_icmp_ge 43 (dX5_isUnder 7 rfl) (by decide) (fun h9 => absurd h9 (by decide)) (fun h9 => ?_)
      refine A_iload_n (dX5_isUnder 8 rfl) rfl ?_
      refine A_if_lt 43 (dX5_isUnder 9 rfl) (by decide) (fun h13 => absurd h13 (by decide)) (fun h13 => ?_)
      refine A_iload_n (dX5_isUnder 10 rfl) rfl ?_
      refine A_above (dX5_isUnder 11 rfl) fsX5_252 ?_
      refine AW.pcq (pc2 := 20) rfl ?_
      refine A_ablen (dX5_isUnder 12 rfl) ?_
      refine A_icmp_ge 43 (dX5_isUnder 13 rfl) (by decide) (fun h21 => absurd h21 (by decide)) (fun h21 => ?_)
      refine A_iload_n (dX5_isUnder 14 rfl) rfl ?_
      refine A_iload_n (dX5_isUnder 15 rfl) rfl ?_
      refine A_icmp_ne 31 (dX5_isUnder 16 rfl) (by decide) (fun e2 => ?_) (fun e2 => ?_)
      · refine A_above (dX5_isUnder 19 rfl) fsX5_252 ?_
        refine A_iload_n (dX5_isUnder 20 rfl) rfl ?_
        refine A_abld (dX5_isUnder 21 rfl) (by unfold vp_in; decide) ?_
        refine A_istore_n (ls2 := [_, _, _, _]) (dX5_isUnder 22 rfl) (by decide) rfl rfl ?_
        refine A_iinc (ls2 := [_, _, _, _]) (3) (dX5_isUnder 23 rfl) rfl (by decide) (by decide) rfl rfl ?_
        refine A_goto 4 (dX5_isUnder 24 rfl) (by decide) ?_
        refine AW.loc (ls2 := [some (.int 3), some (.int k), some (.int (-1)), some (.int 3)]) rfl ?_
        refine A_iload_n (dX5_isUnder 4 rfl) rfl ?_
        refine A_above (dX5_isUnder 5 rfl) fsX5_252 ?_
        refine A_ablen (dX5_isUnder 6 rfl) ?_
        refine A_icmp_ge 43 (dX5_isUnder 7 rfl) (by decide) (fun h9 => absurd h9 (by decide)) (fun h9 => ?_)
        refine A_iload_n (dX5_isUnder 8 rfl) rfl ?_
        refine A_if_lt 43 (dX5_isUnder 9 rfl) (by decide) (fun h13 => ?_) (fun h13 => absurd (by decide) h13)
        refine A_iconst (0) (dX5_isUnder 25 rfl) (by decide +kernel) ?_
        refine A_ri (dX5_isUnder 26 rfl) rfl (by decide) ?_
        refine ⟨Or.inr ⟨?_, rfl⟩, rfl⟩
        unfold und
        intro z
        rcases z with z | ⟨z0, z⟩ | ⟨z0, z⟩ | ⟨z0, z | z⟩ | ⟨z0, z | z⟩ | ⟨z0, z | z | z⟩ <;> subst_vars <;> first | contradiction | (revert z0; decide)
      · refine A_iconst (1) (dX5_isUnder 17 rfl) (by decide +kernel) ?_
        refine A_ri (dX5_isUnder 18 rfl) rfl (by decide) ?_
        exact ⟨Or.inl ⟨by unfold und; subst_vars; decide, rfl⟩, rfl⟩
    · refine A_iconst (1) (dX5_isUnder 17 rfl) (by decide +kernel) ?_
      refine A_ri (dX5_isUnder 18 rfl) rfl (by decide) ?_
      exact ⟨Or.inl ⟨by unfold und; subst_vars; decide, rfl⟩, rfl⟩
  · refine A_iconst (1) (dX5_isUnder 17 rfl) (by decide +kernel) ?_
    refine A_ri (dX5_isUnder 18 rfl) rfl (by decide) ?_
    exact ⟨Or.inl ⟨by unfold und; subst_vars; decide, rfl⟩, rfl⟩
set_option maxRecDepth 100000 in
theorem k_under4 (E : ag) (ws : va_W) (k : Int32) : CT E yX5_isUnder cX5_isUnder 4 mX5_isUnder.2.2.2.1 1 0 0 [.int 4, .int k] ws (ri (fun r w => ((und 4 k ∧ r = 1) ∨ (¬ und 4 k ∧ r = 0)) ∧ w = ws)) := by
  refine CT.of (M := mX5_isUnder) (ls := [some (.int 4), some (.int k), none, none]) (by decide) rfl (by decide) rfl (Nat.le_of_ble_eq_true rfl) ?_
  refine A_iload_n (dX5_isUnder 0 rfl) rfl ?_
  refine A_istore_n (ls2 := [_, _, _, _]) (dX5_isUnder 1 rfl) (by decide) rfl rfl ?_
  refine A_iconst 0 (dX5_isUnder 2 rfl) (by decide +kernel) ?_
  refine A_istore_n (ls2 := [_, _, _, _]) (dX5_isUnder 3 rfl) (by decide) rfl rfl ?_
  refine AW.loc (ls2 := [some (.int 4), some (.int k), some (.int 4), some (.int 0)]) rfl ?_
  refine A_iload_n (dX5_isUnder 4 rfl) rfl ?_
  refine A_above (dX5_isUnder 5 rfl) fsX5_252 ?_
  refine A_ablen (dX5_isUnder 6 rfl) ?_
  refine A_icmp_ge 43 (dX5_isUnder 7 rfl) (by decide) (fun h9 => absurd h9 (by decide)) (fun h9 => ?_)
  refine A_iload_n (dX5_isUnder 8 rfl) rfl ?_
  refine A_if_lt 43 (dX5_isUnder 9 rfl) (by decide) (fun h13 => absurd h13 (by decide)) (fun h13 => ?_)
  refine A_iload_n (dX5_isUnder 10 rfl) rfl ?_
  refine A_above (dX5_isUnder 11 rfl) fsX5_252 ?_
  refine AW.pcq (pc2 := 20) rfl ?_
  refine A_ablen (dX5_isUnder 12 rfl) ?_
  refine A_icmp_ge 43 (dX5_isUnder 13 rfl) (by decide) (fun h21 => absurd h21 (by decide)) (fun h21 => ?_)
  refine A_iload_n (dX5_isUnder 14 rfl) rfl ?_
  refine A_iload_n (dX5_isUnder 15 rfl) rfl ?_
  refine A_icmp_ne 31 (dX5_isUnder 16 rfl) (by decide) (fun e0 => ?_) (fun e0 => ?_)
  · refine A_above (dX5_isUnder 19 rfl) fsX5_252 ?_
    refine A_iload_n (dX5_isUnder 20 rfl) rfl ?_
    refine A_abld (dX5_isUnder 21 rfl) (by unfold vp_in; decide) ?_
    refine A_istore_n (ls2 := [_, _, _, _]) (dX5_isUnder 22 rfl) (by decide) rfl rfl ?_
    refine A_iinc (ls2 := [_, _, _, _]) (1) (dX5_isUnder 23 rfl) rfl (by decide) (by decide) rfl rfl ?_
    refine A_goto 4 (dX5_isUnder 24 rfl) (by decide) ?_
    refine AW.loc (ls2 := [some (.int 4), some (.int k), some (.int (1)), some (.int 1)]) rfl ?_
    refine A_iload_n (dX5_isUnder 4 rfl) rfl ?_
    refine A_above (dX5_isUnder 5 rfl) fsX5_252 ?_
    refine A_ablen (dX5_isUnder 6 rfl) ?_
    refine A_icmp_ge 43 (dX5_isUnder 7 rfl) (by decide) (fun h9 => absurd h9 (by decide)) (fun h9 => ?_)
    refine A_iload_n (dX5_isUnder 8 rfl) rfl ?_
    refine A_if_lt 43 (dX5_isUnder 9 rfl) (by decide) (fun h13 => absurd h13 (by decide)) (fun h13 => ?_)
    refine A_iload_n (dX5_isUnder 10 rfl) rfl ?_
    refine A_above (dX5_isUnder 11 rfl) fsX5_252 ?_
    refine AW.pcq (pc2 := 20) rfl ?_
    refine A_ablen (dX5_isUnder 12 rfl) ?_
    refine A_icmp_ge 43 (dX5_isUnder 13 rfl) (by decide) (fun h21 => absurd h21 (by decide)) (fun h21 => ?_)
    refine A_iload_n (dX5_isUnder 14 rfl) rfl ?_
    refine A_iload_n (dX5_isUnder 15 rfl) rfl ?_
    refine A_icmp_ne 31 (dX5_isUnder 16 rfl) (by decide) (fun e1 => ?_) (fun e1 => ?_)
    · refine A_above (dX5_isUnder 19 rfl) fsX5_252 ?_
      refine A_iload_n (dX5_isUnder 20 rfl) rfl ?_
      refine A_abld (dX5_isUnder 21 rfl) (by unfold vp_in; decide) ?_
      refine A_istore_n (ls2 := [_, _, _, _]) (dX5_isUnder 22 rfl) (by decide) rfl rfl ?_
      refine A_iinc (ls2 := [_, _, _, _]) (2) (dX5_isUnder 23 rfl) rfl (by decide) (by decide) rfl rfl ?_
      refine A_goto 4 (dX5_isUnder 24 rfl) (by decide) ?_
      refine AW.loc (ls2 := [some (.int 4), some (.int k), some (.int (0)), some (.int 2)]) rfl ?_
      refine A_iload_n (dX5_isUnder 4 rfl) rfl ?_
      refine A_above (dX5_isUnder 5 rfl) fsX5_252 ?_
      refine A_ablen (dX5_isUnder 6 rfl) ?_
      refine A_icmp_ge 43 (dX5_isUnder 7 rfl) (by decide) (fun h9 => absurd h9 (by decide)) (fun h9 => ?_)
      refine A_iload_n (dX5_isUnder 8 rfl) rfl ?_
      refine A_if_lt 43 (dX5_isUnder 9 rfl) (by decide) (fun h13 => absurd h13 (by decide)) (fun h13 => ?_)
      refine A_iload_n (dX5_isUnder 10 rfl) rfl ?_
      refine A_above (dX5_isUnder 11 rfl) fsX5_252 ?_
      refine AW.pcq (pc2 := 20) rfl ?_
      refine A_ablen (dX5_isUnder 12 rfl) ?_
      refine A_icmp_ge 43 (dX5_isUnder 13 rfl) (by decide) (fun h21 => absurd h21 (by decide)) (fun h21 => ?_)
      refine A_iload_n (dX5_isUnder 14 rfl) rfl ?_
      refine A_iload_n (dX5_isUnder 15 rfl) rfl ?_
      refine A_icmp_ne 31 (dX5_isUnder 16 rfl) (by decide) (fun e2 => ?_) (fun e2 => ?_)
      · refine A_above (dX5_isUnder 19 rfl) fsX5_252 ?_
        refine A_iload_n (dX5_isUnder 20 rfl) rfl ?_
        refine A_abld (dX5_isUnder 21 rfl) (by unfold vp_in; decide) ?_
        refine A_istore_n (ls2 := [_, _, _, _]) (dX5_isUnder 22 rfl) (by decide) rfl rfl ?_
        refine A_iinc (ls2 := [_, _, _, _]) (3) (dX5_isUnder 23 rfl) rfl (by decide) (by decide) rfl rfl ?_
        refine A_goto 4 (dX5_isUnder 24 rfl) (by decide) ?_
        refine AW.loc (ls2 := [some (.int 4), some (.int k), some (.int (-1)), some (.int 3)]) rfl ?_
        refine A_iload_n (dX5_isUnder 4 rfl) rfl ?_
        refine A_above (dX5_isUnder 5 rfl) fsX5_252 ?_
        refine A_ablen (dX5_isUnder 6 rfl) ?_
        refine A_icmp_ge 43 (dX5_isUnder 7 rfl) (by decide) (fun h9 => absurd h9 (by decide)) (fun h9 => ?_)
        refine A_iload_n (dX5_isUnder 8 rfl) rfl ?_
        refine A_if_lt 43 (dX5_isUnder 9 rfl) (by decide) (fun h13 => ?_) (fun h13 => absurd (by decide) h13)
        refine A_iconst (0) (dX5_isUnder 25 rfl) (by decide +kernel) ?_
        refine A_ri (dX5_isUnder 26 rfl) rfl (by decide) ?_
        refine ⟨Or.inr ⟨?_, rfl⟩, rfl⟩
        unfold und
        intro z
        rcases z with z | ⟨z0, z⟩ | ⟨z0, z⟩ | ⟨z0, z | z⟩ | ⟨z0, z | z⟩ | ⟨z0, z | z | z⟩ <;> subst_vars <;> first | contradiction | (revert z0; decide)
      · refine A_iconst (1) (dX5_isUnder 17 rfl) (by decide +kernel) ?_
        refine A_ri (dX5_isUnder 18 rfl) rfl (by decide) ?_
        exact ⟨Or.inl ⟨by unfold und; subst_vars; decide, rfl⟩, rfl⟩
    · refine A_iconst (1) (dX5_isUnder 17 rfl) (by decide +kernel) ?_
      refine A_ri (dX5_isUnder 18 rfl) rfl (by decide) ?_
      exact ⟨Or.inl ⟨by unfold und; subst_vars; decide, rfl⟩, rfl⟩
  · refine A_iconst (1) (dX5_isUnder 17 rfl) (by decide +kernel) ?_
    refine A_ri (dX5_isUnder 18 rfl) rfl (by decide) ?_
    exact ⟨Or.inl ⟨by unfold und; subst_vars; decide, rfl⟩, rfl⟩
set_option maxRecDepth 100000 in
theorem k_under5 (E : ag) (ws : va_W) (k : Int32) : CT E yX5_isUnder cX5_isUnder 4 mX5_isUnder.2.2.2.1 1 0 0 [.int 5, .int k] ws (ri (fun r w => ((und 5 k ∧ r = 1) ∨ (¬ und 5 k ∧ r = 0)) ∧ w = ws)) := by
  refine CT.of (M := mX5_isUnder) (ls := [some (.int 5), some (.int k), none, none]) (by decide) rfl (by decide) rfl (Nat.le_of_ble_eq_true rfl) ?_
  refine A_iload_n (dX5_isUnder 0 rfl) rfl ?_
  refine A_istore_n (ls2 := [_, _, _, _]) (dX5_isUnder 1 rfl) (by decide) rfl rfl ?_
  refine A_iconst 0 (dX5_isUnder 2 rfl) (by decide +kernel) ?_
  refine A_istore_n (ls2 := [_, _, _, _]) (dX5_isUnder 3 rfl) (by decide) rfl rfl ?_
  refine AW.loc (ls2 := [some (.int 5), some (.int k), some (.int 5), some (.int 0)]) rfl ?_
  refine A_iload_n (dX5_isUnder 4 rfl) rfl ?_
  refine A_above (dX5_isUnder 5 rfl) fsX5_252 ?_
  refine A_ablen (dX5_isUnder 6 rfl) ?_
  refine A_icmp_ge 43 (dX5_isUnder 7 rfl) (by decide) (fun h9 => absurd h9 (by decide)) (fun h9 => ?_)
  refine A_iload_n (dX5_isUnder 8 rfl) rfl ?_
  refine A_if_lt 43 (dX5_isUnder 9 rfl) (by decide) (fun h13 => absurd h13 (by decide)) (fun h13 => ?_)
  refine A_iload_n (dX5_isUnder 10 rfl) rfl ?_
  refine A_above (dX5_isUnder 11 rfl) fsX5_252 ?_
  refine AW.pcq (pc2 := 20) rfl ?_
  refine A_ablen (dX5_isUnder 12 rfl) ?_
  refine A_icmp_ge 43 (dX5_isUnder 13 rfl) (by decide) (fun h21 => absurd h21 (by decide)) (fun h21 => ?_)
  refine A_iload_n (dX5_isUnder 14 rfl) rfl ?_
  refine A_iload_n (dX5_isUnder 15 rfl) rfl ?_
  refine A_icmp_ne 31 (dX5_isUnder 16 rfl) (by decide) (fun e0 => ?_) (fun e0 => ?_)
  · refine A_above (dX5_isUnder 19 rfl) fsX5_252 ?_
    refine A_iload_n (dX5_isUnder 20 rfl) rfl ?_
    refine A_abld (dX5_isUnder 21 rfl) (by unfold vp_in; decide) ?_
    refine A_istore_n (ls2 := [_, _, _, _]) (dX5_isUnder 22 rfl) (by decide) rfl rfl ?_
    refine A_iinc (ls2 := [_, _, _, _]) (1) (dX5_isUnder 23 rfl) rfl (by decide) (by decide) rfl rfl ?_
    refine A_goto 4 (dX5_isUnder 24 rfl) (by decide) ?_
    refine AW.loc (ls2 := [some (.int 5), some (.int k), some (.int (3)), some (.int 1)]) rfl ?_
    refine A_iload_n (dX5_isUnder 4 rfl) rfl ?_
    refine A_above (dX5_isUnder 5 rfl) fsX5_252 ?_
    refine A_ablen (dX5_isUnder 6 rfl) ?_
    refine A_icmp_ge 43 (dX5_isUnder 7 rfl) (by decide) (fun h9 => absurd h9 (by decide)) (fun h9 => ?_)
    refine A_iload_n (dX5_isUnder 8 rfl) rfl ?_
    refine A_if_lt 43 (dX5_isUnder 9 rfl) (by decide) (fun h13 => absurd h13 (by decide)) (fun h13 => ?_)
    refine A_iload_n (dX5_isUnder 10 rfl) rfl ?_
    refine A_above (dX5_isUnder 11 rfl) fsX5_252 ?_
    refine AW.pcq (pc2 := 20) rfl ?_
    refine A_ablen (dX5_isUnder 12 rfl) ?_
    refine A_icmp_ge 43 (dX5_isUnder 13 rfl) (by decide) (fun h21 => absurd h21 (by decide)) (fun h21 => ?_)
    refine A_iload_n (dX5_isUnder 14 rfl) rfl ?_
    refine A_iload_n (dX5_isUnder 15 rfl) rfl ?_
    refine A_icmp_ne 31 (dX5_isUnder 16 rfl) (by decide) (fun e1 => ?_) (fun e1 => ?_)
    · refine A_above (dX5_isUnder 19 rfl) fsX5_252 ?_
      refine A_iload_n (dX5_isUnder 20 rfl) rfl ?_
      refine A_abld (dX5_isUnder 21 rfl) (by unfold vp_in; decide) ?_
      refine A_istore_n (ls2 := [_, _, _, _]) (dX5_isUnder 22 rfl) (by decide) rfl rfl ?_
      refine A_iinc (ls2 := [_, _, _, _]) (2) (dX5_isUnder 23 rfl) rfl (by decide) (by decide) rfl rfl ?_
      refine A_goto 4 (dX5_isUnder 24 rfl) (by decide) ?_
      refine AW.loc (ls2 := [some (.int 5), some (.int k), some (.int (2)), some (.int 2)]) rfl ?_
      refine A_iload_n (dX5_isUnder 4 rfl) rfl ?_
      refine A_above (dX5_isUnder 5 rfl) fsX5_252 ?_
      refine A_ablen (dX5_isUnder 6 rfl) ?_
      refine A_icmp_ge 43 (dX5_isUnder 7 rfl) (by decide) (fun h9 => absurd h9 (by decide)) (fun h9 => ?_)
      refine A_iload_n (dX5_isUnder 8 rfl) rfl ?_
      refine A_if_lt 43 (dX5_isUnder 9 rfl) (by decide) (fun h13 => absurd h13 (by decide)) (fun h13 => ?_)
      refine A_iload_n (dX5_isUnder 10 rfl) rfl ?_
      refine A_above (dX5_isUnder 11 rfl) fsX5_252 ?_
      refine AW.pcq (pc2 := 20) rfl ?_
      refine A_ablen (dX5_isUnder 12 rfl) ?_
      refine A_icmp_ge 43 (dX5_isUnder 13 rfl) (by decide) (fun h21 => absurd h21 (by decide)) (fun h21 => ?_)
      refine A_iload_n (dX5_isUnder 14 rfl) rfl ?_
      refine A_iload_n (dX5_isUnder 15 rfl) rfl ?_
      refine A_icmp_ne 31 (dX5_isUnder 16 rfl) (by decide) (fun e2 => ?_) (fun e2 => ?_)
      · refine A_above (dX5_isUnder 19 rfl) fsX5_252 ?_
        refine A_iload_n (dX5_isUnder 20 rfl) rfl ?_
        refine A_abld (dX5_isUnder 21 rfl) (by unfold vp_in; decide) ?_
        refine A_istore_n (ls2 := [_, _, _, _]) (dX5_isUnder 22 rfl) (by decide) rfl rfl ?_
        refine A_iinc (ls2 := [_, _, _, _]) (3) (dX5_isUnder 23 rfl) rfl (by decide) (by decide) rfl rfl ?_
        refine A_goto 4 (dX5_isUnder 24 rfl) (by decide) ?_
        refine AW.loc (ls2 := [some (.int 5), some (.int k), some (.int (0)), some (.int 3)]) rfl ?_
        refine A_iload_n (dX5_isUnder 4 rfl) rfl ?_
        refine A_above (dX5_isUnder 5 rfl) fsX5_252 ?_
        refine A_ablen (dX5_isUnder 6 rfl) ?_
        refine A_icmp_ge 43 (dX5_isUnder 7 rfl) (by decide) (fun h9 => absurd h9 (by decide)) (fun h9 => ?_)
        refine A_iload_n (dX5_isUnder 8 rfl) rfl ?_
        refine A_if_lt 43 (dX5_isUnder 9 rfl) (by decide) (fun h13 => absurd h13 (by decide)) (fun h13 => ?_)
        refine A_iload_n (dX5_isUnder 10 rfl) rfl ?_
        refine A_above (dX5_isUnder 11 rfl) fsX5_252 ?_
        refine AW.pcq (pc2 := 20) rfl ?_
        refine A_ablen (dX5_isUnder 12 rfl) ?_
        refine A_icmp_ge 43 (dX5_isUnder 13 rfl) (by decide) (fun h21 => absurd h21 (by decide)) (fun h21 => ?_)
        refine A_iload_n (dX5_isUnder 14 rfl) rfl ?_
        refine A_iload_n (dX5_isUnder 15 rfl) rfl ?_
        refine A_icmp_ne 31 (dX5_isUnder 16 rfl) (by decide) (fun e3 => ?_) (fun e3 => ?_)
        · refine A_above (dX5_isUnder 19 rfl) fsX5_252 ?_
          refine A_iload_n (dX5_isUnder 20 rfl) rfl ?_
          refine A_abld (dX5_isUnder 21 rfl) (by unfold vp_in; decide) ?_
          refine A_istore_n (ls2 := [_, _, _, _]) (dX5_isUnder 22 rfl) (by decide) rfl rfl ?_
          refine A_iinc (ls2 := [_, _, _, _]) (4) (dX5_isUnder 23 rfl) rfl (by decide) (by decide) rfl rfl ?_
          refine A_goto 4 (dX5_isUnder 24 rfl) (by decide) ?_
          refine AW.loc (ls2 := [some (.int 5), some (.int k), some (.int (-1)), some (.int 4)]) rfl ?_
          refine A_iload_n (dX5_isUnder 4 rfl) rfl ?_
          refine A_above (dX5_isUnder 5 rfl) fsX5_252 ?_
          refine A_ablen (dX5_isUnder 6 rfl) ?_
          refine A_icmp_ge 43 (dX5_isUnder 7 rfl) (by decide) (fun h9 => absurd h9 (by decide)) (fun h9 => ?_)
          refine A_iload_n (dX5_isUnder 8 rfl) rfl ?_
          refine A_if_lt 43 (dX5_isUnder 9 rfl) (by decide) (fun h13 => ?_) (fun h13 => absurd (by decide) h13)
          refine A_iconst (0) (dX5_isUnder 25 rfl) (by decide +kernel) ?_
          refine A_ri (dX5_isUnder 26 rfl) rfl (by decide) ?_
          refine ⟨Or.inr ⟨?_, rfl⟩, rfl⟩
          unfold und
          intro z
          rcases z with z | ⟨z0, z⟩ | ⟨z0, z⟩ | ⟨z0, z | z⟩ | ⟨z0, z | z⟩ | ⟨z0, z | z | z⟩ <;> subst_vars <;> first | contradiction | (revert z0; decide)
        · refine A_iconst (1) (dX5_isUnder 17 rfl) (by decide +kernel) ?_
          refine A_ri (dX5_isUnder 18 rfl) rfl (by decide) ?_
          exact ⟨Or.inl ⟨by unfold und; subst_vars; decide, rfl⟩, rfl⟩
      · refine A_iconst (1) (dX5_isUnder 17 rfl) (by decide +kernel) ?_
        refine A_ri (dX5_isUnder 18 rfl) rfl (by decide) ?_
        exact ⟨Or.inl ⟨by unfold und; subst_vars; decide, rfl⟩, rfl⟩
    · refine A_iconst (1) (dX5_isUnder 17 rfl) (by decide +kernel) ?_
      refine A_ri (dX5_isUnder 18 rfl) rfl (by decide) ?_
      exact ⟨Or.inl ⟨by unfold und; subst_vars; decide, rfl⟩, rfl⟩
  · refine A_iconst (1) (dX5_isUnder 17 rfl) (by decide +kernel) ?_
    refine A_ri (dX5_isUnder 18 rfl) rfl (by decide) ?_
    exact ⟨Or.inl ⟨by unfold und; subst_vars; decide, rfl⟩, rfl⟩
set_option maxRecDepth 100000 in
set_option maxHeartbeats 400000 in
theorem K_begin (E : ag) (kq : Nat) (cg : Nat → Int32) (qf : Nat → Nat) (gf : Nat → Int32) (af : Nat → Nat → Int32) (qd : Nat → Nat) (gd : Nat → Int32) (ad : Nat → Nat → Int32) (qk : Nat → Nat) (gk : Nat → Int32) (ak : Nat → Nat → Int32) (ql : Nat → Nat) (gl : Nat → Int32) (al : Nat → Nat → Int32) (qr : Nat → Nat) (gr : Nat → Int32) (ar : Nat → Nat → Int32) (rx : Nat) (qm : Nat) (qx : Nat → Nat → Nat) (gx : Nat → Nat → Int32) (ax : Nat → Nat → Nat → Int32) (qs : Nat) (sx : Nat → Option Nat) (qo : Nat → Nat) (go : Nat → Int32) (ao : Nat → Nat → Int32) (qp : Nat → Nat) (gp_ : Nat → Int32) (ap : Nat → Nat → Int32) (L : va_W) : CT E yX5_beginTrial cX5_beginTrial 1 mX5_beginTrial.2.2.2.1 3 0 0 [.ref kq] (wK E kq cg qf gf af qd gd ad qk gk ak ql gl al qr gr ar rx qm qx gx ax qs sx qo go ao qp gp_ ap L) (rv (fun w => w = wK E kq cg qf gf af qd (kbG gd gf) (kbA ad af) qk gk ak ql (kbL gl) al qr gr ar rx qm qx gx ax qs sx qo go ao qp gp_ ap L)) := by
  refine CT.of (M := mX5_beginTrial) (ls := [some (.ref kq)]) (by decide) rfl (by decide) rfl (Nat.le_of_ble_eq_true rfl) ?_
  refine A_aload_n (dX5_beginTrial 0 rfl) rfl ?_
  refine A_get (dX5_beginTrial 1 rfl) fwX5_16 wK_0 cK_f0_1 ?_
  refine A_aload_n (dX5_beginTrial 2 rfl) rfl ?_
  refine A_get (dX5_beginTrial 3 rfl) fwX5_10 wK_0 cK_f0_0 ?_
  refine A_callVv 1 (dX5_beginTrial 4 rfl) cbX1_takeOver cwX5_213 (f_takeOver E qd gd ad qf gf af) rfl rfl wFF_0 rfl rfl [8, 9, 10, 11, 12, 13, 14, 1, 2, 3, 4, 5, 6, 7] rfl rfl (Nat.le_of_ble_eq_true rfl) (Nat.le_of_ble_eq_true rfl) (Nat.le_of_ble_eq_true rfl) (Nat.le_of_ble_eq_true rfl) (Nat.le_of_ble_eq_true rfl) (by rintro _ rfl; exact (Nat.le_of_ble_eq_true rfl)) ?_
  rintro w1 rfl
  refine AW.world (ws2 := wK E kq cg qf gf af qd (upd (upd (upd (upd (upd gd 0 (gf 0)) 1 (gf 1)) 2 (gf 2)) 3 (gf 3)) 4 (gf 4)) (kbA ad af) qk gk ak ql gl al qr gr ar rx qm qx gx ax qs sx qo go ao qp gp_ ap L) mK_df ?_
  refine AW.pcq (pc2 := 11) rfl ?_
  refine A_aload_n (dX5_beginTrial 5 rfl) rfl ?_
  refine A_get (dX5_beginTrial 6 rfl) fwX5_16 wK_0 cK_f0_1 ?_
  refine A_iconst (0) (dX5_beginTrial 7 rfl) (by decide +kernel) ?_
  refine A_putO (dX5_beginTrial 8 rfl) fwX5_155 fcX1 ftX1_9 wK_8 rfl rfl cF_l0 (wK_p8_9 _) ?_
  refine A_aload_n (dX5_beginTrial 9 rfl) rfl ?_
  refine A_get (dX5_beginTrial 10 rfl) fwX5_29 wK_0 cK_f0_4 ?_
  refine A_callVv 0 (dX5_beginTrial 11 rfl) cbX0_begin cwX5_158 (l_begin E ql gl al) rfl rfl wL_0 rfl rfl [22, 23, 24] rfl rfl (Nat.le_of_ble_eq_true rfl) (Nat.le_of_ble_eq_true rfl) (Nat.le_of_ble_eq_true rfl) (Nat.le_of_ble_eq_true rfl) (Nat.le_of_ble_eq_true rfl) (by rintro _ rfl; exact (Nat.le_of_ble_eq_true rfl)) ?_
  rintro w1 rfl
  refine AW.world (ws2 := wK E kq cg qf gf af qd (kbG gd gf) (kbA ad af) qk gk ak ql (kbL gl) al qr gr ar rx qm qx gx ax qs sx qo go ao qp gp_ ap L) mK_l ?_
  refine AW.pcq (pc2 := 26) rfl ?_
  refine A_rv (dX5_beginTrial 12 rfl) rfl ?_
  exact rfl

set_option maxRecDepth 100000 in
set_option maxHeartbeats 400000 in
theorem K_tryL0 (E : ag) (kq : Nat) (cg : Nat → Int32) (qf : Nat → Nat) (gf : Nat → Int32) (af : Nat → Nat → Int32) (qd : Nat → Nat) (gd : Nat → Int32) (ad : Nat → Nat → Int32) (qk : Nat → Nat) (gk : Nat → Int32) (ak : Nat → Nat → Int32) (ql : Nat → Nat) (gl : Nat → Int32) (al : Nat → Nat → Int32) (qr : Nat → Nat) (gr : Nat → Int32) (ar : Nat → Nat → Int32) (rx : Nat) (qm : Nat) (qx : Nat → Nat → Nat) (gx : Nat → Nat → Int32) (ax : Nat → Nat → Nat → Int32) (qs : Nat) (sx : Nat → Option Nat) (qo : Nat → Nat) (go : Nat → Int32) (ao : Nat → Nat → Int32) (qp : Nat → Nat) (gp_ : Nat → Int32) (ap : Nat → Nat → Int32) (L : va_W) (m nn : Nat) (hnn : nn < 2 ^ 31) (C : Nat → List Int32) (hr4 : gf 4 = nI 0) (hC : TKC (ax 0) C) (hF : FI (cfs gd ad gl) m) (hb : ¬ gd 1 ≤ 0) (hM : MEN (cfs gd ad gl) m) : ∀ (n c : Nat), c + n = nn → ∀ (gd1 : Nat → Int32) (ad1 : Nat → Nat → Int32) (gl1 : Nat → Int32) (al1 : Nat → Nat → Int32), cfs gd1 ad1 gl1 = p_cr C m gl c (cfs gd ad gl) → gd1 4 = gd 4 → gl1 0 = gl 0 → gl1 1 = p_zt gl (c * m) → AW E mX5_tryRounds 5 0 0 15 [some (.ref kq), some (.int (nI nn)), some (.ref (qx 0 0)), some (.int (nI c))] [] (wK E kq cg qf gf af qd gd1 ad1 qk gk ak ql gl1 al1 qr gr ar rx qm qx gx ax qs sx qo go ao qp gp_ ap L) (rv (fun w => ∃ (gd2 : Nat → Int32) (ad2 : Nat → Nat → Int32) (gl2 : Nat → Int32) (al2 : Nat → Nat → Int32), w = wK E kq cg qf gf af qd gd2 ad2 qk gk ak ql gl2 al2 qr gr ar rx qm qx gx ax qs sx qo go ao qp gp_ ap L ∧ cfs gd2 ad2 gl2 = p_cr C m gl nn (cfs gd ad gl) ∧ gd2 4 = gd 4 ∧ gl2 0 = gl 0 ∧ gl2 1 = p_zt gl (nn * m))) := by
  intro n
  induction n with
  | zero =>
    intro c hc
    intro gd1 ad1 gl1 al1 hc1 h4 hd hz
    obtain rfl : nn = c := by omega
    refine A_iload_n (dX5_tryRounds 9 rfl) rfl ?_
    refine A_iload_n (dX5_tryRounds 10 rfl) rfl ?_
    refine A_icmp_ge 38 (dX5_tryRounds 11 rfl) (by decide) (fun h17 => ?_) (fun h17 => absurd (nI_le (a := nn) (b := nn) (Nat.le_refl _) hnn) h17)
    refine A_rv (dX5_tryRounds 20 rfl) rfl ?_
    exact ⟨gd1, ad1, gl1, al1, rfl, hc1, h4, hd, hz⟩
  | succ n ih =>
    intro c hc
    have hlt : c < nn := by omega
    intro gd1 ad1 gl1 al1 hc1 h4 hd hz
    refine A_iload_n (dX5_tryRounds 9 rfl) rfl ?_
    refine A_iload_n (dX5_tryRounds 10 rfl) rfl ?_
    refine A_icmp_ge 38 (dX5_tryRounds 11 rfl) (by decide) (fun h17 => absurd h17 (nI_ge hlt (by omega))) (fun h17 => ?_)
    refine A_aload_n (dX5_tryRounds 12 rfl) rfl ?_
    refine A_get (dX5_tryRounds 13 rfl) fwX5_29 wK_0 cK_f0_4 ?_
    refine A_aload_n (dX5_tryRounds 14 rfl) rfl ?_
    refine A_get (dX5_tryRounds 15 rfl) fwX5_16 wK_0 cK_f0_1 ?_
    refine A_aload_n (dX5_tryRounds 16 rfl) rfl ?_
    refine AW.pcq (pc2 := 29) rfl ?_
    refine A_callVv 2 (dX5_tryRounds 17 rfl) cbX0_pass cwX5_161 (l_pass E ql gl1 al1 qd gd1 ad1 (qx 0) (gx 0) (ax 0) m C hC (by rw [hc1]; exact hF.cr C m gl c) (by rw [(cG hc1).2.1, p_cr_1]; exact hb) (by rw [hc1]; exact hM.cr C m gl c)) rfl rfl wLT_0 rfl rfl [22, 23, 24, 8, 9, 10, 11, 12, 13, 14, 28, 29, 30] rfl rfl (Nat.le_of_ble_eq_true rfl) (Nat.le_of_ble_eq_true rfl) (Nat.le_of_ble_eq_true rfl) (Nat.le_of_ble_eq_true rfl) (Nat.le_of_ble_eq_true rfl) (by rintro _ ⟨_, _, _, _, rfl, _⟩; exact (Nat.le_of_ble_eq_true rfl)) ?_
    rintro w1 ⟨gl2, al2, gd2, ad2, rfl, hc2, h42, hd2, hz2⟩
    refine AW.world (ws2 := wK E kq cg qf gf af qd gd2 ad2 qk gk ak ql gl2 al2 qr gr ar rx qm qx gx ax qs sx qo go ao qp gp_ ap L) mK_ld0 ?_
    refine AW.pcq (pc2 := 32) rfl ?_
    refine A_iinc (ls2 := [_, _, _, _]) (nI (c + 1)) (dX5_tryRounds 18 rfl) rfl (nI_1 c) (by decide) rfl rfl ?_
    refine A_goto 15 (dX5_tryRounds 19 rfl) (by decide) ?_
    refine ih (c + 1) (by omega) gd2 ad2 gl2 al2 ?_ (h42.trans h4) (hd2.trans hd) ?_
    · rw [hc2, hc1, p_cr_s]
      refine congrArg (fun z => p_round C z (p_cr C m gl c (cfs gd ad gl))) ?_
      unfold p_lt
      rw [hd, hz]
      unfold p_zt
      by_cases h0 : gl 0 = 0
      · rw [if_pos h0, if_pos h0]
      · rw [if_neg h0, if_neg h0, if_neg h0]
    · rw [hz2]
      unfold p_zt
      rw [hd, hz]
      unfold p_zt
      by_cases h0 : gl 0 = 0
      · rw [if_pos h0, if_pos h0, if_pos h0]
      · rw [if_neg h0, if_neg h0, if_neg h0, zit_add, Nat.succ_mul]

set_option maxRecDepth 100000 in
set_option maxHeartbeats 400000 in
theorem K_try0 (E : ag) (kq : Nat) (cg : Nat → Int32) (qf : Nat → Nat) (gf : Nat → Int32) (af : Nat → Nat → Int32) (qd : Nat → Nat) (gd : Nat → Int32) (ad : Nat → Nat → Int32) (qk : Nat → Nat) (gk : Nat → Int32) (ak : Nat → Nat → Int32) (ql : Nat → Nat) (gl : Nat → Int32) (al : Nat → Nat → Int32) (qr : Nat → Nat) (gr : Nat → Int32) (ar : Nat → Nat → Int32) (rx : Nat) (qm : Nat) (qx : Nat → Nat → Nat) (gx : Nat → Nat → Int32) (ax : Nat → Nat → Nat → Int32) (qs : Nat) (sx : Nat → Option Nat) (qo : Nat → Nat) (go : Nat → Int32) (ao : Nat → Nat → Int32) (qp : Nat → Nat) (gp_ : Nat → Int32) (ap : Nat → Nat → Int32) (L : va_W) (m nn : Nat) (hnn : nn < 2 ^ 31) (C : Nat → List Int32) (hr4 : gf 4 = nI 0) (hC : TKC (ax 0) C) (hF : FI (cfs gd ad gl) m) (hb : ¬ gd 1 ≤ 0) (hM : MEN (cfs gd ad gl) m) : CT E yX5_tryRounds cX5_tryRounds 4 mX5_tryRounds.2.2.2.1 5 0 0 [.ref kq, .int (nI nn)] (wK E kq cg qf gf af qd gd ad qk gk ak ql gl al qr gr ar rx qm qx gx ax qs sx qo go ao qp gp_ ap L) (rv (fun w => ∃ (gd2 : Nat → Int32) (ad2 : Nat → Nat → Int32) (gl2 : Nat → Int32) (al2 : Nat → Nat → Int32), w = wK E kq cg qf gf af qd gd2 ad2 qk gk ak ql gl2 al2 qr gr ar rx qm qx gx ax qs sx qo go ao qp gp_ ap L ∧ cfs gd2 ad2 gl2 = p_cr C m gl nn (cfs gd ad gl) ∧ gd2 4 = gd 4 ∧ gl2 0 = gl 0 ∧ gl2 1 = p_zt gl (nn * m))) := by
  refine CT.of (M := mX5_tryRounds) (ls := [some (.ref kq), some (.int (nI nn)), none, none]) (by decide) rfl (by decide) rfl (Nat.le_of_ble_eq_true rfl) ?_
  refine A_aload_n (dX5_tryRounds 0 rfl) rfl ?_
  refine A_get (dX5_tryRounds 1 rfl) fwX5_42 wK_0 cK_f0_6 ?_
  refine A_aload_n (dX5_tryRounds 2 rfl) rfl ?_
  refine A_get (dX5_tryRounds 3 rfl) fwX5_10 wK_0 cK_f0_0 ?_
  refine A_get (dX5_tryRounds 4 rfl) fwX5_152 wK_1 cF_f0_10 ?_
  rw [hr4]
  refine A_aald 3 (dX5_tryRounds 5 rfl) wK_27 rfl (vp_in_nI (n := 0) (by decide) (by decide)) ?_
  rw [nI_clamp (n := 0) (by decide)]
  refine AW.stack (st2 := [.ref (qx 0 0)]) rfl ?_
  refine A_astore_n (ls2 := [_, _, _, _]) (dX5_tryRounds 6 rfl) (by decide) rfl rfl ?_
  refine A_iconst (0) (dX5_tryRounds 7 rfl) (by decide +kernel) ?_
  refine AW.pcq (pc2 := 14) rfl ?_
  refine A_istore_n (ls2 := [_, _, _, _]) (dX5_tryRounds 8 rfl) (by decide) rfl rfl ?_
  have h9 := K_tryL0 E kq cg qf gf af qd gd ad qk gk ak ql gl al qr gr ar rx qm qx gx ax qs sx qo go ao qp gp_ ap L m nn hnn C hr4 hC hF hb hM nn 0 (by omega) gd ad gl al p_cr_0.symm rfl rfl (by unfold p_zt; rw [Nat.zero_mul]; split <;> rfl)
  exact h9

set_option maxRecDepth 100000 in
set_option maxHeartbeats 400000 in
theorem K_tryL1 (E : ag) (kq : Nat) (cg : Nat → Int32) (qf : Nat → Nat) (gf : Nat → Int32) (af : Nat → Nat → Int32) (qd : Nat → Nat) (gd : Nat → Int32) (ad : Nat → Nat → Int32) (qk : Nat → Nat) (gk : Nat → Int32) (ak : Nat → Nat → Int32) (ql : Nat → Nat) (gl : Nat → Int32) (al : Nat → Nat → Int32) (qr : Nat → Nat) (gr : Nat → Int32) (ar : Nat → Nat → Int32) (rx : Nat) (qm : Nat) (qx : Nat → Nat → Nat) (gx : Nat → Nat → Int32) (ax : Nat → Nat → Nat → Int32) (qs : Nat) (sx : Nat → Option Nat) (qo : Nat → Nat) (go : Nat → Int32) (ao : Nat → Nat → Int32) (qp : Nat → Nat) (gp_ : Nat → Int32) (ap : Nat → Nat → Int32) (L : va_W) (m nn : Nat) (hnn : nn < 2 ^ 31) (C : Nat → List Int32) (hr4 : gf 4 = nI 1) (hC : TKC (ax 1) C) (hF : FI (cfs gd ad gl) m) (hb : ¬ gd 1 ≤ 0) (hM : MEN (cfs gd ad gl) m) : ∀ (n c : Nat), c + n = nn → ∀ (gd1 : Nat → Int32) (ad1 : Nat → Nat → Int32) (gl1 : Nat → Int32) (al1 : Nat → Nat → Int32), cfs gd1 ad1 gl1 = p_cr C m gl c (cfs gd ad gl) → gd1 4 = gd 4 → gl1 0 = gl 0 → gl1 1 = p_zt gl (c * m) → AW E mX5_tryRounds 5 0 0 15 [some (.ref kq), some (.int (nI nn)), some (.ref (qx 1 0)), some (.int (nI c))] [] (wK E kq cg qf gf af qd gd1 ad1 qk gk ak ql gl1 al1 qr gr ar rx qm qx gx ax qs sx qo go ao qp gp_ ap L) (rv (fun w => ∃ (gd2 : Nat → Int32) (ad2 : Nat → Nat → Int32) (gl2 : Nat → Int32) (al2 : Nat → Nat → Int32), w = wK E kq cg qf gf af qd gd2 ad2 qk gk ak ql gl2 al2 qr gr ar rx qm qx gx ax qs sx qo go ao qp gp_ ap L ∧ cfs gd2 ad2 gl2 = p_cr C m gl nn (cfs gd ad gl) ∧ gd2 4 = gd 4 ∧ gl2 0 = gl 0 ∧ gl2 1 = p_zt gl (nn * m))) := by
  intro n
  induction n with
  | zero =>
    intro c hc
    intro gd1 ad1 gl1 al1 hc1 h4 hd hz
    obtain rfl : nn = c := by omega
    refine A_iload_n (dX5_tryRounds 9 rfl) rfl ?_
    refine A_iload_n (dX5_tryRounds 10 rfl) rfl ?_
    refine A_icmp_ge 38 (dX5_tryRounds 11 rfl) (by decide) (fun h17 => ?_) (fun h17 => absurd (nI_le (a := nn) (b := nn) (Nat.le_refl _) hnn) h17)
    refine A_rv (dX5_tryRounds 20 rfl) rfl ?_
    exact ⟨gd1, ad1, gl1, al1, rfl, hc1, h4, hd, hz⟩
  | succ n ih =>
    intro c hc
    have hlt : c < nn := by omega
    intro gd1 ad1 gl1 al1 hc1 h4 hd hz
    refine A_iload_n (dX5_tryRounds 9 rfl) rfl ?_
    refine A_iload_n (dX5_tryRounds 10 rfl) rfl ?_
    refine A_icmp_ge 38 (dX5_tryRounds 11 rfl) (by decide) (fun h17 => absurd h17 (nI_ge hlt (by omega))) (fun h17 => ?_)
    refine A_aload_n (dX5_tryRounds 12 rfl) rfl ?_
    refine A_get (dX5_tryRounds 13 rfl) fwX5_29 wK_0 cK_f0_4 ?_
    refine A_aload_n (dX5_tryRounds 14 rfl) rfl ?_
    refine A_get (dX5_tryRounds 15 rfl) fwX5_16 wK_0 cK_f0_1 ?_
    refine A_aload_n (dX5_tryRounds 16 rfl) rfl ?_
    refine AW.pcq (pc2 := 29) rfl ?_
    refine A_callVv 2 (dX5_tryRounds 17 rfl) cbX0_pass cwX5_161 (l_pass E ql gl1 al1 qd gd1 ad1 (qx 1) (gx 1) (ax 1) m C hC (by rw [hc1]; exact hF.cr C m gl c) (by rw [(cG hc1).2.1, p_cr_1]; exact hb) (by rw [hc1]; exact hM.cr C m gl c)) rfl rfl wLT_0 rfl rfl [22, 23, 24, 8, 9, 10, 11, 12, 13, 14, 31, 32, 33] rfl rfl (Nat.le_of_ble_eq_true rfl) (Nat.le_of_ble_eq_true rfl) (Nat.le_of_ble_eq_true rfl) (Nat.le_of_ble_eq_true rfl) (Nat.le_of_ble_eq_true rfl) (by rintro _ ⟨_, _, _, _, rfl, _⟩; exact (Nat.le_of_ble_eq_true rfl)) ?_
    rintro w1 ⟨gl2, al2, gd2, ad2, rfl, hc2, h42, hd2, hz2⟩
    refine AW.world (ws2 := wK E kq cg qf gf af qd gd2 ad2 qk gk ak ql gl2 al2 qr gr ar rx qm qx gx ax qs sx qo go ao qp gp_ ap L) mK_ld1 ?_
    refine AW.pcq (pc2 := 32) rfl ?_
    refine A_iinc (ls2 := [_, _, _, _]) (nI (c + 1)) (dX5_tryRounds 18 rfl) rfl (nI_1 c) (by decide) rfl rfl ?_
    refine A_goto 15 (dX5_tryRounds 19 rfl) (by decide) ?_
    refine ih (c + 1) (by omega) gd2 ad2 gl2 al2 ?_ (h42.trans h4) (hd2.trans hd) ?_
    · rw [hc2, hc1, p_cr_s]
      refine congrArg (fun z => p_round C z (p_cr C m gl c (cfs gd ad gl))) ?_
      unfold p_lt
      rw [hd, hz]
      unfold p_zt
      by_cases h0 : gl 0 = 0
      · rw [if_pos h0, if_pos h0]
      · rw [if_neg h0, if_neg h0, if_neg h0]
    · rw [hz2]
      unfold p_zt
      rw [hd, hz]
      unfold p_zt
      by_cases h0 : gl 0 = 0
      · rw [if_pos h0, if_pos h0, if_pos h0]
      · rw [if_neg h0, if_neg h0, if_neg h0, zit_add, Nat.succ_mul]

set_option maxRecDepth 100000 in
set_option maxHeartbeats 400000 in
theorem K_try1 (E : ag) (kq : Nat) (cg : Nat → Int32) (qf : Nat → Nat) (gf : Nat → Int32) (af : Nat → Nat → Int32) (qd : Nat → Nat) (gd : Nat → Int32) (ad : Nat → Nat → Int32) (qk : Nat → Nat) (gk : Nat → Int32) (ak : Nat → Nat → Int32) (ql : Nat → Nat) (gl : Nat → Int32) (al : Nat → Nat → Int32) (qr : Nat → Nat) (gr : Nat → Int32) (ar : Nat → Nat → Int32) (rx : Nat) (qm : Nat) (qx : Nat → Nat → Nat) (gx : Nat → Nat → Int32) (ax : Nat → Nat → Nat → Int32) (qs : Nat) (sx : Nat → Option Nat) (qo : Nat → Nat) (go : Nat → Int32) (ao : Nat → Nat → Int32) (qp : Nat → Nat) (gp_ : Nat → Int32) (ap : Nat → Nat → Int32) (L : va_W) (m nn : Nat) (hnn : nn < 2 ^ 31) (C : Nat → List Int32) (hr4 : gf 4 = nI 1) (hC : TKC (ax 1) C) (hF : FI (cfs gd ad gl) m) (hb : ¬ gd 1 ≤ 0) (hM : MEN (cfs gd ad gl) m) : CT E yX5_tryRounds cX5_tryRounds 4 mX5_tryRounds.2.2.2.1 5 0 0 [.ref kq, .int (nI nn)] (wK E kq cg qf gf af qd gd ad qk gk ak ql gl al qr gr ar rx qm qx gx ax qs sx qo go ao qp gp_ ap L) (rv (fun w => ∃ (gd2 : Nat → Int32) (ad2 : Nat → Nat → Int32) (gl2 : Nat → Int32) (al2 : Nat → Nat → Int32), w = wK E kq cg qf gf af qd gd2 ad2 qk gk ak ql gl2 al2 qr gr ar rx qm qx gx ax qs sx qo go ao qp gp_ ap L ∧ cfs gd2 ad2 gl2 = p_cr C m gl nn (cfs gd ad gl) ∧ gd2 4 = gd 4 ∧ gl2 0 = gl 0 ∧ gl2 1 = p_zt gl (nn * m))) := by
  refine CT.of (M := mX5_tryRounds) (ls := [some (.ref kq), some (.int (nI nn)), none, none]) (by decide) rfl (by decide) rfl (Nat.le_of_ble_eq_true rfl) ?_
  refine A_aload_n (dX5_tryRounds 0 rfl) rfl ?_
  refine A_get (dX5_tryRounds 1 rfl) fwX5_42 wK_0 cK_f0_6 ?_
  refine A_aload_n (dX5_tryRounds 2 rfl) rfl ?_
  refine A_get (dX5_tryRounds 3 rfl) fwX5_10 wK_0 cK_f0_0 ?_
  refine A_get (dX5_tryRounds 4 rfl) fwX5_152 wK_1 cF_f0_10 ?_
  rw [hr4]
  refine A_aald 3 (dX5_tryRounds 5 rfl) wK_27 rfl (vp_in_nI (n := 1) (by decide) (by decide)) ?_
  rw [nI_clamp (n := 1) (by decide)]
  refine AW.stack (st2 := [.ref (qx 1 0)]) rfl ?_
  refine A_astore_n (ls2 := [_, _, _, _]) (dX5_tryRounds 6 rfl) (by decide) rfl rfl ?_
  refine A_iconst (0) (dX5_tryRounds 7 rfl) (by decide +kernel) ?_
  refine AW.pcq (pc2 := 14) rfl ?_
  refine A_istore_n (ls2 := [_, _, _, _]) (dX5_tryRounds 8 rfl) (by decide) rfl rfl ?_
  have h9 := K_tryL1 E kq cg qf gf af qd gd ad qk gk ak ql gl al qr gr ar rx qm qx gx ax qs sx qo go ao qp gp_ ap L m nn hnn C hr4 hC hF hb hM nn 0 (by omega) gd ad gl al p_cr_0.symm rfl rfl (by unfold p_zt; rw [Nat.zero_mul]; split <;> rfl)
  exact h9

set_option maxRecDepth 100000 in
set_option maxHeartbeats 400000 in
theorem K_tryL2 (E : ag) (kq : Nat) (cg : Nat → Int32) (qf : Nat → Nat) (gf : Nat → Int32) (af : Nat → Nat → Int32) (qd : Nat → Nat) (gd : Nat → Int32) (ad : Nat → Nat → Int32) (qk : Nat → Nat) (gk : Nat → Int32) (ak : Nat → Nat → Int32) (ql : Nat → Nat) (gl : Nat → Int32) (al : Nat → Nat → Int32) (qr : Nat → Nat) (gr : Nat → Int32) (ar : Nat → Nat → Int32) (rx : Nat) (qm : Nat) (qx : Nat → Nat → Nat) (gx : Nat → Nat → Int32) (ax : Nat → Nat → Nat → Int32) (qs : Nat) (sx : Nat → Option Nat) (qo : Nat → Nat) (go : Nat → Int32) (ao : Nat → Nat → Int32) (qp : Nat → Nat) (gp_ : Nat → Int32) (ap : Nat → Nat → Int32) (L : va_W) (m nn : Nat) (hnn : nn < 2 ^ 31) (C : Nat → List Int32) (hr4 : gf 4 = nI 2) (hC : TKC (ax 2) C) (hF : FI (cfs gd ad gl) m) (hb : ¬ gd 1 ≤ 0) (hM : MEN (cfs gd ad gl) m) : ∀ (n c : Nat), c + n = nn → ∀ (gd1 : Nat → Int32) (ad1 : Nat → Nat → Int32) (gl1 : Nat → Int32) (al1 : Nat → Nat → Int32), cfs gd1 ad1 gl1 = p_cr C m gl c (cfs gd ad gl) → gd1 4 = gd 4 → gl1 0 = gl 0 → gl1 1 = p_zt gl (c * m) → AW E mX5_tryRounds 5 0 0 15 [some (.ref kq), some (.int (nI nn)), some (.ref (qx 2 0)), some (.int (nI c))] [] (wK E kq cg qf gf af qd gd1 ad1 qk gk ak ql gl1 al1 qr gr ar rx qm qx gx ax qs sx qo go ao qp gp_ ap L) (rv (fun w => ∃ (gd2 : Nat → Int32) (ad2 : Nat → Nat → Int32) (gl2 : Nat → Int32) (al2 : Nat → Nat → Int32), w = wK E kq cg qf gf af qd gd2 ad2 qk gk ak ql gl2 al2 qr gr ar rx qm qx gx ax qs sx qo go ao qp gp_ ap L ∧ cfs gd2 ad2 gl2 = p_cr C m gl nn (cfs gd ad gl) ∧ gd2 4 = gd 4 ∧ gl2 0 = gl 0 ∧ gl2 1 = p_zt gl (nn * m))) := by
  intro n
  induction n with
  | zero =>
    intro c hc
    intro gd1 ad1 gl1 al1 hc1 h4 hd hz
    obtain rfl : nn = c := by omega
    refine A_iload_n (dX5_tryRounds 9 rfl) rfl ?_
    refine A_iload_n (dX5_tryRounds 10 rfl) rfl ?_
    refine A_icmp_ge 38 (dX5_tryRounds 11 rfl) (by decide) (fun h17 => ?_) (fun h17 => absurd (nI_le (a := nn) (b := nn) (Nat.le_refl _) hnn) h17)
    refine A_rv (dX5_tryRounds 20 rfl) rfl ?_
    exact ⟨gd1, ad1, gl1, al1, rfl, hc1, h4, hd, hz⟩
  | succ n ih =>
    intro c hc
    have hlt : c < nn := by omega
    intro gd1 ad1 gl1 al1 hc1 h4 hd hz
    refine A_iload_n (dX5_tryRounds 9 rfl) rfl ?_
    refine A_iload_n (dX5_tryRounds 10 rfl) rfl ?_
    refine A_icmp_ge 38 (dX5_tryRounds 11 rfl) (by decide) (fun h17 => absurd h17 (nI_ge hlt (by omega))) (fun h17 => ?_)
    refine A_aload_n (dX5_tryRounds 12 rfl) rfl ?_
    refine A_get (dX5_tryRounds 13 rfl) fwX5_29 wK_0 cK_f0_4 ?_
    refine A_aload_n (dX5_tryRounds 14 rfl) rfl ?_
    refine A_get (dX5_tryRounds 15 rfl) fwX5_16 wK_0 cK_f0_1 ?_
    refine A_aload_n (dX5_tryRounds 16 rfl) rfl ?_
    refine AW.pcq (pc2 := 29) rfl ?_
    refine A_callVv 2 (dX5_tryRounds 17 rfl) cbX0_pass cwX5_161 (l_pass E ql gl1 al1 qd gd1 ad1 (qx 2) (gx 2) (ax 2) m C hC (by rw [hc1]; exact hF.cr C m gl c) (by rw [(cG hc1).2.1, p_cr_1]; exact hb) (by rw [hc1]; exact hM.cr C m gl c)) rfl rfl wLT_0 rfl rfl [22, 23, 24, 8, 9, 10, 11, 12, 13, 14, 34, 35, 36] rfl rfl (Nat.le_of_ble_eq_true rfl) (Nat.le_of_ble_eq_true rfl) (Nat.le_of_ble_eq_true rfl) (Nat.le_of_ble_eq_true rfl) (Nat.le_of_ble_eq_true rfl) (by rintro _ ⟨_, _, _, _, rfl, _⟩; exact (Nat.le_of_ble_eq_true rfl)) ?_
    rintro w1 ⟨gl2, al2, gd2, ad2, rfl, hc2, h42, hd2, hz2⟩
    refine AW.world (ws2 := wK E kq cg qf gf af qd gd2 ad2 qk gk ak ql gl2 al2 qr gr ar rx qm qx gx ax qs sx qo go ao qp gp_ ap L) mK_ld2 ?_
    refine AW.pcq (pc2 := 32) rfl ?_
    refine A_iinc (ls2 := [_, _, _, _]) (nI (c + 1)) (dX5_tryRounds 18 rfl) rfl (nI_1 c) (by decide) rfl rfl ?_
    refine A_goto 15 (dX5_tryRounds 19 rfl) (by decide) ?_
    refine ih (c + 1) (by omega) gd2 ad2 gl2 al2 ?_ (h42.trans h4) (hd2.trans hd) ?_
    · rw [hc2, hc1, p_cr_s]
      refine congrArg (fun z => p_round C z (p_cr C m gl c (cfs gd ad gl))) ?_
      unfold p_lt
      rw [hd, hz]
      unfold p_zt
      by_cases h0 : gl 0 = 0
      · rw [if_pos h0, if_pos h0]
      · rw [if_neg h0, if_neg h0, if_neg h0]
    · rw [hz2]
      unfold p_zt
      rw [hd, hz]
      unfold p_zt
      by_cases h0 : gl 0 = 0
      · rw [if_pos h0, if_pos h0, if_pos h0]
      · rw [if_neg h0, if_neg h0, if_neg h0, zit_add, Nat.succ_mul]

set_option maxRecDepth 100000 in
set_option maxHeartbeats 400000 in
theorem K_try2 (E : ag) (kq : Nat) (cg : Nat → Int32) (qf : Nat → Nat) (gf : Nat → Int32) (af : Nat → Nat → Int32) (qd : Nat → Nat) (gd : Nat → Int32) (ad : Nat → Nat → Int32) (qk : Nat → Nat) (gk : Nat → Int32) (ak : Nat → Nat → Int32) (ql : Nat → Nat) (gl : Nat → Int32) (al : Nat → Nat → Int32) (qr : Nat → Nat) (gr : Nat → Int32) (ar : Nat → Nat → Int32) (rx : Nat) (qm : Nat) (qx : Nat → Nat → Nat) (gx : Nat → Nat → Int32) (ax : Nat → Nat → Nat → Int32) (qs : Nat) (sx : Nat → Option Nat) (qo : Nat → Nat) (go : Nat → Int32) (ao : Nat → Nat → Int32) (qp : Nat → Nat) (gp_ : Nat → Int32) (ap : Nat → Nat → Int32) (L : va_W) (m nn : Nat) (hnn : nn < 2 ^ 31) (C : Nat → List Int32) (hr4 : gf 4 = nI 2) (hC : TKC (ax 2) C) (hF : FI (cfs gd ad gl) m) (hb : ¬ gd 1 ≤ 0) (hM : MEN (cfs gd ad gl) m) : CT E yX5_tryRounds cX5_tryRounds 4 mX5_tryRounds.2.2.2.1 5 0 0 [.ref kq, .int (nI nn)] (wK E kq cg qf gf af qd gd ad qk gk ak ql gl al qr gr ar rx qm qx gx ax qs sx qo go ao qp gp_ ap L) (rv (fun w => ∃ (gd2 : Nat → Int32) (ad2 : Nat → Nat → Int32) (gl2 : Nat → Int32) (al2 : Nat → Nat → Int32), w = wK E kq cg qf gf af qd gd2 ad2 qk gk ak ql gl2 al2 qr gr ar rx qm qx gx ax qs sx qo go ao qp gp_ ap L ∧ cfs gd2 ad2 gl2 = p_cr C m gl nn (cfs gd ad gl) ∧ gd2 4 = gd 4 ∧ gl2 0 = gl 0 ∧ gl2 1 = p_zt gl (nn * m))) := by
  refine CT.of (M := mX5_tryRounds) (ls := [some (.ref kq), some (.int (nI nn)), none, none]) (by decide) rfl (by decide) rfl (Nat.le_of_ble_eq_true rfl) ?_
  refine A_aload_n (dX5_tryRounds 0 rfl) rfl ?_
  refine A_get (dX5_tryRounds 1 rfl) fwX5_42 wK_0 cK_f0_6 ?_
  refine A_aload_n (dX5_tryRounds 2 rfl) rfl ?_
  refine A_get (dX5_tryRounds 3 rfl) fwX5_10 wK_0 cK_f0_0 ?_
  refine A_get (dX5_tryRounds 4 rfl) fwX5_152 wK_1 cF_f0_10 ?_
  rw [hr4]
  refine A_aald 3 (dX5_tryRounds 5 rfl) wK_27 rfl (vp_in_nI (n := 2) (by decide) (by decide)) ?_
  rw [nI_clamp (n := 2) (by decide)]
  refine AW.stack (st2 := [.ref (qx 2 0)]) rfl ?_
  refine A_astore_n (ls2 := [_, _, _, _]) (dX5_tryRounds 6 rfl) (by decide) rfl rfl ?_
  refine A_iconst (0) (dX5_tryRounds 7 rfl) (by decide +kernel) ?_
  refine AW.pcq (pc2 := 14) rfl ?_
  refine A_istore_n (ls2 := [_, _, _, _]) (dX5_tryRounds 8 rfl) (by decide) rfl rfl ?_
  have h9 := K_tryL2 E kq cg qf gf af qd gd ad qk gk ak ql gl al qr gr ar rx qm qx gx ax qs sx qo go ao qp gp_ ap L m nn hnn C hr4 hC hF hb hM nn 0 (by omega) gd ad gl al p_cr_0.symm rfl rfl (by unfold p_zt; rw [Nat.zero_mul]; split <;> rfl)
  exact h9

set_option maxRecDepth 100000 in
set_option maxHeartbeats 400000 in
theorem K_tryL3 (E : ag) (kq : Nat) (cg : Nat → Int32) (qf : Nat → Nat) (gf : Nat → Int32) (af : Nat → Nat → Int32) (qd : Nat → Nat) (gd : Nat → Int32) (ad : Nat → Nat → Int32) (qk : Nat → Nat) (gk : Nat → Int32) (ak : Nat → Nat → Int32) (ql : Nat → Nat) (gl : Nat → Int32) (al : Nat → Nat → Int32) (qr : Nat → Nat) (gr : Nat → Int32) (ar : Nat → Nat → Int32) (rx : Nat) (qm : Nat) (qx : Nat → Nat → Nat) (gx : Nat → Nat → Int32) (ax : Nat → Nat → Nat → Int32) (qs : Nat) (sx : Nat → Option Nat) (qo : Nat → Nat) (go : Nat → Int32) (ao : Nat → Nat → Int32) (qp : Nat → Nat) (gp_ : Nat → Int32) (ap : Nat → Nat → Int32) (L : va_W) (m nn : Nat) (hnn : nn < 2 ^ 31) (C : Nat → List Int32) (hr4 : gf 4 = nI 3) (hC : TKC (ax 3) C) (hF : FI (cfs gd ad gl) m) (hb : ¬ gd 1 ≤ 0) (hM : MEN (cfs gd ad gl) m) : ∀ (n c : Nat), c + n = nn → ∀ (gd1 : Nat → Int32) (ad1 : Nat → Nat → Int32) (gl1 : Nat → Int32) (al1 : Nat → Nat → Int32), cfs gd1 ad1 gl1 = p_cr C m gl c (cfs gd ad gl) → gd1 4 = gd 4 → gl1 0 = gl 0 → gl1 1 = p_zt gl (c * m) → AW E mX5_tryRounds 5 0 0 15 [some (.ref kq), some (.int (nI nn)), some (.ref (qx 3 0)), some (.int (nI c))] [] (wK E kq cg qf gf af qd gd1 ad1 qk gk ak ql gl1 al1 qr gr ar rx qm qx gx ax qs sx qo go ao qp gp_ ap L) (rv (fun w => ∃ (gd2 : Nat → Int32) (ad2 : Nat → Nat → Int32) (gl2 : Nat → Int32) (al2 : Nat → Nat → Int32), w = wK E kq cg qf gf af qd gd2 ad2 qk gk ak ql gl2 al2 qr gr ar rx qm qx gx ax qs sx qo go ao qp gp_ ap L ∧ cfs gd2 ad2 gl2 = p_cr C m gl nn (cfs gd ad gl) ∧ gd2 4 = gd 4 ∧ gl2 0 = gl 0 ∧ gl2 1 = p_zt gl (nn * m))) := by
  intro n
  induction n with
  | zero =>
    intro c hc
    intro gd1 ad1 gl1 al1 hc1 h4 hd hz
    obtain rfl : nn = c := by omega
    refine A_iload_n (dX5_tryRounds 9 rfl) rfl ?_
    refine A_iload_n (dX5_tryRounds 10 rfl) rfl ?_
    refine A_icmp_ge 38 (dX5_tryRounds 11 rfl) (by decide) (fun h17 => ?_) (fun h17 => absurd (nI_le (a := nn) (b := nn) (Nat.le_refl _) hnn) h17)
    refine A_rv (dX5_tryRounds 20 rfl) rfl ?_
    exact ⟨gd1, ad1, gl1, al1, rfl, hc1, h4, hd, hz⟩
  | succ n ih =>
    intro c hc
    have hlt : c < nn := by omega
    intro gd1 ad1 gl1 al1 hc1 h4 hd hz
    refine A_iload_n (dX5_tryRounds 9 rfl) rfl ?_
    refine A_iload_n (dX5_tryRounds 10 rfl) rfl ?_
    refine A_icmp_ge 38 (dX5_tryRounds 11 rfl) (by decide) (fun h17 => absurd h17 (nI_ge hlt (by omega))) (fun h17 => ?_)
    refine A_aload_n (dX5_tryRounds 12 rfl) rfl ?_
    refine A_get (dX5_tryRounds 13 rfl) fwX5_29 wK_0 cK_f0_4 ?_
    refine A_aload_n (dX5_tryRounds 14 rfl) rfl ?_
    refine A_get (dX5_tryRounds 15 rfl) fwX5_16 wK_0 cK_f0_1 ?_
    refine A_aload_n (dX5_tryRounds 16 rfl) rfl ?_
    refine AW.pcq (pc2 := 29) rfl ?_
    refine A_callVv 2 (dX5_tryRounds 17 rfl) cbX0_pass cwX5_161 (l_pass E ql gl1 al1 qd gd1 ad1 (qx 3) (gx 3) (ax 3) m C hC (by rw [hc1]; exact hF.cr C m gl c) (by rw [(cG hc1).2.1, p_cr_1]; exact hb) (by rw [hc1]; exact hM.cr C m gl c)) rfl rfl wLT_0 rfl rfl [22, 23, 24, 8, 9, 10, 11, 12, 13, 14, 37, 38, 39] rfl rfl (Nat.le_of_ble_eq_true rfl) (Nat.le_of_ble_eq_true rfl) (Nat.le_of_ble_eq_true rfl) (Nat.le_of_ble_eq_true rfl) (Nat.le_of_ble_eq_true rfl) (by rintro _ ⟨_, _, _, _, rfl, _⟩; exact (Nat.le_of_ble_eq_true rfl)) ?_
    rintro w1 ⟨gl2, al2, gd2, ad2, rfl, hc2, h42, hd2, hz2⟩
    refine AW.world (ws2 := wK E kq cg qf gf af qd gd2 ad2 qk gk ak ql gl2 al2 qr gr ar rx qm qx gx ax qs sx qo go ao qp gp_ ap L) mK_ld3 ?_
    refine AW.pcq (pc2 := 32) rfl ?_
    refine A_iinc (ls2 := [_, _, _, _]) (nI (c + 1)) (dX5_tryRounds 18 rfl) rfl (nI_1 c) (by decide) rfl rfl ?_
    refine A_goto 15 (dX5_tryRounds 19 rfl) (by decide) ?_
    refine ih (c + 1) (by omega) gd2 ad2 gl2 al2 ?_ (h42.trans h4) (hd2.trans hd) ?_
    · rw [hc2, hc1, p_cr_s]
      refine congrArg (fun z => p_round C z (p_cr C m gl c (cfs gd ad gl))) ?_
      unfold p_lt
      rw [hd, hz]
      unfold p_zt
      by_cases h0 : gl 0 = 0
      · rw [if_pos h0, if_pos h0]
      · rw [if_neg h0, if_neg h0, if_neg h0]
    · rw [hz2]
      unfold p_zt
      rw [hd, hz]
      unfold p_zt
      by_cases h0 : gl 0 = 0
      · rw [if_pos h0, if_pos h0, if_pos h0]
      · rw [if_neg h0, if_neg h0, if_neg h0, zit_add, Nat.succ_mul]

set_option maxRecDepth 100000 in
set_option maxHeartbeats 400000 in
theorem K_try3 (E : ag) (kq : Nat) (cg : Nat → Int32) (qf : Nat → Nat) (gf : Nat → Int32) (af : Nat → Nat → Int32) (qd : Nat → Nat) (gd : Nat → Int32) (ad : Nat → Nat → Int32) (qk : Nat → Nat) (gk : Nat → Int32) (ak : Nat → Nat → Int32) (ql : Nat → Nat) (gl : Nat → Int32) (al : Nat → Nat → Int32) (qr : Nat → Nat) (gr : Nat → Int32) (ar : Nat → Nat → Int32) (rx : Nat) (qm : Nat) (qx : Nat → Nat → Nat) (gx : Nat → Nat → Int32) (ax : Nat → Nat → Nat → Int32) (qs : Nat) (sx : Nat → Option Nat) (qo : Nat → Nat) (go : Nat → Int32) (ao : Nat → Nat → Int32) (qp : Nat → Nat) (gp_ : Nat → Int32) (ap : Nat → Nat → Int32) (L : va_W) (m nn : Nat) (hnn : nn < 2 ^ 31) (C : Nat → List Int32) (hr4 : gf 4 = nI 3) (hC : TKC (ax 3) C) (hF : FI (cfs gd ad gl) m) (hb : ¬ gd 1 ≤ 0) (hM : MEN (cfs gd ad gl) m) : CT E yX5_tryRounds cX5_tryRounds 4 mX5_tryRounds.2.2.2.1 5 0 0 [.ref kq, .int (nI nn)] (wK E kq cg qf gf af qd gd ad qk gk ak ql gl al qr gr ar rx qm qx gx ax qs sx qo go ao qp gp_ ap L) (rv (fun w => ∃ (gd2 : Nat → Int32) (ad2 : Nat → Nat → Int32) (gl2 : Nat → Int32) (al2 : Nat → Nat → Int32), w = wK E kq cg qf gf af qd gd2 ad2 qk gk ak ql gl2 al2 qr gr ar rx qm qx gx ax qs sx qo go ao qp gp_ ap L ∧ cfs gd2 ad2 gl2 = p_cr C m gl nn (cfs gd ad gl) ∧ gd2 4 = gd 4 ∧ gl2 0 = gl 0 ∧ gl2 1 = p_zt gl (nn * m))) := by
  refine CT.of (M := mX5_tryRounds) (ls := [some (.ref kq), some (.int (nI nn)), none, none]) (by decide) rfl (by decide) rfl (Nat.le_of_ble_eq_true rfl) ?_
  refine A_aload_n (dX5_tryRounds 0 rfl) rfl ?_
  refine A_get (dX5_tryRounds 1 rfl) fwX5_42 wK_0 cK_f0_6 ?_
  refine A_aload_n (dX5_tryRounds 2 rfl) rfl ?_
  refine A_get (dX5_tryRounds 3 rfl) fwX5_10 wK_0 cK_f0_0 ?_
  refine A_get (dX5_tryRounds 4 rfl) fwX5_152 wK_1 cF_f0_10 ?_
  rw [hr4]
  refine A_aald 3 (dX5_tryRounds 5 rfl) wK_27 rfl (vp_in_nI (n := 3) (by decide) (by decide)) ?_
  rw [nI_clamp (n := 3) (by decide)]
  refine AW.stack (st2 := [.ref (qx 3 0)]) rfl ?_
  refine A_astore_n (ls2 := [_, _, _, _]) (dX5_tryRounds 6 rfl) (by decide) rfl rfl ?_
  refine A_iconst (0) (dX5_tryRounds 7 rfl) (by decide +kernel) ?_
  refine AW.pcq (pc2 := 14) rfl ?_
  refine A_istore_n (ls2 := [_, _, _, _]) (dX5_tryRounds 8 rfl) (by decide) rfl rfl ?_
  have h9 := K_tryL3 E kq cg qf gf af qd gd ad qk gk ak ql gl al qr gr ar rx qm qx gx ax qs sx qo go ao qp gp_ ap L m nn hnn C hr4 hC hF hb hM nn 0 (by omega) gd ad gl al p_cr_0.symm rfl rfl (by unfold p_zt; rw [Nat.zero_mul]; split <;> rfl)
  exact h9

set_option maxRecDepth 100000 in
set_option maxHeartbeats 400000 in
theorem K_tryL4 (E : ag) (kq : Nat) (cg : Nat → Int32) (qf : Nat → Nat) (gf : Nat → Int32) (af : Nat → Nat → Int32) (qd : Nat → Nat) (gd : Nat → Int32) (ad : Nat → Nat → Int32) (qk : Nat → Nat) (gk : Nat → Int32) (ak : Nat → Nat → Int32) (ql : Nat → Nat) (gl : Nat → Int32) (al : Nat → Nat → Int32) (qr : Nat → Nat) (gr : Nat → Int32) (ar : Nat → Nat → Int32) (rx : Nat) (qm : Nat) (qx : Nat → Nat → Nat) (gx : Nat → Nat → Int32) (ax : Nat → Nat → Nat → Int32) (qs : Nat) (sx : Nat → Option Nat) (qo : Nat → Nat) (go : Nat → Int32) (ao : Nat → Nat → Int32) (qp : Nat → Nat) (gp_ : Nat → Int32) (ap : Nat → Nat → Int32) (L : va_W) (m nn : Nat) (hnn : nn < 2 ^ 31) (C : Nat → List Int32) (hr4 : gf 4 = nI 4) (hC : TKC (ax 4) C) (hF : FI (cfs gd ad gl) m) (hb : ¬ gd 1 ≤ 0) (hM : MEN (cfs gd ad gl) m) : ∀ (n c : Nat), c + n = nn → ∀ (gd1 : Nat → Int32) (ad1 : Nat → Nat → Int32) (gl1 : Nat → Int32) (al1 : Nat → Nat → Int32), cfs gd1 ad1 gl1 = p_cr C m gl c (cfs gd ad gl) → gd1 4 = gd 4 → gl1 0 = gl 0 → gl1 1 = p_zt gl (c * m) → AW E mX5_tryRounds 5 0 0 15 [some (.ref kq), some (.int (nI nn)), some (.ref (qx 4 0)), some (.int (nI c))] [] (wK E kq cg qf gf af qd gd1 ad1 qk gk ak ql gl1 al1 qr gr ar rx qm qx gx ax qs sx qo go ao qp gp_ ap L) (rv (fun w => ∃ (gd2 : Nat → Int32) (ad2 : Nat → Nat → Int32) (gl2 : Nat → Int32) (al2 : Nat → Nat → Int32), w = wK E kq cg qf gf af qd gd2 ad2 qk gk ak ql gl2 al2 qr gr ar rx qm qx gx ax qs sx qo go ao qp gp_ ap L ∧ cfs gd2 ad2 gl2 = p_cr C m gl nn (cfs gd ad gl) ∧ gd2 4 = gd 4 ∧ gl2 0 = gl 0 ∧ gl2 1 = p_zt gl (nn * m))) := by
  intro n
  induction n with
  | zero =>
    intro c hc
    intro gd1 ad1 gl1 al1 hc1 h4 hd hz
    obtain rfl : nn = c := by omega
    refine A_iload_n (dX5_tryRounds 9 rfl) rfl ?_
    refine A_iload_n (dX5_tryRounds 10 rfl) rfl ?_
    refine A_icmp_ge 38 (dX5_tryRounds 11 rfl) (by decide) (fun h17 => ?_) (fun h17 => absurd (nI_le (a := nn) (b := nn) (Nat.le_refl _) hnn) h17)
    refine A_rv (dX5_tryRounds 20 rfl) rfl ?_
    exact ⟨gd1, ad1, gl1, al1, rfl, hc1, h4, hd, hz⟩
  | succ n ih =>
    intro c hc
    have hlt : c < nn := by omega
    intro gd1 ad1 gl1 al1 hc1 h4 hd hz
    refine A_iload_n (dX5_tryRounds 9 rfl) rfl ?_
    refine A_iload_n (dX5_tryRounds 10 rfl) rfl ?_
    refine A_icmp_ge 38 (dX5_tryRounds 11 rfl) (by decide) (fun h17 => absurd h17 (nI_ge hlt (by omega))) (fun h17 => ?_)
    refine A_aload_n (dX5_tryRounds 12 rfl) rfl ?_
    refine A_get (dX5_tryRounds 13 rfl) fwX5_29 wK_0 cK_f0_4 ?_
    refine A_aload_n (dX5_tryRounds 14 rfl) rfl ?_
    refine A_get (dX5_tryRounds 15 rfl) fwX5_16 wK_0 cK_f0_1 ?_
    refine A_aload_n (dX5_tryRounds 16 rfl) rfl ?_
    refine AW.pcq (pc2 := 29) rfl ?_
    refine A_callVv 2 (dX5_tryRounds 17 rfl) cbX0_pass cwX5_161 (l_pass E ql gl1 al1 qd gd1 ad1 (qx 4) (gx 4) (ax 4) m C hC (by rw [hc1]; exact hF.cr C m gl c) (by rw [(cG hc1).2.1, p_cr_1]; exact hb) (by rw [hc1]; exact hM.cr C m gl c)) rfl rfl wLT_0 rfl rfl [22, 23, 24, 8, 9, 10, 11, 12, 13, 14, 40, 41, 42] rfl rfl (Nat.le_of_ble_eq_true rfl) (Nat.le_of_ble_eq_true rfl) (Nat.le_of_ble_eq_true rfl) (Nat.le_of_ble_eq_true rfl) (Nat.le_of_ble_eq_true rfl) (by rintro _ ⟨_, _, _, _, rfl, _⟩; exact (Nat.le_of_ble_eq_true rfl)) ?_
    rintro w1 ⟨gl2, al2, gd2, ad2, rfl, hc2, h42, hd2, hz2⟩
    refine AW.world (ws2 := wK E kq cg qf gf af qd gd2 ad2 qk gk ak ql gl2 al2 qr gr ar rx qm qx gx ax qs sx qo go ao qp gp_ ap L) mK_ld4 ?_
    refine AW.pcq (pc2 := 32) rfl ?_
    refine A_iinc (ls2 := [_, _, _, _]) (nI (c + 1)) (dX5_tryRounds 18 rfl) rfl (nI_1 c) (by decide) rfl rfl ?_
    refine A_goto 15 (dX5_tryRounds 19 rfl) (by decide) ?_
    refine ih (c + 1) (by omega) gd2 ad2 gl2 al2 ?_ (h42.trans h4) (hd2.trans hd) ?_
    · rw [hc2, hc1, p_cr_s]
      refine congrArg (fun z => p_round C z (p_cr C m gl c (cfs gd ad gl))) ?_
      unfold p_lt
      rw [hd, hz]
      unfold p_zt
      by_cases h0 : gl 0 = 0
      · rw [if_pos h0, if_pos h0]
      · rw [if_neg h0, if_neg h0, if_neg h0]
    · rw [hz2]
      unfold p_zt
      rw [hd, hz]
      unfold p_zt
      by_cases h0 : gl 0 = 0
      · rw [if_pos h0, if_pos h0, if_pos h0]
      · rw [if_neg h0, if_neg h0, if_neg h0, zit_add, Nat.succ_mul]

set_option maxRecDepth 100000 in
set_option maxHeartbeats 400000 in
theorem K_try4 (E : ag) (kq : Nat) (cg : Nat → Int32) (qf : Nat → Nat) (gf : Nat → Int32) (af : Nat → Nat → Int32) (qd : Nat → Nat) (gd : Nat → Int32) (ad : Nat → Nat → Int32) (qk : Nat → Nat) (gk : Nat → Int32) (ak : Nat → Nat → Int32) (ql : Nat → Nat) (gl : Nat → Int32) (al : Nat → Nat → Int32) (qr : Nat → Nat) (gr : Nat → Int32) (ar : Nat → Nat → Int32) (rx : Nat) (qm : Nat) (qx : Nat → Nat → Nat) (gx : Nat → Nat → Int32) (ax : Nat → Nat → Nat → Int32) (qs : Nat) (sx : Nat → Option Nat) (qo : Nat → Nat) (go : Nat → Int32) (ao : Nat → Nat → Int32) (qp : Nat → Nat) (gp_ : Nat → Int32) (ap : Nat → Nat → Int32) (L : va_W) (m nn : Nat) (hnn : nn < 2 ^ 31) (C : Nat → List Int32) (hr4 : gf 4 = nI 4) (hC : TKC (ax 4) C) (hF : FI (cfs gd ad gl) m) (hb : ¬ gd 1 ≤ 0) (hM : MEN (cfs gd ad gl) m) : CT E yX5_tryRounds cX5_tryRounds 4 mX5_tryRounds.2.2.2.1 5 0 0 [.ref kq, .int (nI nn)] (wK E kq cg qf gf af qd gd ad qk gk ak ql gl al qr gr ar rx qm qx gx ax qs sx qo go ao qp gp_ ap L) (rv (fun w => ∃ (gd2 : Nat → Int32) (ad2 : Nat → Nat → Int32) (gl2 : Nat → Int32) (al2 : Nat → Nat → Int32), w = wK E kq cg qf gf af qd gd2 ad2 qk gk ak ql gl2 al2 qr gr ar rx qm qx gx ax qs sx qo go ao qp gp_ ap L ∧ cfs gd2 ad2 gl2 = p_cr C m gl nn (cfs gd ad gl) ∧ gd2 4 = gd 4 ∧ gl2 0 = gl 0 ∧ gl2 1 = p_zt gl (nn * m))) := by
  refine CT.of (M := mX5_tryRounds) (ls := [some (.ref kq), some (.int (nI nn)), none, none]) (by decide) rfl (by decide) rfl (Nat.le_of_ble_eq_true rfl) ?_
  refine A_aload_n (dX5_tryRounds 0 rfl) rfl ?_
  refine A_get (dX5_tryRounds 1 rfl) fwX5_42 wK_0 cK_f0_6 ?_
  refine A_aload_n (dX5_tryRounds 2 rfl) rfl ?_
  refine A_get (dX5_tryRounds 3 rfl) fwX5_10 wK_0 cK_f0_0 ?_
  refine A_get (dX5_tryRounds 4 rfl) fwX5_152 wK_1 cF_f0_10 ?_
  rw [hr4]
  refine A_aald 3 (dX5_tryRounds 5 rfl) wK_27 rfl (vp_in_nI (n := 4) (by decide) (by decide)) ?_
  rw [nI_clamp (n := 4) (by decide)]
  refine AW.stack (st2 := [.ref (qx 4 0)]) rfl ?_
  refine A_astore_n (ls2 := [_, _, _, _]) (dX5_tryRounds 6 rfl) (by decide) rfl rfl ?_
  refine A_iconst (0) (dX5_tryRounds 7 rfl) (by decide +kernel) ?_
  refine AW.pcq (pc2 := 14) rfl ?_
  refine A_istore_n (ls2 := [_, _, _, _]) (dX5_tryRounds 8 rfl) (by decide) rfl rfl ?_
  have h9 := K_tryL4 E kq cg qf gf af qd gd ad qk gk ak ql gl al qr gr ar rx qm qx gx ax qs sx qo go ao qp gp_ ap L m nn hnn C hr4 hC hF hb hM nn 0 (by omega) gd ad gl al p_cr_0.symm rfl rfl (by unfold p_zt; rw [Nat.zero_mul]; split <;> rfl)
  exact h9

set_option maxRecDepth 100000 in
set_option maxHeartbeats 400000 in
theorem K_tryL5 (E : ag) (kq : Nat) (cg : Nat → Int32) (qf : Nat → Nat) (gf : Nat → Int32) (af : Nat → Nat → Int32) (qd : Nat → Nat) (gd : Nat → Int32) (ad : Nat → Nat → Int32) (qk : Nat → Nat) (gk : Nat → Int32) (ak : Nat → Nat → Int32) (ql : Nat → Nat) (gl : Nat → Int32) (al : Nat → Nat → Int32) (qr : Nat → Nat) (gr : Nat → Int32) (ar : Nat → Nat → Int32) (rx : Nat) (qm : Nat) (qx : Nat → Nat → Nat) (gx : Nat → Nat → Int32) (ax : Nat → Nat → Nat → Int32) (qs : Nat) (sx : Nat → Option Nat) (qo : Nat → Nat) (go : Nat → Int32) (ao : Nat → Nat → Int32) (qp : Nat → Nat) (gp_ : Nat → Int32) (ap : Nat → Nat → Int32) (L : va_W) (m nn : Nat) (hnn : nn < 2 ^ 31) (C : Nat → List Int32) (hr4 : gf 4 = nI 5) (hC : TKC (ax 5) C) (hF : FI (cfs gd ad gl) m) (hb : ¬ gd 1 ≤ 0) (hM : MEN (cfs gd ad gl) m) : ∀ (n c : Nat), c + n = nn → ∀ (gd1 : Nat → Int32) (ad1 : Nat → Nat → Int32) (gl1 : Nat → Int32) (al1 : Nat → Nat → Int32), cfs gd1 ad1 gl1 = p_cr C m gl c (cfs gd ad gl) → gd1 4 = gd 4 → gl1 0 = gl 0 → gl1 1 = p_zt gl (c * m) → AW E mX5_tryRounds 5 0 0 15 [some (.ref kq), some (.int (nI nn)), some (.ref (qx 5 0)), some (.int (nI c))] [] (wK E kq cg qf gf af qd gd1 ad1 qk gk ak ql gl1 al1 qr gr ar rx qm qx gx ax qs sx qo go ao qp gp_ ap L) (rv (fun w => ∃ (gd2 : Nat → Int32) (ad2 : Nat → Nat → Int32) (gl2 : Nat → Int32) (al2 : Nat → Nat → Int32), w = wK E kq cg qf gf af qd gd2 ad2 qk gk ak ql gl2 al2 qr gr ar rx qm qx gx ax qs sx qo go ao qp gp_ ap L ∧ cfs gd2 ad2 gl2 = p_cr C m gl nn (cfs gd ad gl) ∧ gd2 4 = gd 4 ∧ gl2 0 = gl 0 ∧ gl2 1 = p_zt gl (nn * m))) := by
  intro n
  induction n with
  | zero =>
    intro c hc
    intro gd1 ad1 gl1 al1 hc1 h4 hd hz
    obtain rfl : nn = c := by omega
    refine A_iload_n (dX5_tryRounds 9 rfl) rfl ?_
    refine A_iload_n (dX5_tryRounds 10 rfl) rfl ?_
    refine A_icmp_ge 38 (dX5_tryRounds 11 rfl) (by decide) (fun h17 => ?_) (fun h17 => absurd (nI_le (a := nn) (b := nn) (Nat.le_refl _) hnn) h17)
    refine A_rv (dX5_tryRounds 20 rfl) rfl ?_
    exact ⟨gd1, ad1, gl1, al1, rfl, hc1, h4, hd, hz⟩
  | succ n ih =>
    intro c hc
    have hlt : c < nn := by omega
    intro gd1 ad1 gl1 al1 hc1 h4 hd hz
    refine A_iload_n (dX5_tryRounds 9 rfl) rfl ?_
    refine A_iload_n (dX5_tryRounds 10 rfl) rfl ?_
    refine A_icmp_ge 38 (dX5_tryRounds 11 rfl) (by decide) (fun h17 => absurd h17 (nI_ge hlt (by omega))) (fun h17 => ?_)
    refine A_aload_n (dX5_tryRounds 12 rfl) rfl ?_
    refine A_get (dX5_tryRounds 13 rfl) fwX5_29 wK_0 cK_f0_4 ?_
    refine A_aload_n (dX5_tryRounds 14 rfl) rfl ?_
    refine A_get (dX5_tryRounds 15 rfl) fwX5_16 wK_0 cK_f0_1 ?_
    refine A_aload_n (dX5_tryRounds 16 rfl) rfl ?_
    refine AW.pcq (pc2 := 29) rfl ?_
    refine A_callVv 2 (dX5_tryRounds 17 rfl) cbX0_pass cwX5_161 (l_pass E ql gl1 al1 qd gd1 ad1 (qx 5) (gx 5) (ax 5) m C hC (by rw [hc1]; exact hF.cr C m gl c) (by rw [(cG hc1).2.1, p_cr_1]; exact hb) (by rw [hc1]; exact hM.cr C m gl c)) rfl rfl wLT_0 rfl rfl [22, 23, 24, 8, 9, 10, 11, 12, 13, 14, 43, 44, 45] rfl rfl (Nat.le_of_ble_eq_true rfl) (Nat.le_of_ble_eq_true rfl) (Nat.le_of_ble_eq_true rfl) (Nat.le_of_ble_eq_true rfl) (Nat.le_of_ble_eq_true rfl) (by rintro _ ⟨_, _, _, _, rfl, _⟩; exact (Nat.le_of_ble_eq_true rfl)) ?_
    rintro w1 ⟨gl2, al2, gd2, ad2, rfl, hc2, h42, hd2, hz2⟩
    refine AW.world (ws2 := wK E kq cg qf gf af qd gd2 ad2 qk gk ak ql gl2 al2 qr gr ar rx qm qx gx ax qs sx qo go ao qp gp_ ap L) mK_ld5 ?_
    refine AW.pcq (pc2 := 32) rfl ?_
    refine A_iinc (ls2 := [_, _, _, _]) (nI (c + 1)) (dX5_tryRounds 18 rfl) rfl (nI_1 c) (by decide) rfl rfl ?_
    refine A_goto 15 (dX5_tryRounds 19 rfl) (by decide) ?_
    refine ih (c + 1) (by omega) gd2 ad2 gl2 al2 ?_ (h42.trans h4) (hd2.trans hd) ?_
    · rw [hc2, hc1, p_cr_s]
      refine congrArg (fun z => p_round C z (p_cr C m gl c (cfs gd ad gl))) ?_
      unfold p_lt
      rw [hd, hz]
      unfold p_zt
      by_cases h0 : gl 0 = 0
      · rw [if_pos h0, if_pos h0]
      · rw [if_neg h0, if_neg h0, if_neg h0]
    · rw [hz2]
      unfold p_zt
      rw [hd, hz]
      unfold p_zt
      by_cases h0 : gl 0 = 0
      · rw [if_pos h0, if_pos h0, if_pos h0]
      · rw [if_neg h0, if_neg h0, if_neg h0, zit_add, Nat.succ_mul]

set_option maxRecDepth 100000 in
set_option maxHeartbeats 400000 in
theorem K_try5 (E : ag) (kq : Nat) (cg : Nat → Int32) (qf : Nat → Nat) (gf : Nat → Int32) (af : Nat → Nat → Int32) (qd : Nat → Nat) (gd : Nat → Int32) (ad : Nat → Nat → Int32) (qk : Nat → Nat) (gk : Nat → Int32) (ak : Nat → Nat → Int32) (ql : Nat → Nat) (gl : Nat → Int32) (al : Nat → Nat → Int32) (qr : Nat → Nat) (gr : Nat → Int32) (ar : Nat → Nat → Int32) (rx : Nat) (qm : Nat) (qx : Nat → Nat → Nat) (gx : Nat → Nat → Int32) (ax : Nat → Nat → Nat → Int32) (qs : Nat) (sx : Nat → Option Nat) (qo : Nat → Nat) (go : Nat → Int32) (ao : Nat → Nat → Int32) (qp : Nat → Nat) (gp_ : Nat → Int32) (ap : Nat → Nat → Int32) (L : va_W) (m nn : Nat) (hnn : nn < 2 ^ 31) (C : Nat → List Int32) (hr4 : gf 4 = nI 5) (hC : TKC (ax 5) C) (hF : FI (cfs gd ad gl) m) (hb : ¬ gd 1 ≤ 0) (hM : MEN (cfs gd ad gl) m) : CT E yX5_tryRounds cX5_tryRounds 4 mX5_tryRounds.2.2.2.1 5 0 0 [.ref kq, .int (nI nn)] (wK E kq cg qf gf af qd gd ad qk gk ak ql gl al qr gr ar rx qm qx gx ax qs sx qo go ao qp gp_ ap L) (rv (fun w => ∃ (gd2 : Nat → Int32) (ad2 : Nat → Nat → Int32) (gl2 : Nat → Int32) (al2 : Nat → Nat → Int32), w = wK E kq cg qf gf af qd gd2 ad2 qk gk ak ql gl2 al2 qr gr ar rx qm qx gx ax qs sx qo go ao qp gp_ ap L ∧ cfs gd2 ad2 gl2 = p_cr C m gl nn (cfs gd ad gl) ∧ gd2 4 = gd 4 ∧ gl2 0 = gl 0 ∧ gl2 1 = p_zt gl (nn * m))) := by
  refine CT.of (M := mX5_tryRounds) (ls := [some (.ref kq), some (.int (nI nn)), none, none]) (by decide) rfl (by decide) rfl (Nat.le_of_ble_eq_true rfl) ?_
  refine A_aload_n (dX5_tryRounds 0 rfl) rfl ?_
  refine A_get (dX5_tryRounds 1 rfl) fwX5_42 wK_0 cK_f0_6 ?_
  refine A_aload_n (dX5_tryRounds 2 rfl) rfl ?_
  refine A_get (dX5_tryRounds 3 rfl) fwX5_10 wK_0 cK_f0_0 ?_
  refine A_get (dX5_tryRounds 4 rfl) fwX5_152 wK_1 cF_f0_10 ?_
  rw [hr4]
  refine A_aald 3 (dX5_tryRounds 5 rfl) wK_27 rfl (vp_in_nI (n := 5) (by decide) (by decide)) ?_
  rw [nI_clamp (n := 5) (by decide)]
  refine AW.stack (st2 := [.ref (qx 5 0)]) rfl ?_
  refine A_astore_n (ls2 := [_, _, _, _]) (dX5_tryRounds 6 rfl) (by decide) rfl rfl ?_
  refine A_iconst (0) (dX5_tryRounds 7 rfl) (by decide +kernel) ?_
  refine AW.pcq (pc2 := 14) rfl ?_
  refine A_istore_n (ls2 := [_, _, _, _]) (dX5_tryRounds 8 rfl) (by decide) rfl rfl ?_
  have h9 := K_tryL5 E kq cg qf gf af qd gd ad qk gk ak ql gl al qr gr ar rx qm qx gx ax qs sx qo go ao qp gp_ ap L m nn hnn C hr4 hC hF hb hM nn 0 (by omega) gd ad gl al p_cr_0.symm rfl rfl (by unfold p_zt; rw [Nat.zero_mul]; split <;> rfl)
  exact h9

theorem K_try (E : ag) (kq : Nat) (cg : Nat → Int32) (qf : Nat → Nat) (gf : Nat → Int32) (af : Nat → Nat → Int32) (qd : Nat → Nat) (gd : Nat → Int32) (ad : Nat → Nat → Int32) (qk : Nat → Nat) (gk : Nat → Int32) (ak : Nat → Nat → Int32) (ql : Nat → Nat) (gl : Nat → Int32) (al : Nat → Nat → Int32) (qr : Nat → Nat) (gr : Nat → Int32) (ar : Nat → Nat → Int32) (rx : Nat) (qm : Nat) (qx : Nat → Nat → Nat) (gx : Nat → Nat → Int32) (ax : Nat → Nat → Nat → Int32) (qs : Nat) (sx : Nat → Option Nat) (qo : Nat → Nat) (go : Nat → Int32) (ao : Nat → Nat → Int32) (qp : Nat → Nat) (gp_ : Nat → Int32) (ap : Nat → Nat → Int32) (L : va_W) (m nn : Nat) (hnn : nn < 2 ^ 31) (C : Nat → List Int32) (t : Nat) (ht : t < 6) (hr4 : gf 4 = nI t) (hC : TKC (ax t) C) (hF : FI (cfs gd ad gl) m) (hb : ¬ gd 1 ≤ 0) (hM : MEN (cfs gd ad gl) m) : CT E yX5_tryRounds cX5_tryRounds 4 mX5_tryRounds.2.2.2.1 5 0 0 [.ref kq, .int (nI nn)] (wK E kq cg qf gf af qd gd ad qk gk ak ql gl al qr gr ar rx qm qx gx ax qs sx qo go ao qp gp_ ap L) (rv (fun w => ∃ (gd2 : Nat → Int32) (ad2 : Nat → Nat → Int32) (gl2 : Nat → Int32) (al2 : Nat → Nat → Int32), w = wK E kq cg qf gf af qd gd2 ad2 qk gk ak ql gl2 al2 qr gr ar rx qm qx gx ax qs sx qo go ao qp gp_ ap L ∧ cfs gd2 ad2 gl2 = p_cr C m gl nn (cfs gd ad gl) ∧ gd2 4 = gd 4 ∧ gl2 0 = gl 0 ∧ gl2 1 = p_zt gl (nn * m))) := by
  match t with
  | 0 => exact K_try0 E kq cg qf gf af qd gd ad qk gk ak ql gl al qr gr ar rx qm qx gx ax qs sx qo go ao qp gp_ ap L m nn hnn C hr4 hC hF hb hM
  | 1 => exact K_try1 E kq cg qf gf af qd gd ad qk gk ak ql gl al qr gr ar rx qm qx gx ax qs sx qo go ao qp gp_ ap L m nn hnn C hr4 hC hF hb hM
  | 2 => exact K_try2 E kq cg qf gf af qd gd ad qk gk ak ql gl al qr gr ar rx qm qx gx ax qs sx qo go ao qp gp_ ap L m nn hnn C hr4 hC hF hb hM
  | 3 => exact K_try3 E kq cg qf gf af qd gd ad qk gk ak ql gl al qr gr ar rx qm qx gx ax qs sx qo go ao qp gp_ ap L m nn hnn C hr4 hC hF hb hM
  | 4 => exact K_try4 E kq cg qf gf af qd gd ad qk gk ak ql gl al qr gr ar rx qm qx gx ax qs sx qo go ao qp gp_ ap L m nn hnn C hr4 hC hF hb hM
  | 5 => exact K_try5 E kq cg qf gf af qd gd ad qk gk ak ql gl al qr gr ar rx qm qx gx ax qs sx qo go ao qp gp_ ap L m nn hnn C hr4 hC hF hb hM
  | t + 6 => omega
