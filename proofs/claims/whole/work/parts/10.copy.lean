set_option maxRecDepth 100000 in
set_option maxHeartbeats 400000 in
theorem m_laysAside (E : ag) (q : Nat → Nat) (g : Nat → Int32) (tw : Int64) (a : Nat → Nat → Int32) : CT E yX6_laysAside cX6_laysAside 2 mX6_laysAside.2.2.2.1 1 0 0 [.ref (q 0)] (MW E q g tw a) (rv (fun w => w = MW E q (upd (upd (upd (upd (upd (upd g 43 (g 13)) 44 (g 14)) 45 (g 15)) 46 (g 16)) 35 0) 36 0) tw (va_up (va_up (va_up (va_up (va_up (va_up a 10 (a 4)) 11 (a 5)) 12 (a 6)) 13 (a 7)) 14 (a 8)) 15 (a 9)))) := by
  refine CT.of (M := mX6_laysAside) (ls := [some (.ref (q 0)), none]) (by decide) rfl (by decide) rfl (Nat.le_of_ble_eq_true rfl) ?_
  refine A_iconst (0) (dX6_laysAside 0 rfl) (by decide +kernel) ?_
  refine A_istore_n (ls2 := [_, _]) (dX6_laysAside 1 rfl) (by decide) rfl rfl ?_
  have h9 := m_aside1 E q g tw a 12 0 rfl
  simp only [cp_0, up_same] at h9
  exact h9

set_option maxRecDepth 100000 in
set_option maxHeartbeats 400000 in
theorem m_lback2 (E : ag) (q : Nat → Nat) (g : Nat → Int32) (tw : Int64) (a : Nat → Nat → Int32) : ∀ (n c : Nat), c + n = 5 → AW E mX6_laysBack 2 0 0 40 [some (.ref (q 0)), some (.int (nI c))] [] (MW E q g tw (va_up (va_up (va_up (va_up a 6 (cp c (a 12) (a 6))) 7 (cp c (a 13) (a 7))) 8 (cp c (a 14) (a 8))) 9 (cp c (a 15) (a 9)))) (rv (fun w => w = MW E q (upd (upd (upd (upd (upd (upd g 13 (g 43)) 14 (g 44)) 15 (g 45)) 16 (g 46)) 35 0) 36 0) tw (va_up (va_up (va_up (va_up a 6 (a 12)) 7 (a 13)) 8 (a 14)) 9 (a 15)))) := by
  intro n
  induction n with
  | zero =>
    intro c hc
    obtain rfl : c = 5 := by omega
    refine A_iload_n (dX6_laysBack 25 rfl) rfl ?_
    refine A_iconst (5) (dX6_laysBack 26 rfl) (by decide +kernel) ?_
    refine A_icmp_ge 57 (dX6_laysBack 27 rfl) (by decide) (fun h42 => ?_) (fun h42 => absurd (show (5 : Int32) ≤ nI 5 by decide) h42)
    refine AW.ext (MW_q (a2 := (va_up (va_up (va_up (va_up a 6 (a 12)) 7 (a 13)) 8 (a 14)) 9 (a 15))) (up_q (up_q (up_q (up_q (fun _ _ _ => rfl) (fun k hk => cp_in (n := 5) hk)) (fun k hk => cp_in (n := 5) hk)) (fun k hk => cp_in (n := 5) hk)) (fun k hk => cp_in (n := 5) hk))) ?_
    refine A_aload_n (dX6_laysBack 34 rfl) rfl ?_
    refine A_aload_n (dX6_laysBack 35 rfl) rfl ?_
    refine A_get (dX6_laysBack 36 rfl) fwX6_315 MW_0 MF_43 ?_
    refine A_put (dX6_laysBack 37 rfl) fwX6_100 fcX6 ftX6_13 MW_0 rfl rfl ML_0 (MP_13 _) ?_
    refine A_aload_n (dX6_laysBack 38 rfl) rfl ?_
    refine A_aload_n (dX6_laysBack 39 rfl) rfl ?_
    refine A_get (dX6_laysBack 40 rfl) fwX6_318 MW_0 MF_44 ?_
    refine A_put (dX6_laysBack 41 rfl) fwX6_41 fcX6 ftX6_14 MW_0 rfl rfl ML_0 (MP_14 _) ?_
    refine AW.pcq (pc2 := 73) rfl ?_
    refine A_aload_n (dX6_laysBack 42 rfl) rfl ?_
    refine A_aload_n (dX6_laysBack 43 rfl) rfl ?_
    refine A_get (dX6_laysBack 44 rfl) fwX6_321 MW_0 MF_45 ?_
    refine A_put (dX6_laysBack 45 rfl) fwX6_142 fcX6 ftX6_15 MW_0 rfl rfl ML_0 (MP_15 _) ?_
    refine A_aload_n (dX6_laysBack 46 rfl) rfl ?_
    refine A_aload_n (dX6_laysBack 47 rfl) rfl ?_
    refine A_get (dX6_laysBack 48 rfl) fwX6_324 MW_0 MF_46 ?_
    refine A_put (dX6_laysBack 49 rfl) fwX6_305 fcX6 ftX6_16 MW_0 rfl rfl ML_0 (MP_16 _) ?_
    refine AW.pcq (pc2 := 89) rfl ?_
    refine A_aload_n (dX6_laysBack 50 rfl) rfl ?_
    refine A_iconst (0) (dX6_laysBack 51 rfl) (by decide +kernel) ?_
    refine A_put (dX6_laysBack 52 rfl) fwX6_295 fcX6 ftX6_35 MW_0 rfl rfl ML_0 (MP_35 _) ?_
    refine A_aload_n (dX6_laysBack 53 rfl) rfl ?_
    refine A_iconst (0) (dX6_laysBack 54 rfl) (by decide +kernel) ?_
    refine A_put (dX6_laysBack 55 rfl) fwX6_298 fcX6 ftX6_36 MW_0 rfl rfl ML_0 (MP_36 _) ?_
    refine A_rv (dX6_laysBack 56 rfl) rfl ?_
    exact rfl
  | succ n ih =>
    intro c hc
    have hlt : c < 5 := by omega
    refine A_iload_n (dX6_laysBack 25 rfl) rfl ?_
    refine A_iconst (5) (dX6_laysBack 26 rfl) (by decide +kernel) ?_
    refine A_icmp_ge 57 (dX6_laysBack 27 rfl) (by decide) (fun h42 => absurd h42 (nI_ge (a := c) (b := 5) hlt (by decide))) (fun h42 => ?_)
    refine A_aload_n (dX6_laysBack 28 rfl) rfl ?_
    refine A_iload_n (dX6_laysBack 29 rfl) rfl ?_
    refine A_iload_n (dX6_laysBack 30 rfl) rfl ?_
    refine A_callVWv 2 (dX6_laysBack 31 rfl) cbX6_comes cwX6_327 (m_comes E q g tw (va_up (va_up (va_up (va_up a 6 (cp c (a 12) (a 6))) 7 (cp c (a 13) (a 7))) 8 (cp c (a 14) (a 8))) 9 (cp c (a 15) (a 9))) (nI c) (nI c) (vp_in_nI hlt (by decide)) (vp_in_nI hlt (by decide))) rfl rfl MW_0 rfl rfl (Nat.le_of_ble_eq_true rfl) (Nat.le_of_ble_eq_true rfl) (Nat.le_of_ble_eq_true rfl) (Nat.le_of_ble_eq_true rfl) (Nat.le_of_ble_eq_true rfl) ?_
    rintro w1 rfl
    refine AW.pcq (pc2 := 51) rfl ?_
    refine A_iinc (ls2 := [_, _]) (nI (c + 1)) (dX6_laysBack 32 rfl) rfl (nI_1 c) (by decide) rfl rfl ?_
    refine A_goto 40 (dX6_laysBack 33 rfl) (by decide) ?_
    rw [nI_clamp (by omega)]
    refine AW.world (ws2 := MW E q g tw (va_up (va_up (va_up (va_up a 6 (cp (c + 1) (a 12) (a 6))) 7 (cp (c + 1) (a 13) (a 7))) 8 (cp (c + 1) (a 14) (a 8))) 9 (cp (c + 1) (a 15) (a 9)))) ?_ (ih (c + 1) (by omega))
    refine congrArg (MW E q g tw) ?_
    funext i
    by_cases e6 : i = 6 <;> by_cases e7 : i = 7 <;> by_cases e8 : i = 8 <;> by_cases e9 : i = 9 <;> simp_all [va_up, cp_s]

set_option maxRecDepth 100000 in
set_option maxHeartbeats 400000 in
theorem m_lback1 (E : ag) (q : Nat → Nat) (g : Nat → Int32) (tw : Int64) (a : Nat → Nat → Int32) : ∀ (n c : Nat), c + n = 12 → AW E mX6_laysBack 2 0 0 2 [some (.ref (q 0)), some (.int (nI c))] [] (MW E q g tw (va_up (va_up a 4 (cp c (a 10) (a 4))) 5 (cp c (a 11) (a 5)))) (rv (fun w => w = MW E q (upd (upd (upd (upd (upd (upd g 13 (g 43)) 14 (g 44)) 15 (g 45)) 16 (g 46)) 35 0) 36 0) tw (va_up (va_up (va_up (va_up (va_up (va_up a 4 (a 10)) 5 (a 11)) 6 (a 12)) 7 (a 13)) 8 (a 14)) 9 (a 15)))) := by
  intro n
  induction n with
  | zero =>
    intro c hc
    obtain rfl : c = 12 := by omega
    refine A_iload_n (dX6_laysBack 2 rfl) rfl ?_
    refine A_bipush (12) (dX6_laysBack 3 rfl) (by decide +kernel) ?_
    refine A_icmp_ge 38 (dX6_laysBack 4 rfl) (by decide) (fun h5 => ?_) (fun h5 => absurd (show (12 : Int32) ≤ nI 12 by decide) h5)
    refine AW.ext (MW_q (a2 := (va_up (va_up a 4 (a 10)) 5 (a 11))) (up_q (up_q (fun _ _ _ => rfl) (fun k hk => cp_in (n := 12) hk)) (fun k hk => cp_in (n := 12) hk))) ?_
    refine A_iconst (0) (dX6_laysBack 23 rfl) (by decide +kernel) ?_
    refine A_istore_n (ls2 := [_, _]) (dX6_laysBack 24 rfl) (by decide) rfl rfl ?_
    have h9 := m_lback2 E q g tw (va_up (va_up a 4 (a 10)) 5 (a 11)) 5 0 rfl
    simp only [cp_0, up_same] at h9
    exact h9
  | succ n ih =>
    intro c hc
    have hlt : c < 12 := by omega
    refine A_iload_n (dX6_laysBack 2 rfl) rfl ?_
    refine A_bipush (12) (dX6_laysBack 3 rfl) (by decide +kernel) ?_
    refine A_icmp_ge 38 (dX6_laysBack 4 rfl) (by decide) (fun h5 => absurd h5 (nI_ge (a := c) (b := 12) hlt (by decide))) (fun h5 => ?_)
    refine A_aload_n (dX6_laysBack 5 rfl) rfl ?_
    refine A_get (dX6_laysBack 6 rfl) fwX6_23 MW_0 MF_7 ?_
    refine A_iload_n (dX6_laysBack 7 rfl) rfl ?_
    refine A_aload_n (dX6_laysBack 8 rfl) rfl ?_
    refine A_get (dX6_laysBack 9 rfl) fwX6_44 MW_0 MF_37 ?_
    refine AW.pcq (pc2 := 17) rfl ?_
    refine A_iload_n (dX6_laysBack 10 rfl) rfl ?_
    refine A_iald (dX6_laysBack 11 rfl) MW_10 (vp_in_nI hlt (by decide)) ?_
    refine A_iast (dX6_laysBack 12 rfl) MW_4 (vp_in_nI hlt (by decide)) (MS_4 _) ?_
    refine A_aload_n (dX6_laysBack 13 rfl) rfl ?_
    refine A_get (dX6_laysBack 14 rfl) fwX6_26 MW_0 MF_8 ?_
    refine A_iload_n (dX6_laysBack 15 rfl) rfl ?_
    refine A_aload_n (dX6_laysBack 16 rfl) rfl ?_
    refine A_get (dX6_laysBack 17 rfl) fwX6_47 MW_0 MF_38 ?_
    refine AW.pcq (pc2 := 29) rfl ?_
    refine A_iload_n (dX6_laysBack 18 rfl) rfl ?_
    refine A_iald (dX6_laysBack 19 rfl) MW_11 (vp_in_nI hlt (by decide)) ?_
    refine A_iast (dX6_laysBack 20 rfl) MW_5 (vp_in_nI hlt (by decide)) (MS_5 _) ?_
    refine A_iinc (ls2 := [_, _]) (nI (c + 1)) (dX6_laysBack 21 rfl) rfl (nI_1 c) (by decide) rfl rfl ?_
    refine A_goto 2 (dX6_laysBack 22 rfl) (by decide) ?_
    rw [nI_clamp (by omega)]
    refine AW.world (ws2 := MW E q g tw (va_up (va_up a 4 (cp (c + 1) (a 10) (a 4))) 5 (cp (c + 1) (a 11) (a 5)))) ?_ (ih (c + 1) (by omega))
    refine congrArg (MW E q g tw) ?_
    funext i
    by_cases e4 : i = 4 <;> by_cases e5 : i = 5 <;> simp_all [va_up, cp_s]

set_option maxRecDepth 100000 in
set_option maxHeartbeats 400000 in
theorem m_laysBack (E : ag) (q : Nat → Nat) (g : Nat → Int32) (tw : Int64) (a : Nat → Nat → Int32) : CT E yX6_laysBack cX6_laysBack 2 mX6_laysBack.2.2.2.1 2 0 0 [.ref (q 0)] (MW E q g tw a) (rv (fun w => w = MW E q (upd (upd (upd (upd (upd (upd g 13 (g 43)) 14 (g 44)) 15 (g 45)) 16 (g 46)) 35 0) 36 0) tw (va_up (va_up (va_up (va_up (va_up (va_up a 4 (a 10)) 5 (a 11)) 6 (a 12)) 7 (a 13)) 8 (a 14)) 9 (a 15)))) := by
  refine CT.of (M := mX6_laysBack) (ls := [some (.ref (q 0)), none]) (by decide) rfl (by decide) rfl (Nat.le_of_ble_eq_true rfl) ?_
  refine A_iconst (0) (dX6_laysBack 0 rfl) (by decide +kernel) ?_
  refine A_istore_n (ls2 := [_, _]) (dX6_laysBack 1 rfl) (by decide) rfl rfl ?_
  have h9 := m_lback1 E q g tw a 12 0 rfl
  simp only [cp_0, up_same] at h9
  exact h9

def sm (f : Nat → Int32) : Nat → Int32
  | 0 => 0
  | n + 1 => sm f n + f n
set_option maxRecDepth 100000 in
set_option maxHeartbeats 400000 in
theorem m_left1 (E : ag) (q : Nat → Nat) (g : Nat → Int32) (tw : Int64) (a : Nat → Nat → Int32) : ∀ (n c : Nat), c + n = 12 → AW E mX6_left 1 0 0 4 [some (.ref (q 0)), some (.int (sm (a 4) c)), some (.int (nI c))] [] (MW E q g tw a) (ri (fun r w => r = sm (a 4) 12 ∧ w = MW E q g tw a)) := by
  intro n
  induction n with
  | zero =>
    intro c hc
    obtain rfl : c = 12 := by omega
    refine A_iload_n (dX6_left 4 rfl) rfl ?_
    refine A_bipush (12) (dX6_left 5 rfl) (by decide +kernel) ?_
    refine A_icmp_ge 25 (dX6_left 6 rfl) (by decide) (fun h7 => ?_) (fun h7 => absurd (show (12 : Int32) ≤ nI 12 by decide) h7)
    refine A_iload_n (dX6_left 16 rfl) rfl ?_
    refine A_ri (dX6_left 17 rfl) rfl rfl ?_
    exact ⟨rfl, rfl⟩
  | succ n ih =>
    intro c hc
    have hlt : c < 12 := by omega
    refine A_iload_n (dX6_left 4 rfl) rfl ?_
    refine A_bipush (12) (dX6_left 5 rfl) (by decide +kernel) ?_
    refine A_icmp_ge 25 (dX6_left 6 rfl) (by decide) (fun h7 => absurd h7 (nI_ge (a := c) (b := 12) hlt (by decide))) (fun h7 => ?_)
    refine A_iload_n (dX6_left 7 rfl) rfl ?_
    refine A_aload_n (dX6_left 8 rfl) rfl ?_
    refine A_get (dX6_left 9 rfl) fwX6_23 MW_0 MF_7 ?_
    refine A_iload_n (dX6_left 10 rfl) rfl ?_
    refine A_iald (dX6_left 11 rfl) MW_4 (vp_in_nI hlt (by decide)) ?_
    refine AW.pcq (pc2 := 17) rfl ?_
    refine A_iadd (dX6_left 12 rfl) ?_
    refine A_istore_n (ls2 := [_, _, _]) (dX6_left 13 rfl) (by decide) rfl rfl ?_
    refine A_iinc (ls2 := [_, _, _]) (nI (c + 1)) (dX6_left 14 rfl) rfl (nI_1 c) (by decide) rfl rfl ?_
    refine A_goto 4 (dX6_left 15 rfl) (by decide) ?_
    rw [nI_clamp (by omega)]
    exact ih (c + 1) (by omega)

set_option maxRecDepth 100000 in
set_option maxHeartbeats 400000 in
theorem m_left (E : ag) (q : Nat → Nat) (g : Nat → Int32) (tw : Int64) (a : Nat → Nat → Int32) : CT E yX6_left cX6_left 3 mX6_left.2.2.2.1 1 0 0 [.ref (q 0)] (MW E q g tw a) (ri (fun r w => r = sm (a 4) 12 ∧ w = MW E q g tw a)) := by
  refine CT.of (M := mX6_left) (ls := [some (.ref (q 0)), none, none]) (by decide) rfl (by decide) rfl (Nat.le_of_ble_eq_true rfl) ?_
  refine A_iconst (0) (dX6_left 0 rfl) (by decide +kernel) ?_
  refine A_istore_n (ls2 := [_, _, _]) (dX6_left 1 rfl) (by decide) rfl rfl ?_
  refine A_iconst (0) (dX6_left 2 rfl) (by decide +kernel) ?_
  refine A_istore_n (ls2 := [_, _, _]) (dX6_left 3 rfl) (by decide) rfl rfl ?_
  exact m_left1 E q g tw a 12 0 rfl

def dw (x : Int32) : Int32 := if x ≤ 0 then 0 else x - 1
def rvc (c : Nat) (f : Nat → Int32) : Nat → Int32 := fun k => if k < c ∨ (k ≤ 11 ∧ 11 - k < c) then f (11 - k) else f k
theorem rvc_0 (f : Nat → Int32) : rvc 0 f = f := by funext k; simp [rvc]
theorem rvc_s {c : Nat} (hc : c < 6) (f : Nat → Int32) : upd (upd (rvc c f) c (rvc c f (11 - c))) (11 - c) (rvc c f c) = rvc (c + 1) f := by
  funext k
  simp only [upd, rvc]
  by_cases h1 : k = 11 - c
  · subst h1
    have e1 : 11 - (11 - c) = c := by omega
    rw [if_pos rfl, if_neg (by omega), if_pos (by omega), e1]
  · rw [if_neg h1]
    by_cases h2 : k = c
    · subst h2
      rw [if_pos rfl, if_neg (by omega), if_pos (by omega)]
    · rw [if_neg h2]
      by_cases h3 : k < c ∨ (k ≤ 11 ∧ 11 - k < c)
      · rw [if_pos h3, if_pos (by omega)]
      · rw [if_neg h3, if_neg (by omega)]
theorem rvc_6 {f : Nat → Int32} {k : Nat} (hk : k < 12) : rvc 6 f k = f (11 - k) := by
  simp only [rvc]
  rw [if_pos (by omega)]
theorem n11 {c : Nat} (h : c ≤ 11) : (11 : Int32) - nI c = nI (11 - c) := pk_sub (a := 11) h
theorem cp_s2 (n : Nat) (f h : Nat → Int32) {x : Int32} (hx : x = f n) : upd (cp n f h) n x = cp (n + 1) f h := by rw [hx]; exact cp_s n f h
theorem cp_out (n : Nat) (f h : Nat → Int32) : cp n f h n = h n := by simp [cp]
theorem dw_le {x : Int32} (h : x ≤ 0) : dw x = 0 := by simp [dw, h]
theorem dw_gt {x : Int32} (h : ¬ x ≤ 0) : dw x = x - 1 := by simp [dw, h]
def turnA (a : Nat → Nat → Int32) : Nat → Nat → Int32 := va_up (va_up a 4 (fun k => a 4 (11 - k))) 5 (fun k => dw (a 5 k))
set_option maxRecDepth 100000 in
set_option maxHeartbeats 400000 in
theorem m_turns2 (E : ag) (q : Nat → Nat) (g : Nat → Int32) (tw : Int64) (a : Nat → Nat → Int32) (z2 : Int32) : ∀ (n c : Nat), c + n = 12 → AW E mX6_turns 1 0 0 48 [some (.ref (q 0)), some (.int (nI c)), some (.int z2)] [] (MW E q g tw (va_up a 5 (cp c (fun k => dw (a 5 k)) (a 5)))) (rv (fun w => w = MW E q g tw (va_up a 5 (fun k => dw (a 5 k))))) := by
  intro n
  induction n with
  | zero =>
    intro c hc
    obtain rfl : c = 12 := by omega
    refine A_iload_n (dX6_turns 31 rfl) rfl ?_
    refine A_bipush (12) (dX6_turns 32 rfl) (by decide +kernel) ?_
    refine A_icmp_ge 87 (dX6_turns 33 rfl) (by decide) (fun h51 => ?_) (fun h51 => absurd (show (12 : Int32) ≤ nI 12 by decide) h51)
    refine AW.ext (MW_q (a2 := va_up a 5 (fun k => dw (a 5 k))) (up_q (fun _ _ _ => rfl) (fun k hk => cp_in (n := 12) hk))) ?_
    refine A_rv (dX6_turns 53 rfl) rfl ?_
    exact rfl
  | succ n ih =>
    intro c hc
    have hlt : c < 12 := by omega
    refine A_iload_n (dX6_turns 31 rfl) rfl ?_
    refine A_bipush (12) (dX6_turns 32 rfl) (by decide +kernel) ?_
    refine A_icmp_ge 87 (dX6_turns 33 rfl) (by decide) (fun h51 => absurd h51 (nI_ge (a := c) (b := 12) hlt (by decide))) (fun h51 => ?_)
    refine A_aload_n (dX6_turns 34 rfl) rfl ?_
    refine A_get (dX6_turns 35 rfl) fwX6_26 MW_0 MF_8 ?_
    refine A_iload_n (dX6_turns 36 rfl) rfl ?_
    refine A_aload_n (dX6_turns 37 rfl) rfl ?_
    refine A_get (dX6_turns 38 rfl) fwX6_26 MW_0 MF_8 ?_
    refine AW.pcq (pc2 := 63) rfl ?_
    refine A_iload_n (dX6_turns 39 rfl) rfl ?_
    refine A_iald (dX6_turns 40 rfl) MW_5 (vp_in_nI hlt (by decide)) ?_
    refine A_if_le 79 (dX6_turns 41 rfl) (by decide) (fun h65 => ?_) (fun h65 => ?_)
    · refine A_iconst (0) (dX6_turns 49 rfl) (by decide +kernel) ?_
      refine A_iast (dX6_turns 50 rfl) MW_5 (vp_in_nI hlt (by decide)) (MS_5 _) ?_
      refine A_iinc (ls2 := [_, _, _]) (nI (c + 1)) (dX6_turns 51 rfl) rfl (nI_1 c) (by decide) rfl rfl ?_
      refine A_goto 48 (dX6_turns 52 rfl) (by decide) ?_
      rw [nI_clamp (by omega)] at *
      refine AW.world (ws2 := MW E q g tw (va_up a 5 (cp (c + 1) (fun k => dw (a 5 k)) (a 5)))) ?_ (ih (c + 1) (by omega))
      refine congrArg (MW E q g tw) ?_
      funext i
      by_cases e5 : i = 5
      · subst e5
        simp only [va_up, if_true]
        simp only [va_up, if_true, cp_out] at h65
        first | (rw [cp_out]; exact cp_s2 c _ _ (dw_gt h65).symm) | exact cp_s2 c _ _ (dw_le h65).symm
      · simp [va_up, e5]
    · refine A_aload_n (dX6_turns 42 rfl) rfl ?_
      refine A_get (dX6_turns 43 rfl) fwX6_26 MW_0 MF_8 ?_
      refine A_iload_n (dX6_turns 44 rfl) rfl ?_
      refine A_iald (dX6_turns 45 rfl) MW_5 (vp_in_nI hlt (by decide)) ?_
      refine A_iconst (1) (dX6_turns 46 rfl) (by decide +kernel) ?_
      refine A_isub (dX6_turns 47 rfl) ?_
      refine A_goto 80 (dX6_turns 48 rfl) (by decide) ?_
      refine A_iast (dX6_turns 50 rfl) MW_5 (vp_in_nI hlt (by decide)) (MS_5 _) ?_
      refine A_iinc (ls2 := [_, _, _]) (nI (c + 1)) (dX6_turns 51 rfl) rfl (nI_1 c) (by decide) rfl rfl ?_
      refine A_goto 48 (dX6_turns 52 rfl) (by decide) ?_
      rw [nI_clamp (by omega)] at *
      refine AW.world (ws2 := MW E q g tw (va_up a 5 (cp (c + 1) (fun k => dw (a 5 k)) (a 5)))) ?_ (ih (c + 1) (by omega))
      refine congrArg (MW E q g tw) ?_
      funext i
      by_cases e5 : i = 5
      · subst e5
        simp only [va_up, if_true]
        simp only [va_up, if_true, cp_out] at h65
        first | (rw [cp_out]; exact cp_s2 c _ _ (dw_gt h65).symm) | exact cp_s2 c _ _ (dw_le h65).symm
      · simp [va_up, e5]

set_option maxRecDepth 100000 in
set_option maxHeartbeats 400000 in
theorem m_turns1 (E : ag) (q : Nat → Nat) (g : Nat → Int32) (tw : Int64) (a : Nat → Nat → Int32) : ∀ (n c : Nat), c + n = 6 → ∀ (z2 : Int32), AW E mX6_turns 1 0 0 2 [some (.ref (q 0)), some (.int (nI c)), some (.int z2)] [] (MW E q g tw (va_up a 4 (rvc c (a 4)))) (rv (fun w => w = MW E q g tw (turnA a))) := by
  intro n
  induction n with
  | zero =>
    intro c hc
    intro z2
    obtain rfl : c = 6 := by omega
    refine A_iload_n (dX6_turns 2 rfl) rfl ?_
    refine A_bipush (6) (dX6_turns 3 rfl) (by decide +kernel) ?_
    refine A_icmp_ge 46 (dX6_turns 4 rfl) (by decide) (fun h5 => ?_) (fun h5 => absurd (show (6 : Int32) ≤ nI 6 by decide) h5)
    refine AW.ext (MW_q (a2 := va_up a 4 (fun k => a 4 (11 - k))) (up_q (fun _ _ _ => rfl) (fun k hk => rvc_6 hk))) ?_
    refine A_iconst (0) (dX6_turns 29 rfl) (by decide +kernel) ?_
    refine A_istore_n (ls2 := [_, _, _]) (dX6_turns 30 rfl) (by decide) rfl rfl ?_
    have h9 := m_turns2 E q g tw (va_up a 4 (fun k => a 4 (11 - k))) z2 12 0 rfl
    simp only [cp_0, up_same] at h9
    exact h9
  | succ n ih =>
    intro c hc
    have hlt : c < 6 := by omega
    intro z2
    refine A_iload_n (dX6_turns 2 rfl) rfl ?_
    refine A_bipush (6) (dX6_turns 3 rfl) (by decide +kernel) ?_
    refine A_icmp_ge 46 (dX6_turns 4 rfl) (by decide) (fun h5 => absurd h5 (nI_ge (a := c) (b := 6) hlt (by decide))) (fun h5 => ?_)
    refine A_aload_n (dX6_turns 5 rfl) rfl ?_
    refine A_get (dX6_turns 6 rfl) fwX6_23 MW_0 MF_7 ?_
    refine A_iload_n (dX6_turns 7 rfl) rfl ?_
    refine A_iald (dX6_turns 8 rfl) MW_4 (vp_in_nI (by omega) (by decide)) ?_
    refine A_istore_n (ls2 := [_, _, _]) (dX6_turns 9 rfl) (by decide) rfl rfl ?_
    refine AW.pcq (pc2 := 15) rfl ?_
    refine A_aload_n (dX6_turns 10 rfl) rfl ?_
    refine A_get (dX6_turns 11 rfl) fwX6_23 MW_0 MF_7 ?_
    refine A_iload_n (dX6_turns 12 rfl) rfl ?_
    refine A_aload_n (dX6_turns 13 rfl) rfl ?_
    refine A_get (dX6_turns 14 rfl) fwX6_23 MW_0 MF_7 ?_
    refine A_bipush (11) (dX6_turns 15 rfl) (by decide +kernel) ?_
    refine A_iload_n (dX6_turns 16 rfl) rfl ?_
    refine A_isub (dX6_turns 17 rfl) ?_
    refine AW.pcq (pc2 := 28) rfl ?_
    refine A_iald (dX6_turns 18 rfl) MW_4 (by rw [n11 (by omega)]; exact vp_in_nI (by omega) (by decide)) ?_
    refine A_iast (dX6_turns 19 rfl) MW_4 (vp_in_nI (by omega) (by decide)) (MS_4 _) ?_
    refine A_aload_n (dX6_turns 20 rfl) rfl ?_
    refine A_get (dX6_turns 21 rfl) fwX6_23 MW_0 MF_7 ?_
    refine A_bipush (11) (dX6_turns 22 rfl) (by decide +kernel) ?_
    refine A_iload_n (dX6_turns 23 rfl) rfl ?_
    refine A_isub (dX6_turns 24 rfl) ?_
    refine A_iload_n (dX6_turns 25 rfl) rfl ?_
    refine AW.pcq (pc2 := 39) rfl ?_
    refine A_iast (dX6_turns 26 rfl) MW_4 (by rw [n11 (by omega)]; exact vp_in_nI (by omega) (by decide)) (MS_4 _) ?_
    refine A_iinc (ls2 := [_, _, _]) (nI (c + 1)) (dX6_turns 27 rfl) rfl (nI_1 c) (by decide) rfl rfl ?_
    refine A_goto 2 (dX6_turns 28 rfl) (by decide) ?_
    rw [n11 (by omega), nI_clamp (n := c) (by omega), nI_clamp (n := 11 - c) (by omega)]
    refine AW.world (ws2 := MW E q g tw (va_up a 4 (rvc (c + 1) (a 4)))) ?_ (ih (c + 1) (by omega) _)
    refine congrArg (MW E q g tw) ?_
    funext i
    by_cases e4 : i = 4
    · subst e4
      simp only [va_up, if_true]
      exact rvc_s hlt _
    · simp [va_up, e4]

set_option maxRecDepth 100000 in
set_option maxHeartbeats 400000 in
theorem m_turns0 (E : ag) (q : Nat → Nat) (g : Nat → Int32) (tw : Int64) (a : Nat → Nat → Int32) : AW E mX6_turns 1 0 0 2 [some (.ref (q 0)), some (.int 0), none] [] (MW E q g tw a) (rv (fun w => w = MW E q g tw (turnA a))) := by
  refine A_iload_n (dX6_turns 2 rfl) rfl ?_
  refine A_bipush (6) (dX6_turns 3 rfl) (by decide +kernel) ?_
  refine A_icmp_ge 46 (dX6_turns 4 rfl) (by decide) (fun h5 => absurd h5 (by decide)) (fun h5 => ?_)
  refine A_aload_n (dX6_turns 5 rfl) rfl ?_
  refine A_get (dX6_turns 6 rfl) fwX6_23 MW_0 MF_7 ?_
  refine A_iload_n (dX6_turns 7 rfl) rfl ?_
  refine A_iald (dX6_turns 8 rfl) MW_4 (by unfold vp_in; decide) ?_
  refine A_istore_n (ls2 := [_, _, _]) (dX6_turns 9 rfl) (by decide) rfl rfl ?_
  refine AW.pcq (pc2 := 15) rfl ?_
  refine A_aload_n (dX6_turns 10 rfl) rfl ?_
  refine A_get (dX6_turns 11 rfl) fwX6_23 MW_0 MF_7 ?_
  refine A_iload_n (dX6_turns 12 rfl) rfl ?_
  refine A_aload_n (dX6_turns 13 rfl) rfl ?_
  refine A_get (dX6_turns 14 rfl) fwX6_23 MW_0 MF_7 ?_
  refine A_bipush (11) (dX6_turns 15 rfl) (by decide +kernel) ?_
  refine A_iload_n (dX6_turns 16 rfl) rfl ?_
  refine A_isub (dX6_turns 17 rfl) ?_
  refine AW.pcq (pc2 := 28) rfl ?_
  refine A_iald (dX6_turns 18 rfl) MW_4 (by unfold vp_in; decide) ?_
  refine A_iast (dX6_turns 19 rfl) MW_4 (by unfold vp_in; decide) (MS_4 _) ?_
  refine A_aload_n (dX6_turns 20 rfl) rfl ?_
  refine A_get (dX6_turns 21 rfl) fwX6_23 MW_0 MF_7 ?_
  refine A_bipush (11) (dX6_turns 22 rfl) (by decide +kernel) ?_
  refine A_iload_n (dX6_turns 23 rfl) rfl ?_
  refine A_isub (dX6_turns 24 rfl) ?_
  refine A_iload_n (dX6_turns 25 rfl) rfl ?_
  refine AW.pcq (pc2 := 39) rfl ?_
  refine A_iast (dX6_turns 26 rfl) MW_4 (by unfold vp_in; decide) (MS_4 _) ?_
  refine A_iinc (ls2 := [_, _, _]) (nI 1) (dX6_turns 27 rfl) rfl (by decide) (by decide) rfl rfl ?_
  refine A_goto 2 (dX6_turns 28 rfl) (by decide) ?_
  refine AW.world (ws2 := MW E q g tw (va_up a 4 (rvc 1 (a 4)))) ?_ (m_turns1 E q g tw a 5 1 rfl _)
  refine congrArg (MW E q g tw) ?_
  funext i
  by_cases e4 : i = 4
  · subst e4
    have h9 := rvc_s (c := 0) (by decide) (a 4)
    rw [rvc_0] at h9
    simp only [va_up, if_true]
    exact h9
  · simp [va_up, e4]
set_option maxRecDepth 100000 in
set_option maxHeartbeats 400000 in
theorem m_turns (E : ag) (q : Nat → Nat) (g : Nat → Int32) (tw : Int64) (a : Nat → Nat → Int32) : CT E yX6_turns cX6_turns 3 mX6_turns.2.2.2.1 1 0 0 [.ref (q 0)] (MW E q g tw a) (rv (fun w => w = MW E q g tw (turnA a))) := by
  refine CT.of (M := mX6_turns) (ls := [some (.ref (q 0)), none, none]) (by decide) rfl (by decide) rfl (Nat.le_of_ble_eq_true rfl) ?_
  refine A_iconst (0) (dX6_turns 0 rfl) (by decide +kernel) ?_
  refine A_istore_n (ls2 := [_, _, _]) (dX6_turns 1 rfl) (by decide) rfl rfl ?_
  exact m_turns0 E q g tw a

