def dgt (d p : Nat) : Nat := d / 10 ^ p % 10
theorem dgt_0 (d i : Nat) (hi : i < 10) : dgt (10 * d + i) 0 = i := by unfold dgt; rw [Nat.pow_zero, Nat.div_one]; omega
theorem dgt_s (d i p : Nat) (hi : i < 10) : dgt (10 * d + i) (p + 1) = dgt d p := by
  unfold dgt
  rw [show 10 ^ (p + 1) = 10 * 10 ^ p by rw [Nat.pow_succ, Nat.mul_comm], ← Nat.div_div_eq_div_mul, show (10 * d + i) / 10 = d by omega]
theorem dgt_all {d i : Nat} (h : ∀ p, dgt d p < 5) (hi : i < 5) : ∀ p, dgt (10 * d + i) p < 5 := by
  intro p
  cases p with
  | zero => rw [dgt_0 d i (by omega)]; exact hi
  | succ p => rw [dgt_s d i p (by omega)]; exact h p
theorem bit_t : ∀ tk, tk < 32 → ∀ i, i < 5 → (((nI tk >>> (nI i &&& 31)) &&& 1 = 0) ↔ tk / 2 ^ i % 2 = 0) := by decide +kernel
theorem bit_o : ∀ tk, tk < 32 → ∀ i, i < 5 → (nI tk ||| ((1 : Int32) <<< (nI i &&& 31)) = nI (tk ||| 2 ^ i) ∧ (tk ||| 2 ^ i) < 32) := by decide +kernel
def p_stA (m d : Nat) (f : Nat → Int32) : Nat → Int32 := fun k => if k < m then f (dgt d (m - 1 - k)) else f k
def p_standA (m d : Nat) (A : Nat → Nat → Int32) : Nat → Nat → Int32 := va_up (va_up (va_up (va_up A 2 (p_stA m d (A 2))) 3 (p_stA m d (A 3))) 4 (p_stA m d (A 4))) 5 (p_stA m d (A 5))
def p_stand (m d : Nat) (s : FS) : FS := (s.1, p_standA m d s.2)
theorem FI.stand {s : FS} {m d k : Nat} (h : FI s m) : FI (p_stand k d s) m := h
def mS1 (m d c : Nat) (f : Nat → Int32) : Nat → Int32 := fun k => if m - c ≤ k ∧ k < m then f (dgt d (m - 1 - k)) else f k
theorem mS1_0 (m d : Nat) (f : Nat → Int32) : mS1 m d 0 f = f := by funext k; simp only [mS1]; rw [if_neg (by omega)]
theorem mS1_s {m d c : Nat} (h : c < m) (f : Nat → Int32) : upd (mS1 m d c f) (m - c - 1) (f (dgt d c)) = mS1 m d (c + 1) f := by
  funext k
  simp only [upd, mS1]
  by_cases e : k = m - c - 1
  · subst e
    rw [if_pos rfl, if_pos (by omega), show m - 1 - (m - c - 1) = c by omega]
  · rw [if_neg e]
    by_cases e2 : m - c ≤ k ∧ k < m
    · rw [if_pos e2, if_pos (by omega)]
    · rw [if_neg e2, if_neg (by omega)]
theorem mS1_m (m d : Nat) (f : Nat → Int32) : mS1 m d m f = p_stA m d f := by
  funext k
  simp only [mS1, p_stA]
  by_cases e : k < m
  · rw [if_pos e, if_pos (by omega)]
  · rw [if_neg e, if_neg (by omega)]
def mSt (m d c : Nat) (b : Nat → Nat → Int32) : Nat → Nat → Int32 := va_up (va_up (va_up (va_up b 6 (mS1 m d c (b 6))) 7 (mS1 m d c (b 7))) 8 (mS1 m d c (b 8))) 9 (mS1 m d c (b 9))
theorem mSt_0 {m d : Nat} (b : Nat → Nat → Int32) : mSt m d 0 b = b := by
  unfold mSt
  rw [mS1_0, mS1_0, mS1_0, mS1_0]
  funext i
  simp only [va_up]
  repeat (split; (rename_i e; rw [e]))
  rfl
theorem AD.st {g h : Nat → Int32} {a b : Nat → Nat → Int32} (x : AD g a h b) {m d c : Nat} : AD g a h (mSt m d c b) := (((x.ua (by decide)).ua (by decide)).ua (by decide)).ua (by decide)
theorem rf_stand {g : Nat → Int32} {a : Nat → Nat → Int32} {m d : Nat} : rfs g (mSt m d m a) = p_stand m d (rfs g a) := by
  unfold mSt
  rw [mS1_m, mS1_m, mS1_m, mS1_m]
  refine rfs_eq rfl rfl rfl rfl rfl rfl (fun k hk => rfs_z (a := a) hk) rfl rfl rfl rfl rfl rfl (fun k hk => ?_)
  show p_standA m d (rfs g a).2 k = _
  simp only [p_standA, va_up]
  rw [if_neg (by omega), if_neg (by omega), if_neg (by omega), if_neg (by omega)]
  exact rfs_az (g := g) hk
theorem sub1 (x : Int32) : x + Int32.ofInt (-1) = x - 1 := by rw [Int32.sub_eq_add_neg]; rfl
theorem pl_c {m c : Nat} (h : c < m) : nI (m - c) - 1 = nI (m - c - 1) := by
  obtain ⟨j, hj⟩ : ∃ j, m - c = j + 1 := ⟨m - c - 1, by omega⟩
  rw [hj, nI_pred]
  rfl
set_option maxRecDepth 100000 in
set_option maxHeartbeats 400000 in
theorem m_standL (E : ag) (q : Nat → Nat) (h : Nat → Int32) (tw : Int64) (b : Nat → Nat → Int32) (m d : Nat) (hm : m ≤ 5) (hd : d < 2 ^ 31) (hg : ∀ p, dgt d p < 5) (e12 : b 12 = b 6) (e13 : b 13 = b 7) (e14 : b 14 = b 8) (e15 : b 15 = b 9) : ∀ (n c : Nat), c + n = m → AW E mX6_stand 2 0 0 9 [some (.ref (q 0)), some (.int (nI d)), some (.int (nI (d / 10 ^ c))), some (.int (nI (m - c) - 1))] [] (MW E q h tw (mSt m d c b)) (rv (fun w => w = MW E q h tw (mSt m d m b))) := by
  intro n
  induction n with
  | zero =>
    intro c hc
    obtain rfl : m = c := by omega
    refine A_iload_n (dX6_stand 7 rfl) rfl ?_
    refine A_if_lt 33 (dX6_stand 8 rfl) (by decide) (fun h10 => ?_) (fun h10 => absurd (show nI (m - m) - 1 < 0 by rw [Nat.sub_self]; decide) h10)
    refine A_rv (dX6_stand 21 rfl) rfl ?_
    exact rfl
  | succ n ih =>
    intro c hc
    have hlt : c < m := by omega
    have hdc : d / 10 ^ c ≤ d := Nat.div_le_self _ _
    refine A_iload_n (dX6_stand 7 rfl) rfl ?_
    refine A_if_lt 33 (dX6_stand 8 rfl) (by decide) (fun h10 => absurd h10 (show ¬ nI (m - c) - 1 < 0 by rw [pl_c hlt]; exact nI_pos (by omega))) (fun h10 => ?_)
    refine A_aload_n (dX6_stand 9 rfl) rfl ?_
    refine A_iload_n (dX6_stand 10 rfl) rfl ?_
    refine A_iload_n (dX6_stand 11 rfl) rfl ?_
    refine A_bipush (10) (dX6_stand 12 rfl) (by decide +kernel) ?_
    refine A_irem (dX6_stand 13 rfl) (by decide) ?_
    rw [show nI (d / 10 ^ c) - nI (d / 10 ^ c) / 10 * 10 = nI (dgt d c) from pk_rem (d := 10) (by omega) (by decide) (by decide)]
    refine AW.stack (st2 := [.int (nI (dgt d c)), .int (nI (m - c - 1)), .ref (q 0)]) (by rw [pl_c hlt]) ?_
    refine A_callVWv 2 (dX6_stand 14 rfl) cbX6_comes cwX6_327 (m_comes E q h tw (mSt m d c b) (nI (m - c - 1)) (nI (dgt d c)) (vp_in_nI (by omega) (by decide)) (vp_in_nI (hg c) (by decide))) rfl rfl MW_0 rfl rfl (Nat.le_of_ble_eq_true rfl) (Nat.le_of_ble_eq_true rfl) (Nat.le_of_ble_eq_true rfl) (Nat.le_of_ble_eq_true rfl) (Nat.le_of_ble_eq_true rfl) ?_
    rintro w1 rfl
    simp only [nI_clamp (n := m - c - 1) (by omega), nI_clamp (n := dgt d c) (by have := hg c; omega)]
    refine AW.world (ws2 := MW E q h tw (mSt m d (c + 1) b)) ?_ ?_
    · refine congrArg (MW E q h tw) ?_
      funext i
      simp only [mSt, va_up]
      by_cases z6 : i = 6
      · subst z6; simp; rw [e12]; exact mS1_s hlt _
      by_cases z7 : i = 7
      · subst z7; simp; rw [e13]; exact mS1_s hlt _
      by_cases z8 : i = 8
      · subst z8; simp; rw [e14]; exact mS1_s hlt _
      by_cases z9 : i = 9
      · subst z9; simp; rw [e15]; exact mS1_s hlt _
      simp [z6, z7, z8, z9]
    refine AW.pcq (pc2 := 22) rfl ?_
    refine A_iload_n (dX6_stand 15 rfl) rfl ?_
    refine A_bipush (10) (dX6_stand 16 rfl) (by decide +kernel) ?_
    refine A_idiv (dX6_stand 17 rfl) (by decide) ?_
    rw [show nI (d / 10 ^ c) / 10 = nI (d / 10 ^ (c + 1)) by rw [Nat.pow_succ, ← Nat.div_div_eq_div_mul]; exact pk_div (d := 10) (by omega) (by decide) (by decide)]
    refine A_istore_n (ls2 := [_, _, _, _]) (dX6_stand 18 rfl) (by decide) rfl rfl ?_
    refine A_iinc (ls2 := [_, _, _, _]) (nI (m - (c + 1)) - 1) (dX6_stand 19 rfl) rfl (by rw [sub1, show m - (c + 1) = m - c - 1 by omega, ← pl_c hlt]) (by decide) rfl rfl ?_
    refine A_goto 9 (dX6_stand 20 rfl) (by decide) ?_
    exact ih (c + 1) (by omega)

set_option maxRecDepth 100000 in
set_option maxHeartbeats 400000 in
theorem m_stand (E : ag) (q : Nat → Nat) (h : Nat → Int32) (tw : Int64) (b : Nat → Nat → Int32) (m d : Nat) (hm : m ≤ 5) (hd : d < 2 ^ 31) (hg : ∀ p, dgt d p < 5) (e12 : b 12 = b 6) (e13 : b 13 = b 7) (e14 : b 14 = b 8) (e15 : b 15 = b 9) (h13 : h 13 = nI m) : CT E yX6_stand cX6_stand 4 mX6_stand.2.2.2.1 2 0 0 [.ref (q 0), .int (nI d)] (MW E q h tw b) (rv (fun w => w = MW E q h tw (mSt m d m b))) := by
  refine CT.of (M := mX6_stand) (ls := [some (.ref (q 0)), some (.int (nI d)), none, none]) (by decide) rfl (by decide) rfl (Nat.le_of_ble_eq_true rfl) ?_
  refine A_iload_n (dX6_stand 0 rfl) rfl ?_
  refine A_istore_n (ls2 := [_, _, _, _]) (dX6_stand 1 rfl) (by decide) rfl rfl ?_
  refine A_aload_n (dX6_stand 2 rfl) rfl ?_
  refine A_get (dX6_stand 3 rfl) fwX6_100 MW_0 MF_13 ?_
  refine A_iconst (1) (dX6_stand 4 rfl) (by decide +kernel) ?_
  rw [h13]
  refine A_isub (dX6_stand 5 rfl) ?_
  refine A_istore_n (ls2 := [_, _, _, _]) (dX6_stand 6 rfl) (by decide) rfl rfl ?_
  have h9 := m_standL E q h tw b m d hm hd hg e12 e13 e14 e15 m 0 (by omega)
  rw [mSt_0, Nat.pow_zero, Nat.div_one, Nat.sub_zero] at h9
  exact h9

abbrev BT : Type := Int32 × Int32 × Int32
def p_bs (C : Nat → List Int32) (m : Nat) (s : FS) (B : BT) (d : Nat) : BT :=
  if B.1 = -1 ∨ (p_rounds C 12 (p_stand m d (p_try s))).1 4 < B.2.1 ∨ ((p_rounds C 12 (p_stand m d (p_try s))).1 4 = B.2.1 ∧ B.2.2 < (p_rounds C 12 (p_stand m d (p_try s))).1 3 - s.1 3) then (nI d, (p_rounds C 12 (p_stand m d (p_try s))).1 4, (p_rounds C 12 (p_stand m d (p_try s))).1 3 - s.1 3) else B
def lvs (m : Nat) : Nat → Nat → Nat → List Nat
  | 0, _, d => [d]
  | f + 1, tk, d => (List.range' 0 m).flatMap (fun i => if tk / 2 ^ i % 2 = 0 then lvs m f (tk ||| 2 ^ i) (10 * d + i) else [])
def OS (g : Nat → Int32) (a : Nat → Nat → Int32) (B : BT) (h : Nat → Int32) (b : Nat → Nat → Int32) : Prop := rfs h b = p_try (rfs g a) ∧ AD g a h b ∧ BK g a h b ∧ (h 47, h 48, h 49) = B
def OB (E : ag) (q : Nat → Nat) (g : Nat → Int32) (a : Nat → Nat → Int32) (B : BT) (w : va_W) : Prop := ∃ (h : Nat → Int32) (tw2 : Int64) (b : Nat → Nat → Int32), w = MW E q h tw2 b ∧ OS g a B h b
theorem rf_hi {h : Nat → Int32} {b : Nat → Nat → Int32} {k : Nat} (hk : 47 ≤ k) {v : Int32} : rfs (upd h k v) b = rfs h b := by
  have e : ∀ j, j < 47 → upd h k v j = h j := fun j hj => by simp only [upd]; rw [if_neg (by omega)]
  exact rfs_eq (e 13 (by decide)) (e 14 (by decide)) (e 15 (by decide)) (e 16 (by decide)) (e 35 (by decide)) (e 36 (by decide)) (fun k hk => rfs_z (a := b) (g := h) hk) rfl rfl rfl rfl rfl rfl (fun k hk => rfs_az (g := h) hk)
theorem OS.put {g h : Nat → Int32} {a b : Nat → Nat → Int32} {B : BT} (s : OS g a B h b) (x y z : Int32) : OS g a (x, y, z) (upd (upd (upd h 47 x) 48 y) 49 z) b := by
  obtain ⟨s1, s2, s3, s4⟩ := s
  refine ⟨by rw [rf_hi (by decide), rf_hi (by decide), rf_hi (by decide)]; exact s1, ((s2.up (by decide)).up (by decide)).up (by decide), ⟨fun k hk => ?_, s3.2⟩, rfl⟩
  simp only [upd]
  rw [if_neg (by omega), if_neg (by omega), if_neg (by omega)]
  exact s3.1 k hk
theorem m_backO (E : ag) (q : Nat → Nat) (g : Nat → Int32) (tw : Int64) (a : Nat → Nat → Int32) (h : Nat → Int32) (b : Nat → Nat → Int32) (hd : AD g a h b) : CT E yX6_laysBack cX6_laysBack 2 mX6_laysBack.2.2.2.1 2 0 0 [.ref (q 0)] (MW E q h tw b) (rv (OB E q g a (h 47, h 48, h 49))) := by
  refine (m_laysBack E q h tw b).mono (fun v w hz => ?_)
  obtain ⟨h1, rfl⟩ := hz
  obtain ⟨⟨d1, d2, d3, d4⟩, d5, d6, d7⟩ := hd
  rw [d1, d2, d3, d4, show b 10 = a 4 from d5 0 (by decide), show b 11 = a 5 from d5 1 (by decide), show b 12 = a 6 from d5 2 (by decide), show b 13 = a 7 from d5 3 (by decide), show b 14 = a 8 from d5 4 (by decide), show b 15 = a 9 from d5 5 (by decide)]
  refine ⟨h1, _, tw, _, rfl, ?_, ⟨⟨?_, ?_, ?_, ?_⟩, fun j hj => ?_, fun k hk => ?_, fun j hj => ?_⟩, ⟨fun k hk => ?_, fun j hj => ?_⟩, rfl⟩
  · refine rfs_eq rfl rfl rfl rfl rfl rfl (fun k hk => ?_) rfl rfl rfl rfl rfl rfl (fun k hk => rfs_az (g := g) hk)
    show upd (upd (rfs g a).1 4 0) 5 0 k = 0
    simp only [upd]
    rw [if_neg (by omega), if_neg (by omega)]
    exact rfs_z hk
  · exact d1
  · exact d2
  · exact d3
  · exact d4
  · simp only [va_up]
    repeat rw [if_neg (by omega)]
    exact d5 j hj
  · simp only [upd]
    repeat rw [if_neg (by omega)]
    exact d6 k hk
  · simp only [va_up]
    repeat rw [if_neg (by omega)]
    exact d7 j hj
  · by_cases e1 : k = 13
    · rw [e1]; rfl
    by_cases e2 : k = 14
    · rw [e2]; rfl
    by_cases e3 : k = 15
    · rw [e3]; rfl
    by_cases e4 : k = 16
    · rw [e4]; rfl
    simp only [upd]
    repeat rw [if_neg (by omega)]
    exact d6 k (by omega)
  · by_cases e1 : j = 4
    · rw [e1]; rfl
    by_cases e2 : j = 5
    · rw [e2]; rfl
    by_cases e3 : j = 6
    · rw [e3]; rfl
    by_cases e4 : j = 7
    · rw [e4]; rfl
    by_cases e5 : j = 8
    · rw [e5]; rfl
    by_cases e6 : j = 9
    · rw [e6]; rfl
    simp only [va_up]
    repeat rw [if_neg (by omega)]
    exact d7 j (by omega)
set_option maxRecDepth 100000 in
set_option maxHeartbeats 1000000 in
theorem m_ordLeaf (E : ag) (q : Nat → Nat) (g : Nat → Int32) (tw : Int64) (a : Nat → Nat → Int32) (t m : Nat) (C : Nat → List Int32) (hg4 : g 4 = nI t) (hK : TOK (a 1) (a 2) t C) (hF : FI (rfs g a) m) (h : Nat → Int32) (tw1 : Int64) (b : Nat → Nat → Int32) (d : Nat) (tk : Int32) (hf : rfs h b = p_stand m d (p_try (rfs g a))) (hd : AD g a h b) : CT E yX6_orders cX6_orders 6 mX6_orders.2.2.2.1 48 0 0 [.ref (q 0), .int (nI m), .int tk, .int (nI d)] (MW E q h tw1 b) (rv (OB E q g a (p_bs C m (rfs g a) (h 47, h 48, h 49) d))) := by
  have h13 : h 13 = nI m := (congrArg (fun s => s.1 0) hf).trans hF.2.1
  refine CT.of (M := mX6_orders) (ls := [some (.ref (q 0)), some (.int (nI m)), some (.int tk), some (.int (nI d)), none, none]) (by decide) rfl (by decide) rfl (Nat.le_of_ble_eq_true rfl) ?_
  refine A_iload_n (dX6_orders 0 rfl) rfl ?_
  refine A_aload_n (dX6_orders 1 rfl) rfl ?_
  refine A_get (dX6_orders 2 rfl) fwX6_100 MW_0 MF_13 ?_
  refine A_icmp_ne 88 (dX6_orders 3 rfl) (by decide) (fun h5 => absurd h13.symm h5) (fun h5 => ?_)
  refine A_aload_n (dX6_orders 4 rfl) rfl ?_
  refine A_bipush (12) (dX6_orders 5 rfl) (by decide +kernel) ?_
  refine A_callVWv 1 (dX6_orders 6 rfl) cbX6_goesOn cwX6_337 (m_goesOn E q h tw1 b t m C (hd.g4.trans hg4) (hd.tok hK) (by rw [hf]; exact hF.try.stand) 12 (by decide)) rfl rfl MW_0 rfl rfl (Nat.le_of_ble_eq_true rfl) (Nat.le_of_ble_eq_true rfl) (Nat.le_of_ble_eq_true rfl) (Nat.le_of_ble_eq_true rfl) (Nat.le_of_ble_eq_true rfl) ?_
  rintro w1 ⟨h2, tw2, b2, rfl, hf2, ho2⟩
  refine AW.pcq (pc2 := 14) rfl ?_
  refine A_aload_n (dX6_orders 7 rfl) rfl ?_
  refine A_get (dX6_orders 8 rfl) fwX6_295 MW_0 MF_35 ?_
  refine A_istore (ls2 := [_, _, _, _, _, _]) (dX6_orders 9 rfl) (by decide) rfl rfl ?_
  refine A_aload_n (dX6_orders 10 rfl) rfl ?_
  refine A_get (dX6_orders 11 rfl) fwX6_305 MW_0 MF_16 ?_
  refine A_aload_n (dX6_orders 12 rfl) rfl ?_
  refine A_get (dX6_orders 13 rfl) fwX6_324 MW_0 MF_46 ?_
  refine A_isub (dX6_orders 14 rfl) ?_
  refine AW.pcq (pc2 := 29) rfl ?_
  refine A_istore (ls2 := [_, _, _, _, _, _]) (dX6_orders 15 rfl) (by decide) rfl rfl ?_
  refine A_aload_n (dX6_orders 16 rfl) rfl ?_
  refine A_callVWv 0 (dX6_orders 17 rfl) cbX6_laysBack cwX6_343 (m_backO E q g tw2 a h2 b2 (hd.ro ho2)) rfl rfl MW_0 rfl rfl (Nat.le_of_ble_eq_true rfl) (Nat.le_of_ble_eq_true rfl) (Nat.le_of_ble_eq_true rfl) (Nat.le_of_ble_eq_true rfl) (Nat.le_of_ble_eq_true rfl) ?_
  rintro w1 ⟨h3, tw3, b3, rfl, hs3⟩
  refine AW.pcq (pc2 := 35) rfl ?_
  refine A_aload_n (dX6_orders 18 rfl) rfl ?_
  refine A_get (dX6_orders 19 rfl) fwX6_348 MW_0 MF_47 ?_
  refine A_iconst (-1) (dX6_orders 20 rfl) (by decide +kernel) ?_
  refine A_icmp_eq 70 (dX6_orders 21 rfl) (by decide) (fun h40 => ?_) (fun h40 => ?_)
  · refine A_aload_n (dX6_orders 34 rfl) rfl ?_
    refine A_iload_n (dX6_orders 35 rfl) rfl ?_
    refine A_put (dX6_orders 36 rfl) fwX6_348 fcX6 ftX6_47 MW_0 rfl rfl ML_0 (MP_47 _) ?_
    refine A_aload_n (dX6_orders 37 rfl) rfl ?_
    refine A_iload (dX6_orders 38 rfl) rfl ?_
    refine A_put (dX6_orders 39 rfl) fwX6_351 fcX6 ftX6_48 MW_0 rfl rfl ML_0 (MP_48 _) ?_
    refine A_aload_n (dX6_orders 40 rfl) rfl ?_
    refine A_iload (dX6_orders 41 rfl) rfl ?_
    refine AW.pcq (pc2 := 84) rfl ?_
    refine A_put (dX6_orders 42 rfl) fwX6_354 fcX6 ftX6_49 MW_0 rfl rfl ML_0 (MP_49 _) ?_
    refine A_rv (dX6_orders 43 rfl) rfl ?_
    refine ⟨_, tw3, b3, rfl, ?_⟩
    have hn : h2 35 = (p_rounds C 12 (p_stand m d (p_try (rfs g a)))).1 4 := (rf35 hf2).trans (by rw [hf])
    have hg2 : h2 16 - h2 46 = (p_rounds C 12 (p_stand m d (p_try (rfs g a)))).1 3 - (rfs g a).1 3 := by rw [rf16 hf2, hf, (hd.ro ho2).1.2.2.2]; rfl
    have e47 : h3 47 = h 47 := (Prod.mk.inj hs3.2.2.2).1.trans (ho2.1 47 (by decide))
    have e48 : h3 48 = h 48 := (Prod.mk.inj (Prod.mk.inj hs3.2.2.2).2).1.trans (ho2.1 48 (by decide))
    have e49 : h3 49 = h 49 := (Prod.mk.inj (Prod.mk.inj hs3.2.2.2).2).2.trans (ho2.1 49 (by decide))
    rw [e47] at h40
    first
      | (rw [show p_bs C m (rfs g a) (h 47, h 48, h 49) d = _ from if_pos (Or.inl h40), ← hn, ← hg2]
         exact hs3.put _ _ _)
      | (rw [show p_bs C m (rfs g a) (h 47, h 48, h 49) d = _ from if_pos (Or.inr (Or.inl (by rw [← hn]; rw [e48] at h49; exact h49))), ← hn, ← hg2]
         exact hs3.put _ _ _)
      | (rw [show p_bs C m (rfs g a) (h 47, h 48, h 49) d = _ from if_pos (Or.inr (Or.inr ⟨by rw [← hn]; rw [e48] at h58; exact h58, by rw [← hg2]; rw [e49] at h67; exact Int32.not_le.mp h67⟩)), ← hn, ← hg2]
         exact hs3.put _ _ _)
      | (rw [show p_bs C m (rfs g a) (h 47, h 48, h 49) d = (h 47, h 48, h 49) from if_neg (fun z => by
           rcases z with z | z | ⟨z, z2⟩
           · exact h40 z
           · rw [← hn] at z; rw [e48] at h49; exact h49 z
           · first
               | (rw [← hn] at z; rw [e48] at h58; exact h58 z)
               | (rw [← hg2] at z2; rw [e49] at h67; exact absurd z2 (Int32.not_lt.mpr h67)))]
         exact ⟨hs3.1, hs3.2.1, hs3.2.2.1, by rw [e47, e48, e49]⟩)
  · refine A_iload (dX6_orders 22 rfl) rfl ?_
    refine A_aload_n (dX6_orders 23 rfl) rfl ?_
    refine A_get (dX6_orders 24 rfl) fwX6_351 MW_0 MF_48 ?_
    refine A_icmp_lt 70 (dX6_orders 25 rfl) (by decide) (fun h49 => ?_) (fun h49 => ?_)
    · refine A_aload_n (dX6_orders 34 rfl) rfl ?_
      refine A_iload_n (dX6_orders 35 rfl) rfl ?_
      refine A_put (dX6_orders 36 rfl) fwX6_348 fcX6 ftX6_47 MW_0 rfl rfl ML_0 (MP_47 _) ?_
      refine A_aload_n (dX6_orders 37 rfl) rfl ?_
      refine A_iload (dX6_orders 38 rfl) rfl ?_
      refine A_put (dX6_orders 39 rfl) fwX6_351 fcX6 ftX6_48 MW_0 rfl rfl ML_0 (MP_48 _) ?_
      refine A_aload_n (dX6_orders 40 rfl) rfl ?_
      refine A_iload (dX6_orders 41 rfl) rfl ?_
      refine AW.pcq (pc2 := 84) rfl ?_
      refine A_put (dX6_orders 42 rfl) fwX6_354 fcX6 ftX6_49 MW_0 rfl rfl ML_0 (MP_49 _) ?_
      refine A_rv (dX6_orders 43 rfl) rfl ?_
      refine ⟨_, tw3, b3, rfl, ?_⟩
      have hn : h2 35 = (p_rounds C 12 (p_stand m d (p_try (rfs g a)))).1 4 := (rf35 hf2).trans (by rw [hf])
      have hg2 : h2 16 - h2 46 = (p_rounds C 12 (p_stand m d (p_try (rfs g a)))).1 3 - (rfs g a).1 3 := by rw [rf16 hf2, hf, (hd.ro ho2).1.2.2.2]; rfl
      have e47 : h3 47 = h 47 := (Prod.mk.inj hs3.2.2.2).1.trans (ho2.1 47 (by decide))
      have e48 : h3 48 = h 48 := (Prod.mk.inj (Prod.mk.inj hs3.2.2.2).2).1.trans (ho2.1 48 (by decide))
      have e49 : h3 49 = h 49 := (Prod.mk.inj (Prod.mk.inj hs3.2.2.2).2).2.trans (ho2.1 49 (by decide))
      rw [e47] at h40
      first
        | (rw [show p_bs C m (rfs g a) (h 47, h 48, h 49) d = _ from if_pos (Or.inl h40), ← hn, ← hg2]
           exact hs3.put _ _ _)
        | (rw [show p_bs C m (rfs g a) (h 47, h 48, h 49) d = _ from if_pos (Or.inr (Or.inl (by rw [← hn]; rw [e48] at h49; exact h49))), ← hn, ← hg2]
           exact hs3.put _ _ _)
        | (rw [show p_bs C m (rfs g a) (h 47, h 48, h 49) d = _ from if_pos (Or.inr (Or.inr ⟨by rw [← hn]; rw [e48] at h58; exact h58, by rw [← hg2]; rw [e49] at h67; exact Int32.not_le.mp h67⟩)), ← hn, ← hg2]
           exact hs3.put _ _ _)
        | (rw [show p_bs C m (rfs g a) (h 47, h 48, h 49) d = (h 47, h 48, h 49) from if_neg (fun z => by
             rcases z with z | z | ⟨z, z2⟩
             · exact h40 z
             · rw [← hn] at z; rw [e48] at h49; exact h49 z
             · first
                 | (rw [← hn] at z; rw [e48] at h58; exact h58 z)
                 | (rw [← hg2] at z2; rw [e49] at h67; exact absurd z2 (Int32.not_lt.mpr h67)))]
           exact ⟨hs3.1, hs3.2.1, hs3.2.2.1, by rw [e47, e48, e49]⟩)
    · refine A_iload (dX6_orders 26 rfl) rfl ?_
      refine A_aload_n (dX6_orders 27 rfl) rfl ?_
      refine A_get (dX6_orders 28 rfl) fwX6_351 MW_0 MF_48 ?_
      refine A_icmp_ne 87 (dX6_orders 29 rfl) (by decide) (fun h58 => ?_) (fun h58 => ?_)
      · refine A_rv (dX6_orders 43 rfl) rfl ?_
        refine ⟨_, tw3, b3, rfl, ?_⟩
        have hn : h2 35 = (p_rounds C 12 (p_stand m d (p_try (rfs g a)))).1 4 := (rf35 hf2).trans (by rw [hf])
        have hg2 : h2 16 - h2 46 = (p_rounds C 12 (p_stand m d (p_try (rfs g a)))).1 3 - (rfs g a).1 3 := by rw [rf16 hf2, hf, (hd.ro ho2).1.2.2.2]; rfl
        have e47 : h3 47 = h 47 := (Prod.mk.inj hs3.2.2.2).1.trans (ho2.1 47 (by decide))
        have e48 : h3 48 = h 48 := (Prod.mk.inj (Prod.mk.inj hs3.2.2.2).2).1.trans (ho2.1 48 (by decide))
        have e49 : h3 49 = h 49 := (Prod.mk.inj (Prod.mk.inj hs3.2.2.2).2).2.trans (ho2.1 49 (by decide))
        rw [e47] at h40
        first
          | (rw [show p_bs C m (rfs g a) (h 47, h 48, h 49) d = _ from if_pos (Or.inl h40), ← hn, ← hg2]
             exact hs3.put _ _ _)
          | (rw [show p_bs C m (rfs g a) (h 47, h 48, h 49) d = _ from if_pos (Or.inr (Or.inl (by rw [← hn]; rw [e48] at h49; exact h49))), ← hn, ← hg2]
             exact hs3.put _ _ _)
          | (rw [show p_bs C m (rfs g a) (h 47, h 48, h 49) d = _ from if_pos (Or.inr (Or.inr ⟨by rw [← hn]; rw [e48] at h58; exact h58, by rw [← hg2]; rw [e49] at h67; exact Int32.not_le.mp h67⟩)), ← hn, ← hg2]
             exact hs3.put _ _ _)
          | (rw [show p_bs C m (rfs g a) (h 47, h 48, h 49) d = (h 47, h 48, h 49) from if_neg (fun z => by
               rcases z with z | z | ⟨z, z2⟩
               · exact h40 z
               · rw [← hn] at z; rw [e48] at h49; exact h49 z
               · first
                   | (rw [← hn] at z; rw [e48] at h58; exact h58 z)
                   | (rw [← hg2] at z2; rw [e49] at h67; exact absurd z2 (Int32.not_lt.mpr h67)))]
             exact ⟨hs3.1, hs3.2.1, hs3.2.2.1, by rw [e47, e48, e49]⟩)
      · refine A_iload (dX6_orders 30 rfl) rfl ?_
        refine A_aload_n (dX6_orders 31 rfl) rfl ?_
        refine A_get (dX6_orders 32 rfl) fwX6_354 MW_0 MF_49 ?_
        refine A_icmp_le 87 (dX6_orders 33 rfl) (by decide) (fun h67 => ?_) (fun h67 => ?_)
        · refine A_rv (dX6_orders 43 rfl) rfl ?_
          refine ⟨_, tw3, b3, rfl, ?_⟩
          have hn : h2 35 = (p_rounds C 12 (p_stand m d (p_try (rfs g a)))).1 4 := (rf35 hf2).trans (by rw [hf])
          have hg2 : h2 16 - h2 46 = (p_rounds C 12 (p_stand m d (p_try (rfs g a)))).1 3 - (rfs g a).1 3 := by rw [rf16 hf2, hf, (hd.ro ho2).1.2.2.2]; rfl
          have e47 : h3 47 = h 47 := (Prod.mk.inj hs3.2.2.2).1.trans (ho2.1 47 (by decide))
          have e48 : h3 48 = h 48 := (Prod.mk.inj (Prod.mk.inj hs3.2.2.2).2).1.trans (ho2.1 48 (by decide))
          have e49 : h3 49 = h 49 := (Prod.mk.inj (Prod.mk.inj hs3.2.2.2).2).2.trans (ho2.1 49 (by decide))
          rw [e47] at h40
          first
            | (rw [show p_bs C m (rfs g a) (h 47, h 48, h 49) d = _ from if_pos (Or.inl h40), ← hn, ← hg2]
               exact hs3.put _ _ _)
            | (rw [show p_bs C m (rfs g a) (h 47, h 48, h 49) d = _ from if_pos (Or.inr (Or.inl (by rw [← hn]; rw [e48] at h49; exact h49))), ← hn, ← hg2]
               exact hs3.put _ _ _)
            | (rw [show p_bs C m (rfs g a) (h 47, h 48, h 49) d = _ from if_pos (Or.inr (Or.inr ⟨by rw [← hn]; rw [e48] at h58; exact h58, by rw [← hg2]; rw [e49] at h67; exact Int32.not_le.mp h67⟩)), ← hn, ← hg2]
               exact hs3.put _ _ _)
            | (rw [show p_bs C m (rfs g a) (h 47, h 48, h 49) d = (h 47, h 48, h 49) from if_neg (fun z => by
                 rcases z with z | z | ⟨z, z2⟩
                 · exact h40 z
                 · rw [← hn] at z; rw [e48] at h49; exact h49 z
                 · first
                     | (rw [← hn] at z; rw [e48] at h58; exact h58 z)
                     | (rw [← hg2] at z2; rw [e49] at h67; exact absurd z2 (Int32.not_lt.mpr h67)))]
               exact ⟨hs3.1, hs3.2.1, hs3.2.2.1, by rw [e47, e48, e49]⟩)
        · refine A_aload_n (dX6_orders 34 rfl) rfl ?_
          refine A_iload_n (dX6_orders 35 rfl) rfl ?_
          refine A_put (dX6_orders 36 rfl) fwX6_348 fcX6 ftX6_47 MW_0 rfl rfl ML_0 (MP_47 _) ?_
          refine A_aload_n (dX6_orders 37 rfl) rfl ?_
          refine A_iload (dX6_orders 38 rfl) rfl ?_
          refine A_put (dX6_orders 39 rfl) fwX6_351 fcX6 ftX6_48 MW_0 rfl rfl ML_0 (MP_48 _) ?_
          refine A_aload_n (dX6_orders 40 rfl) rfl ?_
          refine A_iload (dX6_orders 41 rfl) rfl ?_
          refine AW.pcq (pc2 := 84) rfl ?_
          refine A_put (dX6_orders 42 rfl) fwX6_354 fcX6 ftX6_49 MW_0 rfl rfl ML_0 (MP_49 _) ?_
          refine A_rv (dX6_orders 43 rfl) rfl ?_
          refine ⟨_, tw3, b3, rfl, ?_⟩
          have hn : h2 35 = (p_rounds C 12 (p_stand m d (p_try (rfs g a)))).1 4 := (rf35 hf2).trans (by rw [hf])
          have hg2 : h2 16 - h2 46 = (p_rounds C 12 (p_stand m d (p_try (rfs g a)))).1 3 - (rfs g a).1 3 := by rw [rf16 hf2, hf, (hd.ro ho2).1.2.2.2]; rfl
          have e47 : h3 47 = h 47 := (Prod.mk.inj hs3.2.2.2).1.trans (ho2.1 47 (by decide))
          have e48 : h3 48 = h 48 := (Prod.mk.inj (Prod.mk.inj hs3.2.2.2).2).1.trans (ho2.1 48 (by decide))
          have e49 : h3 49 = h 49 := (Prod.mk.inj (Prod.mk.inj hs3.2.2.2).2).2.trans (ho2.1 49 (by decide))
          rw [e47] at h40
          first
            | (rw [show p_bs C m (rfs g a) (h 47, h 48, h 49) d = _ from if_pos (Or.inl h40), ← hn, ← hg2]
               exact hs3.put _ _ _)
            | (rw [show p_bs C m (rfs g a) (h 47, h 48, h 49) d = _ from if_pos (Or.inr (Or.inl (by rw [← hn]; rw [e48] at h49; exact h49))), ← hn, ← hg2]
               exact hs3.put _ _ _)
            | (rw [show p_bs C m (rfs g a) (h 47, h 48, h 49) d = _ from if_pos (Or.inr (Or.inr ⟨by rw [← hn]; rw [e48] at h58; exact h58, by rw [← hg2]; rw [e49] at h67; exact Int32.not_le.mp h67⟩)), ← hn, ← hg2]
               exact hs3.put _ _ _)
            | (rw [show p_bs C m (rfs g a) (h 47, h 48, h 49) d = (h 47, h 48, h 49) from if_neg (fun z => by
                 rcases z with z | z | ⟨z, z2⟩
                 · exact h40 z
                 · rw [← hn] at z; rw [e48] at h49; exact h49 z
                 · first
                     | (rw [← hn] at z; rw [e48] at h58; exact h58 z)
                     | (rw [← hg2] at z2; rw [e49] at h67; exact absurd z2 (Int32.not_lt.mpr h67)))]
               exact ⟨hs3.1, hs3.2.1, hs3.2.2.1, by rw [e47, e48, e49]⟩)

