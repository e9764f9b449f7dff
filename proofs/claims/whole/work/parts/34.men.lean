def p_add (k b w : Int32) (s : FS) : FS := (upd s.1 0 (s.1 0 + 1), va_up (va_up (va_up (va_up s.2 2 (upd (s.2 2) (s.1 0).toNatClampNeg k)) 3 (upd (s.2 3) (s.1 0).toNatClampNeg (b - b / s.1 1 * s.1 1))) 4 (upd (s.2 4) (s.1 0).toNatClampNeg (w / 10))) 5 (upd (s.2 5) (s.1 0).toNatClampNeg (w - w / 10 * 10)))
def p_man (k b w : Int32) (s : FS) : FS × Int32 := if inI k 0 5 = 0 ∨ inI b 0 239 = 0 ∨ inI w 0 99 = 0 then (s, -2) else if s.1 0 = 5 then (s, -4) else (p_add k b w s, s.1 0)
def MM (g : Nat → Int32) (a : Nat → Nat → Int32) (g2 : Nat → Int32) (a2 : Nat → Nat → Int32) : Prop := (∀ k, k ≠ 13 → g2 k = g k) ∧ (∀ j, ¬ (6 ≤ j ∧ j ≤ 9) → a2 j = a j)
theorem MM.rf {g : Nat → Int32} {a : Nat → Nat → Int32} : MM g a g a := ⟨fun _ _ => rfl, fun _ _ => rfl⟩
theorem MM.tr {g g2 g3 : Nat → Int32} {a a2 a3 : Nat → Nat → Int32} (h : MM g a g2 a2) (k : MM g2 a2 g3 a3) : MM g a g3 a3 := ⟨fun j hj => (k.1 j hj).trans (h.1 j hj), fun j hj => (k.2 j hj).trans (h.2 j hj)⟩
theorem rf_add {g : Nat → Int32} {a : Nat → Nat → Int32} {k b w : Int32} : rfs (upd g 13 (g 13 + 1)) (manA g a k b w) = p_add k b w (rfs g a) := by
  refine rfs_eq rfl rfl rfl rfl rfl rfl (fun k hk => ?_) rfl rfl rfl rfl rfl rfl (fun k hk => ?_)
  · show upd (rfs g a).1 0 _ k = 0
    simp only [upd]
    rw [if_neg (by omega)]
    exact rfs_z hk
  · show va_up (va_up (va_up (va_up (rfs g a).2 2 _) 3 _) 4 _) 5 _ k = _
    simp only [va_up]
    rw [if_neg (by omega), if_neg (by omega), if_neg (by omega), if_neg (by omega)]
    exact rfs_az (g := g) hk
theorem MM.add {g : Nat → Int32} {a : Nat → Nat → Int32} {k b w : Int32} : MM g a (upd g 13 (g 13 + 1)) (manA g a k b w) := by
  refine ⟨fun k hk => ?_, fun j hj => ?_⟩
  · simp only [upd]
    rw [if_neg hk]
  · simp only [manA, va_up]
    rw [if_neg (by omega), if_neg (by omega), if_neg (by omega), if_neg (by omega)]
theorem m_manF (E : ag) (q : Nat → Nat) (g : Nat → Int32) (tw : Int64) (a : Nat → Nat → Int32) (k b x : Int32) (m : Nat) (hm5 : m ≤ 5) (hgm : g 13 = nI m) (hb : ¬ g 14 = 0) : CT E yX6_man cX6_man 4 mX6_man.2.2.2.1 2 0 0 [.ref (q 0), .int k, .int b, .int x] (MW E q g tw a) (ri (fun r w => ∃ (g2 : Nat → Int32) (a2 : Nat → Nat → Int32), w = MW E q g2 tw a2 ∧ MM g a g2 a2 ∧ rfs g2 a2 = (p_man k b x (rfs g a)).1 ∧ r = (p_man k b x (rfs g a)).2)) := by
  refine (m_man E q g tw a k b x m hm5 hgm hb).mono (fun v w hz => ?_)
  obtain ⟨r, h1, h2⟩ := hz
  refine ⟨r, h1, ?_⟩
  rcases h2 with ⟨h3, rfl, rfl⟩ | ⟨h3, h4, rfl, rfl⟩ | ⟨h3, h4, rfl, rfl⟩
  · rw [show p_man k b x (rfs g a) = (rfs g a, -2) from if_pos h3]
    exact ⟨g, a, rfl, MM.rf, rfl, rfl⟩
  · rw [show p_man k b x (rfs g a) = (rfs g a, -4) from (if_neg h3).trans (if_pos h4)]
    exact ⟨g, a, rfl, MM.rf, rfl, rfl⟩
  · rw [show p_man k b x (rfs g a) = (p_add k b x (rfs g a), (rfs g a).1 0) from (if_neg h3).trans (if_neg h4)]
    exact ⟨_, _, rfl, MM.add, rf_add, rfl⟩
theorem FI.man {s : FS} {m : Nat} (h : FI s m) (k b w : Int32) : ∃ m2, FI (p_man k b w s).1 m2 := by
  unfold p_man
  split
  · exact ⟨m, h⟩
  · split
    · exact ⟨m, h⟩
    · rename_i h5
      obtain ⟨h1, h2, h3, h4⟩ := h
      refine ⟨m + 1, ?_, ?_, h3, h4⟩
      · have : m ≠ 5 := fun z => h5 (by rw [h2, z]; rfl)
        omega
      · show s.1 0 + 1 = nI (m + 1)
        rw [h2, nI_1]
def p_mens (f : Nat → Int32) (at0 : Int32) (N : Nat) : Nat → Nat → FS → Int32 → FS × Int32
  | 0, _, s, c => (s, c)
  | n + 1, k, s, c => if at0 < 0 ∨ N < at0.toNatClampNeg + 3 * k + 3 then (s, -12) else p_mens f at0 N n (k + 1) (p_man (f (at0.toNatClampNeg + 3 * k)) (f (at0.toNatClampNeg + 3 * k + 1)) (f (at0.toNatClampNeg + 3 * k + 2)) s).1 (c + if 0 ≤ (p_man (f (at0.toNatClampNeg + 3 * k)) (f (at0.toNatClampNeg + 3 * k + 1)) (f (at0.toNatClampNeg + 3 * k + 2)) s).2 then 1 else 0)
theorem men_t : ∀ N, N ≤ 40 → ∀ c, c < 5 → (nI N - 3 * nI c - 3).toInt = (N : Int) - 3 * c - 3 := by decide +kernel
theorem men_c {N c A : Nat} (hN : N ≤ 40) (hc : c < 5) (hA : A < 2 ^ 31) : nI N - 3 * nI c - 3 < nI A ↔ N < A + 3 * c + 3 := by
  rw [Int32.lt_iff_toInt_lt, men_t N hN c hc, nI_toInt hA]
  omega
theorem men_q {j A c : Nat} : (40 : Int32) * nI j + nI A + 3 * nI c = nI (40 * j + A + 3 * c) := by rw [mul40, show (3 : Int32) * nI c = nI (3 * c) from pk_mul 3 c, nI_add]
set_option maxRecDepth 100000 in
set_option maxHeartbeats 400000 in
theorem m_menL (E : ag) (q : Nat → Nat) (g : Nat → Int32) (tw : Int64) (a : Nat → Nat → Int32) (j N nn : Nat) (hj : j < 4) (hN : N ≤ 40) (hnn : nn ≤ 5) (h23 : a 23 j = nI N) (k at0 : Int32) : ∀ (n c : Nat), c + n = nn → ∀ (g2 : Nat → Int32) (a2 : Nat → Nat → Int32) (s : FS) (c5 : Int32) (m2 : Nat) (x7 : Option Value), noL [x7] = true → MM g a g2 a2 → rfs g2 a2 = s → FI s m2 → AW E mX6_men 3 0 0 75 [some (.ref (q 0)), some (.int (nI j)), some (.int k), some (.int at0), some (.int (nI nn)), some (.int c5), some (.int (nI c)), x7] [] (MW E q g2 tw a2) (ri (fun r w => ∃ (g3 : Nat → Int32) (a3 : Nat → Nat → Int32), w = MW E q g3 tw a3 ∧ MM g a g3 a3 ∧ rfs g3 a3 = (p_mens (fun k => a 24 (40 * j + k)) at0 N n c s c5).1 ∧ r = (p_mens (fun k => a 24 (40 * j + k)) at0 N n c s c5).2)) := by
  intro n
  induction n with
  | zero =>
    intro c hc
    intro g2 a2 s c5 m2 x7 hx ho hf hs
    obtain rfl : nn = c := by omega
    refine A_iload (dX6_men 41 rfl) rfl ?_
    refine A_iload (dX6_men 42 rfl) rfl ?_
    refine A_icmp_ge 167 (dX6_men 43 rfl) (by decide) (fun h79 => ?_) (fun h79 => absurd (nI_le (a := nn) (b := nn) (Nat.le_refl _) (by omega)) h79)
    refine A_iload (dX6_men 97 rfl) rfl ?_
    refine A_ri (dX6_men 98 rfl) rfl rfl ?_
    exact ⟨g2, a2, rfl, ho, hf, rfl⟩
  | succ n ih =>
    intro c hc
    have hlt : c < nn := by omega
    intro g2 a2 s c5 m2 x7 hx ho hf hs
    refine A_iload (dX6_men 41 rfl) rfl ?_
    refine A_iload (dX6_men 42 rfl) rfl ?_
    refine A_icmp_ge 167 (dX6_men 43 rfl) (by decide) (fun h79 => absurd h79 (nI_ge hlt (by omega))) (fun h79 => ?_)
    refine A_iload_n (dX6_men 44 rfl) rfl ?_
    refine A_if_lt 103 (dX6_men 45 rfl) (by decide) (fun h83 => ?_) (fun h83 => ?_)
    · have hlow : at0 < 0 ∨ N < at0.toNatClampNeg + 3 * c + 3 := Or.inl h83
      refine A_bipush (-12) (dX6_men 58 rfl) (by decide +kernel) ?_
      refine A_ri (dX6_men 59 rfl) rfl rfl ?_
      rw [show p_mens (fun k => a 24 (40 * j + k)) _ N (n + 1) c s c5 = (s, -12) from if_pos hlow]
      exact ⟨g2, a2, rfl, ho, hf, rfl⟩
    · obtain ⟨A, hA, rfl⟩ := nI_of h83
      refine A_iload_n (dX6_men 46 rfl) rfl ?_
      refine A_aload_n (dX6_men 47 rfl) rfl ?_
      refine A_get (dX6_men 48 rfl) fwX6_87 MW_0 MF_62 ?_
      refine A_iload_n (dX6_men 49 rfl) rfl ?_
      refine A_iald (dX6_men 50 rfl) MW_23 (vp_in_nI (n := j) (by omega) (by decide)) ?_
      rw [nI_clamp (n := j) (by omega)]
      rw [show a2 23 j = nI N by rw [ho.2 23 (by decide), h23]]
      refine A_iconst (3) (dX6_men 51 rfl) (by decide +kernel) ?_
      refine A_iload (dX6_men 52 rfl) rfl ?_
      refine A_imul (dX6_men 53 rfl) ?_
      refine AW.pcq (pc2 := 97) rfl ?_
      refine A_isub (dX6_men 54 rfl) ?_
      refine A_iconst (3) (dX6_men 55 rfl) (by decide +kernel) ?_
      refine A_isub (dX6_men 56 rfl) ?_
      refine A_icmp_le 106 (dX6_men 57 rfl) (by decide) (fun h100 => ?_) (fun h100 => ?_)
      · have hok : ¬ (nI A < 0 ∨ N < (nI A).toNatClampNeg + 3 * c + 3) := by
          rintro (z | z)
          · exact h83 z
          · rw [nI_clamp hA] at z; exact absurd ((men_c hN (by omega) hA).mpr z) (Int32.not_lt.mpr h100)
        have hA2 : A + 3 * c + 3 ≤ N := by
          rcases Nat.lt_or_ge N (A + 3 * c + 3) with z | z
          · exact absurd ((men_c hN (by omega) hA).mpr z) (Int32.not_lt.mpr h100)
          · exact z
        refine A_bipush (40) (dX6_men 60 rfl) (by decide +kernel) ?_
        refine A_iload_n (dX6_men 61 rfl) rfl ?_
        refine A_imul (dX6_men 62 rfl) ?_
        refine A_iload_n (dX6_men 63 rfl) rfl ?_
        refine A_iadd (dX6_men 64 rfl) ?_
        refine A_iconst (3) (dX6_men 65 rfl) (by decide +kernel) ?_
        refine A_iload (dX6_men 66 rfl) rfl ?_
        refine A_imul (dX6_men 67 rfl) ?_
        refine AW.pcq (pc2 := 116) rfl ?_
        refine A_iadd (dX6_men 68 rfl) ?_
        rw [men_q]
        refine A_istore (ls2 := [_, _, _, _, _, _, _, _]) (dX6_men 69 rfl) (by decide) (by have := hx; simp_all [noL, Value.category]) rfl ?_
        refine A_iload (dX6_men 70 rfl) rfl ?_
        refine A_aload_n (dX6_men 71 rfl) rfl ?_
        refine A_aload_n (dX6_men 72 rfl) rfl ?_
        refine A_get (dX6_men 73 rfl) fwX6_90 MW_0 MF_63 ?_
        refine A_iload (dX6_men 74 rfl) rfl ?_
        refine A_iald (dX6_men 75 rfl) MW_24 (vp_in_nI (n := 40 * j + A + 3 * c) (by omega) (by decide)) ?_
        rw [nI_clamp (n := 40 * j + A + 3 * c) (by omega)]
        refine AW.pcq (pc2 := 129) rfl ?_
        refine A_aload_n (dX6_men 76 rfl) rfl ?_
        refine A_get (dX6_men 77 rfl) fwX6_90 MW_0 MF_63 ?_
        refine A_iload (dX6_men 78 rfl) rfl ?_
        refine A_iconst (1) (dX6_men 79 rfl) (by decide +kernel) ?_
        refine A_iadd (dX6_men 80 rfl) ?_
        rw [show nI (40 * j + A + 3 * c) + 1 = nI (40 * j + A + 3 * c + 1) from nI_1 _]
        refine A_iald (dX6_men 81 rfl) MW_24 (vp_in_nI (n := 40 * j + A + 3 * c + 1) (by omega) (by decide)) ?_
        rw [nI_clamp (n := 40 * j + A + 3 * c + 1) (by omega)]
        refine A_aload_n (dX6_men 82 rfl) rfl ?_
        refine A_get (dX6_men 83 rfl) fwX6_90 MW_0 MF_63 ?_
        refine AW.pcq (pc2 := 142) rfl ?_
        refine A_iload (dX6_men 84 rfl) rfl ?_
        refine A_iconst (2) (dX6_men 85 rfl) (by decide +kernel) ?_
        refine A_iadd (dX6_men 86 rfl) ?_
        rw [show nI (40 * j + A + 3 * c) + 2 = nI (40 * j + A + 3 * c + 2) from nI_add _ 2]
        refine A_iald (dX6_men 87 rfl) MW_24 (vp_in_nI (n := 40 * j + A + 3 * c + 2) (by omega) (by decide)) ?_
        rw [nI_clamp (n := 40 * j + A + 3 * c + 2) (by omega), show a2 24 = a 24 from ho.2 24 (by decide)]
        refine A_callVWi 3 (dX6_men 88 rfl) cbX6_man cwX6_392 (m_manF E q g2 tw a2 (a 24 (40 * j + A + 3 * c)) (a 24 (40 * j + A + 3 * c + 1)) (a 24 (40 * j + A + 3 * c + 2)) m2 hs.1 ((congrArg (fun s => s.1 0) hf).trans hs.2.1) (by rw [show g2 14 = s.1 1 from congrArg (fun s => s.1 1) hf]; exact hs.2.2.1)) rfl rfl MW_0 rfl rfl (Nat.le_of_ble_eq_true rfl) (Nat.le_of_ble_eq_true rfl) (Nat.le_of_ble_eq_true rfl) (Nat.le_of_ble_eq_true rfl) (Nat.le_of_ble_eq_true rfl) ?_
        rintro r147 w1 ⟨g3, a3, rfl, ho3, hf3, hr3⟩
        rw [hf] at hf3 hr3
        obtain ⟨m3, hs3⟩ := hs.man (a 24 (40 * j + A + 3 * c)) (a 24 (40 * j + A + 3 * c + 1)) (a 24 (40 * j + A + 3 * c + 2))
        have e : p_mens (fun k => a 24 (40 * j + k)) (nI A) N (n + 1) c s c5 = p_mens (fun k => a 24 (40 * j + k)) (nI A) N n (c + 1) (p_man (a 24 (40 * j + A + 3 * c)) (a 24 (40 * j + A + 3 * c + 1)) (a 24 (40 * j + A + 3 * c + 2)) s).1 (c5 + if 0 ≤ r147 then 1 else 0) := by
          rw [show p_mens (fun k => a 24 (40 * j + k)) (nI A) N (n + 1) c s c5 = _ from if_neg hok, nI_clamp hA, hr3]
          simp only [← Nat.add_assoc]
        rw [e]
        refine AW.pcq (pc2 := 150) rfl ?_
        refine A_if_lt 157 (dX6_men 89 rfl) (by decide) (fun h150 => ?_) (fun h150 => ?_)
        · rw [if_neg (Int32.not_le.mpr h150)]
          refine A_iconst (0) (dX6_men 92 rfl) (by decide +kernel) ?_
          refine A_iadd (dX6_men 93 rfl) ?_
          refine A_istore (ls2 := [_, _, _, _, _, _, _, _]) (dX6_men 94 rfl) (by decide) (by have := hx; simp_all [noL, Value.category]) rfl ?_
          refine A_iinc (ls2 := [_, _, _, _, _, _, _, _]) (nI (c + 1)) (dX6_men 95 rfl) rfl (nI_1 c) (by decide) (by have := hx; simp_all [noL, Value.category]) rfl ?_
          refine A_goto 75 (dX6_men 96 rfl) (by decide) ?_
          exact ih (c + 1) (by omega) g3 a3 _ _ m3 _ (by rfl) (ho.tr ho3) hf3 hs3
        · rw [if_pos (Int32.not_lt.mp h150)]
          refine A_iconst (1) (dX6_men 90 rfl) (by decide +kernel) ?_
          refine A_goto 158 (dX6_men 91 rfl) (by decide) ?_
          refine A_iadd (dX6_men 93 rfl) ?_
          refine A_istore (ls2 := [_, _, _, _, _, _, _, _]) (dX6_men 94 rfl) (by decide) (by have := hx; simp_all [noL, Value.category]) rfl ?_
          refine A_iinc (ls2 := [_, _, _, _, _, _, _, _]) (nI (c + 1)) (dX6_men 95 rfl) rfl (nI_1 c) (by decide) (by have := hx; simp_all [noL, Value.category]) rfl ?_
          refine A_goto 75 (dX6_men 96 rfl) (by decide) ?_
          exact ih (c + 1) (by omega) g3 a3 _ _ m3 _ (by rfl) (ho.tr ho3) hf3 hs3
      · have hlow : nI A < 0 ∨ N < (nI A).toNatClampNeg + 3 * c + 3 := Or.inr (by rw [nI_clamp hA]; exact (men_c hN (by omega) hA).mp (Int32.not_le.mp h100))
        refine A_bipush (-12) (dX6_men 58 rfl) (by decide +kernel) ?_
        refine A_ri (dX6_men 59 rfl) rfl rfl ?_
        rw [show p_mens (fun k => a 24 (40 * j + k)) _ N (n + 1) c s c5 = (s, -12) from if_pos hlow]
        exact ⟨g2, a2, rfl, ho, hf, rfl⟩

theorem in5 {n : Int32} (h : ¬ inI n 0 5 = 0) : ∃ j, j ≤ 5 ∧ n = nI j := by
  obtain ⟨h1, h2⟩ := inI_yes h
  have h0 : (0 : Int32).toInt = 0 := by decide
  have h40 : (5 : Int32).toInt = 5 := by decide
  obtain ⟨j, hj, rfl⟩ := nI_of (x := n) (fun z => by have := Int32.lt_iff_toInt_lt.mp z; omega)
  rw [nI_toInt hj] at h2
  exact ⟨j, by omega, rfl⟩
set_option maxRecDepth 100000 in
set_option maxHeartbeats 400000 in
theorem m_men (E : ag) (q : Nat → Nat) (g : Nat → Int32) (tw : Int64) (a : Nat → Nat → Int32) (s k at0 n : Int32) (hsh : SHI a) (m : Nat) (hF : FI (rfs g a) m) : CT E yX6_men cX6_men 8 mX6_men.2.2.2.1 3 0 0 [.ref (q 0), .int s, .int k, .int at0, .int n] (MW E q g tw a) (ri (fun r w => ((inI s 0 3 = 0 ∨ inI k 0 2 = 0 ∨ inI n 0 5 = 0) ∧ r = -2 ∧ w = MW E q g tw a) ∨ (¬ (inI s 0 3 = 0 ∨ inI k 0 2 = 0 ∨ inI n 0 5 = 0) ∧ ∃ j, j < 4 ∧ s = nI j ∧ ((¬ a 21 j = 0 ∧ ¬ a 22 j = k ∧ r = -13 ∧ w = MW E q g tw a) ∨ (a 21 j = 0 ∧ r = -11 ∧ w = MW E q g tw a) ∨ (¬ a 21 j = 0 ∧ a 22 j = k ∧ ∃ N nn, N ≤ 40 ∧ nn ≤ 5 ∧ a 23 j = nI N ∧ n = nI nn ∧ ∃ (g3 : Nat → Int32) (a3 : Nat → Nat → Int32), w = MW E q g3 tw a3 ∧ MM g a g3 a3 ∧ rfs g3 a3 = (p_mens (fun k => a 24 (40 * j + k)) at0 N nn 0 (rfs g a) 0).1 ∧ r = (p_mens (fun k => a 24 (40 * j + k)) at0 N nn 0 (rfs g a) 0).2))))) := by
  refine CT.of (M := mX6_men) (ls := [some (.ref (q 0)), some (.int s), some (.int k), some (.int at0), some (.int n), none, none, none]) (by decide) rfl (by decide) rfl (Nat.le_of_ble_eq_true rfl) ?_
  refine A_iload_n (dX6_men 0 rfl) rfl ?_
  refine A_callSWi 1 (dX6_men 1 rfl) cbX6_isSheet cwX6_372 (m_isSheet E _ s) rfl rfl (Nat.le_of_ble_eq_true rfl) (Nat.le_of_ble_eq_true rfl) (Nat.le_of_ble_eq_true rfl) (Nat.le_of_ble_eq_true rfl) (Nat.le_of_ble_eq_true rfl) ?_
  rintro r1 w1 ⟨rfl, rfl⟩
  refine AW.pcq (pc2 := 4) rfl ?_
  refine A_if_eq 32 (dX6_men 2 rfl) (by decide) (fun h4 => ?_) (fun h4 => ?_)
  · refine A_bipush (-2) (dX6_men 15 rfl) (by decide +kernel) ?_
    refine A_ri (dX6_men 16 rfl) rfl rfl ?_
    exact Or.inl ⟨by first | exact Or.inl (by assumption) | exact Or.inr (Or.inl (by assumption)) | exact Or.inr (Or.inr (by assumption)), rfl, rfl⟩
  · refine A_iload_n (dX6_men 3 rfl) rfl ?_
    refine A_i2l (dX6_men 4 rfl) ?_
    refine A_lconst (0) (dX6_men 5 rfl) (by decide +kernel) ?_
    refine A_ldc2 (dX6_men 6 rfl) kcX6_119 ?_
    refine A_callSWi 3 (dX6_men 7 rfl) cbX6_in cwX6_103 (m_in E _ k 0 2 _ _ _ rfl (by decide) (by decide)) rfl rfl (Nat.le_of_ble_eq_true rfl) (Nat.le_of_ble_eq_true rfl) (Nat.le_of_ble_eq_true rfl) (Nat.le_of_ble_eq_true rfl) (Nat.le_of_ble_eq_true rfl) ?_
    rintro r13 w1 ⟨rfl, rfl⟩
    refine AW.pcq (pc2 := 16) rfl ?_
    refine A_if_eq 32 (dX6_men 8 rfl) (by decide) (fun h16 => ?_) (fun h16 => ?_)
    · refine A_bipush (-2) (dX6_men 15 rfl) (by decide +kernel) ?_
      refine A_ri (dX6_men 16 rfl) rfl rfl ?_
      exact Or.inl ⟨by first | exact Or.inl (by assumption) | exact Or.inr (Or.inl (by assumption)) | exact Or.inr (Or.inr (by assumption)), rfl, rfl⟩
    · refine A_iload (dX6_men 9 rfl) rfl ?_
      refine A_i2l (dX6_men 10 rfl) ?_
      refine A_lconst (0) (dX6_men 11 rfl) (by decide +kernel) ?_
      refine A_ldc2 (dX6_men 12 rfl) kcX6_109 ?_
      refine A_callSWi 3 (dX6_men 13 rfl) cbX6_in cwX6_103 (m_in E _ n 0 5 _ _ _ rfl (by decide) (by decide)) rfl rfl (Nat.le_of_ble_eq_true rfl) (Nat.le_of_ble_eq_true rfl) (Nat.le_of_ble_eq_true rfl) (Nat.le_of_ble_eq_true rfl) (Nat.le_of_ble_eq_true rfl) ?_
      rintro r26 w1 ⟨rfl, rfl⟩
      refine AW.pcq (pc2 := 29) rfl ?_
      refine A_if_ne 35 (dX6_men 14 rfl) (by decide) (fun h29 => ?_) (fun h29 => ?_)
      · have hB : ¬ (inI s 0 3 = 0 ∨ inI k 0 2 = 0 ∨ inI n 0 5 = 0) := by
          rintro (z | z | z)
          · exact h4 z
          · exact h16 z
          · exact h29 z
        obtain ⟨j, hj, rfl⟩ := sheet_nI h4
        obtain ⟨nn, hnn, rfl⟩ := in5 h29
        refine AW.mono (post := ri (fun r w => _)) ?_ (fun v w hz => by obtain ⟨r, h91, h92⟩ := hz; exact ⟨r, h91, Or.inr ⟨hB, j, hj, rfl, h92⟩⟩)
        refine A_aload_n (dX6_men 17 rfl) rfl ?_
        refine A_get (dX6_men 18 rfl) fwX6_80 MW_0 MF_60 ?_
        refine A_iload_n (dX6_men 19 rfl) rfl ?_
        refine A_zald (dX6_men 20 rfl) MW_21 (vp_in_nI (n := j) (by omega) (by decide)) ?_
        rw [nI_clamp (n := j) (by omega)]
        refine A_if_eq 57 (dX6_men 21 rfl) (by decide) (fun h41 => ?_) (fun h41 => ?_)
        · refine A_aload_n (dX6_men 30 rfl) rfl ?_
          refine A_get (dX6_men 31 rfl) fwX6_80 MW_0 MF_60 ?_
          refine A_iload_n (dX6_men 32 rfl) rfl ?_
          refine A_zald (dX6_men 33 rfl) MW_21 (vp_in_nI (n := j) (by omega) (by decide)) ?_
          rw [nI_clamp (n := j) (by omega)]
          refine A_if_ne 69 (dX6_men 34 rfl) (by decide) (fun h63 => ?_) (fun h63 => ?_)
          · obtain ⟨N, hN, h23⟩ := hsh j hj h63
            refine A_iconst (0) (dX6_men 37 rfl) (by decide +kernel) ?_
            refine A_istore (ls2 := [_, _, _, _, _, _, _, _]) (dX6_men 38 rfl) (by decide) rfl rfl ?_
            refine A_iconst (0) (dX6_men 39 rfl) (by decide +kernel) ?_
            refine A_istore (ls2 := [_, _, _, _, _, _, _, _]) (dX6_men 40 rfl) (by decide) rfl rfl ?_
            first
              | exact absurd h41 h63
              | (refine AW.mono (m_menL E q g tw a j N nn hj hN hnn h23 k at0 nn 0 (by omega) g a (rfs g a) 0 m none rfl MM.rf rfl hF) (fun v w hz => ?_)
                 obtain ⟨r, h91, h92⟩ := hz
                 exact ⟨r, h91, Or.inr (Or.inr ⟨h63, h51, N, nn, hN, hnn, h23, rfl, h92⟩)⟩)
          · refine A_bipush (-11) (dX6_men 35 rfl) (by decide +kernel) ?_
            refine A_ri (dX6_men 36 rfl) rfl rfl ?_
            first | exact Or.inr (Or.inl ⟨h63, rfl, rfl⟩) | exact Or.inr (Or.inl ⟨h41, rfl, rfl⟩)
        · refine A_aload_n (dX6_men 22 rfl) rfl ?_
          refine A_get (dX6_men 23 rfl) fwX6_84 MW_0 MF_61 ?_
          refine A_iload_n (dX6_men 24 rfl) rfl ?_
          refine A_iald (dX6_men 25 rfl) MW_22 (vp_in_nI (n := j) (by omega) (by decide)) ?_
          rw [nI_clamp (n := j) (by omega)]
          refine A_iload_n (dX6_men 26 rfl) rfl ?_
          refine A_icmp_eq 57 (dX6_men 27 rfl) (by decide) (fun h51 => ?_) (fun h51 => ?_)
          · refine A_aload_n (dX6_men 30 rfl) rfl ?_
            refine A_get (dX6_men 31 rfl) fwX6_80 MW_0 MF_60 ?_
            refine A_iload_n (dX6_men 32 rfl) rfl ?_
            refine A_zald (dX6_men 33 rfl) MW_21 (vp_in_nI (n := j) (by omega) (by decide)) ?_
            rw [nI_clamp (n := j) (by omega)]
            refine A_if_ne 69 (dX6_men 34 rfl) (by decide) (fun h63 => ?_) (fun h63 => ?_)
            · obtain ⟨N, hN, h23⟩ := hsh j hj h63
              refine A_iconst (0) (dX6_men 37 rfl) (by decide +kernel) ?_
              refine A_istore (ls2 := [_, _, _, _, _, _, _, _]) (dX6_men 38 rfl) (by decide) rfl rfl ?_
              refine A_iconst (0) (dX6_men 39 rfl) (by decide +kernel) ?_
              refine A_istore (ls2 := [_, _, _, _, _, _, _, _]) (dX6_men 40 rfl) (by decide) rfl rfl ?_
              first
                | exact absurd h41 h63
                | (refine AW.mono (m_menL E q g tw a j N nn hj hN hnn h23 k at0 nn 0 (by omega) g a (rfs g a) 0 m none rfl MM.rf rfl hF) (fun v w hz => ?_)
                   obtain ⟨r, h91, h92⟩ := hz
                   exact ⟨r, h91, Or.inr (Or.inr ⟨h63, h51, N, nn, hN, hnn, h23, rfl, h92⟩)⟩)
            · refine A_bipush (-11) (dX6_men 35 rfl) (by decide +kernel) ?_
              refine A_ri (dX6_men 36 rfl) rfl rfl ?_
              first | exact Or.inr (Or.inl ⟨h63, rfl, rfl⟩) | exact Or.inr (Or.inl ⟨h41, rfl, rfl⟩)
          · refine A_bipush (-13) (dX6_men 28 rfl) (by decide +kernel) ?_
            refine A_ri (dX6_men 29 rfl) rfl rfl ?_
            exact Or.inl ⟨h41, h51, rfl, rfl⟩
      · refine A_bipush (-2) (dX6_men 15 rfl) (by decide +kernel) ?_
        refine A_ri (dX6_men 16 rfl) rfl rfl ?_
        exact Or.inl ⟨by first | exact Or.inl (by assumption) | exact Or.inr (Or.inl (by assumption)) | exact Or.inr (Or.inr (by assumption)), rfl, rfl⟩

