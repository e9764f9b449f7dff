def p_fold (C : Nat → List Int32) (m : Nat) (s : FS) (l : List Nat) (B : BT) : BT := l.foldl (fun B d => p_bs C m s B d) B
theorem p_fold_app (C : Nat → List Int32) (m : Nat) (s : FS) (l r : List Nat) (B : BT) : p_fold C m s (l ++ r) B = p_fold C m s r (p_fold C m s l B) := List.foldl_append
def lvi (m f tk d i n : Nat) : List Nat := (List.range' i n).flatMap (fun i => if tk / 2 ^ i % 2 = 0 then lvs m f (tk ||| 2 ^ i) (10 * d + i) else [])
theorem lvi_s (m f tk d i n : Nat) : lvi m f tk d i (n + 1) = (if tk / 2 ^ i % 2 = 0 then lvs m f (tk ||| 2 ^ i) (10 * d + i) else []) ++ lvi m f tk d (i + 1) n := by
  unfold lvi
  rw [List.range'_succ, List.flatMap_cons]
theorem mul10 (d i : Nat) : (10 : Int32) * nI d + nI i = nI (10 * d + i) := by rw [show (10 : Int32) * nI d = nI (10 * d) from pk_mul 10 d, nI_add]
def ORD (E : ag) (q : Nat → Nat) (g : Nat → Int32) (a : Nat → Nat → Int32) (C : Nat → List Int32) (m f : Nat) : Prop := ∀ (place tk d : Nat) (B : BT) (h : Nat → Int32) (tw1 : Int64) (b : Nat → Nat → Int32), place + f = m → tk < 32 → (∀ p, dgt d p < 5) → d < 10 ^ place → OS g a B h b → CT E yX6_orders cX6_orders 6 mX6_orders.2.2.2.1 (48 + f) 0 0 [.ref (q 0), .int (nI place), .int (nI tk), .int (nI d)] (MW E q h tw1 b) (rv (OB E q g a (p_fold C m (rfs g a) (lvs m f tk d) B)))
theorem OS.g13 {g h : Nat → Int32} {a b : Nat → Nat → Int32} {B : BT} (s : OS g a B h b) {m : Nat} (hF : FI (rfs g a) m) : h 13 = nI m := (congrArg (fun s => s.1 0) s.1).trans hF.2.1
theorem OS.e {g h : Nat → Int32} {a b : Nat → Nat → Int32} {B : BT} (s : OS g a B h b) : b 12 = b 6 ∧ b 13 = b 7 ∧ b 14 = b 8 ∧ b 15 = b 9 := by
  obtain ⟨-, hd, hb, -⟩ := s
  exact ⟨by rw [hd.2.1 2 (by decide), hb.2 6 (by decide)], by rw [hd.2.1 3 (by decide), hb.2 7 (by decide)], by rw [hd.2.1 4 (by decide), hb.2 8 (by decide)], by rw [hd.2.1 5 (by decide), hb.2 9 (by decide)]⟩
theorem ten5 {place : Nat} (h : place ≤ 5) : 10 ^ place ≤ 100000 := Nat.pow_le_pow_right (by decide) h
set_option maxRecDepth 100000 in
set_option maxHeartbeats 400000 in
theorem m_ordB0 (E : ag) (q : Nat → Nat) (g : Nat → Int32) (tw : Int64) (a : Nat → Nat → Int32) (t m : Nat) (C : Nat → List Int32) (hg4 : g 4 = nI t) (hK : TOK (a 1) (a 2) t C) (hF : FI (rfs g a) m) (f place tk d : Nat) (hpf : place + (f + 1) = m) (htk : tk < 32) (hdg : ∀ p, dgt d p < 5) (hd10 : d < 10 ^ place) (hf0 : f = 0) : ∀ (i : Nat) (B : BT) (h : Nat → Int32) (tw1 : Int64) (b : Nat → Nat → Int32) (post : Option Value → va_W → Prop), i < m → tk / 2 ^ i % 2 = 0 → OS g a B h b → (∀ (h3 : Nat → Int32) (tw3 : Int64) (b3 : Nat → Nat → Int32), OS g a (p_fold C m (rfs g a) (lvs m f (tk ||| 2 ^ i) (10 * d + i)) B) h3 b3 → AW E mX6_orders (48 + (f + 1)) 0 0 149 [some (.ref (q 0)), some (.int (nI place)), some (.int (nI tk)), some (.int (nI d)), some (.int (nI i)), some (.int (nI (10 * d + i)))] [] (MW E q h3 tw3 b3) post) → AW E mX6_orders (48 + (f + 1)) 0 0 118 [some (.ref (q 0)), some (.int (nI place)), some (.int (nI tk)), some (.int (nI d)), some (.int (nI i)), some (.int (nI (10 * d + i)))] [] (MW E q h tw1 b) post := by
  have hm5 := hF.1
  have h105 := ten5 (place := place) (by omega)
  intro i B h tw1 b post hi hbit hs K
  have h13 := hs.g13 hF
  subst hf0
  obtain ⟨e12, e13, e14, e15⟩ := hs.e
  refine A_iload_n (dX6_orders 62 rfl) rfl ?_
  refine A_aload_n (dX6_orders 63 rfl) rfl ?_
  refine A_get (dX6_orders 64 rfl) fwX6_100 MW_0 MF_13 ?_
  refine A_iconst (1) (dX6_orders 65 rfl) (by decide +kernel) ?_
  refine A_isub (dX6_orders 66 rfl) ?_
  rw [h13]
  refine A_icmp_ne 134 (dX6_orders 67 rfl) (by decide) (fun h125 => absurd (by rw [← hpf]; exact (nI_pred place).symm) h125) (fun h125 => ?_)
  refine A_aload_n (dX6_orders 68 rfl) rfl ?_
  refine A_iload (dX6_orders 69 rfl) rfl ?_
  refine AW.pcq (pc2 := 131) rfl ?_
  refine A_callVWv 1 (dX6_orders 70 rfl) cbX6_stand cwX6_357 (m_stand E q h tw1 b m (10 * d + i) hm5 (by omega) (dgt_all hdg (by omega)) e12 e13 e14 e15 h13) rfl rfl MW_0 rfl rfl (Nat.le_of_ble_eq_true rfl) (Nat.le_of_ble_eq_true rfl) (Nat.le_of_ble_eq_true rfl) (Nat.le_of_ble_eq_true rfl) (Nat.le_of_ble_eq_true rfl) ?_
  rintro w1 rfl
  refine AW.pcq (pc2 := 134) rfl ?_
  refine A_aload_n (dX6_orders 71 rfl) rfl ?_
  refine A_iload_n (dX6_orders 72 rfl) rfl ?_
  refine A_iconst (1) (dX6_orders 73 rfl) (by decide +kernel) ?_
  refine A_iadd (dX6_orders 74 rfl) ?_
  refine A_iload_n (dX6_orders 75 rfl) rfl ?_
  refine A_iconst (1) (dX6_orders 76 rfl) (by decide +kernel) ?_
  refine A_iload (dX6_orders 77 rfl) rfl ?_
  refine A_ishl (dX6_orders 78 rfl) ?_
  refine AW.pcq (pc2 := 143) rfl ?_
  refine A_ior (dX6_orders 79 rfl) ?_
  refine A_iload (dX6_orders 80 rfl) rfl ?_
  refine AW.stack (st2 := [.int (nI (10 * d + i)), .int (nI (tk ||| 2 ^ i)), .int (nI m), .ref (q 0)]) (by rw [(bit_o tk htk i (by omega)).1, nI_1, hpf]) ?_
  refine A_callVWv 3 (dX6_orders 81 rfl) cbX6_orders cwX6_360 (m_ordLeaf E q g tw a t m C hg4 hK hF h tw1 (mSt m (10 * d + i) m b) (10 * d + i) (nI (tk ||| 2 ^ i)) (by rw [rf_stand, hs.1]) hs.2.1.st) rfl rfl MW_0 rfl rfl (Nat.le_of_ble_eq_true rfl) (Nat.le_of_ble_eq_true rfl) (Nat.le_of_ble_eq_true rfl) (Nat.le_of_ble_eq_true rfl) (Nat.le_of_ble_eq_true rfl) ?_
  rintro w1 ⟨h3, tw3, b3, rfl, hs3⟩
  refine AW.pcq (pc2 := 149) rfl ?_
  exact K h3 tw3 b3 (by rw [hs.2.2.2] at hs3; exact hs3)
set_option maxRecDepth 100000 in
set_option maxHeartbeats 400000 in
theorem m_ordB1 (E : ag) (q : Nat → Nat) (g : Nat → Int32) (tw : Int64) (a : Nat → Nat → Int32) (t m : Nat) (C : Nat → List Int32) (hg4 : g 4 = nI t) (hK : TOK (a 1) (a 2) t C) (hF : FI (rfs g a) m) (f place tk d : Nat) (hpf : place + (f + 1) = m) (htk : tk < 32) (hdg : ∀ p, dgt d p < 5) (hd10 : d < 10 ^ place) (hf0 : 0 < f) (ih : ORD E q g a C m f) : ∀ (i : Nat) (B : BT) (h : Nat → Int32) (tw1 : Int64) (b : Nat → Nat → Int32) (post : Option Value → va_W → Prop), i < m → tk / 2 ^ i % 2 = 0 → OS g a B h b → (∀ (h3 : Nat → Int32) (tw3 : Int64) (b3 : Nat → Nat → Int32), OS g a (p_fold C m (rfs g a) (lvs m f (tk ||| 2 ^ i) (10 * d + i)) B) h3 b3 → AW E mX6_orders (48 + (f + 1)) 0 0 149 [some (.ref (q 0)), some (.int (nI place)), some (.int (nI tk)), some (.int (nI d)), some (.int (nI i)), some (.int (nI (10 * d + i)))] [] (MW E q h3 tw3 b3) post) → AW E mX6_orders (48 + (f + 1)) 0 0 118 [some (.ref (q 0)), some (.int (nI place)), some (.int (nI tk)), some (.int (nI d)), some (.int (nI i)), some (.int (nI (10 * d + i)))] [] (MW E q h tw1 b) post := by
  have hm5 := hF.1
  have h105 := ten5 (place := place) (by omega)
  intro i B h tw1 b post hi hbit hs K
  have h13 := hs.g13 hF
  refine A_iload_n (dX6_orders 62 rfl) rfl ?_
  refine A_aload_n (dX6_orders 63 rfl) rfl ?_
  refine A_get (dX6_orders 64 rfl) fwX6_100 MW_0 MF_13 ?_
  refine A_iconst (1) (dX6_orders 65 rfl) (by decide +kernel) ?_
  refine A_isub (dX6_orders 66 rfl) ?_
  rw [h13]
  refine A_icmp_ne 134 (dX6_orders 67 rfl) (by decide) (fun h125 => ?_) (fun h125 => absurd h125 (fun z => absurd ((nI_eq (a := place) (b := m - 1) (by omega) (by omega)).mp (z.trans (by obtain ⟨j, rfl⟩ : ∃ j, m = j + 1 := ⟨m - 1, by omega⟩; rw [nI_pred]; rfl))) (by omega)))
  refine A_aload_n (dX6_orders 71 rfl) rfl ?_
  refine A_iload_n (dX6_orders 72 rfl) rfl ?_
  refine A_iconst (1) (dX6_orders 73 rfl) (by decide +kernel) ?_
  refine A_iadd (dX6_orders 74 rfl) ?_
  refine A_iload_n (dX6_orders 75 rfl) rfl ?_
  refine A_iconst (1) (dX6_orders 76 rfl) (by decide +kernel) ?_
  refine A_iload (dX6_orders 77 rfl) rfl ?_
  refine A_ishl (dX6_orders 78 rfl) ?_
  refine AW.pcq (pc2 := 143) rfl ?_
  refine A_ior (dX6_orders 79 rfl) ?_
  refine A_iload (dX6_orders 80 rfl) rfl ?_
  refine AW.stack (st2 := [.int (nI (10 * d + i)), .int (nI (tk ||| 2 ^ i)), .int (nI (place + 1)), .ref (q 0)]) (by rw [(bit_o tk htk i (by omega)).1, nI_1]) ?_
  refine A_callVWv 3 (dX6_orders 81 rfl) cbX6_orders cwX6_360 (ih (place + 1) (tk ||| 2 ^ i) (10 * d + i) B h tw1 b (by omega) (bit_o tk htk i (by omega)).2 (dgt_all hdg (by omega)) (by rw [Nat.pow_succ]; omega) hs) rfl rfl MW_0 rfl rfl (by omega) (Nat.le_of_ble_eq_true rfl) (Nat.le_of_ble_eq_true rfl) (Nat.le_of_ble_eq_true rfl) (Nat.le_of_ble_eq_true rfl) ?_
  rintro w1 ⟨h3, tw3, b3, rfl, hs3⟩
  refine AW.pcq (pc2 := 149) rfl ?_
  exact K h3 tw3 b3 hs3
set_option maxRecDepth 100000 in
set_option maxHeartbeats 400000 in
theorem m_ordL (E : ag) (q : Nat → Nat) (g : Nat → Int32) (tw : Int64) (a : Nat → Nat → Int32) (t m : Nat) (C : Nat → List Int32) (hg4 : g 4 = nI t) (hK : TOK (a 1) (a 2) t C) (hF : FI (rfs g a) m) (f place tk d : Nat) (hpf : place + (f + 1) = m) (htk : tk < 32) (hdg : ∀ p, dgt d p < 5) (hd10 : d < 10 ^ place) (HB : ∀ (i : Nat) (B : BT) (h : Nat → Int32) (tw1 : Int64) (b : Nat → Nat → Int32) (post : Option Value → va_W → Prop), i < m → tk / 2 ^ i % 2 = 0 → OS g a B h b → (∀ (h3 : Nat → Int32) (tw3 : Int64) (b3 : Nat → Nat → Int32), OS g a (p_fold C m (rfs g a) (lvs m f (tk ||| 2 ^ i) (10 * d + i)) B) h3 b3 → AW E mX6_orders (48 + (f + 1)) 0 0 149 [some (.ref (q 0)), some (.int (nI place)), some (.int (nI tk)), some (.int (nI d)), some (.int (nI i)), some (.int (nI (10 * d + i)))] [] (MW E q h3 tw3 b3) post) → AW E mX6_orders (48 + (f + 1)) 0 0 118 [some (.ref (q 0)), some (.int (nI place)), some (.int (nI tk)), some (.int (nI d)), some (.int (nI i)), some (.int (nI (10 * d + i)))] [] (MW E q h tw1 b) post) : ∀ (n c : Nat), c + n = m → ∀ (B : BT) (h : Nat → Int32) (tw1 : Int64) (b : Nat → Nat → Int32) (x5 : Option Value), noL [x5] = true → OS g a B h b → AW E mX6_orders (48 + (f + 1)) 0 0 91 [some (.ref (q 0)), some (.int (nI place)), some (.int (nI tk)), some (.int (nI d)), some (.int (nI c)), x5] [] (MW E q h tw1 b) (rv (OB E q g a (p_fold C m (rfs g a) (lvi m f tk d c n) B))) := by
  intro n
  induction n with
  | zero =>
    intro c hc
    intro B h tw1 b x5 hx hs
    have hm5 := hF.1
    have h105 := ten5 (place := place) (by omega)
    have h13 := hs.g13 hF
    obtain rfl : m = c := by omega
    refine A_iload (dX6_orders 46 rfl) rfl ?_
    refine A_aload_n (dX6_orders 47 rfl) rfl ?_
    refine A_get (dX6_orders 48 rfl) fwX6_100 MW_0 MF_13 ?_
    refine A_icmp_ge 155 (dX6_orders 49 rfl) (by decide) (fun h97 => ?_) (fun h97 => absurd (show h 13 ≤ nI m by rw [h13]; exact nI_le (Nat.le_refl _) (by omega)) h97)
    refine A_rv (dX6_orders 84 rfl) rfl ?_
    exact ⟨h, tw1, b, rfl, hs⟩
  | succ n ih =>
    intro c hc
    have hlt : c < m := by omega
    intro B h tw1 b x5 hx hs
    have hm5 := hF.1
    have h105 := ten5 (place := place) (by omega)
    have h13 := hs.g13 hF
    refine A_iload (dX6_orders 46 rfl) rfl ?_
    refine A_aload_n (dX6_orders 47 rfl) rfl ?_
    refine A_get (dX6_orders 48 rfl) fwX6_100 MW_0 MF_13 ?_
    refine A_icmp_ge 155 (dX6_orders 49 rfl) (by decide) (fun h97 => absurd h97 (show ¬ h 13 ≤ nI c by rw [h13]; exact nI_ge hlt (by omega))) (fun h97 => ?_)
    refine A_iload_n (dX6_orders 50 rfl) rfl ?_
    refine A_iload (dX6_orders 51 rfl) rfl ?_
    refine A_ishr (dX6_orders 52 rfl) ?_
    refine A_iconst (1) (dX6_orders 53 rfl) (by decide +kernel) ?_
    refine AW.pcq (pc2 := 105) rfl ?_
    refine A_iand (dX6_orders 54 rfl) ?_
    refine A_if_ne 149 (dX6_orders 55 rfl) (by decide) (fun h106 => ?_) (fun h106 => ?_)
    · have hbit : ¬ tk / 2 ^ c % 2 = 0 := fun z => h106 ((bit_t tk htk c (by omega)).mpr z)
      rw [lvi_s, if_neg hbit, List.nil_append]
      refine A_iinc (ls2 := [_, _, _, _, _, _]) (nI (c + 1)) (dX6_orders 82 rfl) rfl (nI_1 c) (by decide) (by have := hx; simp_all [noL, Value.category]) rfl ?_
      refine A_goto 91 (dX6_orders 83 rfl) (by decide) ?_
      exact ih (c + 1) (by omega) _ h tw1 b _ (by exact hx) hs
    · have hbit : tk / 2 ^ c % 2 = 0 := (bit_t tk htk c (by omega)).mp h106
      rw [lvi_s, if_pos hbit, p_fold_app]
      refine A_bipush (10) (dX6_orders 56 rfl) (by decide +kernel) ?_
      refine A_iload_n (dX6_orders 57 rfl) rfl ?_
      refine A_imul (dX6_orders 58 rfl) ?_
      refine A_iload (dX6_orders 59 rfl) rfl ?_
      refine A_iadd (dX6_orders 60 rfl) ?_
      rw [mul10]
      refine A_istore (ls2 := [_, _, _, _, _, _]) (dX6_orders 61 rfl) (by decide) (by have := hx; simp_all [noL, Value.category]) rfl ?_
      refine HB c B h tw1 b _ hlt hbit hs (fun h3 tw3 b3 hs3 => ?_)
      refine A_iinc (ls2 := [_, _, _, _, _, _]) (nI (c + 1)) (dX6_orders 82 rfl) rfl (nI_1 c) (by decide) rfl rfl ?_
      refine A_goto 91 (dX6_orders 83 rfl) (by decide) ?_
      exact ih (c + 1) (by omega) _ h3 tw3 b3 _ (by rfl) hs3

theorem s_ordC (E : ag) (q : Nat → Nat) (g : Nat → Int32) (tw : Int64) (a : Nat → Nat → Int32) (t m : Nat) (C : Nat → List Int32) (hg4 : g 4 = nI t) (hK : TOK (a 1) (a 2) t C) (hF : FI (rfs g a) m) (f place tk d : Nat) (hpf : place + (f + 1) = m) (htk : tk < 32) (hdg : ∀ p, dgt d p < 5) (hd10 : d < 10 ^ place) (HB : ∀ (i : Nat) (B : BT) (h : Nat → Int32) (tw1 : Int64) (b : Nat → Nat → Int32) (post : Option Value → va_W → Prop), i < m → tk / 2 ^ i % 2 = 0 → OS g a B h b → (∀ (h3 : Nat → Int32) (tw3 : Int64) (b3 : Nat → Nat → Int32), OS g a (p_fold C m (rfs g a) (lvs m f (tk ||| 2 ^ i) (10 * d + i)) B) h3 b3 → AW E mX6_orders (48 + (f + 1)) 0 0 149 [some (.ref (q 0)), some (.int (nI place)), some (.int (nI tk)), some (.int (nI d)), some (.int (nI i)), some (.int (nI (10 * d + i)))] [] (MW E q h3 tw3 b3) post) → AW E mX6_orders (48 + (f + 1)) 0 0 118 [some (.ref (q 0)), some (.int (nI place)), some (.int (nI tk)), some (.int (nI d)), some (.int (nI i)), some (.int (nI (10 * d + i)))] [] (MW E q h tw1 b) post) (B : BT) (h : Nat → Int32) (tw1 : Int64) (b : Nat → Nat → Int32) (hs : OS g a B h b) : CT E yX6_orders cX6_orders 6 mX6_orders.2.2.2.1 (48 + (f + 1)) 0 0 [.ref (q 0), .int (nI place), .int (nI tk), .int (nI d)] (MW E q h tw1 b) (rv (OB E q g a (p_fold C m (rfs g a) (lvs m (f + 1) tk d) B))) := by
  have hm5 := hF.1
  have h13 := hs.g13 hF
  refine CT.of (M := mX6_orders) (ls := [some (.ref (q 0)), some (.int (nI place)), some (.int (nI tk)), some (.int (nI d)), none, none]) (by decide) rfl (by decide) rfl (Nat.le_of_ble_eq_true rfl) ?_
  refine A_iload_n (dX6_orders 0 rfl) rfl ?_
  refine A_aload_n (dX6_orders 1 rfl) rfl ?_
  refine A_get (dX6_orders 2 rfl) fwX6_100 MW_0 MF_13 ?_
  refine A_icmp_ne 88 (dX6_orders 3 rfl) (by decide) (fun h5 => ?_) (fun h5 => absurd h5 (fun z => absurd ((nI_eq (a := place) (b := m) (by omega) (by omega)).mp (z.trans h13)) (by omega)))
  refine A_iconst (0) (dX6_orders 44 rfl) (by decide +kernel) ?_
  refine A_istore (ls2 := [_, _, _, _, _, _]) (dX6_orders 45 rfl) (by decide) rfl rfl ?_
  exact m_ordL E q g tw a t m C hg4 hK hF f place tk d hpf htk hdg hd10 HB m 0 (by omega) B h tw1 b none rfl hs

theorem s_ord (E : ag) (q : Nat → Nat) (g : Nat → Int32) (tw : Int64) (a : Nat → Nat → Int32) (t m : Nat) (C : Nat → List Int32) (hg4 : g 4 = nI t) (hK : TOK (a 1) (a 2) t C) (hF : FI (rfs g a) m) : ∀ f, 0 < f → ORD E q g a C m f := by
  intro f
  induction f with
  | zero => intro z; omega
  | succ f ih =>
    intro _ place tk d B h tw1 b hpf htk hdg hd10 hs
    rcases Nat.eq_zero_or_pos f with z | z
    · exact s_ordC E q g tw a t m C hg4 hK hF f place tk d hpf htk hdg hd10 (m_ordB0 E q g tw a t m C hg4 hK hF f place tk d hpf htk hdg hd10 z) B h tw1 b hs
    · exact s_ordC E q g tw a t m C hg4 hK hF f place tk d hpf htk hdg hd10 (m_ordB1 E q g tw a t m C hg4 hK hF f place tk d hpf htk hdg hd10 z (ih z)) B h tw1 b hs
theorem OB.qw {E : ag} {q : Nat → Nat} {g : Nat → Int32} {a : Nat → Nat → Int32} {B : BT} {h : Nat → Int32} {tw : Int64} {b : Nat → Nat → Int32} (s : OS g a B h b) : QW E q g a (MW E q h tw b) := ⟨h, tw, b, rfl, s.2.2.1⟩
def dvn : Nat → Int32 → Int32
  | 0, x => x
  | n + 1, x => dvn n x / 10
theorem dvn_s (n : Nat) : ∀ x, dvn (n + 1) x = dvn n (x / 10) := by
  induction n with
  | zero => intro x; rfl
  | succ n ih => intro x; exact congrArg (fun z => z / 10) (ih x)
theorem inI_m1 {m : Nat} {x : Int32} (hm : m ≤ 5) (h : ¬ inI x (-1) (nI m - 1) = 0) (h2 : ¬ x = -1) : ∃ j, j < m ∧ x = nI j := by
  obtain ⟨h3, h4⟩ := inI_yes h
  rw [nIm1 m hm] at h4
  have e1 : (-1 : Int32).toInt = -1 := by decide
  have e0 : (0 : Int32).toInt = 0 := by decide
  have e2 : ¬ x.toInt = -1 := fun z => h2 (Int32.toInt_inj.mp (z.trans e1.symm))
  obtain ⟨j, hj, rfl⟩ := nI_of (x := x) (fun z => by have := Int32.lt_iff_toInt_lt.mp z; omega)
  rw [nI_toInt hj] at h4
  exact ⟨j, by omega, rfl⟩
def p_order (B : BT) (m : Nat) (place : Int32) : Int32 := if place = -1 then B.2.1 else dvn (m - 1 - place.toNatClampNeg) B.1 - dvn (m - 1 - place.toNatClampNeg) B.1 / 10 * 10
set_option maxRecDepth 100000 in
set_option maxHeartbeats 400000 in
theorem m_orderL (E : ag) (q : Nat → Nat) (g : Nat → Int32) (tw : Int64) (a : Nat → Nat → Int32) (B : BT) (h : Nat → Int32) (tw1 : Int64) (b : Nat → Nat → Int32) (hs : OS g a B h b) (pl : Nat) : ∀ (c : Nat) (x : Int32), pl + c < 2 ^ 31 → AW E mX6_order 54 0 0 68 [some (.ref (q 0)), some (.int (nI pl)), some (.int x), some (.int (nI (pl + c)))] [] (MW E q h tw1 b) (ri (fun r w => r = dvn c x - dvn c x / 10 * 10 ∧ QW E q g a w)) := by
  intro c
  induction c with
  | zero =>
    intro x hx
    refine A_iload_n (dX6_order 41 rfl) rfl ?_
    refine A_iload_n (dX6_order 42 rfl) rfl ?_
    refine A_icmp_le 84 (dX6_order 43 rfl) (by decide) (fun h70 => ?_) (fun h70 => absurd (nI_le (a := pl + 0) (b := pl) (by omega) (by omega)) h70)
    refine A_iload_n (dX6_order 50 rfl) rfl ?_
    refine A_bipush (10) (dX6_order 51 rfl) (by decide +kernel) ?_
    refine A_irem (dX6_order 52 rfl) (by decide) ?_
    refine A_ri (dX6_order 53 rfl) rfl rfl ?_
    exact ⟨rfl, OB.qw hs⟩
  | succ c ih =>
    intro x hx
    refine A_iload_n (dX6_order 41 rfl) rfl ?_
    refine A_iload_n (dX6_order 42 rfl) rfl ?_
    refine A_icmp_le 84 (dX6_order 43 rfl) (by decide) (fun h70 => absurd h70 (nI_ge (a := pl) (b := pl + (c + 1)) (by omega) (by omega))) (fun h70 => ?_)
    refine A_iload_n (dX6_order 44 rfl) rfl ?_
    refine A_bipush (10) (dX6_order 45 rfl) (by decide +kernel) ?_
    refine A_idiv (dX6_order 46 rfl) (by decide) ?_
    refine A_istore_n (ls2 := [_, _, _, _]) (dX6_order 47 rfl) (by decide) rfl rfl ?_
    refine A_iinc (ls2 := [_, _, _, _]) (nI (pl + c)) (dX6_order 48 rfl) rfl (pk_m1 (pl + c)) (by decide) rfl rfl ?_
    refine AW.pcq (pc2 := 81) rfl ?_
    refine A_goto 68 (dX6_order 49 rfl) (by decide) ?_
    rw [dvn_s]
    exact ih (x / 10) (by omega)

set_option maxRecDepth 100000 in
set_option maxHeartbeats 400000 in
theorem m_order (E : ag) (q : Nat → Nat) (g : Nat → Int32) (tw : Int64) (a : Nat → Nat → Int32) (t m : Nat) (C : Nat → List Int32) (hg4 : g 4 = nI t) (hK : TOK (a 1) (a 2) t C) (hF : FI (rfs g a) m) (place : Int32) : CT E yX6_order cX6_order 4 mX6_order.2.2.2.1 54 0 0 [.ref (q 0), .int place] (MW E q g tw a) (ri (fun r w => ((inI place (-1) (g 13 - 1) = 0 ∧ r = -2) ∨ (¬ inI place (-1) (g 13 - 1) = 0 ∧ m = 0 ∧ r = 0) ∨ (¬ inI place (-1) (g 13 - 1) = 0 ∧ 0 < m ∧ ∃ x y : Int32, r = p_order (p_fold C m (rfs g a) (lvs m m 0 0) (-1, x, y)) m place)) ∧ QW E q g a w)) := by
  refine CT.of (M := mX6_order) (ls := [some (.ref (q 0)), some (.int place), none, none]) (by decide) rfl (by decide) rfl (Nat.le_of_ble_eq_true rfl) ?_
  refine A_iload_n (dX6_order 0 rfl) rfl ?_
  refine A_i2l (dX6_order 1 rfl) ?_
  refine A_ldc2 (dX6_order 2 rfl) kcX6_363 ?_
  refine A_aload_n (dX6_order 3 rfl) rfl ?_
  refine A_get (dX6_order 4 rfl) fwX6_100 MW_0 MF_13 ?_
  refine A_iconst (1) (dX6_order 5 rfl) (by decide +kernel) ?_
  refine A_isub (dX6_order 6 rfl) ?_
  refine A_i2l (dX6_order 7 rfl) ?_
  refine AW.pcq (pc2 := 12) rfl ?_
  refine A_callSWi 3 (dX6_order 8 rfl) cbX6_in cwX6_103 (m_in E _ place (-1) (g 13 - 1) _ _ _ rfl (by decide) rfl) rfl rfl (Nat.le_of_ble_eq_true rfl) (Nat.le_of_ble_eq_true rfl) (Nat.le_of_ble_eq_true rfl) (Nat.le_of_ble_eq_true rfl) (Nat.le_of_ble_eq_true rfl) ?_
  rintro r12 w1 ⟨rfl, rfl⟩
  refine AW.pcq (pc2 := 15) rfl ?_
  refine A_if_ne 21 (dX6_order 9 rfl) (by decide) (fun h15 => ?_) (fun h15 => ?_)
  · refine A_aload_n (dX6_order 12 rfl) rfl ?_
    refine A_get (dX6_order 13 rfl) fwX6_100 MW_0 MF_13 ?_
    refine A_if_ne 30 (dX6_order 14 rfl) (by decide) (fun h25 => ?_) (fun h25 => ?_)
    · have hm0 : 0 < m := by
        rcases Nat.eq_zero_or_pos m with z | z
        · exact absurd (show g 13 = 0 by rw [show g 13 = nI m from hF.2.1, z]; rfl) h25
        · exact z
      have hm5 := hF.1
      refine A_aload_n (dX6_order 17 rfl) rfl ?_
      refine A_callVWv 0 (dX6_order 18 rfl) cbX6_laysAside cwX6_334 (m_asideQ E q g tw a) rfl rfl MW_0 rfl rfl (Nat.le_of_ble_eq_true rfl) (Nat.le_of_ble_eq_true rfl) (Nat.le_of_ble_eq_true rfl) (Nat.le_of_ble_eq_true rfl) (Nat.le_of_ble_eq_true rfl) ?_
      rintro w1 ⟨h1, tw1, b1, rfl, hf1, hd1, hb1⟩
      refine AW.pcq (pc2 := 34) rfl ?_
      refine A_aload_n (dX6_order 19 rfl) rfl ?_
      refine A_iconst (-1) (dX6_order 20 rfl) (by decide +kernel) ?_
      have hs0 : OS g a (-1, h1 48, h1 49) (upd h1 47 (-1)) b1 := ⟨by rw [rf_hi (by decide)]; exact hf1, hd1.up (by decide), ⟨fun k hk => by simp only [upd]; rw [if_neg (by omega)]; exact hb1.1 k hk, hb1.2⟩, rfl⟩
      refine A_put (dX6_order 21 rfl) fwX6_348 fcX6 ftX6_47 MW_0 rfl rfl ML_0 (MP_47 _) ?_
      refine A_aload_n (dX6_order 22 rfl) rfl ?_
      refine A_iconst (0) (dX6_order 23 rfl) (by decide +kernel) ?_
      refine A_iconst (0) (dX6_order 24 rfl) (by decide +kernel) ?_
      refine A_iconst (0) (dX6_order 25 rfl) (by decide +kernel) ?_
      refine A_callVWv 3 (dX6_order 26 rfl) cbX6_orders cwX6_360 (s_ord E q g tw a t m C hg4 hK hF m hm0 0 0 0 _ _ tw1 b1 (by omega) (by decide) (fun p => by unfold dgt; rw [Nat.zero_div]; decide) (by decide) hs0) rfl rfl MW_0 rfl rfl (by omega) (Nat.le_of_ble_eq_true rfl) (Nat.le_of_ble_eq_true rfl) (Nat.le_of_ble_eq_true rfl) (Nat.le_of_ble_eq_true rfl) ?_
      rintro w1 ⟨h3, tw3, b3, rfl, hs3⟩
      refine AW.pcq (pc2 := 46) rfl ?_
      refine A_iload_n (dX6_order 27 rfl) rfl ?_
      refine A_iconst (-1) (dX6_order 28 rfl) (by decide +kernel) ?_
      refine A_icmp_ne 56 (dX6_order 29 rfl) (by decide) (fun h48 => ?_) (fun h48 => ?_)
      · refine A_aload_n (dX6_order 33 rfl) rfl ?_
        refine A_get (dX6_order 34 rfl) fwX6_348 MW_0 MF_47 ?_
        refine A_istore_n (ls2 := [_, _, _, _]) (dX6_order 35 rfl) (by decide) rfl rfl ?_
        refine A_aload_n (dX6_order 36 rfl) rfl ?_
        refine A_get (dX6_order 37 rfl) fwX6_100 MW_0 MF_13 ?_
        refine A_iconst (1) (dX6_order 38 rfl) (by decide +kernel) ?_
        refine A_isub (dX6_order 39 rfl) ?_
        refine A_istore_n (ls2 := [_, _, _, _]) (dX6_order 40 rfl) (by decide) rfl rfl ?_
        rw [hs3.g13 hF]
        obtain ⟨j, hj, rfl⟩ := inI_m1 hF.1 (by rw [← show g 13 = nI m from hF.2.1]; exact h15) h48
        obtain ⟨k, rfl⟩ : ∃ k, m = j + k + 1 := ⟨m - j - 1, by omega⟩
        rw [nI_pred]
        refine AW.mono (m_orderL E q g tw a _ h3 tw3 b3 hs3 j k (h3 47) (by omega)) (fun v w hz => ?_)
        obtain ⟨r, h91, rfl, hq⟩ := hz
        refine ⟨_, h91, Or.inr (Or.inr ⟨h15, hm0, h1 48, h1 49, ?_⟩), hq⟩
        unfold p_order
        rw [if_neg h48, nI_clamp (by omega), show j + k + 1 - 1 - j = k by omega, ← hs3.2.2.2]
      · refine A_aload_n (dX6_order 30 rfl) rfl ?_
        refine A_get (dX6_order 31 rfl) fwX6_351 MW_0 MF_48 ?_
        refine A_ri (dX6_order 32 rfl) rfl rfl ?_
        exact ⟨Or.inr (Or.inr ⟨h15, hm0, h1 48, h1 49, by unfold p_order; rw [if_pos h48, ← hs3.2.2.2]⟩), OB.qw hs3⟩
    · have hm0 : m = 0 := by
        rcases Nat.eq_zero_or_pos m with z | z
        · exact z
        · exact absurd ((show g 13 = nI m from hF.2.1).symm.trans h25) (nI_ne0 z (by have := hF.1; omega))
      refine A_iconst (0) (dX6_order 15 rfl) (by decide +kernel) ?_
      refine A_ri (dX6_order 16 rfl) rfl rfl ?_
      exact ⟨Or.inr (Or.inl ⟨h15, hm0, rfl⟩), QW.rf⟩
  · refine A_bipush (-2) (dX6_order 10 rfl) (by decide +kernel) ?_
    refine A_ri (dX6_order 11 rfl) rfl rfl ?_
    exact ⟨Or.inl ⟨h15, rfl⟩, QW.rf⟩

