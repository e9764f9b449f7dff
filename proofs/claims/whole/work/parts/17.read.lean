theorem mkd_in (B : Nat → Int32) (i : Nat) : mkd B i = 0 ∨ mkd B i = 1 ∨ mkd B i = 2 ∨ mkd B i = 3 ∨ mkd B i = 4 := by
  unfold mkd
  split
  · exact Or.inl rfl
  · split
    · exact Or.inr (Or.inl rfl)
    · split
      · split
        · exact Or.inr (Or.inr (Or.inr (Or.inr rfl)))
        · exact Or.inr (Or.inr (Or.inl rfl))
      · split
        · exact Or.inr (Or.inr (Or.inr (Or.inl rfl)))
        · exact Or.inr (Or.inr (Or.inr (Or.inr rfl)))
theorem mkd_sg {B : Nat → Int32} {i : Nat} (h : mkd B i = 3) : isSg (B (lst B i)) := by
  unfold mkd at h
  split at h
  · exact absurd h (by decide)
  · split at h
    · exact absurd h (by decide)
    · split at h
      · split at h
        · exact absurd h (by decide)
        · exact absurd h (by decide)
      · split at h
        · assumption
        · exact absurd h (by decide)
theorem wc_small (B : Nat → Int32) (s e : Nat) : 2 ≤ wcode B s e ∧ wcode B s e ≤ 14 := by
  rcases wc_in B s e with ⟨z, y⟩ | ⟨z, y⟩ | ⟨z, y⟩ | ⟨z, y⟩ | ⟨z, y⟩ | ⟨z, y⟩ | ⟨z, y⟩ | ⟨z, y⟩ | ⟨z, y⟩ | ⟨z, y⟩ | ⟨z, y⟩ | ⟨z, y⟩ | z <;> rw [z] <;> decide
theorem ck0 {B : Nat → Int32} {i : Nat} (h : mkd B i = 0) : ck B i = 0 := by unfold ck; rw [if_pos h]
theorem ck2 {B : Nat → Int32} {i : Nat} (h : mkd B i = 2) : ck B i = 1 := by unfold ck; rw [if_neg (by rw [h]; decide), if_pos h]
theorem ck3 {B : Nat → Int32} {i : Nat} (h : mkd B i = 3) : ck B i = B (lst B i) := by unfold ck; rw [if_neg (by rw [h]; decide), if_neg (by rw [h]; decide), if_pos h]
theorem ck1 {B : Nat → Int32} {i : Nat} (h : mkd B i = 1) : ck B i = wcode B (lst B i) (men B i) := by unfold ck; rw [if_neg (by rw [h]; decide), if_neg (by rw [h]; decide), if_neg (by rw [h]; decide), if_pos h]
theorem ck4 {B : Nat → Int32} {i : Nat} (h : mkd B i = 4) : ck B i = 2 := by unfold ck; rw [if_neg (by rw [h]; decide), if_neg (by rw [h]; decide), if_neg (by rw [h]; decide), if_neg (by rw [h]; decide)]
theorem sg_big {b : Int32} (h : isSg b) : 40 ≤ b := by rcases h with h | h | h | h | h | h | h | h <;> rw [h] <;> decide
/-- a sign is there just if the reference sees it -/
theorem ck_sign {B : Nat → Int32} {i : Nat} {x : Int32} (hx : 40 ≤ x) : ck B i = x ↔ mkd B i = 3 ∧ B (lst B i) = x := by
  constructor
  · intro h
    rcases mkd_in B i with m | m | m | m | m
    · rw [ck0 m] at h; rw [← h] at hx; exact absurd hx (by decide)
    · rw [ck1 m] at h
      have := (wc_small B (lst B i) (men B i)).2
      rw [h] at this
      exact absurd (Int32.le_trans hx this) (by decide)
    · rw [ck2 m] at h; rw [← h] at hx; exact absurd hx (by decide)
    · exact ⟨m, by rw [← ck3 m]; exact h⟩
    · rw [ck4 m] at h; rw [← h] at hx; exact absurd hx (by decide)
  · intro h
    rw [ck3 h.1, h.2]
theorem ck_word {B : Nat → Int32} {i : Nat} {x : Int32} (h3 : 3 ≤ x) (hx : x ≤ 14) : ck B i = x ↔ mkd B i = 1 ∧ wcode B (lst B i) (men B i) = x := by
  constructor
  · intro h
    rcases mkd_in B i with m | m | m | m | m
    · rw [ck0 m] at h; rw [← h] at h3; exact absurd h3 (by decide)
    · exact ⟨m, by rw [← ck1 m]; exact h⟩
    · rw [ck2 m] at h; rw [← h] at h3; exact absurd h3 (by decide)
    · have := sg_big (mkd_sg m)
      rw [← ck3 m, h] at this
      exact absurd (Int32.le_trans this hx) (by decide)
    · rw [ck4 m] at h; rw [← h] at h3; exact absurd h3 (by decide)
  · intro h
    rw [ck1 h.1, h.2]
theorem toI64_inj {x y : Int32} (h : x.toInt64 = y.toInt64) : x = y := by
  have := congrArg Int64.toInt h
  rw [Int32.toInt_toInt64, Int32.toInt_toInt64] at this
  exact Int32.toInt_inj.mp this
theorem PM_sign {B : Nat → Int32} {n : Nat} {g : Nat → Int32} {tw : Int64} {o i : Nat} (hP : PM B n g tw o i) {x : Int32} (hx : 40 ≤ x) : (g 30 = 0 ∧ g 26 = 3 ∧ tw = x.toInt64) ↔ ck B i = x := by
  rw [ck_sign hx, hP.2.1]
  constructor
  · rintro ⟨-, h2, h3⟩
    exact ⟨h2, toI64_inj ((hP.2.2.2.2.1 h2).symm.trans h3)⟩
  · rintro ⟨h2, h3⟩
    exact ⟨hP.2.2.2.2.2.2.1, h2, by rw [hP.2.2.2.2.1 h2, h3]⟩
theorem RM_seq {E : ag} {q : Nat → Nat} {a : Nat → Nat → Int32} {n : Nat} {B : Nat → Int32} {g g2 : Nat → Int32} {o : Nat} {t : Bool × Nat × List Int32} {c1 pre1 pre2 : List Int32} {r : Int32} {w : va_W} (hk : KP g g2) (hpre : ∀ st, evs (ME g) c1 (pre1 ++ st) = pre2 ++ st) (h : RM E q a n B g2 o t pre2 r w) : RM E q a n B g o (t.1, t.2.1, c1 ++ t.2.2) pre1 r w := by
  obtain ⟨g3, tw3, rfl, k3, h1, h2⟩ := h
  refine ⟨g3, tw3, rfl, hk.tr k3, fun z => ⟨(h1 z).1, fun st => ?_⟩, h2⟩
  rw [evs_app, hpre st, ← hk.me]
  exact (h1 z).2 st
theorem RM_bad {E : ag} {q : Nat → Nat} {a : Nat → Nat → Int32} {n : Nat} {B : Nat → Int32} {g g2 : Nat → Int32} {tw2 : Int64} {o i : Nat} {c pre : List Int32} {r : Int32} (hk : KP g g2) (h30 : g2 30 = 1) (h31 : g2 31 = nI (lst B i)) : RM E q a n B g o (false, i, c) pre r (MW E q g2 tw2 a) :=
  ⟨g2, tw2, rfl, hk, fun z => absurd z (by simp), fun _ => ⟨h30, h31⟩⟩
theorem RM_ok {E : ag} {q : Nat → Nat} {a : Nat → Nat → Int32} {n : Nat} {B : Nat → Int32} {g g2 : Nat → Int32} {tw2 : Int64} {o i : Nat} {c pre : List Int32} {r : Int32} (hk : KP g g2) (hP : PM B n g2 tw2 o i) (he : ∀ st, evs (ME g) c (pre ++ st) = r :: st) : RM E q a n B g o (true, i, c) pre r (MW E q g2 tw2 a) :=
  ⟨g2, tw2, rfl, hk, fun _ => ⟨hP, he⟩, fun z => absurd z (by simp)⟩
theorem bnd {α β : Type} {x : Option α} {f : α → Option β} {y : β} (h : x.bind f = some y) : ∃ z, x = some z ∧ f z = some y := by
  cases x with
  | none => cases h
  | some z => exact ⟨z, rfl, h⟩

set_option maxRecDepth 100000 in
set_option maxHeartbeats 400000 in
theorem m_isWordB (E : ag) (q : Nat → Nat) (g : Nat → Int32) (tw : Int64) (a : Nat → Nat → Int32) (x0 x1 x2 x3 x4 x5 x6 x7 : Int32) (hb : ¬ g 30 = 0) : CT E yX6_isWord cX6_isWord 9 mX6_isWord.2.2.2.1 3 0 0 [.ref (q 0), .int x0, .int x1, .int x2, .int x3, .int x4, .int x5, .int x6, .int x7] (MW E q g tw a) (ri (fun r w => r = 0 ∧ w = MW E q g tw a)) := by
  refine CT.of (M := mX6_isWord) (ls := [some (.ref (q 0)), some (.int x0), some (.int x1), some (.int x2), some (.int x3), some (.int x4), some (.int x5), some (.int x6), some (.int x7)]) (by decide) rfl (by decide) rfl (Nat.le_of_ble_eq_true rfl) ?_
  refine A_aload_n (dX6_isWord 0 rfl) rfl ?_
  refine A_get (dX6_isWord 1 rfl) fwX6_197 MW_0 MF_30 ?_
  refine A_if_ne 112 (dX6_isWord 2 rfl) (by decide) (fun h4 => ?_) (fun h4 => absurd h4 hb)
  refine A_iconst (0) (dX6_isWord 56 rfl) (by decide +kernel) ?_
  refine A_ri (dX6_isWord 57 rfl) rfl (by decide) ?_
  exact ⟨rfl, rfl⟩

set_option maxRecDepth 100000 in
set_option maxHeartbeats 400000 in
theorem m_isSignB (E : ag) (q : Nat → Nat) (g : Nat → Int32) (tw : Int64) (a : Nat → Nat → Int32) (x : Int32) (hb : ¬ g 30 = 0) : CT E yX6_isSign cX6_isSign 2 mX6_isSign.2.2.2.1 1 0 0 [.ref (q 0), .int x] (MW E q g tw a) (ri (fun r w => r = 0 ∧ w = MW E q g tw a)) := by
  refine CT.of (M := mX6_isSign) (ls := [some (.ref (q 0)), some (.int x)]) (by decide) rfl (by decide) rfl (Nat.le_of_ble_eq_true rfl) ?_
  refine A_aload_n (dX6_isSign 0 rfl) rfl ?_
  refine A_get (dX6_isSign 1 rfl) fwX6_197 MW_0 MF_30 ?_
  refine A_if_ne 29 (dX6_isSign 2 rfl) (by decide) (fun h4 => ?_) (fun h4 => absurd h4 hb)
  refine A_iconst (0) (dX6_isSign 15 rfl) (by decide +kernel) ?_
  refine A_ri (dX6_isSign 16 rfl) rfl (by decide) ?_
  exact ⟨rfl, rfl⟩

def CM (E : ag) (q : Nat → Nat) (a : Nat → Nat → Int32) (fr n : Nat) (B : Nat → Int32) (y : MethodName) (cc : ByteArray) (nL w k f : Nat) : Prop := ∀ (g : Nat → Int32) (tw : Int64) (o i : Nat) (res : Bool × Nat × List Int32), pp B f w o i = some res → o ≤ 5 → TXC g a fr n B → PM B n g tw o i → CT E y cc nL (some .int) (6 * (5 - o) + k) 0 0 [.ref (q 0)] (MW E q g tw a) (ri (RM E q a n B g o res []))
def LM2 (E : ag) (q : Nat → Nat) (a : Nat → Nat → Int32) (fr n : Nat) (B : Nat → Int32) (M : am) (w k f : Nat) : Prop := ∀ (g : Nat → Int32) (tw : Int64) (o i : Nat) (res : Bool × Nat × List Int32), pp B f w o i = some res → o ≤ 5 → TXC g a fr n B → PM B n g tw o i → ∀ (v : Int32) (x2 : Option Value), noL [x2] = true → AW E M (6 * (5 - o) + k) 0 0 5 [some (.ref (q 0)), some (.int v), x2] [] (MW E q g tw a) (ri (RM E q a n B g o res [v]))
def LM1 (E : ag) (q : Nat → Nat) (a : Nat → Nat → Int32) (fr n : Nat) (B : Nat → Int32) (M : am) (w k f : Nat) : Prop := ∀ (g : Nat → Int32) (tw : Int64) (o i : Nat) (res : Bool × Nat × List Int32), pp B f w o i = some res → o ≤ 5 → TXC g a fr n B → PM B n g tw o i → ∀ (v : Int32), AW E M (6 * (5 - o) + k) 0 0 5 [some (.ref (q 0)), some (.int v)] [] (MW E q g tw a) (ri (RM E q a n B g o res [v]))
def LM3 (E : ag) (q : Nat → Nat) (a : Nat → Nat → Int32) (fr n : Nat) (B : Nat → Int32) (M : am) (w k f : Nat) : Prop := ∀ (g : Nat → Int32) (tw : Int64) (o i : Nat) (res : Bool × Nat × List Int32), pp B f w o i = some res → o ≤ 5 → TXC g a fr n B → PM B n g tw o i → ∀ (v : Int32) (x2 x3 : Option Value), noL [x2, x3] = true → AW E M (6 * (5 - o) + k) 0 0 5 [some (.ref (q 0)), some (.int v), x2, x3] [] (MW E q g tw a) (ri (RM E q a n B g o res [v]))
set_option maxRecDepth 100000 in
set_option maxHeartbeats 400000 in
theorem m_term_bad (E : ag) (q : Nat → Nat) (g : Nat → Int32) (tw : Int64) (a : Nat → Nat → Int32) (hb : ¬ g 30 = 0) (d : Nat) (hd : 5 ≤ d) (v : Int32)  : AW E mX6_term d 0 0 5 [some (.ref (q 0)), some (.int v)] [] (MW E q g tw a) (ri (fun r w => w = MW E q g tw a)) := by
  refine A_aload_n (dX6_term 3 rfl) rfl ?_
  refine A_bipush (42) (dX6_term 4 rfl) (by decide +kernel) ?_
  refine A_callVWi 1 (dX6_term 5 rfl) cbX6_isSign cwX6_239 (m_isSignB E q g tw a 42 hb) rfl rfl MW_0 rfl rfl (by omega) (Nat.le_of_ble_eq_true rfl) (Nat.le_of_ble_eq_true rfl) (Nat.le_of_ble_eq_true rfl) (Nat.le_of_ble_eq_true rfl) ?_
  rintro r8 w1 ⟨rfl, rfl⟩
  refine AW.pcq (pc2 := 11) rfl ?_
  refine A_if_eq 28 (dX6_term 6 rfl) (by decide) (fun h11 => ?_) (fun h11 => absurd rfl h11)
  refine A_iload_n (dX6_term 15 rfl) rfl ?_
  refine A_ri (dX6_term 16 rfl) rfl rfl ?_
  exact rfl
set_option maxRecDepth 100000 in
set_option maxHeartbeats 400000 in
theorem m_added_bad (E : ag) (q : Nat → Nat) (g : Nat → Int32) (tw : Int64) (a : Nat → Nat → Int32) (hb : ¬ g 30 = 0) (d : Nat) (hd : 5 ≤ d) (v : Int32) (x2 x3 : Option Value) : AW E mX6_added d 0 0 5 [some (.ref (q 0)), some (.int v), x2, x3] [] (MW E q g tw a) (ri (fun r w => w = MW E q g tw a)) := by
  refine A_aload_n (dX6_added 3 rfl) rfl ?_
  refine A_bipush (43) (dX6_added 4 rfl) (by decide +kernel) ?_
  refine A_callVWi 1 (dX6_added 5 rfl) cbX6_isSign cwX6_239 (m_isSignB E q g tw a 43 hb) rfl rfl MW_0 rfl rfl (by omega) (Nat.le_of_ble_eq_true rfl) (Nat.le_of_ble_eq_true rfl) (Nat.le_of_ble_eq_true rfl) (Nat.le_of_ble_eq_true rfl) ?_
  rintro r8 w1 ⟨rfl, rfl⟩
  refine AW.pcq (pc2 := 11) rfl ?_
  refine A_if_ne 23 (dX6_added 6 rfl) (by decide) (fun h11 => absurd rfl h11) (fun h11 => ?_)
  refine A_aload_n (dX6_added 7 rfl) rfl ?_
  refine A_bipush (45) (dX6_added 8 rfl) (by decide +kernel) ?_
  refine A_callVWi 1 (dX6_added 9 rfl) cbX6_isSign cwX6_239 (m_isSignB E q g tw a 45 hb) rfl rfl MW_0 rfl rfl (by omega) (Nat.le_of_ble_eq_true rfl) (Nat.le_of_ble_eq_true rfl) (Nat.le_of_ble_eq_true rfl) (Nat.le_of_ble_eq_true rfl) ?_
  rintro r17 w1 ⟨rfl, rfl⟩
  refine AW.pcq (pc2 := 20) rfl ?_
  refine A_if_eq 66 (dX6_added 10 rfl) (by decide) (fun h20 => ?_) (fun h20 => absurd rfl h20)
  refine A_iload_n (dX6_added 36 rfl) rfl ?_
  refine A_ri (dX6_added 37 rfl) rfl rfl ?_
  exact rfl
set_option maxRecDepth 100000 in
set_option maxHeartbeats 400000 in
theorem m_either_bad (E : ag) (q : Nat → Nat) (g : Nat → Int32) (tw : Int64) (a : Nat → Nat → Int32) (hb : ¬ g 30 = 0) (d : Nat) (hd : 5 ≤ d) (v : Int32) (x2 : Option Value) : AW E mX6_either d 0 0 5 [some (.ref (q 0)), some (.int v), x2] [] (MW E q g tw a) (ri (fun r w => w = MW E q g tw a)) := by
  refine A_aload_n (dX6_either 3 rfl) rfl ?_
  refine A_bipush (111) (dX6_either 4 rfl) (by decide +kernel) ?_
  refine A_bipush (114) (dX6_either 5 rfl) (by decide +kernel) ?_
  refine A_iconst (0) (dX6_either 6 rfl) (by decide +kernel) ?_
  refine A_iconst (0) (dX6_either 7 rfl) (by decide +kernel) ?_
  refine A_iconst (0) (dX6_either 8 rfl) (by decide +kernel) ?_
  refine A_iconst (0) (dX6_either 9 rfl) (by decide +kernel) ?_
  refine A_iconst (0) (dX6_either 10 rfl) (by decide +kernel) ?_
  refine AW.pcq (pc2 := 15) rfl ?_
  refine A_iconst (0) (dX6_either 11 rfl) (by decide +kernel) ?_
  refine A_callVWi 8 (dX6_either 12 rfl) cbX6_isWord cwX6_217 (m_isWordB E q g tw a 111 114 0 0 0 0 0 0 hb) rfl rfl MW_0 rfl rfl (by omega) (Nat.le_of_ble_eq_true rfl) (Nat.le_of_ble_eq_true rfl) (Nat.le_of_ble_eq_true rfl) (Nat.le_of_ble_eq_true rfl) ?_
  rintro r16 w1 ⟨rfl, rfl⟩
  refine AW.pcq (pc2 := 19) rfl ?_
  refine A_if_eq 48 (dX6_either 13 rfl) (by decide) (fun h19 => ?_) (fun h19 => absurd rfl h19)
  refine A_iload_n (dX6_either 28 rfl) rfl ?_
  refine A_ri (dX6_either 29 rfl) rfl rfl ?_
  exact rfl
set_option maxRecDepth 100000 in
set_option maxHeartbeats 400000 in
theorem m_both_bad (E : ag) (q : Nat → Nat) (g : Nat → Int32) (tw : Int64) (a : Nat → Nat → Int32) (hb : ¬ g 30 = 0) (d : Nat) (hd : 5 ≤ d) (v : Int32) (x2 : Option Value) : AW E mX6_both d 0 0 5 [some (.ref (q 0)), some (.int v), x2] [] (MW E q g tw a) (ri (fun r w => w = MW E q g tw a)) := by
  refine A_aload_n (dX6_both 3 rfl) rfl ?_
  refine A_bipush (97) (dX6_both 4 rfl) (by decide +kernel) ?_
  refine A_bipush (110) (dX6_both 5 rfl) (by decide +kernel) ?_
  refine A_bipush (100) (dX6_both 6 rfl) (by decide +kernel) ?_
  refine A_iconst (0) (dX6_both 7 rfl) (by decide +kernel) ?_
  refine A_iconst (0) (dX6_both 8 rfl) (by decide +kernel) ?_
  refine A_iconst (0) (dX6_both 9 rfl) (by decide +kernel) ?_
  refine A_iconst (0) (dX6_both 10 rfl) (by decide +kernel) ?_
  refine AW.pcq (pc2 := 16) rfl ?_
  refine A_iconst (0) (dX6_both 11 rfl) (by decide +kernel) ?_
  refine A_callVWi 8 (dX6_both 12 rfl) cbX6_isWord cwX6_217 (m_isWordB E q g tw a 97 110 100 0 0 0 0 0 hb) rfl rfl MW_0 rfl rfl (by omega) (Nat.le_of_ble_eq_true rfl) (Nat.le_of_ble_eq_true rfl) (Nat.le_of_ble_eq_true rfl) (Nat.le_of_ble_eq_true rfl) ?_
  rintro r17 w1 ⟨rfl, rfl⟩
  refine AW.pcq (pc2 := 20) rfl ?_
  refine A_if_eq 49 (dX6_both 13 rfl) (by decide) (fun h20 => ?_) (fun h20 => absurd rfl h20)
  refine A_iload_n (dX6_both 28 rfl) rfl ?_
  refine A_ri (dX6_both 29 rfl) rfl rfl ?_
  exact rfl
