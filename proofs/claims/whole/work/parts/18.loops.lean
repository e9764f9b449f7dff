theorem RM_bad2 {E : ag} {q : Nat → Nat} {a : Nat → Nat → Int32} {n : Nat} {B : Nat → Int32} {g g2 : Nat → Int32} {tw2 : Int64} {o : Nat} {res : Bool × Nat × List Int32} {pre : List Int32} {r : Int32} (hb : ¬ res.1 = true) (hk : KP g g2) (h : g2 30 = 1 ∧ g2 31 = nI (lst B res.2.1)) : RM E q a n B g o res pre r (MW E q g2 tw2 a) :=
  ⟨g2, tw2, rfl, hk, fun z => absurd z hb, fun _ => h⟩
theorem ev_or (e : Nat → Int32) (x y : Int32) (st : List Int32) : evs e [-15] (y :: x :: st) = (if x ≠ 0 ∨ y ≠ 0 then 1 else 0) :: st := rfl
theorem ev_and (e : Nat → Int32) (x y : Int32) (st : List Int32) : evs e [-14] (y :: x :: st) = (if x ≠ 0 ∧ y ≠ 0 then 1 else 0) :: st := rfl
theorem ev_add (e : Nat → Int32) (x y : Int32) (st : List Int32) : evs e [-9] (y :: x :: st) = (x + y) :: st := rfl
theorem ev_sub (e : Nat → Int32) (x y : Int32) (st : List Int32) : evs e [-10] (y :: x :: st) = (x - y) :: st := rfl
theorem ev_mul (e : Nat → Int32) (x y : Int32) (st : List Int32) : evs e [-11] (y :: x :: st) = (x * y) :: st := rfl
theorem ev_lt (e : Nat → Int32) (x y : Int32) (st : List Int32) : evs e [-12] (y :: x :: st) = (if x < y then 1 else 0) :: st := rfl
theorem ev_eq (e : Nat → Int32) (x y : Int32) (st : List Int32) : evs e [-13] (y :: x :: st) = (if x = y then 1 else 0) :: st := rfl
theorem ev_neg (e : Nat → Int32) (x : Int32) (st : List Int32) : evs e [-7] (x :: st) = (-x) :: st := rfl
theorem ev_not (e : Nat → Int32) (x : Int32) (st : List Int32) : evs e [-8] (x :: st) = (if x = 0 then 1 else 0) :: st := rfl
set_option maxRecDepth 100000 in
set_option maxHeartbeats 400000 in
theorem s_term_loop (E : ag) (q : Nat → Nat) (a : Nat → Nat → Int32) (fr n : Nat) (B : Nat → Int32) (f : Nat) (h5 : CM E q a fr n B yX6_atom cX6_atom 2 5 6 f) (h9 : LM1 E q a fr n B mX6_term 9 7 f) : LM1 E q a fr n B mX6_term 9 7 (f + 1) := by
  intro g tw o i res hpp ho hT hP v
  simp only [pp] at hpp
  refine A_aload_n (dX6_term 3 rfl) rfl ?_
  refine A_bipush (42) (dX6_term 4 rfl) (by decide +kernel) ?_
  refine A_callVWi 1 (dX6_term 5 rfl) cbX6_isSign cwX6_239 (m_isSign E q g tw a 42) rfl rfl MW_0 rfl rfl (by omega) (Nat.le_of_ble_eq_true rfl) (Nat.le_of_ble_eq_true rfl) (Nat.le_of_ble_eq_true rfl) (Nat.le_of_ble_eq_true rfl) ?_
  rintro r8 w1 ⟨rfl, rfl⟩
  refine AW.pcq (pc2 := 11) rfl ?_
  refine A_if_eq 28 (dX6_term 6 rfl) (by decide) (fun h11 => ?_) (fun h11 => ?_)
  · have hck42 : ¬ ck B i = 42 := fun z => b01_0.mp h11 ((PM_sign hP (by decide)).mpr z)
    rw [if_neg hck42] at hpp
    refine A_iload_n (dX6_term 15 rfl) rfl ?_
    refine A_ri (dX6_term 16 rfl) rfl rfl ?_
    cases hpp
    exact RM_ok KP.rf hP (fun st => rfl)
  · have hck42 : ck B i = 42 := (PM_sign hP (by decide)).mp (b01_n.mp h11)
    rw [if_pos hck42] at hpp
    obtain ⟨r1, hr1, hpp⟩ := bnd hpp
    refine A_aload_n (dX6_term 7 rfl) rfl ?_
    refine A_callVWv 0 (dX6_term 8 rfl) cbX6_next cwX6_214 (m_next E q g tw a fr n B hT (men B i) (men_le hT hP.2.2.2.2.2.2.2).1 hP.1) rfl rfl MW_0 rfl rfl (by omega) (Nat.le_of_ble_eq_true rfl) (Nat.le_of_ble_eq_true rfl) (Nat.le_of_ble_eq_true rfl) (Nat.le_of_ble_eq_true rfl) ?_
    rintro w1 rfl
    refine AW.pcq (pc2 := 18) rfl ?_
    refine A_iload_n (dX6_term 9 rfl) rfl ?_
    refine A_aload_n (dX6_term 10 rfl) rfl ?_
    refine A_callVWi 0 (dX6_term 11 rfl) cbX6_atom cwX6_246 (h5 (nxg B g (men B i)) (mtw B tw (men B i)) o (men B i) r1 hr1 ho (KP.rf.nx.tx hT) (PM_nx hT hP.2.2.2.2.2.2.2 hP.2.2.2.2.2.1 hP.2.2.2.2.2.2.1)) rfl rfl MW_0 rfl rfl (by omega) (Nat.le_of_ble_eq_true rfl) (Nat.le_of_ble_eq_true rfl) (Nat.le_of_ble_eq_true rfl) (Nat.le_of_ble_eq_true rfl) ?_
    rintro x1 w1 ⟨g2, tw2, rfl, hk, hs, hf⟩
    refine AW.pcq (pc2 := 23) rfl ?_
    refine A_imul (dX6_term 12 rfl) ?_
    refine A_istore_n (ls2 := [_, _]) (dX6_term 13 rfl) (by decide) rfl rfl ?_
    refine A_goto 5 (dX6_term 14 rfl) (by decide) ?_
    have hkt : KP g g2 := KP.tr (KP.nx KP.rf) hk
    by_cases hb1 : r1.1 = true
    · rw [if_pos hb1] at hpp
      obtain ⟨t, ht, hpp⟩ := bnd hpp
      cases hpp
      obtain ⟨hP2, he2⟩ := hs hb1
      refine AW.mono (h9 g2 tw2 o r1.2.1 t ht ho (hkt.tx hT) hP2 _) (fun z w hz => ?_)
      obtain ⟨rr, hr, hm⟩ := hz
      refine ⟨rr, hr, ?_⟩
      have h8 := RM_seq (c1 := r1.2.2 ++ [-11]) (pre1 := [v]) hkt (fun st => by
        rw [evs_app]
        have h7 := he2 ([v] ++ st)
        rw [KP.me (KP.nx KP.rf)] at h7
        rw [show evs (ME g) r1.2.2 ([v] ++ st) = x1 :: ([v] ++ st) from h7]
        exact ev_mul _ _ _ _) hm
      rw [List.append_assoc] at h8
      exact h8
    · rw [if_neg hb1] at hpp
      cases hpp
      have h3 := hf (by simpa using hb1)
      refine AW.mono (m_term_bad E q g2 tw2 a (by rw [h3.1]; decide) _ (by omega) _) (fun z w hz => ?_)
      obtain ⟨rr, hr, rfl⟩ := hz
      exact ⟨rr, hr, RM_bad2 hb1 hkt h3⟩
set_option maxRecDepth 100000 in
set_option maxHeartbeats 400000 in
theorem s_term (E : ag) (q : Nat → Nat) (a : Nat → Nat → Int32) (fr n : Nat) (B : Nat → Int32) (f : Nat) (hs0 : CM E q a fr n B yX6_atom cX6_atom 2 5 6 f) (h9 : LM1 E q a fr n B mX6_term 9 7 f) : CM E q a fr n B yX6_term cX6_term 2 4 7 (f + 1) := by
  intro g tw o i res hpp ho hT hP
  simp only [pp] at hpp
  obtain ⟨r1, hr1, hpp⟩ := bnd hpp
  refine CT.of (M := mX6_term) (ls := [some (.ref (q 0)), none]) (by decide) rfl (by decide) rfl (Nat.le_of_ble_eq_true rfl) ?_
  refine A_aload_n (dX6_term 0 rfl) rfl ?_
  refine A_callVWi 0 (dX6_term 1 rfl) cbX6_atom cwX6_246 (hs0 g tw o i r1 hr1 ho hT hP) rfl rfl MW_0 rfl rfl (by omega) (Nat.le_of_ble_eq_true rfl) (Nat.le_of_ble_eq_true rfl) (Nat.le_of_ble_eq_true rfl) (Nat.le_of_ble_eq_true rfl) ?_
  rintro x1 w1 ⟨g2, tw2, rfl, hk, hs, hf⟩
  refine AW.pcq (pc2 := 4) rfl ?_
  refine A_istore_n (ls2 := [_, _]) (dX6_term 2 rfl) (by decide) rfl rfl ?_
  by_cases hb1 : r1.1 = true
  · rw [if_pos hb1] at hpp
    obtain ⟨t, ht, hpp⟩ := bnd hpp
    cases hpp
    obtain ⟨hP2, he2⟩ := hs hb1
    refine AW.mono (h9 g2 tw2 o r1.2.1 t ht ho (hk.tx hT) hP2 _) (fun z w hz => ?_)
    obtain ⟨rr, hr, hm⟩ := hz
    exact ⟨rr, hr, RM_seq (c1 := r1.2.2) (pre1 := []) hk he2 hm⟩
  · rw [if_neg hb1] at hpp
    cases hpp
    have h3 := hf (by simpa using hb1)
    refine AW.mono (m_term_bad E q g2 tw2 a (by rw [h3.1]; decide) _ (by omega) _) (fun z w hz => ?_)
    obtain ⟨rr, hr, rfl⟩ := hz
    exact ⟨rr, hr, RM_bad2 hb1 hk h3⟩
set_option maxRecDepth 100000 in
set_option maxHeartbeats 400000 in
theorem s_added_plus (E : ag) (q : Nat → Nat) (a : Nat → Nat → Int32) (fr n : Nat) (B : Nat → Int32) (f : Nat) (h4 : CM E q a fr n B yX6_term cX6_term 2 4 7 f) (h8 : LM3 E q a fr n B mX6_added 8 8 f) (g : Nat → Int32) (tw : Int64) (o i : Nat) (res : Bool × Nat × List Int32) (hpp : (pp B f 4 o (men B i)).bind (fun r => if r.1 = true then (pp B f 8 o r.2.1).bind (fun t => some (t.1, t.2.1, r.2.2 ++ (-9) :: t.2.2)) else some r) = some res) (ho : o ≤ 5) (hT : TXC g a fr n B) (hP : PM B n g tw o i) (v : Int32) (x2 x3 : Option Value) (hx : noL [x2, x3] = true) (htw : tw = 43) : AW E mX6_added (6 * (5 - o) + 8) 0 0 23 [some (.ref (q 0)), some (.int v), x2, x3] [] (MW E q g tw a) (ri (RM E q a n B g o res [v])) := by
  obtain ⟨r1, hr1, hpp⟩ := bnd hpp
  refine A_aload_n (dX6_added 11 rfl) rfl ?_
  refine A_get (dX6_added 12 rfl) fwX6_191 MW_0 MF_28 ?_
  refine A_ldc2 (dX6_added 13 rfl) kcX6_259 ?_
  refine A_lcmp (dX6_added 14 rfl) ?_
  refine A_if_ne 38 (dX6_added 15 rfl) (by decide) (fun h31 => absurd ((cmp_z _ _).mpr htw) h31) (fun h31 => ?_)
  refine A_iconst (1) (dX6_added 16 rfl) (by decide +kernel) ?_
  refine A_goto 39 (dX6_added 17 rfl) (by decide) ?_
  refine A_istore_n (ls2 := [_, _, _, _]) (dX6_added 19 rfl) (by decide) (by have := hx; simp_all [noL, Value.category]) rfl ?_
  refine A_aload_n (dX6_added 20 rfl) rfl ?_
  refine A_callVWv 0 (dX6_added 21 rfl) cbX6_next cwX6_214 (m_next E q g tw a fr n B hT (men B i) (men_le hT hP.2.2.2.2.2.2.2).1 hP.1) rfl rfl MW_0 rfl rfl (by omega) (Nat.le_of_ble_eq_true rfl) (Nat.le_of_ble_eq_true rfl) (Nat.le_of_ble_eq_true rfl) (Nat.le_of_ble_eq_true rfl) ?_
  rintro w1 rfl
  refine AW.pcq (pc2 := 44) rfl ?_
  refine A_aload_n (dX6_added 22 rfl) rfl ?_
  refine A_callVWi 0 (dX6_added 23 rfl) cbX6_term cwX6_256 (h4 (nxg B g (men B i)) (mtw B tw (men B i)) o (men B i) r1 hr1 ho (KP.rf.nx.tx hT) (PM_nx hT hP.2.2.2.2.2.2.2 hP.2.2.2.2.2.1 hP.2.2.2.2.2.2.1)) rfl rfl MW_0 rfl rfl (by omega) (Nat.le_of_ble_eq_true rfl) (Nat.le_of_ble_eq_true rfl) (Nat.le_of_ble_eq_true rfl) (Nat.le_of_ble_eq_true rfl) ?_
  rintro x1 w1 ⟨g2, tw2, rfl, hk, hs, hf⟩
  refine AW.pcq (pc2 := 48) rfl ?_
  refine A_istore_n (ls2 := [_, _, _, _]) (dX6_added 24 rfl) (by decide) (by have := hx; simp_all [noL, Value.category]) rfl ?_
  refine A_iload_n (dX6_added 25 rfl) rfl ?_
  refine A_if_eq 59 (dX6_added 26 rfl) (by decide) (fun h50 => absurd h50 (by decide)) (fun h50 => ?_)
  refine A_iload_n (dX6_added 27 rfl) rfl ?_
  refine A_iload_n (dX6_added 28 rfl) rfl ?_
  refine A_iadd (dX6_added 29 rfl) ?_
  refine A_goto 62 (dX6_added 30 rfl) (by decide) ?_
  refine A_istore_n (ls2 := [_, _, _, _]) (dX6_added 34 rfl) (by decide) (by have := hx; simp_all [noL, Value.category]) rfl ?_
  refine A_goto 5 (dX6_added 35 rfl) (by decide) ?_
  have hkt : KP g g2 := KP.tr (KP.nx KP.rf) hk
  by_cases hb1 : r1.1 = true
  · rw [if_pos hb1] at hpp
    obtain ⟨t, ht, hpp⟩ := bnd hpp
    cases hpp
    obtain ⟨hP2, he2⟩ := hs hb1
    refine AW.mono (h8 g2 tw2 o r1.2.1 t ht ho (hkt.tx hT) hP2 _ _ _ rfl) (fun z w hz => ?_)
    obtain ⟨rr, hr, hm⟩ := hz
    refine ⟨rr, hr, ?_⟩
    have h8 := RM_seq (c1 := r1.2.2 ++ [-9]) (pre1 := [v]) hkt (fun st => by
      rw [evs_app]
      have h7 := he2 ([v] ++ st)
      rw [KP.me (KP.nx KP.rf)] at h7
      rw [show evs (ME g) r1.2.2 ([v] ++ st) = x1 :: ([v] ++ st) from h7]
      exact ev_add _ _ _ _) hm
    rw [List.append_assoc] at h8
    exact h8
  · rw [if_neg hb1] at hpp
    cases hpp
    have h3 := hf (by simpa using hb1)
    refine AW.mono (m_added_bad E q g2 tw2 a (by rw [h3.1]; decide) _ (by omega) _ _ _) (fun z w hz => ?_)
    obtain ⟨rr, hr, rfl⟩ := hz
    exact ⟨rr, hr, RM_bad2 hb1 hkt h3⟩
set_option maxRecDepth 100000 in
set_option maxHeartbeats 400000 in
theorem s_added_minus (E : ag) (q : Nat → Nat) (a : Nat → Nat → Int32) (fr n : Nat) (B : Nat → Int32) (f : Nat) (h4 : CM E q a fr n B yX6_term cX6_term 2 4 7 f) (h8 : LM3 E q a fr n B mX6_added 8 8 f) (g : Nat → Int32) (tw : Int64) (o i : Nat) (res : Bool × Nat × List Int32) (hpp : (pp B f 4 o (men B i)).bind (fun r => if r.1 = true then (pp B f 8 o r.2.1).bind (fun t => some (t.1, t.2.1, r.2.2 ++ (-10) :: t.2.2)) else some r) = some res) (ho : o ≤ 5) (hT : TXC g a fr n B) (hP : PM B n g tw o i) (v : Int32) (x2 x3 : Option Value) (hx : noL [x2, x3] = true) (htw : ¬ tw = 43) : AW E mX6_added (6 * (5 - o) + 8) 0 0 23 [some (.ref (q 0)), some (.int v), x2, x3] [] (MW E q g tw a) (ri (RM E q a n B g o res [v])) := by
  obtain ⟨r1, hr1, hpp⟩ := bnd hpp
  refine A_aload_n (dX6_added 11 rfl) rfl ?_
  refine A_get (dX6_added 12 rfl) fwX6_191 MW_0 MF_28 ?_
  refine A_ldc2 (dX6_added 13 rfl) kcX6_259 ?_
  refine A_lcmp (dX6_added 14 rfl) ?_
  refine A_if_ne 38 (dX6_added 15 rfl) (by decide) (fun h31 => ?_) (fun h31 => absurd ((cmp_z _ _).mp h31) htw)
  refine A_iconst (0) (dX6_added 18 rfl) (by decide +kernel) ?_
  refine A_istore_n (ls2 := [_, _, _, _]) (dX6_added 19 rfl) (by decide) (by have := hx; simp_all [noL, Value.category]) rfl ?_
  refine A_aload_n (dX6_added 20 rfl) rfl ?_
  refine A_callVWv 0 (dX6_added 21 rfl) cbX6_next cwX6_214 (m_next E q g tw a fr n B hT (men B i) (men_le hT hP.2.2.2.2.2.2.2).1 hP.1) rfl rfl MW_0 rfl rfl (by omega) (Nat.le_of_ble_eq_true rfl) (Nat.le_of_ble_eq_true rfl) (Nat.le_of_ble_eq_true rfl) (Nat.le_of_ble_eq_true rfl) ?_
  rintro w1 rfl
  refine AW.pcq (pc2 := 44) rfl ?_
  refine A_aload_n (dX6_added 22 rfl) rfl ?_
  refine A_callVWi 0 (dX6_added 23 rfl) cbX6_term cwX6_256 (h4 (nxg B g (men B i)) (mtw B tw (men B i)) o (men B i) r1 hr1 ho (KP.rf.nx.tx hT) (PM_nx hT hP.2.2.2.2.2.2.2 hP.2.2.2.2.2.1 hP.2.2.2.2.2.2.1)) rfl rfl MW_0 rfl rfl (by omega) (Nat.le_of_ble_eq_true rfl) (Nat.le_of_ble_eq_true rfl) (Nat.le_of_ble_eq_true rfl) (Nat.le_of_ble_eq_true rfl) ?_
  rintro x1 w1 ⟨g2, tw2, rfl, hk, hs, hf⟩
  refine AW.pcq (pc2 := 48) rfl ?_
  refine A_istore_n (ls2 := [_, _, _, _]) (dX6_added 24 rfl) (by decide) (by have := hx; simp_all [noL, Value.category]) rfl ?_
  refine A_iload_n (dX6_added 25 rfl) rfl ?_
  refine A_if_eq 59 (dX6_added 26 rfl) (by decide) (fun h50 => ?_) (fun h50 => absurd rfl h50)
  refine A_iload_n (dX6_added 31 rfl) rfl ?_
  refine A_iload_n (dX6_added 32 rfl) rfl ?_
  refine A_isub (dX6_added 33 rfl) ?_
  refine A_istore_n (ls2 := [_, _, _, _]) (dX6_added 34 rfl) (by decide) (by have := hx; simp_all [noL, Value.category]) rfl ?_
  refine A_goto 5 (dX6_added 35 rfl) (by decide) ?_
  have hkt : KP g g2 := KP.tr (KP.nx KP.rf) hk
  by_cases hb1 : r1.1 = true
  · rw [if_pos hb1] at hpp
    obtain ⟨t, ht, hpp⟩ := bnd hpp
    cases hpp
    obtain ⟨hP2, he2⟩ := hs hb1
    refine AW.mono (h8 g2 tw2 o r1.2.1 t ht ho (hkt.tx hT) hP2 _ _ _ rfl) (fun z w hz => ?_)
    obtain ⟨rr, hr, hm⟩ := hz
    refine ⟨rr, hr, ?_⟩
    have h8 := RM_seq (c1 := r1.2.2 ++ [-10]) (pre1 := [v]) hkt (fun st => by
      rw [evs_app]
      have h7 := he2 ([v] ++ st)
      rw [KP.me (KP.nx KP.rf)] at h7
      rw [show evs (ME g) r1.2.2 ([v] ++ st) = x1 :: ([v] ++ st) from h7]
      exact ev_sub _ _ _ _) hm
    rw [List.append_assoc] at h8
    exact h8
  · rw [if_neg hb1] at hpp
    cases hpp
    have h3 := hf (by simpa using hb1)
    refine AW.mono (m_added_bad E q g2 tw2 a (by rw [h3.1]; decide) _ (by omega) _ _ _) (fun z w hz => ?_)
    obtain ⟨rr, hr, rfl⟩ := hz
    exact ⟨rr, hr, RM_bad2 hb1 hkt h3⟩
set_option maxRecDepth 100000 in
set_option maxHeartbeats 400000 in
theorem s_added_loop (E : ag) (q : Nat → Nat) (a : Nat → Nat → Int32) (fr n : Nat) (B : Nat → Int32) (f : Nat) (h4 : CM E q a fr n B yX6_term cX6_term 2 4 7 f) (h8 : LM3 E q a fr n B mX6_added 8 8 f) : LM3 E q a fr n B mX6_added 8 8 (f + 1) := by
  intro g tw o i res hpp ho hT hP v x2 x3 hx
  simp only [pp] at hpp
  refine A_aload_n (dX6_added 3 rfl) rfl ?_
  refine A_bipush (43) (dX6_added 4 rfl) (by decide +kernel) ?_
  refine A_callVWi 1 (dX6_added 5 rfl) cbX6_isSign cwX6_239 (m_isSign E q g tw a 43) rfl rfl MW_0 rfl rfl (by omega) (Nat.le_of_ble_eq_true rfl) (Nat.le_of_ble_eq_true rfl) (Nat.le_of_ble_eq_true rfl) (Nat.le_of_ble_eq_true rfl) ?_
  rintro r8 w1 ⟨rfl, rfl⟩
  refine AW.pcq (pc2 := 11) rfl ?_
  refine A_if_ne 23 (dX6_added 6 rfl) (by decide) (fun h11 => ?_) (fun h11 => ?_)
  · have hck43 : ck B i = 43 := (PM_sign hP (by decide)).mp (b01_n.mp h11)
    rw [if_pos (Or.inl hck43), if_pos hck43] at hpp
    first
      | (have hm := (ck_sign (B := B) (i := i) (by decide)).mp hck45
         have htw0 := hP.2.2.2.2.1 hm.1
         rw [hm.2] at htw0
         exact s_added_minus E q a fr n B f h4 h8 g tw o i res hpp ho hT hP v x2 x3 hx (by rw [htw0]; decide))
      | (have hm := (ck_sign (B := B) (i := i) (by decide)).mp hck43
         have htw0 := hP.2.2.2.2.1 hm.1
         rw [hm.2] at htw0
         exact s_added_plus E q a fr n B f h4 h8 g tw o i res (by simpa [hck43] using hpp) ho hT hP v x2 x3 hx (by rw [htw0]; decide))
  · have hck43 : ¬ ck B i = 43 := fun z => b01_0.mp h11 ((PM_sign hP (by decide)).mpr z)
    refine A_aload_n (dX6_added 7 rfl) rfl ?_
    refine A_bipush (45) (dX6_added 8 rfl) (by decide +kernel) ?_
    refine A_callVWi 1 (dX6_added 9 rfl) cbX6_isSign cwX6_239 (m_isSign E q g tw a 45) rfl rfl MW_0 rfl rfl (by omega) (Nat.le_of_ble_eq_true rfl) (Nat.le_of_ble_eq_true rfl) (Nat.le_of_ble_eq_true rfl) (Nat.le_of_ble_eq_true rfl) ?_
    rintro r17 w1 ⟨rfl, rfl⟩
    refine AW.pcq (pc2 := 20) rfl ?_
    refine A_if_eq 66 (dX6_added 10 rfl) (by decide) (fun h20 => ?_) (fun h20 => ?_)
    · have hck45 : ¬ ck B i = 45 := fun z => b01_0.mp h20 ((PM_sign hP (by decide)).mpr z)
      rw [if_neg (fun z => z.elim hck43 hck45)] at hpp
      refine A_iload_n (dX6_added 36 rfl) rfl ?_
      refine A_ri (dX6_added 37 rfl) rfl rfl ?_
      cases hpp
      exact RM_ok KP.rf hP (fun st => rfl)
    · have hck45 : ck B i = 45 := (PM_sign hP (by decide)).mp (b01_n.mp h20)
      rw [if_pos (Or.inr hck45)] at hpp
      simp only [if_neg hck43] at hpp
      first
        | (have hm := (ck_sign (B := B) (i := i) (by decide)).mp hck45
           have htw0 := hP.2.2.2.2.1 hm.1
           rw [hm.2] at htw0
           exact s_added_minus E q a fr n B f h4 h8 g tw o i res hpp ho hT hP v x2 x3 hx (by rw [htw0]; decide))
        | (have hm := (ck_sign (B := B) (i := i) (by decide)).mp hck43
           have htw0 := hP.2.2.2.2.1 hm.1
           rw [hm.2] at htw0
           exact s_added_plus E q a fr n B f h4 h8 g tw o i res (by simpa [hck43] using hpp) ho hT hP v x2 x3 hx (by rw [htw0]; decide))
set_option maxRecDepth 100000 in
set_option maxHeartbeats 400000 in
theorem s_added (E : ag) (q : Nat → Nat) (a : Nat → Nat → Int32) (fr n : Nat) (B : Nat → Int32) (f : Nat) (hs0 : CM E q a fr n B yX6_term cX6_term 2 4 7 f) (h9 : LM3 E q a fr n B mX6_added 8 8 f) : CM E q a fr n B yX6_added cX6_added 4 3 8 (f + 1) := by
  intro g tw o i res hpp ho hT hP
  simp only [pp] at hpp
  obtain ⟨r1, hr1, hpp⟩ := bnd hpp
  refine CT.of (M := mX6_added) (ls := [some (.ref (q 0)), none, none, none]) (by decide) rfl (by decide) rfl (Nat.le_of_ble_eq_true rfl) ?_
  refine A_aload_n (dX6_added 0 rfl) rfl ?_
  refine A_callVWi 0 (dX6_added 1 rfl) cbX6_term cwX6_256 (hs0 g tw o i r1 hr1 ho hT hP) rfl rfl MW_0 rfl rfl (by omega) (Nat.le_of_ble_eq_true rfl) (Nat.le_of_ble_eq_true rfl) (Nat.le_of_ble_eq_true rfl) (Nat.le_of_ble_eq_true rfl) ?_
  rintro x1 w1 ⟨g2, tw2, rfl, hk, hs, hf⟩
  refine AW.pcq (pc2 := 4) rfl ?_
  refine A_istore_n (ls2 := [_, _, _, _]) (dX6_added 2 rfl) (by decide) rfl rfl ?_
  by_cases hb1 : r1.1 = true
  · rw [if_pos hb1] at hpp
    obtain ⟨t, ht, hpp⟩ := bnd hpp
    cases hpp
    obtain ⟨hP2, he2⟩ := hs hb1
    refine AW.mono (h9 g2 tw2 o r1.2.1 t ht ho (hk.tx hT) hP2 _ none none rfl) (fun z w hz => ?_)
    obtain ⟨rr, hr, hm⟩ := hz
    exact ⟨rr, hr, RM_seq (c1 := r1.2.2) (pre1 := []) hk he2 hm⟩
  · rw [if_neg hb1] at hpp
    cases hpp
    have h3 := hf (by simpa using hb1)
    refine AW.mono (m_added_bad E q g2 tw2 a (by rw [h3.1]; decide) _ (by omega) _ _ _) (fun z w hz => ?_)
    obtain ⟨rr, hr, rfl⟩ := hz
    exact ⟨rr, hr, RM_bad2 hb1 hk h3⟩
set_option maxRecDepth 100000 in
set_option maxHeartbeats 400000 in
theorem s_either_loop (E : ag) (q : Nat → Nat) (a : Nat → Nat → Int32) (fr n : Nat) (B : Nat → Int32) (f : Nat) (h1 : CM E q a fr n B yX6_both cX6_both 3 1 10 f) (h6 : LM2 E q a fr n B mX6_either 6 11 f) : LM2 E q a fr n B mX6_either 6 11 (f + 1) := by
  intro g tw o i res hpp ho hT hP v x2 hx2
  simp only [pp] at hpp
  refine A_aload_n (dX6_either 3 rfl) rfl ?_
  refine A_bipush (111) (dX6_either 4 rfl) (by decide +kernel) ?_
  refine A_bipush (114) (dX6_either 5 rfl) (by decide +kernel) ?_
  refine A_iconst (0) (dX6_either 6 rfl) (by decide +kernel) ?_
  refine A_iconst (0) (dX6_either 7 rfl) (by decide +kernel) ?_
  refine A_iconst (0) (dX6_either 8 rfl) (by decide +kernel) ?_
  refine A_iconst (0) (dX6_either 9 rfl) (by decide +kernel) ?_
  refine A_iconst (0) (dX6_either 10 rfl) (by decide +kernel) ?_
  refine AW.pcq (pc2 := 15) rfl ?_
  refine A_iconst (0) (dX6_either 11 rfl) (by decide +kernel) ?_
  refine A_callVWi 8 (dX6_either 12 rfl) cbX6_isWord cwX6_217 (m_isWord E q g tw a fr n (lst B i) (men B i) B hT hP.2.2.1 hP.1 (men_le hT hP.2.2.2.2.2.2.2).1 (lst_le hT hP.2.2.2.2.2.2.2).1 111 114 0 0 0 0 0 0) rfl rfl MW_0 rfl rfl (by omega) (Nat.le_of_ble_eq_true rfl) (Nat.le_of_ble_eq_true rfl) (Nat.le_of_ble_eq_true rfl) (Nat.le_of_ble_eq_true rfl) ?_
  rintro r16 w1 ⟨rfl, rfl⟩
  refine AW.pcq (pc2 := 19) rfl ?_
  refine A_if_eq 48 (dX6_either 13 rfl) (by decide) (fun h19 => ?_) (fun h19 => ?_)
  · have hck : ¬ ck B i = 6 := fun z => b01_0.mp h19 (by have y := (ck_word (by decide) (by decide)).mp z; exact ⟨hP.2.2.2.2.2.2.1, hP.2.1.trans y.1, wci_6.mp y.2⟩)
    rw [if_neg hck] at hpp
    refine A_iload_n (dX6_either 28 rfl) rfl ?_
    refine A_ri (dX6_either 29 rfl) rfl rfl ?_
    cases hpp
    exact RM_ok KP.rf hP (fun st => rfl)
  · have hck : ck B i = 6 := by
      have y := b01_n.mp h19
      exact (ck_word (by decide) (by decide)).mpr ⟨hP.2.1.symm.trans y.2.1, wci_6.mpr y.2.2⟩
    rw [if_pos hck] at hpp
    obtain ⟨r1, hr1, hpp⟩ := bnd hpp
    refine A_aload_n (dX6_either 14 rfl) rfl ?_
    refine A_callVWv 0 (dX6_either 15 rfl) cbX6_next cwX6_214 (m_next E q g tw a fr n B hT (men B i) (men_le hT hP.2.2.2.2.2.2.2).1 hP.1) rfl rfl MW_0 rfl rfl (by omega) (Nat.le_of_ble_eq_true rfl) (Nat.le_of_ble_eq_true rfl) (Nat.le_of_ble_eq_true rfl) (Nat.le_of_ble_eq_true rfl) ?_
    rintro w1 rfl
    refine AW.pcq (pc2 := 26) rfl ?_
    refine A_aload_n (dX6_either 16 rfl) rfl ?_
    refine A_callVWi 0 (dX6_either 17 rfl) cbX6_both cwX6_269 (h1 (nxg B g (men B i)) (mtw B tw (men B i)) o (men B i) r1 hr1 ho (KP.rf.nx.tx hT) (PM_nx hT hP.2.2.2.2.2.2.2 hP.2.2.2.2.2.1 hP.2.2.2.2.2.2.1)) rfl rfl MW_0 rfl rfl (by omega) (Nat.le_of_ble_eq_true rfl) (Nat.le_of_ble_eq_true rfl) (Nat.le_of_ble_eq_true rfl) (Nat.le_of_ble_eq_true rfl) ?_
    rintro x1 w1 ⟨g2, tw2, rfl, hk, hs, hf⟩
    refine AW.pcq (pc2 := 30) rfl ?_
    refine A_istore_n (ls2 := [_, _, _]) (dX6_either 18 rfl) (by decide) (by have := hx2; simp_all [noL, Value.category]) rfl ?_
    refine A_iload_n (dX6_either 19 rfl) rfl ?_
    refine A_if_ne 39 (dX6_either 20 rfl) (by decide) (fun h32 => ?_) (fun h32 => ?_)
    · refine A_iconst (1) (dX6_either 23 rfl) (by decide +kernel) ?_
      refine A_goto 44 (dX6_either 24 rfl) (by decide) ?_
      refine A_istore_n (ls2 := [_, _, _]) (dX6_either 26 rfl) (by decide) (by have := hx2; simp_all [noL, Value.category]) rfl ?_
      refine A_goto 5 (dX6_either 27 rfl) (by decide) ?_
      have hkt : KP g g2 := KP.tr (KP.nx KP.rf) hk
      by_cases hb1 : r1.1 = true
      · rw [if_pos hb1] at hpp
        obtain ⟨t, ht, hpp⟩ := bnd hpp
        cases hpp
        obtain ⟨hP2, he2⟩ := hs hb1
        refine AW.mono (h6 g2 tw2 o r1.2.1 t ht ho (hkt.tx hT) hP2 _ _ rfl) (fun z w hz => ?_)
        obtain ⟨rr, hr, hm⟩ := hz
        refine ⟨rr, hr, ?_⟩
        have h8 := RM_seq (c1 := r1.2.2 ++ [-15]) (pre1 := [v]) hkt (fun st => by
          rw [evs_app]
          have h7 := he2 ([v] ++ st)
          rw [KP.me (KP.nx KP.rf)] at h7
          rw [show evs (ME g) r1.2.2 ([v] ++ st) = x1 :: ([v] ++ st) from h7]
          rw [show x1 :: ([v] ++ st) = x1 :: v :: st from rfl, ev_or]
          simp_all) hm
        rw [List.append_assoc] at h8
        exact h8
      · rw [if_neg hb1] at hpp
        cases hpp
        have h3 := hf (by simpa using hb1)
        refine AW.mono (m_either_bad E q g2 tw2 a (by rw [h3.1]; decide) _ (by omega) _ _) (fun z w hz => ?_)
        obtain ⟨rr, hr, rfl⟩ := hz
        exact ⟨rr, hr, RM_bad2 hb1 hkt h3⟩
    · refine A_iload_n (dX6_either 21 rfl) rfl ?_
      refine A_if_eq 43 (dX6_either 22 rfl) (by decide) (fun h36 => ?_) (fun h36 => ?_)
      · refine A_iconst (0) (dX6_either 25 rfl) (by decide +kernel) ?_
        refine A_istore_n (ls2 := [_, _, _]) (dX6_either 26 rfl) (by decide) (by have := hx2; simp_all [noL, Value.category]) rfl ?_
        refine A_goto 5 (dX6_either 27 rfl) (by decide) ?_
        have hkt : KP g g2 := KP.tr (KP.nx KP.rf) hk
        by_cases hb1 : r1.1 = true
        · rw [if_pos hb1] at hpp
          obtain ⟨t, ht, hpp⟩ := bnd hpp
          cases hpp
          obtain ⟨hP2, he2⟩ := hs hb1
          refine AW.mono (h6 g2 tw2 o r1.2.1 t ht ho (hkt.tx hT) hP2 _ _ rfl) (fun z w hz => ?_)
          obtain ⟨rr, hr, hm⟩ := hz
          refine ⟨rr, hr, ?_⟩
          have h8 := RM_seq (c1 := r1.2.2 ++ [-15]) (pre1 := [v]) hkt (fun st => by
            rw [evs_app]
            have h7 := he2 ([v] ++ st)
            rw [KP.me (KP.nx KP.rf)] at h7
            rw [show evs (ME g) r1.2.2 ([v] ++ st) = x1 :: ([v] ++ st) from h7]
            rw [show x1 :: ([v] ++ st) = x1 :: v :: st from rfl, ev_or]
            simp_all) hm
          rw [List.append_assoc] at h8
          exact h8
        · rw [if_neg hb1] at hpp
          cases hpp
          have h3 := hf (by simpa using hb1)
          refine AW.mono (m_either_bad E q g2 tw2 a (by rw [h3.1]; decide) _ (by omega) _ _) (fun z w hz => ?_)
          obtain ⟨rr, hr, rfl⟩ := hz
          exact ⟨rr, hr, RM_bad2 hb1 hkt h3⟩
      · refine A_iconst (1) (dX6_either 23 rfl) (by decide +kernel) ?_
        refine A_goto 44 (dX6_either 24 rfl) (by decide) ?_
        refine A_istore_n (ls2 := [_, _, _]) (dX6_either 26 rfl) (by decide) (by have := hx2; simp_all [noL, Value.category]) rfl ?_
        refine A_goto 5 (dX6_either 27 rfl) (by decide) ?_
        have hkt : KP g g2 := KP.tr (KP.nx KP.rf) hk
        by_cases hb1 : r1.1 = true
        · rw [if_pos hb1] at hpp
          obtain ⟨t, ht, hpp⟩ := bnd hpp
          cases hpp
          obtain ⟨hP2, he2⟩ := hs hb1
          refine AW.mono (h6 g2 tw2 o r1.2.1 t ht ho (hkt.tx hT) hP2 _ _ rfl) (fun z w hz => ?_)
          obtain ⟨rr, hr, hm⟩ := hz
          refine ⟨rr, hr, ?_⟩
          have h8 := RM_seq (c1 := r1.2.2 ++ [-15]) (pre1 := [v]) hkt (fun st => by
            rw [evs_app]
            have h7 := he2 ([v] ++ st)
            rw [KP.me (KP.nx KP.rf)] at h7
            rw [show evs (ME g) r1.2.2 ([v] ++ st) = x1 :: ([v] ++ st) from h7]
            rw [show x1 :: ([v] ++ st) = x1 :: v :: st from rfl, ev_or]
            simp_all) hm
          rw [List.append_assoc] at h8
          exact h8
        · rw [if_neg hb1] at hpp
          cases hpp
          have h3 := hf (by simpa using hb1)
          refine AW.mono (m_either_bad E q g2 tw2 a (by rw [h3.1]; decide) _ (by omega) _ _) (fun z w hz => ?_)
          obtain ⟨rr, hr, rfl⟩ := hz
          exact ⟨rr, hr, RM_bad2 hb1 hkt h3⟩
set_option maxRecDepth 100000 in
set_option maxHeartbeats 400000 in
theorem s_either (E : ag) (q : Nat → Nat) (a : Nat → Nat → Int32) (fr n : Nat) (B : Nat → Int32) (f : Nat) (hs0 : CM E q a fr n B yX6_both cX6_both 3 1 10 f) (h9 : LM2 E q a fr n B mX6_either 6 11 f) : CM E q a fr n B yX6_either cX6_either 3 0 11 (f + 1) := by
  intro g tw o i res hpp ho hT hP
  simp only [pp] at hpp
  obtain ⟨r1, hr1, hpp⟩ := bnd hpp
  refine CT.of (M := mX6_either) (ls := [some (.ref (q 0)), none, none]) (by decide) rfl (by decide) rfl (Nat.le_of_ble_eq_true rfl) ?_
  refine A_aload_n (dX6_either 0 rfl) rfl ?_
  refine A_callVWi 0 (dX6_either 1 rfl) cbX6_both cwX6_269 (hs0 g tw o i r1 hr1 ho hT hP) rfl rfl MW_0 rfl rfl (by omega) (Nat.le_of_ble_eq_true rfl) (Nat.le_of_ble_eq_true rfl) (Nat.le_of_ble_eq_true rfl) (Nat.le_of_ble_eq_true rfl) ?_
  rintro x1 w1 ⟨g2, tw2, rfl, hk, hs, hf⟩
  refine AW.pcq (pc2 := 4) rfl ?_
  refine A_istore_n (ls2 := [_, _, _]) (dX6_either 2 rfl) (by decide) rfl rfl ?_
  by_cases hb1 : r1.1 = true
  · rw [if_pos hb1] at hpp
    obtain ⟨t, ht, hpp⟩ := bnd hpp
    cases hpp
    obtain ⟨hP2, he2⟩ := hs hb1
    refine AW.mono (h9 g2 tw2 o r1.2.1 t ht ho (hk.tx hT) hP2 _ none rfl) (fun z w hz => ?_)
    obtain ⟨rr, hr, hm⟩ := hz
    exact ⟨rr, hr, RM_seq (c1 := r1.2.2) (pre1 := []) hk he2 hm⟩
  · rw [if_neg hb1] at hpp
    cases hpp
    have h3 := hf (by simpa using hb1)
    refine AW.mono (m_either_bad E q g2 tw2 a (by rw [h3.1]; decide) _ (by omega) _ _) (fun z w hz => ?_)
    obtain ⟨rr, hr, rfl⟩ := hz
    exact ⟨rr, hr, RM_bad2 hb1 hk h3⟩
set_option maxRecDepth 100000 in
set_option maxHeartbeats 400000 in
theorem s_both_loop (E : ag) (q : Nat → Nat) (a : Nat → Nat → Int32) (fr n : Nat) (B : Nat → Int32) (f : Nat) (h1 : CM E q a fr n B yX6_not cX6_not 4 2 9 f) (h6 : LM2 E q a fr n B mX6_both 7 10 f) : LM2 E q a fr n B mX6_both 7 10 (f + 1) := by
  intro g tw o i res hpp ho hT hP v x2 hx2
  simp only [pp] at hpp
  refine A_aload_n (dX6_both 3 rfl) rfl ?_
  refine A_bipush (97) (dX6_both 4 rfl) (by decide +kernel) ?_
  refine A_bipush (110) (dX6_both 5 rfl) (by decide +kernel) ?_
  refine A_bipush (100) (dX6_both 6 rfl) (by decide +kernel) ?_
  refine A_iconst (0) (dX6_both 7 rfl) (by decide +kernel) ?_
  refine A_iconst (0) (dX6_both 8 rfl) (by decide +kernel) ?_
  refine A_iconst (0) (dX6_both 9 rfl) (by decide +kernel) ?_
  refine A_iconst (0) (dX6_both 10 rfl) (by decide +kernel) ?_
  refine AW.pcq (pc2 := 16) rfl ?_
  refine A_iconst (0) (dX6_both 11 rfl) (by decide +kernel) ?_
  refine A_callVWi 8 (dX6_both 12 rfl) cbX6_isWord cwX6_217 (m_isWord E q g tw a fr n (lst B i) (men B i) B hT hP.2.2.1 hP.1 (men_le hT hP.2.2.2.2.2.2.2).1 (lst_le hT hP.2.2.2.2.2.2.2).1 97 110 100 0 0 0 0 0) rfl rfl MW_0 rfl rfl (by omega) (Nat.le_of_ble_eq_true rfl) (Nat.le_of_ble_eq_true rfl) (Nat.le_of_ble_eq_true rfl) (Nat.le_of_ble_eq_true rfl) ?_
  rintro r17 w1 ⟨rfl, rfl⟩
  refine AW.pcq (pc2 := 20) rfl ?_
  refine A_if_eq 49 (dX6_both 13 rfl) (by decide) (fun h20 => ?_) (fun h20 => ?_)
  · have hck : ¬ ck B i = 7 := fun z => b01_0.mp h20 (by have y := (ck_word (by decide) (by decide)).mp z; exact ⟨hP.2.2.2.2.2.2.1, hP.2.1.trans y.1, wci_7.mp y.2⟩)
    rw [if_neg hck] at hpp
    refine A_iload_n (dX6_both 28 rfl) rfl ?_
    refine A_ri (dX6_both 29 rfl) rfl rfl ?_
    cases hpp
    exact RM_ok KP.rf hP (fun st => rfl)
  · have hck : ck B i = 7 := by
      have y := b01_n.mp h20
      exact (ck_word (by decide) (by decide)).mpr ⟨hP.2.1.symm.trans y.2.1, wci_7.mpr y.2.2⟩
    rw [if_pos hck] at hpp
    obtain ⟨r1, hr1, hpp⟩ := bnd hpp
    refine A_aload_n (dX6_both 14 rfl) rfl ?_
    refine A_callVWv 0 (dX6_both 15 rfl) cbX6_next cwX6_214 (m_next E q g tw a fr n B hT (men B i) (men_le hT hP.2.2.2.2.2.2.2).1 hP.1) rfl rfl MW_0 rfl rfl (by omega) (Nat.le_of_ble_eq_true rfl) (Nat.le_of_ble_eq_true rfl) (Nat.le_of_ble_eq_true rfl) (Nat.le_of_ble_eq_true rfl) ?_
    rintro w1 rfl
    refine AW.pcq (pc2 := 27) rfl ?_
    refine A_aload_n (dX6_both 16 rfl) rfl ?_
    refine A_callVWi 0 (dX6_both 17 rfl) cbX6_not cwX6_261 (h1 (nxg B g (men B i)) (mtw B tw (men B i)) o (men B i) r1 hr1 ho (KP.rf.nx.tx hT) (PM_nx hT hP.2.2.2.2.2.2.2 hP.2.2.2.2.2.1 hP.2.2.2.2.2.2.1)) rfl rfl MW_0 rfl rfl (by omega) (Nat.le_of_ble_eq_true rfl) (Nat.le_of_ble_eq_true rfl) (Nat.le_of_ble_eq_true rfl) (Nat.le_of_ble_eq_true rfl) ?_
    rintro x1 w1 ⟨g2, tw2, rfl, hk, hs, hf⟩
    refine AW.pcq (pc2 := 31) rfl ?_
    refine A_istore_n (ls2 := [_, _, _]) (dX6_both 18 rfl) (by decide) (by have := hx2; simp_all [noL, Value.category]) rfl ?_
    refine A_iload_n (dX6_both 19 rfl) rfl ?_
    refine A_if_eq 44 (dX6_both 20 rfl) (by decide) (fun h33 => ?_) (fun h33 => ?_)
    · refine A_iconst (0) (dX6_both 25 rfl) (by decide +kernel) ?_
      refine A_istore_n (ls2 := [_, _, _]) (dX6_both 26 rfl) (by decide) (by have := hx2; simp_all [noL, Value.category]) rfl ?_
      refine A_goto 5 (dX6_both 27 rfl) (by decide) ?_
      have hkt : KP g g2 := KP.tr (KP.nx KP.rf) hk
      by_cases hb1 : r1.1 = true
      · rw [if_pos hb1] at hpp
        obtain ⟨t, ht, hpp⟩ := bnd hpp
        cases hpp
        obtain ⟨hP2, he2⟩ := hs hb1
        refine AW.mono (h6 g2 tw2 o r1.2.1 t ht ho (hkt.tx hT) hP2 _ _ rfl) (fun z w hz => ?_)
        obtain ⟨rr, hr, hm⟩ := hz
        refine ⟨rr, hr, ?_⟩
        have h8 := RM_seq (c1 := r1.2.2 ++ [-14]) (pre1 := [v]) hkt (fun st => by
          rw [evs_app]
          have h7 := he2 ([v] ++ st)
          rw [KP.me (KP.nx KP.rf)] at h7
          rw [show evs (ME g) r1.2.2 ([v] ++ st) = x1 :: ([v] ++ st) from h7]
          rw [show x1 :: ([v] ++ st) = x1 :: v :: st from rfl, ev_and]
          simp_all) hm
        rw [List.append_assoc] at h8
        exact h8
      · rw [if_neg hb1] at hpp
        cases hpp
        have h3 := hf (by simpa using hb1)
        refine AW.mono (m_both_bad E q g2 tw2 a (by rw [h3.1]; decide) _ (by omega) _ _) (fun z w hz => ?_)
        obtain ⟨rr, hr, rfl⟩ := hz
        exact ⟨rr, hr, RM_bad2 hb1 hkt h3⟩
    · refine A_iload_n (dX6_both 21 rfl) rfl ?_
      refine A_if_eq 44 (dX6_both 22 rfl) (by decide) (fun h37 => ?_) (fun h37 => ?_)
      · refine A_iconst (0) (dX6_both 25 rfl) (by decide +kernel) ?_
        refine A_istore_n (ls2 := [_, _, _]) (dX6_both 26 rfl) (by decide) (by have := hx2; simp_all [noL, Value.category]) rfl ?_
        refine A_goto 5 (dX6_both 27 rfl) (by decide) ?_
        have hkt : KP g g2 := KP.tr (KP.nx KP.rf) hk
        by_cases hb1 : r1.1 = true
        · rw [if_pos hb1] at hpp
          obtain ⟨t, ht, hpp⟩ := bnd hpp
          cases hpp
          obtain ⟨hP2, he2⟩ := hs hb1
          refine AW.mono (h6 g2 tw2 o r1.2.1 t ht ho (hkt.tx hT) hP2 _ _ rfl) (fun z w hz => ?_)
          obtain ⟨rr, hr, hm⟩ := hz
          refine ⟨rr, hr, ?_⟩
          have h8 := RM_seq (c1 := r1.2.2 ++ [-14]) (pre1 := [v]) hkt (fun st => by
            rw [evs_app]
            have h7 := he2 ([v] ++ st)
            rw [KP.me (KP.nx KP.rf)] at h7
            rw [show evs (ME g) r1.2.2 ([v] ++ st) = x1 :: ([v] ++ st) from h7]
            rw [show x1 :: ([v] ++ st) = x1 :: v :: st from rfl, ev_and]
            simp_all) hm
          rw [List.append_assoc] at h8
          exact h8
        · rw [if_neg hb1] at hpp
          cases hpp
          have h3 := hf (by simpa using hb1)
          refine AW.mono (m_both_bad E q g2 tw2 a (by rw [h3.1]; decide) _ (by omega) _ _) (fun z w hz => ?_)
          obtain ⟨rr, hr, rfl⟩ := hz
          exact ⟨rr, hr, RM_bad2 hb1 hkt h3⟩
      · refine A_iconst (1) (dX6_both 23 rfl) (by decide +kernel) ?_
        refine A_goto 45 (dX6_both 24 rfl) (by decide) ?_
        refine A_istore_n (ls2 := [_, _, _]) (dX6_both 26 rfl) (by decide) (by have := hx2; simp_all [noL, Value.category]) rfl ?_
        refine A_goto 5 (dX6_both 27 rfl) (by decide) ?_
        have hkt : KP g g2 := KP.tr (KP.nx KP.rf) hk
        by_cases hb1 : r1.1 = true
        · rw [if_pos hb1] at hpp
          obtain ⟨t, ht, hpp⟩ := bnd hpp
          cases hpp
          obtain ⟨hP2, he2⟩ := hs hb1
          refine AW.mono (h6 g2 tw2 o r1.2.1 t ht ho (hkt.tx hT) hP2 _ _ rfl) (fun z w hz => ?_)
          obtain ⟨rr, hr, hm⟩ := hz
          refine ⟨rr, hr, ?_⟩
          have h8 := RM_seq (c1 := r1.2.2 ++ [-14]) (pre1 := [v]) hkt (fun st => by
            rw [evs_app]
            have h7 := he2 ([v] ++ st)
            rw [KP.me (KP.nx KP.rf)] at h7
            rw [show evs (ME g) r1.2.2 ([v] ++ st) = x1 :: ([v] ++ st) from h7]
            rw [show x1 :: ([v] ++ st) = x1 :: v :: st from rfl, ev_and]
            simp_all) hm
          rw [List.append_assoc] at h8
          exact h8
        · rw [if_neg hb1] at hpp
          cases hpp
          have h3 := hf (by simpa using hb1)
          refine AW.mono (m_both_bad E q g2 tw2 a (by rw [h3.1]; decide) _ (by omega) _ _) (fun z w hz => ?_)
          obtain ⟨rr, hr, rfl⟩ := hz
          exact ⟨rr, hr, RM_bad2 hb1 hkt h3⟩
set_option maxRecDepth 100000 in
set_option maxHeartbeats 400000 in
theorem s_both (E : ag) (q : Nat → Nat) (a : Nat → Nat → Int32) (fr n : Nat) (B : Nat → Int32) (f : Nat) (hs0 : CM E q a fr n B yX6_not cX6_not 4 2 9 f) (h9 : LM2 E q a fr n B mX6_both 7 10 f) : CM E q a fr n B yX6_both cX6_both 3 1 10 (f + 1) := by
  intro g tw o i res hpp ho hT hP
  simp only [pp] at hpp
  obtain ⟨r1, hr1, hpp⟩ := bnd hpp
  refine CT.of (M := mX6_both) (ls := [some (.ref (q 0)), none, none]) (by decide) rfl (by decide) rfl (Nat.le_of_ble_eq_true rfl) ?_
  refine A_aload_n (dX6_both 0 rfl) rfl ?_
  refine A_callVWi 0 (dX6_both 1 rfl) cbX6_not cwX6_261 (hs0 g tw o i r1 hr1 ho hT hP) rfl rfl MW_0 rfl rfl (by omega) (Nat.le_of_ble_eq_true rfl) (Nat.le_of_ble_eq_true rfl) (Nat.le_of_ble_eq_true rfl) (Nat.le_of_ble_eq_true rfl) ?_
  rintro x1 w1 ⟨g2, tw2, rfl, hk, hs, hf⟩
  refine AW.pcq (pc2 := 4) rfl ?_
  refine A_istore_n (ls2 := [_, _, _]) (dX6_both 2 rfl) (by decide) rfl rfl ?_
  by_cases hb1 : r1.1 = true
  · rw [if_pos hb1] at hpp
    obtain ⟨t, ht, hpp⟩ := bnd hpp
    cases hpp
    obtain ⟨hP2, he2⟩ := hs hb1
    refine AW.mono (h9 g2 tw2 o r1.2.1 t ht ho (hk.tx hT) hP2 _ none rfl) (fun z w hz => ?_)
    obtain ⟨rr, hr, hm⟩ := hz
    exact ⟨rr, hr, RM_seq (c1 := r1.2.2) (pre1 := []) hk he2 hm⟩
  · rw [if_neg hb1] at hpp
    cases hpp
    have h3 := hf (by simpa using hb1)
    refine AW.mono (m_both_bad E q g2 tw2 a (by rw [h3.1]; decide) _ (by omega) _ _) (fun z w hz => ?_)
    obtain ⟨rr, hr, rfl⟩ := hz
    exact ⟨rr, hr, RM_bad2 hb1 hk h3⟩
