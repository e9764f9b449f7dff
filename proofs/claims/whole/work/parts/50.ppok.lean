theorem sg_ck {B : Nat → Int32} {i n : Nat} (hB : ∀ k, n ≤ k → B k = -1) (hi : i ≤ n) (h0 : ¬ ck B i = 0) : lst B i < n := by
  rcases Nat.lt_or_ge (lst B i) n with z | z
  · exact z
  · exfalso
    have hb : B (lst B i) < 0 := by rw [hB _ z]; decide
    exact h0 (ck0 (nx_end (tw := 0) hb).1)
theorem men_gt {B : Nat → Int32} {i n : Nat} (hB : ∀ k, n ≤ k → B k = -1) (hi : i ≤ n) (h0 : ¬ ck B i = 0) (h2 : ¬ ck B i = 2) : lst B i < men B i := by
  have hl := sg_ck hB hi h0
  rcases mkd_in B i with m | m | m | m | m
  · exact absurd (ck0 m) h0
  · have hneg : ¬ B (lst B i) < 0 := fun z => by rw [(nx_end (tw := 0) z).1] at m; exact absurd m (by decide)
    have hlo : ¬ inI (B (lst B i)) 97 122 = 0 := by
      intro z
      by_cases hd : inI (B (lst B i)) 48 57 = 0
      · by_cases hs : isSg (B (lst B i))
        · rw [(nx_sign (tw := 0) hneg z hd hs).1] at m; exact absurd m (by decide)
        · rw [(nx_wrong (tw := 0) hneg z hd hs).1] at m; exact absurd m (by decide)
      · rw [(nx_num (tw := 0) hneg z hd).1] at m
        split at m <;> exact absurd m (by decide)
    rw [(nx_word (tw := 0) hneg hlo).2.1]
    show lst B i < wdp B (160 + 1) (lst B i)
    rw [wdp, if_neg hlo]
    have := (wdp_le hB 160 (lst B i + 1) hl).1
    omega
  · have hneg : ¬ B (lst B i) < 0 := fun z => by rw [(nx_end (tw := 0) z).1] at m; exact absurd m (by decide)
    have hlo : inI (B (lst B i)) 97 122 = 0 := by
      by_cases z : inI (B (lst B i)) 97 122 = 0
      · exact z
      · rw [(nx_word (tw := 0) hneg z).1] at m; exact absurd m (by decide)
    have hd : ¬ inI (B (lst B i)) 48 57 = 0 := by
      intro z
      by_cases hs : isSg (B (lst B i))
      · rw [(nx_sign (tw := 0) hneg hlo z hs).1] at m; exact absurd m (by decide)
      · rw [(nx_wrong (tw := 0) hneg hlo z hs).1] at m; exact absurd m (by decide)
    rw [(nx_num (tw := 0) hneg hlo hd).2.1]
    show lst B i < dgp B (160 + 1) (lst B i)
    rw [dgp, if_neg hd]
    have := (dgp_le hB 160 (lst B i + 1) hl).1
    omega
  · have hneg : ¬ B (lst B i) < 0 := fun z => by rw [(nx_end (tw := 0) z).1] at m; exact absurd m (by decide)
    have hsg := mkd_sg m
    have hlo : inI (B (lst B i)) 97 122 = 0 := by
      by_cases z : inI (B (lst B i)) 97 122 = 0
      · exact z
      · rw [(nx_word (tw := 0) hneg z).1] at m; exact absurd m (by decide)
    have hd : inI (B (lst B i)) 48 57 = 0 := by
      by_cases z : inI (B (lst B i)) 48 57 = 0
      · exact z
      · rw [(nx_num (tw := 0) hneg hlo z).1] at m
        split at m <;> exact absurd m (by decide)
    rw [(nx_sign (tw := 0) hneg hlo hd hsg).2.1]
    omega
  · exact absurd (ck4 m) h2
theorem men_g {B : Nat → Int32} {i n : Nat} (hB : ∀ k, n ≤ k → B k = -1) (hi : i ≤ n) {v : Int32} (h : ck B i = v) (h0 : ¬ v = 0) (h2 : ¬ v = 2) : i < men B i ∧ men B i ≤ n := by
  have h1 := men_gt hB hi (by rw [h]; exact h0) (by rw [h]; exact h2)
  have h3 := men_leL hB hi
  exact ⟨by omega, h3.1⟩
/-- where a reading ends, how long its code is -/
def POK (n i w : Nat) (res : Bool × Nat × List Int32) : Prop := i ≤ res.2.1 ∧ res.2.1 ≤ n ∧ res.2.2.length ≤ res.2.1 - i ∧ (w ≤ 5 → res.1 = true → i < res.2.1)
theorem pp_ok5 {B : Nat → Int32} {n f w o i : Nat} {res : Bool × Nat × List Int32} (hB : ∀ k, n ≤ k → B k = -1) (hi : i ≤ n) (ih : ∀ (w o i : Nat) (res : Bool × Nat × List Int32), pp B f w o i = some res → i ≤ n → POK n i w res) (h : (if ck B i = 1 then some (true, men B i, [cv B i]) else if 9 ≤ ck B i ∧ ck B i ≤ 14 ∧ mkd B i = 1 then some (true, men B i, [8 - ck B i]) else if 5 ≤ o then some (false, i, []) else if ck B i = 45 then (pp B f 5 (o + 1) (men B i)).bind (fun r => if r.1 = true then some (true, r.2.1, r.2.2 ++ [-7]) else some r) else if ck B i = 40 then (pp B f 0 (o + 1) (men B i)).bind (fun r => if r.1 = true then (if ck B r.2.1 = 41 then some (true, men B r.2.1, r.2.2) else some (false, r.2.1, r.2.2)) else some r) else some (false, i, [])) = some res) (hw : w = 5 ∨ 6 ≤ w) (bad : some (false, i, []) = some res → POK n i w res) (one1 : ∀ (a o2 : Nat) (v x : Int32), ck B i = v → ¬ v = 0 → ¬ v = 2 → (pp B f a o2 (men B i)).bind (fun r => if r.1 = true then some (true, r.2.1, r.2.2 ++ [x]) else some r) = some res → POK n i w res) : POK n i w res := by
  have tok : ∀ x : Int32, i < men B i → men B i ≤ n → some (true, men B i, [x]) = some res → POK n i w res := by
    intro x m1 m2 h
    cases h
    exact ⟨by show i ≤ men B i; omega, m2, by show 1 ≤ men B i - i; omega, fun _ _ => m1⟩
  by_cases h1 : ck B i = 1
  · rw [if_pos h1] at h
    obtain ⟨m1, m2⟩ := men_g hB hi h1 (by decide) (by decide)
    exact tok _ m1 m2 h
  rw [if_neg h1] at h
  by_cases h9 : 9 ≤ ck B i ∧ ck B i ≤ 14 ∧ mkd B i = 1
  · rw [if_pos h9] at h
    obtain ⟨m1, m2⟩ := men_g hB hi (v := ck B i) rfl (fun z => by rw [z] at h9; exact absurd h9.1 (by decide)) (fun z => by rw [z] at h9; exact absurd h9.1 (by decide))
    exact tok _ m1 m2 h
  rw [if_neg h9] at h
  by_cases ho : 5 ≤ o
  · rw [if_pos ho] at h; exact bad h
  rw [if_neg ho] at h
  by_cases h45 : ck B i = 45
  · rw [if_pos h45] at h; exact one1 5 (o + 1) 45 _ h45 (by decide) (by decide) h
  rw [if_neg h45] at h
  by_cases h40 : ck B i = 40
  · rw [if_pos h40] at h
    obtain ⟨m1, m2⟩ := men_g hB hi h40 (by decide) (by decide)
    obtain ⟨r, hr, h⟩ := bnd h
    obtain ⟨p1, p2, p3, p4⟩ := ih 0 (o + 1) (men B i) r hr m2
    by_cases hb : r.1 = true
    · rw [if_pos hb] at h
      by_cases hc : ck B r.2.1 = 41
      · rw [if_pos hc] at h
        obtain ⟨k1, k2⟩ := men_g hB p2 hc (by decide) (by decide)
        cases h
        exact ⟨by show i ≤ men B r.2.1; omega, k2, by show r.2.2.length ≤ men B r.2.1 - i; omega, fun _ _ => by show i < men B r.2.1; omega⟩
      · rw [if_neg hc] at h
        cases h
        exact ⟨by show i ≤ r.2.1; omega, p2, by show r.2.2.length ≤ r.2.1 - i; omega, fun _ z => absurd z (by simp)⟩
    · rw [if_neg hb] at h
      cases h
      exact ⟨by omega, p2, by omega, fun _ z => absurd z hb⟩
  rw [if_neg h40] at h
  exact bad h
theorem pp_ok {B : Nat → Int32} {n : Nat} (hB : ∀ k, n ≤ k → B k = -1) : ∀ (f w o i : Nat) (res : Bool × Nat × List Int32), pp B f w o i = some res → i ≤ n → POK n i w res := by
  intro f
  induction f with
  | zero => intro w o i res h; simp [pp] at h
  | succ f ih =>
    intro w o i res h hi
    -- an operand, and what goes on behind it
    have two : ∀ (a b : Nat), a ≤ 5 → (pp B f a o i).bind (fun r => if r.1 = true then (pp B f b o r.2.1).bind (fun t => some (t.1, t.2.1, r.2.2 ++ t.2.2)) else some r) = some res → POK n i w res := by
      intro a b ha h
      obtain ⟨r, hr, h⟩ := bnd h
      obtain ⟨p1, p2, p3, p4⟩ := ih a o i r hr hi
      by_cases hb : r.1 = true
      · rw [if_pos hb] at h
        obtain ⟨t, ht, h⟩ := bnd h
        obtain ⟨q1, q2, q3, q4⟩ := ih b o r.2.1 t ht p2
        cases h
        have := p4 ha hb
        exact ⟨by show i ≤ t.2.1; omega, q2, by show (r.2.2 ++ t.2.2).length ≤ t.2.1 - i; rw [List.length_append]; omega, fun _ _ => by show i < t.2.1; omega⟩
      · rw [if_neg hb] at h
        cases h
        exact ⟨p1, p2, p3, fun _ z => absurd z hb⟩
    have lop : ∀ (a b : Nat) (v x : Int32), 6 ≤ w → ck B i = v → ¬ v = 0 → ¬ v = 2 → (pp B f a o (men B i)).bind (fun r => if r.1 = true then (pp B f b o r.2.1).bind (fun t => some (t.1, t.2.1, r.2.2 ++ x :: t.2.2)) else some r) = some res → POK n i w res := by
      intro a b v x hw hv h0 h2 h
      obtain ⟨m1, m2⟩ := men_g hB hi hv h0 h2
      obtain ⟨r, hr, h⟩ := bnd h
      obtain ⟨p1, p2, p3, p4⟩ := ih a o (men B i) r hr m2
      by_cases hb : r.1 = true
      · rw [if_pos hb] at h
        obtain ⟨t, ht, h⟩ := bnd h
        obtain ⟨q1, q2, q3, q4⟩ := ih b o r.2.1 t ht p2
        cases h
        exact ⟨by show i ≤ t.2.1; omega, q2, by show (r.2.2 ++ x :: t.2.2).length ≤ t.2.1 - i; rw [List.length_append, List.length_cons]; omega, fun z => by omega⟩
      · rw [if_neg hb] at h
        cases h
        exact ⟨by omega, p2, by omega, fun z => by omega⟩
    have nil : 6 ≤ w → some (true, i, []) = some res → POK n i w res := by
      intro hw h
      cases h
      exact ⟨Nat.le_refl _, hi, Nat.zero_le _, fun z => by omega⟩
    have bad : some (false, i, []) = some res → POK n i w res := by
      intro h
      cases h
      exact ⟨Nat.le_refl _, hi, Nat.zero_le _, fun _ z => absurd z (by simp)⟩
    have one1 : ∀ (a o2 : Nat) (v x : Int32), ck B i = v → ¬ v = 0 → ¬ v = 2 → (pp B f a o2 (men B i)).bind (fun r => if r.1 = true then some (true, r.2.1, r.2.2 ++ [x]) else some r) = some res → POK n i w res := by
      intro a o2 v x hv h0 h2 h
      obtain ⟨m1, m2⟩ := men_g hB hi hv h0 h2
      obtain ⟨r, hr, h⟩ := bnd h
      obtain ⟨p1, p2, p3, p4⟩ := ih a o2 (men B i) r hr m2
      by_cases hb : r.1 = true
      · rw [if_pos hb] at h
        cases h
        exact ⟨by show i ≤ r.2.1; omega, p2, by show (r.2.2 ++ [x]).length ≤ r.2.1 - i; rw [List.length_append, List.length_singleton]; omega, fun _ _ => by show i < r.2.1; omega⟩
      · rw [if_neg hb] at h
        cases h
        exact ⟨by omega, p2, by omega, fun _ z => absurd z hb⟩
    match w, h, two, lop, nil, bad, one1 with
    | 0, h, two, _, _, _, _ => simp only [pp] at h; exact two 1 6 (by decide) h
    | 1, h, two, _, _, _, _ => simp only [pp] at h; exact two 2 7 (by decide) h
    | 3, h, two, _, _, _, _ => simp only [pp] at h; exact two 4 8 (by decide) h
    | 4, h, two, _, _, _, _ => simp only [pp] at h; exact two 5 9 (by decide) h
    | 6, h, _, lop, nil, _, _ =>
      simp only [pp] at h
      by_cases hc : ck B i = 6
      · rw [if_pos hc] at h; exact lop 1 6 6 _ (by decide) hc (by decide) (by decide) h
      · rw [if_neg hc] at h; exact nil (by decide) h
    | 7, h, _, lop, nil, _, _ =>
      simp only [pp] at h
      by_cases hc : ck B i = 7
      · rw [if_pos hc] at h; exact lop 2 7 7 _ (by decide) hc (by decide) (by decide) h
      · rw [if_neg hc] at h; exact nil (by decide) h
    | 8, h, _, lop, nil, _, _ =>
      simp only [pp] at h
      by_cases hc : ck B i = 43 ∨ ck B i = 45
      · rw [if_pos hc] at h
        rcases hc with hc | hc
        · exact lop 4 8 43 _ (by decide) hc (by decide) (by decide) h
        · exact lop 4 8 45 _ (by decide) hc (by decide) (by decide) h
      · rw [if_neg hc] at h; exact nil (by decide) h
    | 9, h, _, lop, nil, _, _ =>
      simp only [pp] at h
      by_cases hc : ck B i = 42
      · rw [if_pos hc] at h; exact lop 5 9 42 _ (by decide) hc (by decide) (by decide) h
      · rw [if_neg hc] at h; exact nil (by decide) h
    | 2, h, _, _, _, bad, one1 =>
      simp only [pp] at h
      by_cases hc : ck B i = 8
      · rw [if_pos hc] at h
        by_cases ho : 5 ≤ o
        · rw [if_pos ho] at h; exact bad h
        · rw [if_neg ho] at h; exact one1 2 (o + 1) 8 _ hc (by decide) (by decide) h
      · rw [if_neg hc] at h
        obtain ⟨r, hr, h⟩ := bnd h
        obtain ⟨p1, p2, p3, p4⟩ := ih 3 o i r hr hi
        by_cases hb : r.1 = true
        · rw [if_pos hb] at h
          have p5 := p4 (by decide) hb
          by_cases hq : ck B r.2.1 = 60 ∨ ck B r.2.1 = 61
          · rw [if_pos hq] at h
            have hm : r.2.1 < men B r.2.1 ∧ men B r.2.1 ≤ n := by
              rcases hq with hq | hq
              · exact men_g hB p2 hq (by decide) (by decide)
              · exact men_g hB p2 hq (by decide) (by decide)
            obtain ⟨t, ht, h⟩ := bnd h
            obtain ⟨q1, q2, q3, q4⟩ := ih 3 o (men B r.2.1) t ht hm.2
            by_cases hb2 : t.1 = true
            · rw [if_pos hb2] at h
              cases h
              exact ⟨by show i ≤ t.2.1; omega, q2, by show (r.2.2 ++ t.2.2 ++ [_]).length ≤ t.2.1 - i; rw [List.length_append, List.length_append, List.length_singleton]; omega, fun _ _ => by show i < t.2.1; omega⟩
            · rw [if_neg hb2] at h
              cases h
              exact ⟨by omega, q2, by omega, fun _ z => absurd z hb2⟩
          · rw [if_neg hq] at h
            cases h
            exact ⟨p1, p2, p3, fun _ _ => p5⟩
        · rw [if_neg hb] at h
          cases h
          exact ⟨p1, p2, p3, fun _ z => absurd z hb⟩
    | 5, h, _, _, _, bad, one1 =>
      simp only [pp] at h
      exact pp_ok5 hB hi (fun w2 o2 i2 res2 h2 hi2 => ih w2 o2 i2 res2 h2 hi2) h (Or.inl rfl) bad one1
    | w + 10, h, _, _, _, bad, one1 =>
      simp only [pp] at h
      exact pp_ok5 hB hi (fun w2 o2 i2 res2 h2 hi2 => ih w2 o2 i2 res2 h2 hi2) h (Or.inr (by omega)) bad one1
def rkw (w : Nat) : Nat := if w ≤ 5 then 5 - w else 0
theorem pp_ex {B : Nat → Int32} {n : Nat} (hB : ∀ k, n ≤ k → B k = -1) : ∀ (f w o i : Nat), i ≤ n → w ≤ 9 → 7 * (n - i) + rkw w < f → ∃ res, pp B f w o i = some res := by
  intro f
  induction f with
  | zero => intro w o i hi hw h; omega
  | succ f ih =>
    intro w o i hi hw hf
    have two : ∀ (a b : Nat), a ≤ 5 → 6 ≤ b → b ≤ 9 → rkw a < rkw w → ∃ res, (pp B f a o i).bind (fun r => if r.1 = true then (pp B f b o r.2.1).bind (fun t => some (t.1, t.2.1, r.2.2 ++ t.2.2)) else some r) = some res := by
      intro a b ha hb hb9 hr
      obtain ⟨r, e1⟩ := ih a o i hi (by omega) (by omega)
      obtain ⟨p1, p2, p3, p4⟩ := pp_ok hB f a o i r e1 hi
      rw [e1]
      by_cases hb1 : r.1 = true
      · have := p4 ha hb1
        obtain ⟨t, e2⟩ := ih b o r.2.1 p2 hb9 (by have : rkw b = 0 := if_neg (by omega); omega)
        exact ⟨(t.1, t.2.1, r.2.2 ++ t.2.2), by simp only [Option.bind_some]; rw [if_pos hb1, e2]; rfl⟩
      · exact ⟨r, by simp only [Option.bind_some]; rw [if_neg hb1]⟩
    have lop : ∀ (a b : Nat) (v x : Int32), a ≤ 5 → 6 ≤ b → b ≤ 9 → ck B i = v → ¬ v = 0 → ¬ v = 2 → ∃ res, (pp B f a o (men B i)).bind (fun r => if r.1 = true then (pp B f b o r.2.1).bind (fun t => some (t.1, t.2.1, r.2.2 ++ x :: t.2.2)) else some r) = some res := by
      intro a b v x ha hb hb9 hv h0 h2
      obtain ⟨m1, m2⟩ := men_g hB hi hv h0 h2
      have hra : rkw a ≤ 5 := by unfold rkw; split <;> omega
      obtain ⟨r, e1⟩ := ih a o (men B i) m2 (by omega) (by omega)
      obtain ⟨p1, p2, p3, p4⟩ := pp_ok hB f a o (men B i) r e1 m2
      rw [e1]
      by_cases hb1 : r.1 = true
      · have := p4 ha hb1
        obtain ⟨t, e2⟩ := ih b o r.2.1 p2 hb9 (by have : rkw b = 0 := if_neg (by omega); omega)
        exact ⟨(t.1, t.2.1, r.2.2 ++ x :: t.2.2), by simp only [Option.bind_some]; rw [if_pos hb1, e2]; rfl⟩
      · exact ⟨r, by simp only [Option.bind_some]; rw [if_neg hb1]⟩
    have sub : ∀ (a o2 : Nat) (v : Int32), a ≤ 5 → ck B i = v → ¬ v = 0 → ¬ v = 2 → ∃ r, pp B f a o2 (men B i) = some r := by
      intro a o2 v ha hv h0 h2
      obtain ⟨m1, m2⟩ := men_g hB hi hv h0 h2
      have hra : rkw a ≤ 5 := by unfold rkw; split <;> omega
      exact ih a o2 (men B i) m2 (by omega) (by omega)
    match w, hw, hf, two with
    | 0, _, _, two => simp only [pp]; exact two 1 6 (by decide) (by decide) (by decide) (by decide)
    | 1, _, _, two => simp only [pp]; exact two 2 7 (by decide) (by decide) (by decide) (by decide)
    | 3, _, _, two => simp only [pp]; exact two 4 8 (by decide) (by decide) (by decide) (by decide)
    | 4, _, _, two => simp only [pp]; exact two 5 9 (by decide) (by decide) (by decide) (by decide)
    | 6, _, _, _ =>
      simp only [pp]
      by_cases hc : ck B i = 6
      · rw [if_pos hc]; exact lop 1 6 6 _ (by decide) (by decide) (by decide) hc (by decide) (by decide)
      · rw [if_neg hc]; exact ⟨_, rfl⟩
    | 7, _, _, _ =>
      simp only [pp]
      by_cases hc : ck B i = 7
      · rw [if_pos hc]; exact lop 2 7 7 _ (by decide) (by decide) (by decide) hc (by decide) (by decide)
      · rw [if_neg hc]; exact ⟨_, rfl⟩
    | 8, _, _, _ =>
      simp only [pp]
      by_cases hc : ck B i = 43 ∨ ck B i = 45
      · rw [if_pos hc]
        rcases hc with hc | hc
        · exact lop 4 8 43 _ (by decide) (by decide) (by decide) hc (by decide) (by decide)
        · exact lop 4 8 45 _ (by decide) (by decide) (by decide) hc (by decide) (by decide)
      · rw [if_neg hc]; exact ⟨_, rfl⟩
    | 9, _, _, _ =>
      simp only [pp]
      by_cases hc : ck B i = 42
      · rw [if_pos hc]; exact lop 5 9 42 _ (by decide) (by decide) (by decide) hc (by decide) (by decide)
      · rw [if_neg hc]; exact ⟨_, rfl⟩
    | 2, _, hf, _ =>
      simp only [pp]
      by_cases hc : ck B i = 8
      · rw [if_pos hc]
        by_cases ho : 5 ≤ o
        · rw [if_pos ho]; exact ⟨_, rfl⟩
        · rw [if_neg ho]
          obtain ⟨r, e⟩ := sub 2 (o + 1) 8 (by decide) hc (by decide) (by decide)
          rw [e]
          simp only [Option.bind_some]
          split
          · exact ⟨_, rfl⟩
          · exact ⟨_, rfl⟩
      · rw [if_neg hc]
        obtain ⟨r, e1⟩ := ih 3 o i hi (by decide) (by have : rkw 2 = 3 := rfl; have : rkw 3 = 2 := rfl; omega)
        obtain ⟨p1, p2, p3, p4⟩ := pp_ok hB f 3 o i r e1 hi
        rw [e1]
        simp only [Option.bind_some]
        by_cases hb : r.1 = true
        · rw [if_pos hb]
          have p5 := p4 (by decide) hb
          by_cases hq : ck B r.2.1 = 60 ∨ ck B r.2.1 = 61
          · rw [if_pos hq]
            have hm : r.2.1 < men B r.2.1 ∧ men B r.2.1 ≤ n := by
              rcases hq with hq | hq
              · exact men_g hB p2 hq (by decide) (by decide)
              · exact men_g hB p2 hq (by decide) (by decide)
            obtain ⟨t, e2⟩ := ih 3 o (men B r.2.1) hm.2 (by decide) (by have : rkw 2 = 3 := rfl; have : rkw 3 = 2 := rfl; omega)
            rw [e2]
            simp only [Option.bind_some]
            split
            · exact ⟨_, rfl⟩
            · exact ⟨_, rfl⟩
          · rw [if_neg hq]; exact ⟨_, rfl⟩
        · rw [if_neg hb]; exact ⟨_, rfl⟩
    | 5, _, _, _ =>
      simp only [pp]
      by_cases h1 : ck B i = 1
      · rw [if_pos h1]; exact ⟨_, rfl⟩
      rw [if_neg h1]
      by_cases h9 : 9 ≤ ck B i ∧ ck B i ≤ 14 ∧ mkd B i = 1
      · rw [if_pos h9]; exact ⟨_, rfl⟩
      rw [if_neg h9]
      by_cases ho : 5 ≤ o
      · rw [if_pos ho]; exact ⟨_, rfl⟩
      rw [if_neg ho]
      by_cases h45 : ck B i = 45
      · rw [if_pos h45]
        obtain ⟨r, e⟩ := sub 5 (o + 1) 45 (by decide) h45 (by decide) (by decide)
        rw [e]
        simp only [Option.bind_some]
        split
        · exact ⟨_, rfl⟩
        · exact ⟨_, rfl⟩
      rw [if_neg h45]
      by_cases h40 : ck B i = 40
      · rw [if_pos h40]
        obtain ⟨r, e⟩ := sub 0 (o + 1) 40 (by decide) h40 (by decide) (by decide)
        rw [e]
        simp only [Option.bind_some]
        split
        · split
          · exact ⟨_, rfl⟩
          · exact ⟨_, rfl⟩
        · exact ⟨_, rfl⟩
      rw [if_neg h40]
      exact ⟨_, rfl⟩
    | w + 10, hw, _, _ => omega
theorem prt_ex {B : Nat → Int32} {n : Nat} (hB : ∀ k, n ≤ k → B k = -1) (hn : n ≤ 160) (k : Int32) (h0 : ¬ k = 0) (h2 : ¬ k = 2) (i : Nat) (hi : i ≤ n) : ∃ res, prt B 1200 k i = some res ∧ i ≤ res.2.1 ∧ res.2.1 ≤ n ∧ (res.1 = true → res.2.2.length ≤ res.2.1 - i ∧ i < res.2.1) := by
  unfold prt
  by_cases hk : ck B i = k
  · rw [if_pos hk]
    obtain ⟨m1, m2⟩ := men_g hB hi hk h0 h2
    obtain ⟨r, e⟩ := pp_ex hB 1200 0 0 (men B i) m2 (by decide) (by have : rkw 0 = 5 := rfl; omega)
    obtain ⟨p1, p2, p3, p4⟩ := pp_ok hB 1200 0 0 (men B i) r e m2
    rw [e]
    simp only [Option.bind_some]
    by_cases hb : r.1 = true
    · rw [if_pos hb]
      by_cases hs : ck B r.2.1 = 59
      · rw [if_pos hs]
        obtain ⟨k1, k2⟩ := men_g hB p2 hs (by decide) (by decide)
        exact ⟨_, rfl, by show i ≤ men B r.2.1; omega, k2, fun _ => ⟨by show r.2.2.length ≤ men B r.2.1 - i; omega, by show i < men B r.2.1; omega⟩⟩
      · rw [if_neg hs]
        exact ⟨_, rfl, by show i ≤ r.2.1; omega, p2, fun z => absurd z (by simp)⟩
    · rw [if_neg hb]
      exact ⟨_, rfl, by omega, p2, fun z => absurd z hb⟩
  · rw [if_neg hk]
    exact ⟨_, rfl, Nat.le_refl _, hi, fun z => absurd z (by simp)⟩
theorem txt_ex {B : Nat → Int32} {n : Nat} (hB : ∀ k, n ≤ k → B k = -1) (hn : n ≤ 160) : ∃ res, txt B 1200 = some res := by
  obtain ⟨r0, e0, p1, p2, p3⟩ := prt_ex hB hn 3 (by decide) (by decide) 0 (Nat.zero_le _)
  unfold txt
  rw [e0]
  simp only [Option.bind_some]
  by_cases hb : r0.1 = true
  · rw [if_pos hb]
    obtain ⟨r1, e1, q1, q2, q3⟩ := prt_ex hB hn 4 (by decide) (by decide) r0.2.1 p2
    rw [e1]
    simp only [Option.bind_some]
    by_cases hb1 : r1.1 = true
    · rw [if_pos hb1]
      obtain ⟨r2, e2, s1, s2, s3⟩ := prt_ex hB hn 5 (by decide) (by decide) r1.2.1 q2
      rw [e2]
      simp only [Option.bind_some]
      split
      · exact ⟨_, rfl⟩
      · exact ⟨_, rfl⟩
    · rw [if_neg hb1]; exact ⟨_, rfl⟩
  · rw [if_neg hb]; exact ⟨_, rfl⟩
