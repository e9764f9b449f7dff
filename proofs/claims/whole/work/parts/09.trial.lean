/-! worlds that differ beyond their rows' lengths alone are the same -/
def wcell (e : va_E) : Cell ⊕ (Nat × List Value) := match e with
  | .inl x => .inl (vp_cell x.1 x.2)
  | .inr x => .inr x
def wq (w w2 : va_W) : Prop := w.map (fun x => (x.1, wcell x.2)) = w2.map (fun x => (x.1, wcell x.2))
theorem wq_at {w w2 : va_W} (h : wq w w2) {k : Nat} {x : Nat × va_E} (hx : w2[k]? = some x) : ∃ y, w[k]? = some y ∧ y.1 = x.1 ∧ wcell y.2 = wcell x.2 := by
  have h1 : (w2.map (fun x => (x.1, wcell x.2)))[k]? = some (x.1, wcell x.2) := by rw [List.getElem?_map, hx]; rfl
  rw [← h, List.getElem?_map] at h1
  cases hw : w[k]? with
  | none => rw [hw] at h1; cases h1
  | some y =>
    rw [hw] at h1
    have h2 := Option.some.inj h1
    exact ⟨y, rfl, (Prod.mk.inj h2).1, (Prod.mk.inj h2).2⟩
theorem wq_P {E : ag} {w w2 : va_W} (h : wq w w2) {H : Heap} (hP : va_P E.1 vwCl w H) : va_P E.1 vwCl w2 H := by
  intro k x hx
  obtain ⟨y, h1, h2, h3⟩ := wq_at h hx
  have h4 := hP k y h1
  obtain ⟨a, e⟩ := x
  obtain ⟨b, f⟩ := y
  simp only at h2
  subst h2
  unfold va_at at h4 ⊢
  cases e with
  | inl u =>
    cases f with
    | inl v => simp only [wcell, Sum.inl.injEq] at h3; simp only at h4 ⊢; rw [← h3]; exact h4
    | inr v => simp [wcell] at h3
  | inr u =>
    cases f with
    | inl v => simp [wcell] at h3
    | inr v => simp only [wcell, Sum.inr.injEq] at h3; subst h3; exact h4
theorem wq_D {A : Nat → Prop} {w w2 : va_W} (h : wq w w2) (hD : va_D A w) : va_D A w2 := by
  refine ⟨fun i j x y hx hy hxy => ?_, fun k x hx => ?_⟩
  · obtain ⟨u, h1, h2, -⟩ := wq_at h hx
    obtain ⟨v, h3, h4, -⟩ := wq_at h hy
    exact hD.1 i j u v h1 h3 (by rw [h2, h4, hxy])
  · obtain ⟨u, h1, h2, -⟩ := wq_at h hx
    rw [← h2]
    exact hD.2 k u h1
theorem AW.ext {E : ag} {M : am} {d bc bs pc : Nat} {ls : List (Option Value)} {st : List Value} {ws ws2 : va_W} {post : Option Value → va_W → Prop} (h : wq ws ws2) (k : AW E M d bc bs pc ls st ws2 post) : AW E M d bc bs pc ls st ws post := by
  intro p l e s m args below meth c H locs cells slots mc ms A la X hl hP hD hS hbc hbs
  exact k p l e s m args below meth c H locs cells slots mc ms A la X hl (wq_P h hP) (wq_D h hD) hS hbc hbs
theorem vp_cell_q1 {cA : ClassId} {n : Nat} {f f2 : Nat → Int32} (h : ∀ k, k < n → f k = f2 k) : vp_cell cA (n, .inl f) = vp_cell cA (n, .inl f2) := by
  rw [vp_cell_i, vp_cell_i]
  unfold arrV
  congr 1
  apply Array.ext
  · simp
  · intro i h1 h2
    simp at h1
    simp [h i h1]
def mLen (i : Nat) : Nat := [0, 960, 6, 160, 12, 12, 5, 5, 5, 5, 12, 12, 5, 5, 5, 5, 12, 12, 5, 5, 5, 4, 4, 4, 160].getD i 0
theorem MW_q {E : ag} {q : Nat → Nat} {g : Nat → Int32} {tw : Int64} {a a2 : Nat → Nat → Int32} (h : ∀ i k, k < mLen i → a i k = a2 i k) : wq (MW E q g tw a) (MW E q g tw a2) := by
  unfold wq MW
  simp only [List.map_cons, List.map_nil, wcell]
  rw [vp_cell_q1 (n := 960) (fun k hk => h 1 k hk), vp_cell_q1 (n := 6) (fun k hk => h 2 k hk), vp_cell_q1 (n := 160) (fun k hk => h 3 k hk), vp_cell_q1 (n := 12) (fun k hk => h 4 k hk), vp_cell_q1 (n := 12) (fun k hk => h 5 k hk), vp_cell_q1 (n := 5) (fun k hk => h 6 k hk), vp_cell_q1 (n := 5) (fun k hk => h 7 k hk), vp_cell_q1 (n := 5) (fun k hk => h 8 k hk), vp_cell_q1 (n := 5) (fun k hk => h 9 k hk), vp_cell_q1 (n := 12) (fun k hk => h 10 k hk), vp_cell_q1 (n := 12) (fun k hk => h 11 k hk), vp_cell_q1 (n := 5) (fun k hk => h 12 k hk), vp_cell_q1 (n := 5) (fun k hk => h 13 k hk), vp_cell_q1 (n := 5) (fun k hk => h 14 k hk), vp_cell_q1 (n := 5) (fun k hk => h 15 k hk), vp_cell_q1 (n := 12) (fun k hk => h 16 k hk), vp_cell_q1 (n := 12) (fun k hk => h 17 k hk), vp_cell_q1 (n := 5) (fun k hk => h 18 k hk), vp_cell_q1 (n := 5) (fun k hk => h 19 k hk), vp_cell_q1 (n := 5) (fun k hk => h 20 k hk), vp_cell_q1 (n := 4) (fun k hk => h 21 k hk), vp_cell_q1 (n := 4) (fun k hk => h 22 k hk), vp_cell_q1 (n := 4) (fun k hk => h 23 k hk), vp_cell_q1 (n := 160) (fun k hk => h 24 k hk)]
theorem up_q {a a2 : Nat → Nat → Int32} {j : Nat} {f f2 : Nat → Int32} (h : ∀ i k, k < mLen i → a i k = a2 i k) (hf : ∀ k, k < mLen j → f k = f2 k) : ∀ i k, k < mLen i → va_up a j f i k = va_up a2 j f2 i k := by
  intro i k hk
  by_cases hj : i = j
  · subst hj; simp [va_up, hf k hk]
  · simp [va_up, hj, h i k hk]
def cp (n : Nat) (f h : Nat → Int32) : Nat → Int32 := fun k => if k < n then f k else h k
theorem cp_0 (f h : Nat → Int32) : cp 0 f h = h := by funext k; simp [cp]
theorem cp_s (n : Nat) (f h : Nat → Int32) : upd (cp n f h) n (f n) = cp (n + 1) f h := by
  funext k
  simp only [upd, cp]
  by_cases hk : k = n
  · subst hk; simp
  · by_cases h2 : k < n
    · simp [hk, h2, Nat.lt_succ_of_lt h2]
    · have : ¬ k < n + 1 := by omega
      simp [hk, h2, this]
theorem cp_in {n : Nat} {f h : Nat → Int32} {k : Nat} (hk : k < n) : cp n f h k = f k := by simp [cp, hk]
theorem up_same {α : Type} (a : Nat → α) (i : Nat) : va_up a i (a i) = a := by funext k; simp only [va_up]; split <;> simp_all
theorem nIlit (n : Nat) : (OfNat.ofNat n : Int32) = nI n := rfl

set_option maxRecDepth 100000 in
set_option maxHeartbeats 400000 in
theorem m_comes (E : ag) (q : Nat → Nat) (g : Nat → Int32) (tw : Int64) (a : Nat → Nat → Int32) (x y : Int32) (hx : vp_in x 5) (hy : vp_in y 5) : CT E yX6_comes cX6_comes 3 mX6_comes.2.2.2.1 1 0 0 [.ref (q 0), .int x, .int y] (MW E q g tw a) (rv (fun w => w = MW E q g tw (va_up (va_up (va_up (va_up a 6 (upd (a 6) x.toNatClampNeg (a 12 y.toNatClampNeg))) 7 (upd (a 7) x.toNatClampNeg (a 13 y.toNatClampNeg))) 8 (upd (a 8) x.toNatClampNeg (a 14 y.toNatClampNeg))) 9 (upd (a 9) x.toNatClampNeg (a 15 y.toNatClampNeg))))) := by
  refine CT.of (M := mX6_comes) (ls := [some (.ref (q 0)), some (.int x), some (.int y)]) (by decide) rfl (by decide) rfl (Nat.le_of_ble_eq_true rfl) ?_
  refine A_aload_n (dX6_comes 0 rfl) rfl ?_
  refine A_get (dX6_comes 1 rfl) fwX6_29 MW_0 MF_9 ?_
  refine A_iload_n (dX6_comes 2 rfl) rfl ?_
  refine A_aload_n (dX6_comes 3 rfl) rfl ?_
  refine A_get (dX6_comes 4 rfl) fwX6_50 MW_0 MF_39 ?_
  refine A_iload_n (dX6_comes 5 rfl) rfl ?_
  refine A_iald (dX6_comes 6 rfl) MW_12 (by assumption) ?_
  refine A_iast (dX6_comes 7 rfl) MW_6 (by assumption) (MS_6 _) ?_
  refine AW.pcq (pc2 := 12) rfl ?_
  refine A_aload_n (dX6_comes 8 rfl) rfl ?_
  refine A_get (dX6_comes 9 rfl) fwX6_32 MW_0 MF_10 ?_
  refine A_iload_n (dX6_comes 10 rfl) rfl ?_
  refine A_aload_n (dX6_comes 11 rfl) rfl ?_
  refine A_get (dX6_comes 12 rfl) fwX6_53 MW_0 MF_40 ?_
  refine A_iload_n (dX6_comes 13 rfl) rfl ?_
  refine A_iald (dX6_comes 14 rfl) MW_13 (by assumption) ?_
  refine A_iast (dX6_comes 15 rfl) MW_7 (by assumption) (MS_7 _) ?_
  refine AW.pcq (pc2 := 24) rfl ?_
  refine A_aload_n (dX6_comes 16 rfl) rfl ?_
  refine A_get (dX6_comes 17 rfl) fwX6_35 MW_0 MF_11 ?_
  refine A_iload_n (dX6_comes 18 rfl) rfl ?_
  refine A_aload_n (dX6_comes 19 rfl) rfl ?_
  refine A_get (dX6_comes 20 rfl) fwX6_56 MW_0 MF_41 ?_
  refine A_iload_n (dX6_comes 21 rfl) rfl ?_
  refine A_iald (dX6_comes 22 rfl) MW_14 (by assumption) ?_
  refine A_iast (dX6_comes 23 rfl) MW_8 (by assumption) (MS_8 _) ?_
  refine AW.pcq (pc2 := 36) rfl ?_
  refine A_aload_n (dX6_comes 24 rfl) rfl ?_
  refine A_get (dX6_comes 25 rfl) fwX6_38 MW_0 MF_12 ?_
  refine A_iload_n (dX6_comes 26 rfl) rfl ?_
  refine A_aload_n (dX6_comes 27 rfl) rfl ?_
  refine A_get (dX6_comes 28 rfl) fwX6_59 MW_0 MF_42 ?_
  refine A_iload_n (dX6_comes 29 rfl) rfl ?_
  refine A_iald (dX6_comes 30 rfl) MW_15 (by assumption) ?_
  refine A_iast (dX6_comes 31 rfl) MW_9 (by assumption) (MS_9 _) ?_
  refine AW.pcq (pc2 := 48) rfl ?_
  refine A_rv (dX6_comes 32 rfl) rfl ?_
  exact rfl

set_option maxRecDepth 100000 in
set_option maxHeartbeats 400000 in
theorem m_aside2 (E : ag) (q : Nat → Nat) (g : Nat → Int32) (tw : Int64) (a : Nat → Nat → Int32) : ∀ (n c : Nat), c + n = 5 → AW E mX6_laysAside 1 0 0 40 [some (.ref (q 0)), some (.int (nI c))] [] (MW E q g tw (va_up (va_up (va_up (va_up a 12 (cp c (a 6) (a 12))) 13 (cp c (a 7) (a 13))) 14 (cp c (a 8) (a 14))) 15 (cp c (a 9) (a 15)))) (rv (fun w => w = MW E q (upd (upd (upd (upd (upd (upd g 43 (g 13)) 44 (g 14)) 45 (g 15)) 46 (g 16)) 35 0) 36 0) tw (va_up (va_up (va_up (va_up a 12 (a 6)) 13 (a 7)) 14 (a 8)) 15 (a 9)))) := by
  intro n
  induction n with
  | zero =>
    intro c hc
    obtain rfl : c = 5 := by omega
    refine A_iload_n (dX6_laysAside 25 rfl) rfl ?_
    refine A_iconst (5) (dX6_laysAside 26 rfl) (by decide +kernel) ?_
    refine A_icmp_ge 99 (dX6_laysAside 27 rfl) (by decide) (fun h42 => ?_) (fun h42 => absurd (show (5 : Int32) ≤ nI 5 by decide) h42)
    refine AW.ext (MW_q (a2 := (va_up (va_up (va_up (va_up a 12 (a 6)) 13 (a 7)) 14 (a 8)) 15 (a 9))) (up_q (up_q (up_q (up_q (fun _ _ _ => rfl) (fun k hk => cp_in (n := 5) hk)) (fun k hk => cp_in (n := 5) hk)) (fun k hk => cp_in (n := 5) hk)) (fun k hk => cp_in (n := 5) hk))) ?_
    refine A_aload_n (dX6_laysAside 62 rfl) rfl ?_
    refine A_aload_n (dX6_laysAside 63 rfl) rfl ?_
    refine A_get (dX6_laysAside 64 rfl) fwX6_100 MW_0 MF_13 ?_
    refine A_put (dX6_laysAside 65 rfl) fwX6_315 fcX6 ftX6_43 MW_0 rfl rfl ML_0 (MP_43 _) ?_
    refine A_aload_n (dX6_laysAside 66 rfl) rfl ?_
    refine A_aload_n (dX6_laysAside 67 rfl) rfl ?_
    refine A_get (dX6_laysAside 68 rfl) fwX6_41 MW_0 MF_14 ?_
    refine A_put (dX6_laysAside 69 rfl) fwX6_318 fcX6 ftX6_44 MW_0 rfl rfl ML_0 (MP_44 _) ?_
    refine AW.pcq (pc2 := 115) rfl ?_
    refine A_aload_n (dX6_laysAside 70 rfl) rfl ?_
    refine A_aload_n (dX6_laysAside 71 rfl) rfl ?_
    refine A_get (dX6_laysAside 72 rfl) fwX6_142 MW_0 MF_15 ?_
    refine A_put (dX6_laysAside 73 rfl) fwX6_321 fcX6 ftX6_45 MW_0 rfl rfl ML_0 (MP_45 _) ?_
    refine A_aload_n (dX6_laysAside 74 rfl) rfl ?_
    refine A_aload_n (dX6_laysAside 75 rfl) rfl ?_
    refine A_get (dX6_laysAside 76 rfl) fwX6_305 MW_0 MF_16 ?_
    refine A_put (dX6_laysAside 77 rfl) fwX6_324 fcX6 ftX6_46 MW_0 rfl rfl ML_0 (MP_46 _) ?_
    refine AW.pcq (pc2 := 131) rfl ?_
    refine A_aload_n (dX6_laysAside 78 rfl) rfl ?_
    refine A_iconst (0) (dX6_laysAside 79 rfl) (by decide +kernel) ?_
    refine A_put (dX6_laysAside 80 rfl) fwX6_295 fcX6 ftX6_35 MW_0 rfl rfl ML_0 (MP_35 _) ?_
    refine A_aload_n (dX6_laysAside 81 rfl) rfl ?_
    refine A_iconst (0) (dX6_laysAside 82 rfl) (by decide +kernel) ?_
    refine A_put (dX6_laysAside 83 rfl) fwX6_298 fcX6 ftX6_36 MW_0 rfl rfl ML_0 (MP_36 _) ?_
    refine A_rv (dX6_laysAside 84 rfl) rfl ?_
    exact rfl
  | succ n ih =>
    intro c hc
    have hlt : c < 5 := by omega
    refine A_iload_n (dX6_laysAside 25 rfl) rfl ?_
    refine A_iconst (5) (dX6_laysAside 26 rfl) (by decide +kernel) ?_
    refine A_icmp_ge 99 (dX6_laysAside 27 rfl) (by decide) (fun h42 => absurd h42 (nI_ge (a := c) (b := 5) hlt (by decide))) (fun h42 => ?_)
    refine A_aload_n (dX6_laysAside 28 rfl) rfl ?_
    refine A_get (dX6_laysAside 29 rfl) fwX6_50 MW_0 MF_39 ?_
    refine A_iload_n (dX6_laysAside 30 rfl) rfl ?_
    refine A_aload_n (dX6_laysAside 31 rfl) rfl ?_
    refine A_get (dX6_laysAside 32 rfl) fwX6_29 MW_0 MF_9 ?_
    refine AW.pcq (pc2 := 54) rfl ?_
    refine A_iload_n (dX6_laysAside 33 rfl) rfl ?_
    refine A_iald (dX6_laysAside 34 rfl) MW_6 (vp_in_nI hlt (by decide)) ?_
    refine A_iast (dX6_laysAside 35 rfl) MW_12 (vp_in_nI hlt (by decide)) (MS_12 _) ?_
    refine A_aload_n (dX6_laysAside 36 rfl) rfl ?_
    refine A_get (dX6_laysAside 37 rfl) fwX6_53 MW_0 MF_40 ?_
    refine A_iload_n (dX6_laysAside 38 rfl) rfl ?_
    refine A_aload_n (dX6_laysAside 39 rfl) rfl ?_
    refine A_get (dX6_laysAside 40 rfl) fwX6_32 MW_0 MF_10 ?_
    refine AW.pcq (pc2 := 66) rfl ?_
    refine A_iload_n (dX6_laysAside 41 rfl) rfl ?_
    refine A_iald (dX6_laysAside 42 rfl) MW_7 (vp_in_nI hlt (by decide)) ?_
    refine A_iast (dX6_laysAside 43 rfl) MW_13 (vp_in_nI hlt (by decide)) (MS_13 _) ?_
    refine A_aload_n (dX6_laysAside 44 rfl) rfl ?_
    refine A_get (dX6_laysAside 45 rfl) fwX6_56 MW_0 MF_41 ?_
    refine A_iload_n (dX6_laysAside 46 rfl) rfl ?_
    refine A_aload_n (dX6_laysAside 47 rfl) rfl ?_
    refine A_get (dX6_laysAside 48 rfl) fwX6_35 MW_0 MF_11 ?_
    refine AW.pcq (pc2 := 78) rfl ?_
    refine A_iload_n (dX6_laysAside 49 rfl) rfl ?_
    refine A_iald (dX6_laysAside 50 rfl) MW_8 (vp_in_nI hlt (by decide)) ?_
    refine A_iast (dX6_laysAside 51 rfl) MW_14 (vp_in_nI hlt (by decide)) (MS_14 _) ?_
    refine A_aload_n (dX6_laysAside 52 rfl) rfl ?_
    refine A_get (dX6_laysAside 53 rfl) fwX6_59 MW_0 MF_42 ?_
    refine A_iload_n (dX6_laysAside 54 rfl) rfl ?_
    refine A_aload_n (dX6_laysAside 55 rfl) rfl ?_
    refine A_get (dX6_laysAside 56 rfl) fwX6_38 MW_0 MF_12 ?_
    refine AW.pcq (pc2 := 90) rfl ?_
    refine A_iload_n (dX6_laysAside 57 rfl) rfl ?_
    refine A_iald (dX6_laysAside 58 rfl) MW_9 (vp_in_nI hlt (by decide)) ?_
    refine A_iast (dX6_laysAside 59 rfl) MW_15 (vp_in_nI hlt (by decide)) (MS_15 _) ?_
    refine A_iinc (ls2 := [_, _]) (nI (c + 1)) (dX6_laysAside 60 rfl) rfl (nI_1 c) (by decide) rfl rfl ?_
    refine A_goto 40 (dX6_laysAside 61 rfl) (by decide) ?_
    rw [nI_clamp (by omega)]
    refine AW.world (ws2 := MW E q g tw (va_up (va_up (va_up (va_up a 12 (cp (c + 1) (a 6) (a 12))) 13 (cp (c + 1) (a 7) (a 13))) 14 (cp (c + 1) (a 8) (a 14))) 15 (cp (c + 1) (a 9) (a 15)))) ?_ (ih (c + 1) (by omega))
    refine congrArg (MW E q g tw) ?_
    funext i
    by_cases e12 : i = 12 <;> by_cases e13 : i = 13 <;> by_cases e14 : i = 14 <;> by_cases e15 : i = 15 <;> simp_all [va_up, cp_s]

set_option maxRecDepth 100000 in
set_option maxHeartbeats 400000 in
theorem m_aside1 (E : ag) (q : Nat → Nat) (g : Nat → Int32) (tw : Int64) (a : Nat → Nat → Int32) : ∀ (n c : Nat), c + n = 12 → AW E mX6_laysAside 1 0 0 2 [some (.ref (q 0)), some (.int (nI c))] [] (MW E q g tw (va_up (va_up a 10 (cp c (a 4) (a 10))) 11 (cp c (a 5) (a 11)))) (rv (fun w => w = MW E q (upd (upd (upd (upd (upd (upd g 43 (g 13)) 44 (g 14)) 45 (g 15)) 46 (g 16)) 35 0) 36 0) tw (va_up (va_up (va_up (va_up (va_up (va_up a 10 (a 4)) 11 (a 5)) 12 (a 6)) 13 (a 7)) 14 (a 8)) 15 (a 9)))) := by
  intro n
  induction n with
  | zero =>
    intro c hc
    obtain rfl : c = 12 := by omega
    refine A_iload_n (dX6_laysAside 2 rfl) rfl ?_
    refine A_bipush (12) (dX6_laysAside 3 rfl) (by decide +kernel) ?_
    refine A_icmp_ge 38 (dX6_laysAside 4 rfl) (by decide) (fun h5 => ?_) (fun h5 => absurd (show (12 : Int32) ≤ nI 12 by decide) h5)
    refine AW.ext (MW_q (a2 := (va_up (va_up a 10 (a 4)) 11 (a 5))) (up_q (up_q (fun _ _ _ => rfl) (fun k hk => cp_in (n := 12) hk)) (fun k hk => cp_in (n := 12) hk))) ?_
    refine A_iconst (0) (dX6_laysAside 23 rfl) (by decide +kernel) ?_
    refine A_istore_n (ls2 := [_, _]) (dX6_laysAside 24 rfl) (by decide) rfl rfl ?_
    have h9 := m_aside2 E q g tw (va_up (va_up a 10 (a 4)) 11 (a 5)) 5 0 rfl
    simp only [cp_0, up_same] at h9
    exact h9
  | succ n ih =>
    intro c hc
    have hlt : c < 12 := by omega
    refine A_iload_n (dX6_laysAside 2 rfl) rfl ?_
    refine A_bipush (12) (dX6_laysAside 3 rfl) (by decide +kernel) ?_
    refine A_icmp_ge 38 (dX6_laysAside 4 rfl) (by decide) (fun h5 => absurd h5 (nI_ge (a := c) (b := 12) hlt (by decide))) (fun h5 => ?_)
    refine A_aload_n (dX6_laysAside 5 rfl) rfl ?_
    refine A_get (dX6_laysAside 6 rfl) fwX6_44 MW_0 MF_37 ?_
    refine A_iload_n (dX6_laysAside 7 rfl) rfl ?_
    refine A_aload_n (dX6_laysAside 8 rfl) rfl ?_
    refine A_get (dX6_laysAside 9 rfl) fwX6_23 MW_0 MF_7 ?_
    refine AW.pcq (pc2 := 17) rfl ?_
    refine A_iload_n (dX6_laysAside 10 rfl) rfl ?_
    refine A_iald (dX6_laysAside 11 rfl) MW_4 (vp_in_nI hlt (by decide)) ?_
    refine A_iast (dX6_laysAside 12 rfl) MW_10 (vp_in_nI hlt (by decide)) (MS_10 _) ?_
    refine A_aload_n (dX6_laysAside 13 rfl) rfl ?_
    refine A_get (dX6_laysAside 14 rfl) fwX6_47 MW_0 MF_38 ?_
    refine A_iload_n (dX6_laysAside 15 rfl) rfl ?_
    refine A_aload_n (dX6_laysAside 16 rfl) rfl ?_
    refine A_get (dX6_laysAside 17 rfl) fwX6_26 MW_0 MF_8 ?_
    refine AW.pcq (pc2 := 29) rfl ?_
    refine A_iload_n (dX6_laysAside 18 rfl) rfl ?_
    refine A_iald (dX6_laysAside 19 rfl) MW_5 (vp_in_nI hlt (by decide)) ?_
    refine A_iast (dX6_laysAside 20 rfl) MW_11 (vp_in_nI hlt (by decide)) (MS_11 _) ?_
    refine A_iinc (ls2 := [_, _]) (nI (c + 1)) (dX6_laysAside 21 rfl) rfl (nI_1 c) (by decide) rfl rfl ?_
    refine A_goto 2 (dX6_laysAside 22 rfl) (by decide) ?_
    rw [nI_clamp (by omega)]
    refine AW.world (ws2 := MW E q g tw (va_up (va_up a 10 (cp (c + 1) (a 4) (a 10))) 11 (cp (c + 1) (a 5) (a 11)))) ?_ (ih (c + 1) (by omega))
    refine congrArg (MW E q g tw) ?_
    funext i
    by_cases e10 : i = 10 <;> by_cases e11 : i = 11 <;> simp_all [va_up, cp_s]

