theorem AW.sub {E : ag} {M : am} {d bc bs pc : Nat} {ls : List (Option Value)} {st : List Value} {ws ws2 : va_W} {post : Option Value → va_W → Prop} (is : List Nat) (hnd : va_nd is = true) (h : is.map (fun i => ws[i]?) = ws2.map some) (k : AW E M d bc bs pc ls st ws2 post) : AW E M d bc bs pc ls st ws post := by
  intro p l e s m args below meth c H locs cells slots mc ms A la X hl hP hD hS hbc hbs
  refine k p l e s m args below meth c H locs cells slots mc ms A la X hl (fun j q hj => ?_) (hD.sub is hnd h) hS hbc hbs
  have h1 : (is.map (fun i => ws[i]?))[j]? = some (some q) := by rw [h, List.getElem?_map, hj]; rfl
  rw [List.getElem?_map] at h1
  cases hi : is[j]? with
  | none => rw [hi] at h1; cases h1
  | some i => rw [hi] at h1; exact hP i q (by simpa using h1)
/-! SHEETS: behind the class's cells two for each sheet that was made: its object, its row -/
abbrev SE : Type := Nat × Nat × Int32 × Nat × (Nat → Int32)
def sho (e : SE) : Nat × va_E := (e.1, .inr (3, [.int e.2.2.1, .ref e.2.1]))
def shr (E : ag) (e : SE) : Nat × va_E := (e.2.1, .inl (E.2.1 0, e.2.2.2.1, .inl e.2.2.2.2))
def shl (E : ag) : List SE → va_W
  | [] => []
  | e :: T => sho e :: shr E e :: shl E T
theorem shl_len {E : ag} : ∀ T : List SE, (shl E T).length = 2 * T.length := by
  intro T
  induction T with
  | nil => rfl
  | cons e T ih => simp only [shl, List.length_cons, ih]; omega
theorem shl_at0 {E : ag} : ∀ {T : List SE} {i : Nat} {e : SE}, T[i]? = some e → (shl E T)[2 * i]? = some (sho e) := by
  intro T
  induction T with
  | nil => intro i e h; cases h
  | cons x T ih =>
    intro i e h
    cases i with
    | zero => cases h; rfl
    | succ i => rw [show 2 * (i + 1) = 2 * i + 1 + 1 by omega]; exact ih h
theorem shl_at1 {E : ag} : ∀ {T : List SE} {i : Nat} {e : SE}, T[i]? = some e → (shl E T)[2 * i + 1]? = some (shr E e) := by
  intro T
  induction T with
  | nil => intro i e h; cases h
  | cons x T ih =>
    intro i e h
    cases i with
    | zero => cases h; rfl
    | succ i => rw [show 2 * (i + 1) + 1 = 2 * i + 1 + 1 + 1 by omega]; exact ih h
theorem shl_set {E : ag} : ∀ {T : List SE} {i : Nat} {e e2 : SE}, T[i]? = some e → sho e2 = sho e → (shl E T).set (2 * i + 1) (shr E e2) = shl E (T.set i e2) := by
  intro T
  induction T with
  | nil => intro i e e2 h; cases h
  | cons x T ih =>
    intro i e e2 h h0
    cases i with
    | zero => cases h; show _ = sho e2 :: shr E e2 :: shl E T; rw [h0]; rfl
    | succ i =>
      rw [show 2 * (i + 1) + 1 = 2 * i + 1 + 1 + 1 by omega]
      show sho x :: shr E x :: (shl E T).set (2 * i + 1) (shr E e2) = sho x :: shr E x :: shl E (T.set i e2)
      rw [ih h h0]
theorem shl_app {E : ag} {e : SE} : ∀ T : List SE, shl E (T ++ [e]) = shl E T ++ [sho e, shr E e] := by
  intro T
  induction T with
  | nil => rfl
  | cons x T ih => show sho x :: shr E x :: shl E (T ++ [e]) = _; rw [ih]; rfl
theorem wK_spl {E : ag} {kq : Nat} {cg : Nat → Int32} {qf : Nat → Nat} {gf : Nat → Int32} {af : Nat → Nat → Int32} {qd : Nat → Nat} {gd : Nat → Int32} {ad : Nat → Nat → Int32} {qk : Nat → Nat} {gk : Nat → Int32} {ak : Nat → Nat → Int32} {ql : Nat → Nat} {gl : Nat → Int32} {al : Nat → Nat → Int32} {qr : Nat → Nat} {gr : Nat → Int32} {ar : Nat → Nat → Int32} {rx : Nat} {qm : Nat} {qx : Nat → Nat → Nat} {gx : Nat → Nat → Int32} {ax : Nat → Nat → Nat → Int32} {qs : Nat} {sx : Nat → Option Nat} {qo : Nat → Nat} {go : Nat → Int32} {ao : Nat → Nat → Int32} {qp : Nat → Nat} {gp_ : Nat → Int32} {ap : Nat → Nat → Int32} {L : va_W} : wK E kq cg qf gf af qd gd ad qk gk ak ql gl al qr gr ar rx qm qx gx ax qs sx qo go ao qp gp_ ap L = wK E kq cg qf gf af qd gd ad qk gk ak ql gl al qr gr ar rx qm qx gx ax qs sx qo go ao qp gp_ ap [] ++ L := by
  simp only [wK, cF, cL, cR, cT, cO, List.cons_append, List.nil_append, List.append_nil, List.append_assoc]
theorem wK_len0 {E : ag} {kq : Nat} {cg : Nat → Int32} {qf : Nat → Nat} {gf : Nat → Int32} {af : Nat → Nat → Int32} {qd : Nat → Nat} {gd : Nat → Int32} {ad : Nat → Nat → Int32} {qk : Nat → Nat} {gk : Nat → Int32} {ak : Nat → Nat → Int32} {ql : Nat → Nat} {gl : Nat → Int32} {al : Nat → Nat → Int32} {qr : Nat → Nat} {gr : Nat → Int32} {ar : Nat → Nat → Int32} {rx : Nat} {qm : Nat} {qx : Nat → Nat → Nat} {gx : Nat → Nat → Int32} {ax : Nat → Nat → Nat → Int32} {qs : Nat} {sx : Nat → Option Nat} {qo : Nat → Nat} {go : Nat → Int32} {ao : Nat → Nat → Int32} {qp : Nat → Nat} {gp_ : Nat → Int32} {ap : Nat → Nat → Int32} : (wK E kq cg qf gf af qd gd ad qk gk ak ql gl al qr gr ar rx qm qx gx ax qs sx qo go ao qp gp_ ap []).length = 49 := rfl
theorem wK_L {E : ag} {kq : Nat} {cg : Nat → Int32} {qf : Nat → Nat} {gf : Nat → Int32} {af : Nat → Nat → Int32} {qd : Nat → Nat} {gd : Nat → Int32} {ad : Nat → Nat → Int32} {qk : Nat → Nat} {gk : Nat → Int32} {ak : Nat → Nat → Int32} {ql : Nat → Nat} {gl : Nat → Int32} {al : Nat → Nat → Int32} {qr : Nat → Nat} {gr : Nat → Int32} {ar : Nat → Nat → Int32} {rx : Nat} {qm : Nat} {qx : Nat → Nat → Nat} {gx : Nat → Nat → Int32} {ax : Nat → Nat → Nat → Int32} {qs : Nat} {sx : Nat → Option Nat} {qo : Nat → Nat} {go : Nat → Int32} {ao : Nat → Nat → Int32} {qp : Nat → Nat} {gp_ : Nat → Int32} {ap : Nat → Nat → Int32} {L : va_W} (j : Nat) : (wK E kq cg qf gf af qd gd ad qk gk ak ql gl al qr gr ar rx qm qx gx ax qs sx qo go ao qp gp_ ap L)[49 + j]? = L[j]? := by
  rw [wK_spl, List.getElem?_append_right (by rw [wK_len0]; omega), wK_len0, show 49 + j - 49 = j by omega]
theorem wK_Ls {E : ag} {kq : Nat} {cg : Nat → Int32} {qf : Nat → Nat} {gf : Nat → Int32} {af : Nat → Nat → Int32} {qd : Nat → Nat} {gd : Nat → Int32} {ad : Nat → Nat → Int32} {qk : Nat → Nat} {gk : Nat → Int32} {ak : Nat → Nat → Int32} {ql : Nat → Nat} {gl : Nat → Int32} {al : Nat → Nat → Int32} {qr : Nat → Nat} {gr : Nat → Int32} {ar : Nat → Nat → Int32} {rx : Nat} {qm : Nat} {qx : Nat → Nat → Nat} {gx : Nat → Nat → Int32} {ax : Nat → Nat → Nat → Int32} {qs : Nat} {sx : Nat → Option Nat} {qo : Nat → Nat} {go : Nat → Int32} {ao : Nat → Nat → Int32} {qp : Nat → Nat} {gp_ : Nat → Int32} {ap : Nat → Nat → Int32} {L : va_W} (j : Nat) (x : Nat × va_E) : (wK E kq cg qf gf af qd gd ad qk gk ak ql gl al qr gr ar rx qm qx gx ax qs sx qo go ao qp gp_ ap L).set (49 + j) x = wK E kq cg qf gf af qd gd ad qk gk ak ql gl al qr gr ar rx qm qx gx ax qs sx qo go ao qp gp_ ap (L.set j x) := by
  rw [wK_spl, List.set_append_right _ _ (by rw [wK_len0]; omega), wK_len0, show 49 + j - 49 = j by omega]
  exact wK_spl.symm
theorem wK_La {E : ag} {kq : Nat} {cg : Nat → Int32} {qf : Nat → Nat} {gf : Nat → Int32} {af : Nat → Nat → Int32} {qd : Nat → Nat} {gd : Nat → Int32} {ad : Nat → Nat → Int32} {qk : Nat → Nat} {gk : Nat → Int32} {ak : Nat → Nat → Int32} {ql : Nat → Nat} {gl : Nat → Int32} {al : Nat → Nat → Int32} {qr : Nat → Nat} {gr : Nat → Int32} {ar : Nat → Nat → Int32} {rx : Nat} {qm : Nat} {qx : Nat → Nat → Nat} {gx : Nat → Nat → Int32} {ax : Nat → Nat → Nat → Int32} {qs : Nat} {sx : Nat → Option Nat} {qo : Nat → Nat} {go : Nat → Int32} {ao : Nat → Nat → Int32} {qp : Nat → Nat} {gp_ : Nat → Int32} {ap : Nat → Nat → Int32} {L : va_W} (X : va_W) : wK E kq cg qf gf af qd gd ad qk gk ak ql gl al qr gr ar rx qm qx gx ax qs sx qo go ao qp gp_ ap L ++ X = wK E kq cg qf gf af qd gd ad qk gk ak ql gl al qr gr ar rx qm qx gx ax qs sx qo go ao qp gp_ ap (L ++ X) := by
  rw [wK_spl, List.append_assoc]
  exact wK_spl.symm
theorem wK_e0 {E : ag} {kq : Nat} {cg : Nat → Int32} {qf : Nat → Nat} {gf : Nat → Int32} {af : Nat → Nat → Int32} {qd : Nat → Nat} {gd : Nat → Int32} {ad : Nat → Nat → Int32} {qk : Nat → Nat} {gk : Nat → Int32} {ak : Nat → Nat → Int32} {ql : Nat → Nat} {gl : Nat → Int32} {al : Nat → Nat → Int32} {qr : Nat → Nat} {gr : Nat → Int32} {ar : Nat → Nat → Int32} {rx : Nat} {qm : Nat} {qx : Nat → Nat → Nat} {gx : Nat → Nat → Int32} {ax : Nat → Nat → Nat → Int32} {qs : Nat} {sx : Nat → Option Nat} {qo : Nat → Nat} {go : Nat → Int32} {ao : Nat → Nat → Int32} {qp : Nat → Nat} {gp_ : Nat → Int32} {ap : Nat → Nat → Int32} {T : List SE} {i a b : Nat} {k : Int32} {N : Nat} {f : Nat → Int32} (h : T[i]? = some (a, b, k, N, f)) : (wK E kq cg qf gf af qd gd ad qk gk ak ql gl al qr gr ar rx qm qx gx ax qs sx qo go ao qp gp_ ap (shl E T))[49 + 2 * i]? = some (a, .inr (3, [.int k, .ref b])) := by
  rw [wK_L, shl_at0 h]; rfl
theorem wK_e1 {E : ag} {kq : Nat} {cg : Nat → Int32} {qf : Nat → Nat} {gf : Nat → Int32} {af : Nat → Nat → Int32} {qd : Nat → Nat} {gd : Nat → Int32} {ad : Nat → Nat → Int32} {qk : Nat → Nat} {gk : Nat → Int32} {ak : Nat → Nat → Int32} {ql : Nat → Nat} {gl : Nat → Int32} {al : Nat → Nat → Int32} {qr : Nat → Nat} {gr : Nat → Int32} {ar : Nat → Nat → Int32} {rx : Nat} {qm : Nat} {qx : Nat → Nat → Nat} {gx : Nat → Nat → Int32} {ax : Nat → Nat → Nat → Int32} {qs : Nat} {sx : Nat → Option Nat} {qo : Nat → Nat} {go : Nat → Int32} {ao : Nat → Nat → Int32} {qp : Nat → Nat} {gp_ : Nat → Int32} {ap : Nat → Nat → Int32} {T : List SE} {i a b : Nat} {k : Int32} {N : Nat} {f : Nat → Int32} (h : T[i]? = some (a, b, k, N, f)) : (wK E kq cg qf gf af qd gd ad qk gk ak ql gl al qr gr ar rx qm qx gx ax qs sx qo go ao qp gp_ ap (shl E T))[49 + (2 * i + 1)]? = some (b, .inl (E.2.1 0, N, .inl f)) := by
  rw [wK_L, shl_at1 h]; rfl
theorem wK_e1s {E : ag} {kq : Nat} {cg : Nat → Int32} {qf : Nat → Nat} {gf : Nat → Int32} {af : Nat → Nat → Int32} {qd : Nat → Nat} {gd : Nat → Int32} {ad : Nat → Nat → Int32} {qk : Nat → Nat} {gk : Nat → Int32} {ak : Nat → Nat → Int32} {ql : Nat → Nat} {gl : Nat → Int32} {al : Nat → Nat → Int32} {qr : Nat → Nat} {gr : Nat → Int32} {ar : Nat → Nat → Int32} {rx : Nat} {qm : Nat} {qx : Nat → Nat → Nat} {gx : Nat → Nat → Int32} {ax : Nat → Nat → Nat → Int32} {qs : Nat} {sx : Nat → Option Nat} {qo : Nat → Nat} {go : Nat → Int32} {ao : Nat → Nat → Int32} {qp : Nat → Nat} {gp_ : Nat → Int32} {ap : Nat → Nat → Int32} {T : List SE} {i a b : Nat} {k : Int32} {N : Nat} {f : Nat → Int32} (h : T[i]? = some (a, b, k, N, f)) (f2 : Nat → Int32) : (wK E kq cg qf gf af qd gd ad qk gk ak ql gl al qr gr ar rx qm qx gx ax qs sx qo go ao qp gp_ ap (shl E T)).set (49 + (2 * i + 1)) (b, .inl (E.2.1 0, N, .inl f2)) = wK E kq cg qf gf af qd gd ad qk gk ak ql gl al qr gr ar rx qm qx gx ax qs sx qo go ao qp gp_ ap (shl E (T.set i (a, b, k, N, f2))) := by
  rw [wK_Ls]
  exact congrArg (fun z => wK E kq cg qf gf af qd gd ad qk gk ak ql gl al qr gr ar rx qm qx gx ax qs sx qo go ao qp gp_ ap z) (shl_set (e2 := (a, b, k, N, f2)) h rfl)
theorem wK_new {E : ag} {kq : Nat} {cg : Nat → Int32} {qf : Nat → Nat} {gf : Nat → Int32} {af : Nat → Nat → Int32} {qd : Nat → Nat} {gd : Nat → Int32} {ad : Nat → Nat → Int32} {qk : Nat → Nat} {gk : Nat → Int32} {ak : Nat → Nat → Int32} {ql : Nat → Nat} {gl : Nat → Int32} {al : Nat → Nat → Int32} {qr : Nat → Nat} {gr : Nat → Int32} {ar : Nat → Nat → Int32} {rx : Nat} {qm : Nat} {qx : Nat → Nat → Nat} {gx : Nat → Nat → Int32} {ax : Nat → Nat → Nat → Int32} {qs : Nat} {sx : Nat → Option Nat} {qo : Nat → Nat} {go : Nat → Int32} {ao : Nat → Nat → Int32} {qp : Nat → Nat} {gp_ : Nat → Int32} {ap : Nat → Nat → Int32} {T : List SE} {x : Nat × va_E} : (wK E kq cg qf gf af qd gd ad qk gk ak ql gl al qr gr ar rx qm qx gx ax qs sx qo go ao qp gp_ ap (shl E T) ++ [x])[49 + 2 * T.length]? = some x := by
  rw [wK_La, wK_L, ← shl_len (E := E), List.getElem?_append_right (Nat.le_refl _), Nat.sub_self]
  rfl
theorem wK_mk {E : ag} {kq : Nat} {cg : Nat → Int32} {qf : Nat → Nat} {gf : Nat → Int32} {af : Nat → Nat → Int32} {qd : Nat → Nat} {gd : Nat → Int32} {ad : Nat → Nat → Int32} {qk : Nat → Nat} {gk : Nat → Int32} {ak : Nat → Nat → Int32} {ql : Nat → Nat} {gl : Nat → Int32} {al : Nat → Nat → Int32} {qr : Nat → Nat} {gr : Nat → Int32} {ar : Nat → Nat → Int32} {rx : Nat} {qm : Nat} {qx : Nat → Nat → Nat} {gx : Nat → Nat → Int32} {ax : Nat → Nat → Nat → Int32} {qs : Nat} {sx : Nat → Option Nat} {qo : Nat → Nat} {go : Nat → Int32} {ao : Nat → Nat → Int32} {qp : Nat → Nat} {gp_ : Nat → Int32} {ap : Nat → Nat → Int32} {T : List SE} {x : Nat × va_E} {e : SE} : mrg (wK E kq cg qf gf af qd gd ad qk gk ak ql gl al qr gr ar rx qm qx gx ax qs sx qo go ao qp gp_ ap (shl E T) ++ [x]) [49 + 2 * T.length] [sho e, shr E e] = wK E kq cg qf gf af qd gd ad qk gk ak ql gl al qr gr ar rx qm qx gx ax qs sx qo go ao qp gp_ ap (shl E (T ++ [e])) := by
  show (wK E kq cg qf gf af qd gd ad qk gk ak ql gl al qr gr ar rx qm qx gx ax qs sx qo go ao qp gp_ ap (shl E T) ++ [x]).set (49 + 2 * T.length) (sho e) ++ [shr E e] = _
  rw [wK_La, wK_Ls, ← shl_len (E := E), List.set_append_right _ _ (Nat.le_refl _), Nat.sub_self, wK_La, shl_app]
  rw [List.append_assoc]
  rfl
set_option maxRecDepth 100000 in
set_option maxHeartbeats 400000 in
theorem s_has (E : ag) (ws : va_W) (q0 q1 a b : Nat) (k : Int32) (N : Nat) (f : Nat → Int32) (he0 : ws[q0]? = some (a, .inr (3, [.int k, .ref b]))) (he1 : ws[q1]? = some (b, .inl (E.2.1 0, N, .inl f))) (i n : Int32) : CT E yX3_has cX3_has 3 mX3_has.2.2.2.1 1 0 0 [.ref a, .int i, .int n] (ws) (ri (fun r w => r = (if i < 0 ∨ n < 0 ∨ nI N - i < n then 0 else 1) ∧ w = ws)) := by
  refine CT.of (M := mX3_has) (ls := [some (.ref a), some (.int i), some (.int n)]) (by decide) rfl (by decide) rfl (Nat.le_of_ble_eq_true rfl) ?_
  refine A_iload_n (dX3_has 0 rfl) rfl ?_
  refine A_if_lt 23 (dX3_has 1 rfl) (by decide) (fun h1 => ?_) (fun h1 => ?_)
  · refine A_iconst (0) (dX3_has 13 rfl) (by decide +kernel) ?_
    refine A_ri (dX3_has 14 rfl) rfl (by decide) ?_
    first
      | exact ⟨(if_pos (Or.inl h1)).symm, rfl⟩
      | exact ⟨(if_pos (Or.inr (Or.inl h5))).symm, rfl⟩
      | exact ⟨(if_pos (Or.inr (Or.inr h16))).symm, rfl⟩
      | exact ⟨(if_neg (fun z => z.elim h1 (fun z => z.elim h5 h16))).symm, rfl⟩
  · refine A_iload_n (dX3_has 2 rfl) rfl ?_
    refine A_if_lt 23 (dX3_has 3 rfl) (by decide) (fun h5 => ?_) (fun h5 => ?_)
    · refine A_iconst (0) (dX3_has 13 rfl) (by decide +kernel) ?_
      refine A_ri (dX3_has 14 rfl) rfl (by decide) ?_
      first
        | exact ⟨(if_pos (Or.inl h1)).symm, rfl⟩
        | exact ⟨(if_pos (Or.inr (Or.inl h5))).symm, rfl⟩
        | exact ⟨(if_pos (Or.inr (Or.inr h16))).symm, rfl⟩
        | exact ⟨(if_neg (fun z => z.elim h1 (fun z => z.elim h5 h16))).symm, rfl⟩
    · refine A_iload_n (dX3_has 4 rfl) rfl ?_
      refine A_aload_n (dX3_has 5 rfl) rfl ?_
      refine A_get (dX3_has 6 rfl) fwX3_15 he0 rfl ?_
      refine A_alen _ (dX3_has 7 rfl) he1 rfl ?_
      refine A_iload_n (dX3_has 8 rfl) rfl ?_
      refine A_isub (dX3_has 9 rfl) ?_
      refine A_icmp_gt 23 (dX3_has 10 rfl) (by decide) (fun h16 => ?_) (fun h16 => ?_)
      · refine A_iconst (0) (dX3_has 13 rfl) (by decide +kernel) ?_
        refine A_ri (dX3_has 14 rfl) rfl (by decide) ?_
        first
          | exact ⟨(if_pos (Or.inl h1)).symm, rfl⟩
          | exact ⟨(if_pos (Or.inr (Or.inl h5))).symm, rfl⟩
          | exact ⟨(if_pos (Or.inr (Or.inr h16))).symm, rfl⟩
          | exact ⟨(if_neg (fun z => z.elim h1 (fun z => z.elim h5 h16))).symm, rfl⟩
      · refine A_iconst (1) (dX3_has 11 rfl) (by decide +kernel) ?_
        refine A_goto 24 (dX3_has 12 rfl) (by decide) ?_
        refine A_ri (dX3_has 14 rfl) rfl (by decide) ?_
        first
          | exact ⟨(if_pos (Or.inl h1)).symm, rfl⟩
          | exact ⟨(if_pos (Or.inr (Or.inl h5))).symm, rfl⟩
          | exact ⟨(if_pos (Or.inr (Or.inr h16))).symm, rfl⟩
          | exact ⟨(if_neg (fun z => z.elim h1 (fun z => z.elim h5 h16))).symm, rfl⟩

theorem le_n1 {i : Int32} {N : Nat} (hN : N ≤ 40) : i < nI N ↔ i ≤ nI N - 1 := by
  have e : ∀ N, N ≤ 40 → (nI N - 1).toInt = (N : Int) - 1 := by decide +kernel
  rw [Int32.lt_iff_toInt_lt, Int32.le_iff_toInt_le, e N hN, nI_toInt (by omega)]
  omega
set_option maxRecDepth 100000 in
set_option maxHeartbeats 400000 in
theorem s_put (E : ag) (ws : va_W) (q0 q1 a b : Nat) (k : Int32) (N : Nat) (f : Nat → Int32) (he0 : ws[q0]? = some (a, .inr (3, [.int k, .ref b]))) (he1 : ws[q1]? = some (b, .inl (E.2.1 0, N, .inl f))) (hN : N ≤ 40) (i v : Int32) : CT E yX3_put cX3_put 3 mX3_put.2.2.2.1 1 0 0 [.ref a, .int i, .int v] (ws) (ri (fun r w => (inI i 0 (nI N - 1) = 0 ∧ r = 0 ∧ w = ws) ∨ (∃ j, j < N ∧ i = nI j ∧ r = 1 ∧ w = ws.set q1 (b, .inl (E.2.1 0, N, .inl (upd f j (narS k v))))))) := by
  refine CT.of (M := mX3_put) (ls := [some (.ref a), some (.int i), some (.int v)]) (by decide) rfl (by decide) rfl (Nat.le_of_ble_eq_true rfl) ?_
  refine A_iload_n (dX3_put 0 rfl) rfl ?_
  refine A_if_lt 13 (dX3_put 1 rfl) (by decide) (fun h1 => ?_) (fun h1 => ?_)
  · refine A_iconst (0) (dX3_put 7 rfl) (by decide +kernel) ?_
    refine A_ri (dX3_put 8 rfl) rfl (by decide) ?_
    refine Or.inl ⟨?_, rfl, rfl⟩
    first
      | exact inI_lo (fun z => absurd z (Int32.not_le.mpr h1))
      | exact inI_hi (fun z => h10 ((le_n1 hN).mpr z))
  · refine A_iload_n (dX3_put 2 rfl) rfl ?_
    refine A_aload_n (dX3_put 3 rfl) rfl ?_
    refine A_get (dX3_put 4 rfl) fwX3_15 he0 rfl ?_
    refine A_alen _ (dX3_put 5 rfl) he1 rfl ?_
    refine A_icmp_lt 15 (dX3_put 6 rfl) (by decide) (fun h10 => ?_) (fun h10 => ?_)
    · obtain ⟨j, hj, rfl⟩ := item_nI hN (show ¬ inI i 0 (nI N - 1) = 0 by rw [inI_of (Int32.not_lt.mp h1) ((le_n1 hN).mp h10)]; decide)
      refine A_aload_n (dX3_put 9 rfl) rfl ?_
      refine A_get (dX3_put 10 rfl) fwX3_15 he0 rfl ?_
      refine A_iload_n (dX3_put 11 rfl) rfl ?_
      refine A_aload_n (dX3_put 12 rfl) rfl ?_
      refine A_get (dX3_put 13 rfl) fwX3_9 he0 rfl ?_
      refine A_if_ne 32 (dX3_put 14 rfl) (by decide) (fun h24 => ?_) (fun h24 => ?_)
      · refine A_aload_n (dX3_put 18 rfl) rfl ?_
        refine A_get (dX3_put 19 rfl) fwX3_9 he0 rfl ?_
        refine A_iconst (1) (dX3_put 20 rfl) (by decide +kernel) ?_
        refine A_icmp_ne 45 (dX3_put 21 rfl) (by decide) (fun h37 => ?_) (fun h37 => ?_)
        · refine A_iload_n (dX3_put 25 rfl) rfl ?_
          refine A_iast (dX3_put 26 rfl) he1 (vp_in_nI (n := j) hj (by omega)) (Eq.refl _) ?_
          refine A_iconst (1) (dX3_put 27 rfl) (by decide +kernel) ?_
          refine A_ri (dX3_put 28 rfl) rfl (by decide) ?_
          refine Or.inr ⟨j, hj, rfl, rfl, ?_⟩
          rw [nI_clamp (n := j) (by omega)]
          first
            | rw [narS0 h24]
            | rw [narS1 h24 h37]
            | rw [narS2 h24 h37]
        · refine A_iload_n (dX3_put 22 rfl) rfl ?_
          refine A_i2s (dX3_put 23 rfl) ?_
          refine A_goto 46 (dX3_put 24 rfl) (by decide) ?_
          refine A_iast (dX3_put 26 rfl) he1 (vp_in_nI (n := j) hj (by omega)) (Eq.refl _) ?_
          refine A_iconst (1) (dX3_put 27 rfl) (by decide +kernel) ?_
          refine A_ri (dX3_put 28 rfl) rfl (by decide) ?_
          refine Or.inr ⟨j, hj, rfl, rfl, ?_⟩
          rw [nI_clamp (n := j) (by omega)]
          first
            | rw [narS0 h24]
            | rw [narS1 h24 h37]
            | rw [narS2 h24 h37]
      · refine A_iload_n (dX3_put 15 rfl) rfl ?_
        refine A_i2b (dX3_put 16 rfl) ?_
        refine A_goto 46 (dX3_put 17 rfl) (by decide) ?_
        refine A_iast (dX3_put 26 rfl) he1 (vp_in_nI (n := j) hj (by omega)) (Eq.refl _) ?_
        refine A_iconst (1) (dX3_put 27 rfl) (by decide +kernel) ?_
        refine A_ri (dX3_put 28 rfl) rfl (by decide) ?_
        refine Or.inr ⟨j, hj, rfl, rfl, ?_⟩
        rw [nI_clamp (n := j) (by omega)]
        first
          | rw [narS0 h24]
          | rw [narS1 h24 h37]
          | rw [narS2 h24 h37]
    · refine A_iconst (0) (dX3_put 7 rfl) (by decide +kernel) ?_
      refine A_ri (dX3_put 8 rfl) rfl (by decide) ?_
      refine Or.inl ⟨?_, rfl, rfl⟩
      first
        | exact inI_lo (fun z => absurd z (Int32.not_le.mpr h1))
        | exact inI_hi (fun z => h10 ((le_n1 hN).mpr z))

set_option maxRecDepth 100000 in
set_option maxHeartbeats 400000 in
theorem s_init (E : ag) (a : Nat) (k : Int32) (N : Nat) (hN : N ≤ 40) : CT E yX3_init cX3_init 3 mX3_init.2.2.2.1 2 1 40 [.ref a, .int k, .int (nI N)] [(a, .inr (3, [.int 0, .null]))] (rv (fun w => ∃ b : Nat, w = [sho (a, b, k, N, fun _ => 0), shr E (a, b, k, N, fun _ => 0)])) := by
  refine CT.of (M := mX3_init) (ls := [some (.ref a), some (.int k), some (.int (nI N))]) (by decide) rfl (by decide) rfl (Nat.le_of_ble_eq_true rfl) ?_
  refine A_aload_n (dX3_init 0 rfl) rfl ?_
  refine A_objInit (dX3_init 1 rfl) oiX3_3 (Nat.le_of_ble_eq_true rfl) (Nat.le_of_ble_eq_true rfl) ?_
  refine A_aload_n (dX3_init 2 rfl) rfl ?_
  refine A_iload_n (dX3_init 3 rfl) rfl ?_
  refine A_putF (q0 := 0) (ws2 := [(a, .inr (3, [.int k, .null]))]) (dX3_init 4 rfl) fwX3_9 fcX3 ftX3_0 rfl rfl (by first | rfl | decide) rfl (Nat.le_of_ble_eq_true rfl) rfl ?_
  refine A_aload_n (dX3_init 5 rfl) rfl ?_
  refine A_iload_n (dX3_init 6 rfl) rfl ?_
  refine A_newi N (dX3_init 7 rfl) (nI_pos (by omega)) (nI_clamp (by omega)) (by omega) kaI (Nat.le_of_ble_eq_true rfl) (by omega) (fun b => ?_)
  refine AW.world (ws2 := [(a, .inr (3, [.int k, .null])), (b, .inl (E.2.1 0, N, .inl (fun _ => 0)))]) rfl ?_
  refine AW.pcq (pc2 := 13) rfl ?_
  refine A_putF (q0 := 0) (ws2 := [(a, .inr (3, [.int k, .ref b])), (b, .inl (E.2.1 0, N, .inl (fun _ => 0)))]) (dX3_init 8 rfl) fwX3_15 fcX3 ftX3_1 rfl rfl (by first | rfl | decide) rfl (Nat.le_of_ble_eq_true rfl) rfl ?_
  refine A_rv (dX3_init 9 rfl) rfl ?_
  exact ⟨b, rfl⟩

