def ck (B : Nat → Int32) (i : Nat) : Int32 := if mkd B i = 0 then 0 else if mkd B i = 2 then 1 else if mkd B i = 3 then B (lst B i) else if mkd B i = 1 then wcode B (lst B i) (men B i) else 2
def cv (B : Nat → Int32) (i : Nat) : Int32 := (dv64 B (lst B i) (dgp B 161 (lst B i) - lst B i)).toInt32
/-- the grammar: what is read (0 either, 1 both, 2 denied, 3 sum, 4 term, 5 one; 6 to 9 what goes on behind an operand), how many stand unclosed, where; answers: whether it fits, where it ends (or fails), its steps -/
def pp (B : Nat → Int32) : Nat → Nat → Nat → Nat → Option (Bool × Nat × List Int32)
  | 0, _, _, _ => none
  | f + 1, 0, o, i => (pp B f 1 o i).bind (fun r => if r.1 = true then (pp B f 6 o r.2.1).bind (fun t => some (t.1, t.2.1, r.2.2 ++ t.2.2)) else some r)
  | f + 1, 6, o, i => if ck B i = 6 then (pp B f 1 o (men B i)).bind (fun r => if r.1 = true then (pp B f 6 o r.2.1).bind (fun t => some (t.1, t.2.1, r.2.2 ++ (-15) :: t.2.2)) else some r) else some (true, i, [])
  | f + 1, 1, o, i => (pp B f 2 o i).bind (fun r => if r.1 = true then (pp B f 7 o r.2.1).bind (fun t => some (t.1, t.2.1, r.2.2 ++ t.2.2)) else some r)
  | f + 1, 7, o, i => if ck B i = 7 then (pp B f 2 o (men B i)).bind (fun r => if r.1 = true then (pp B f 7 o r.2.1).bind (fun t => some (t.1, t.2.1, r.2.2 ++ (-14) :: t.2.2)) else some r) else some (true, i, [])
  | f + 1, 2, o, i => if ck B i = 8 then (if 5 ≤ o then some (false, i, []) else (pp B f 2 (o + 1) (men B i)).bind (fun r => if r.1 = true then some (true, r.2.1, r.2.2 ++ [-8]) else some r)) else (pp B f 3 o i).bind (fun r => if r.1 = true then (if ck B r.2.1 = 60 ∨ ck B r.2.1 = 61 then (pp B f 3 o (men B r.2.1)).bind (fun t => if t.1 = true then some (true, t.2.1, r.2.2 ++ t.2.2 ++ [if ck B r.2.1 = 60 then -12 else -13]) else some t) else some r) else some r)
  | f + 1, 3, o, i => (pp B f 4 o i).bind (fun r => if r.1 = true then (pp B f 8 o r.2.1).bind (fun t => some (t.1, t.2.1, r.2.2 ++ t.2.2)) else some r)
  | f + 1, 8, o, i => if ck B i = 43 ∨ ck B i = 45 then (pp B f 4 o (men B i)).bind (fun r => if r.1 = true then (pp B f 8 o r.2.1).bind (fun t => some (t.1, t.2.1, r.2.2 ++ (if ck B i = 43 then -9 else -10) :: t.2.2)) else some r) else some (true, i, [])
  | f + 1, 4, o, i => (pp B f 5 o i).bind (fun r => if r.1 = true then (pp B f 9 o r.2.1).bind (fun t => some (t.1, t.2.1, r.2.2 ++ t.2.2)) else some r)
  | f + 1, 9, o, i => if ck B i = 42 then (pp B f 5 o (men B i)).bind (fun r => if r.1 = true then (pp B f 9 o r.2.1).bind (fun t => some (t.1, t.2.1, r.2.2 ++ (-11) :: t.2.2)) else some r) else some (true, i, [])
  | f + 1, _, o, i => if ck B i = 1 then some (true, men B i, [cv B i]) else if 9 ≤ ck B i ∧ ck B i ≤ 14 ∧ mkd B i = 1 then some (true, men B i, [8 - ck B i]) else if 5 ≤ o then some (false, i, []) else if ck B i = 45 then (pp B f 5 (o + 1) (men B i)).bind (fun r => if r.1 = true then some (true, r.2.1, r.2.2 ++ [-7]) else some r) else if ck B i = 40 then (pp B f 0 (o + 1) (men B i)).bind (fun r => if r.1 = true then (if ck B r.2.1 = 41 then some (true, men B r.2.1, r.2.2) else some (false, r.2.1, r.2.2)) else some r) else some (false, i, [])
/-- what a step does to a stack -/
def ev1 (e : Nat → Int32) (s : Int32) (st : List Int32) : List Int32 :=
  if -6 ≤ s then (if 0 ≤ s then s else e (-1 - s).toNatClampNeg) :: st
  else if s = -7 then (match st with | x :: r => -x :: r | [] => [])
  else if s = -8 then (match st with | x :: r => (if x = 0 then 1 else 0) :: r | [] => [])
  else (match st with | y :: x :: r => (if s = -9 then x + y else if s = -10 then x - y else if s = -11 then x * y else if s = -12 then (if x < y then 1 else 0) else if s = -13 then (if x = y then 1 else 0) else if s = -14 then (if x ≠ 0 ∧ y ≠ 0 then 1 else 0) else (if x ≠ 0 ∨ y ≠ 0 then 1 else 0)) :: r | r => r)
def evs (e : Nat → Int32) : List Int32 → List Int32 → List Int32
  | [], st => st
  | s :: c, st => evs e c (ev1 e s st)
theorem evs_app (e : Nat → Int32) : ∀ (c d st : List Int32), evs e (c ++ d) st = evs e d (evs e c st) := by
  intro c
  induction c with
  | nil => intro d st; rfl
  | cons s c ih => intro d st; exact ih d _
/-- the reference's reader stands at the token that is looked for from i on, o unclosed, no fault -/
def PM (B : Nat → Int32) (n : Nat) (g : Nat → Int32) (tw : Int64) (o i : Nat) : Prop := g 25 = nI (men B i) ∧ g 26 = mkd B i ∧ g 27 = nI (lst B i) ∧ (mkd B i = 2 → tw = dv64 B (lst B i) (dgp B 161 (lst B i) - lst B i)) ∧ (mkd B i = 3 → tw = (B (lst B i)).toInt64) ∧ g 29 = nI o ∧ g 30 = 0 ∧ i ≤ n
def KP (g g2 : Nat → Int32) : Prop := ∀ k, ¬ (25 ≤ k ∧ k ≤ 31) → g2 k = g k
theorem KP.rf {g : Nat → Int32} : KP g g := fun _ _ => rfl
theorem KP.tr {g h k : Nat → Int32} (a : KP g h) (b : KP h k) : KP g k := fun j hj => (b j hj).trans (a j hj)
theorem KP.up {g h : Nat → Int32} (a : KP g h) {j : Nat} (hj : 25 ≤ j ∧ j ≤ 31) {v : Int32} : KP g (upd h j v) := fun k hk => by
  simp only [upd]
  rw [if_neg (fun z => hk (by rw [z]; exact hj))]
  exact a k hk
theorem KP.nx {B : Nat → Int32} {g h : Nat → Int32} (a : KP g h) {i : Nat} : KP g (nxg B h i) := ((a.up (by decide)).up (by decide)).up (by decide)
theorem KP.tx {a : Nat → Nat → Int32} {fr n : Nat} {B : Nat → Int32} {g h : Nat → Int32} (k : KP g h) (hT : TXC g a fr n B) : TXC h a fr n B := by
  obtain ⟨e1, e2, r⟩ := hT
  exact ⟨(k 23 (by decide)).trans e1, (k 24 (by decide)).trans e2, r⟩
def ME (g : Nat → Int32) : Nat → Int32 := fun k => if k < 6 then g (17 + k) else 0
theorem KP.me {g g2 : Nat → Int32} (h : KP g g2) : ME g2 = ME g := by
  funext k
  simp only [ME]
  split
  · exact h (17 + k) (by omega)
  · rfl
def RM (E : ag) (q : Nat → Nat) (a : Nat → Nat → Int32) (n : Nat) (B : Nat → Int32) (g : Nat → Int32) (o : Nat) (res : Bool × Nat × List Int32) (pre : List Int32) (r : Int32) (w : va_W) : Prop :=
  ∃ (g2 : Nat → Int32) (tw2 : Int64), w = MW E q g2 tw2 a ∧ KP g g2 ∧ (res.1 = true → PM B n g2 tw2 o res.2.1 ∧ ∀ st, evs (ME g) res.2.2 (pre ++ st) = r :: st) ∧ (res.1 = false → g2 30 = 1 ∧ g2 31 = nI (lst B res.2.1))
theorem lst_le {a : Nat → Nat → Int32} {fr n : Nat} {B : Nat → Int32} {g : Nat → Int32} (hT : TXC g a fr n B) {i : Nat} (hi : i ≤ n) : lst B i ≤ n ∧ i ≤ lst B i := ⟨(skp_le hT.2.2.2.2.2.1 161 i hi).2, (skp_le hT.2.2.2.2.2.1 161 i hi).1⟩
theorem men_le {a : Nat → Nat → Int32} {fr n : Nat} {B : Nat → Int32} {g : Nat → Int32} (hT : TXC g a fr n B) {i : Nat} (hi : i ≤ n) : men B i ≤ n ∧ lst B i ≤ men B i := by
  obtain ⟨h1, h2⟩ := lst_le hT hi
  have hw := wdp_le hT.2.2.2.2.2.1 161 _ h1
  have hd := dgp_le hT.2.2.2.2.2.1 161 _ h1
  unfold men
  split
  · exact ⟨h1, Nat.le_refl _⟩
  · rename_i hneg
    split
    · exact ⟨hw.2, hw.1⟩
    · split
      · exact ⟨hd.2, hd.1⟩
      · split
        · have : lst B i < n := by
            rcases Nat.lt_or_ge (lst B i) n with z | z
            · exact z
            · rw [hT.2.2.2.2.2.1 _ z] at hneg; exact absurd (by decide) hneg
          omega
        · exact ⟨h1, Nat.le_refl _⟩
theorem PM_nx {a : Nat → Nat → Int32} {fr n : Nat} {B : Nat → Int32} {g0 g : Nat → Int32} {tw : Int64} {o i : Nat} (hT : TXC g0 a fr n B) (hi : i ≤ n) (h29 : g 29 = nI o) (h30 : g 30 = 0) : PM B n (nxg B g (men B i)) (mtw B tw (men B i)) o (men B i) := by
  refine ⟨rfl, rfl, rfl, fun h => ?_, fun h => ?_, h29, h30, (men_le hT hi).1⟩
  · unfold mtw
    unfold mkd at h
    split at h
    · exact absurd h (by decide)
    · rename_i h1
      rw [if_neg h1]
      split at h
      · exact absurd h (by decide)
      · rename_i h2
        rw [if_neg h2]
        split at h
        · rename_i h3; rw [if_pos h3]
        · split at h
          · exact absurd h (by decide)
          · exact absurd h (by decide)
  · unfold mtw
    unfold mkd at h
    split at h
    · exact absurd h (by decide)
    · rename_i h1
      rw [if_neg h1]
      split at h
      · exact absurd h (by decide)
      · rename_i h2
        rw [if_neg h2]
        split at h
        · split at h
          · exact absurd h (by decide)
          · exact absurd h (by decide)
        · rename_i h3
          rw [if_neg h3]
          split at h
          · rename_i h4; rw [if_pos h4]
          · exact absurd h (by decide)

set_option maxRecDepth 100000 in
set_option maxHeartbeats 400000 in
theorem m_opens (E : ag) (q : Nat → Nat) (g : Nat → Int32) (tw : Int64) (a : Nat → Nat → Int32) (fr n : Nat) (B : Nat → Int32) (hT : TXC g a fr n B) (oo i : Nat) (ho : oo ≤ 5) (hP : PM B n g tw oo i) : CT E yX6_opens cX6_opens 1 mX6_opens.2.2.2.1 4 0 0 [.ref (q 0)] (MW E q g tw a) (ri (fun r w => (oo = 5 ∧ r = 0 ∧ w = MW E q (upd (upd g 30 1) 31 (g 27)) tw a) ∨ (oo < 5 ∧ r = 1 ∧ w = MW E q (nxg B (upd g 29 (nI (oo + 1))) (men B i)) (mtw B tw (men B i)) a))) := by
  refine CT.of (M := mX6_opens) (ls := [some (.ref (q 0))]) (by decide) rfl (by decide) rfl (Nat.le_of_ble_eq_true rfl) ?_
  refine A_aload_n (dX6_opens 0 rfl) rfl ?_
  refine A_get (dX6_opens 1 rfl) fwX6_208 MW_0 MF_29 ?_
  refine A_iconst (5) (dX6_opens 2 rfl) (by decide +kernel) ?_
  refine A_icmp_ne 14 (dX6_opens 3 rfl) (by decide) (fun h5 => ?_) (fun h5 => ?_)
  · have h5 : oo < 5 := by
      rcases Nat.lt_or_ge oo 5 with z | z
      · exact z
      · obtain rfl : oo = 5 := by omega
        exact absurd hP.2.2.2.2.2.1 h5
    refine A_aload_n (dX6_opens 8 rfl) rfl ?_
    refine A_dup (dX6_opens 9 rfl) rfl ?_
    refine A_get (dX6_opens 10 rfl) fwX6_208 MW_0 MF_29 ?_
    refine A_iconst (1) (dX6_opens 11 rfl) (by decide +kernel) ?_
    refine A_iadd (dX6_opens 12 rfl) ?_
    refine AW.stack (st2 := [.int (nI (oo + 1)), .ref (q 0)]) (by rw [hP.2.2.2.2.2.1, ← nI_1]) ?_
    refine A_put (dX6_opens 13 rfl) fwX6_208 fcX6 ftX6_29 MW_0 rfl rfl ML_0 (MP_29 _) ?_
    refine A_aload_n (dX6_opens 14 rfl) rfl ?_
    refine A_callVWv 0 (dX6_opens 15 rfl) cbX6_next cwX6_214 (m_next E q (upd g 29 (nI (oo + 1))) tw a fr n B (TXC.put hT 29 (by decide) (by decide)) (men B i) (men_le hT hP.2.2.2.2.2.2.2).1 hP.1) rfl rfl MW_0 rfl rfl (Nat.le_of_ble_eq_true rfl) (Nat.le_of_ble_eq_true rfl) (Nat.le_of_ble_eq_true rfl) (Nat.le_of_ble_eq_true rfl) (Nat.le_of_ble_eq_true rfl) ?_
    rintro w1 rfl
    refine AW.pcq (pc2 := 28) rfl ?_
    refine A_iconst (1) (dX6_opens 16 rfl) (by decide +kernel) ?_
    refine A_ri (dX6_opens 17 rfl) rfl (by decide) ?_
    exact Or.inr ⟨h5, rfl, rfl⟩
  · have h5 : oo = 5 := by
      rw [hP.2.2.2.2.2.1] at h5
      exact (nI_eq (b := 5) (by omega) (by decide)).mp h5
    refine A_aload_n (dX6_opens 4 rfl) rfl ?_
    refine A_callVWv 0 (dX6_opens 5 rfl) cbX6_fail cwX6_211 (m_fail E q g tw a) rfl rfl MW_0 rfl rfl (Nat.le_of_ble_eq_true rfl) (Nat.le_of_ble_eq_true rfl) (Nat.le_of_ble_eq_true rfl) (Nat.le_of_ble_eq_true rfl) (Nat.le_of_ble_eq_true rfl) ?_
    rintro w1 rfl
    rw [if_pos hP.2.2.2.2.2.2.1]
    refine AW.pcq (pc2 := 12) rfl ?_
    refine A_iconst (0) (dX6_opens 6 rfl) (by decide +kernel) ?_
    refine A_ri (dX6_opens 7 rfl) rfl (by decide) ?_
    exact Or.inl ⟨h5, rfl, rfl⟩

set_option maxRecDepth 100000 in
set_option maxHeartbeats 400000 in
theorem m_name (E : ag) (q : Nat → Nat) (g : Nat → Int32) (tw : Int64) (a : Nat → Nat → Int32) (fr n s e : Nat) (B : Nat → Int32) (hT : TXC g a fr n B) (hs : g 27 = nI s) (he : g 25 = nI e) (hen : e ≤ n) (hsn : s ≤ n) (h30 : g 30 = 0) (h26 : g 26 = 1) : CT E yX6_name cX6_name 1 mX6_name.2.2.2.1 4 0 0 [.ref (q 0)] (MW E q g tw a) (ri (fun r w => (wcode B s e = 9 ∧ r = g 17 ∧ w = MW E q g tw a) ∨ (wcode B s e = 10 ∧ r = g 18 ∧ w = MW E q g tw a) ∨ (wcode B s e = 11 ∧ r = g 19 ∧ w = MW E q g tw a) ∨ (wcode B s e = 12 ∧ r = g 20 ∧ w = MW E q g tw a) ∨ (wcode B s e = 13 ∧ r = g 21 ∧ w = MW E q g tw a) ∨ (wcode B s e = 14 ∧ r = g 22 ∧ w = MW E q g tw a) ∨ (¬ wcode B s e = 9 ∧ ¬ wcode B s e = 10 ∧ ¬ wcode B s e = 11 ∧ ¬ wcode B s e = 12 ∧ ¬ wcode B s e = 13 ∧ ¬ wcode B s e = 14 ∧ r = 0 ∧ w = MW E q (upd (upd g 30 1) 31 (g 27)) tw a))) := by
  refine CT.of (M := mX6_name) (ls := [some (.ref (q 0))]) (by decide) rfl (by decide) rfl (Nat.le_of_ble_eq_true rfl) ?_
  refine A_aload_n (dX6_name 0 rfl) rfl ?_
  refine A_bipush (102) (dX6_name 1 rfl) (by decide +kernel) ?_
  refine A_bipush (111) (dX6_name 2 rfl) (by decide +kernel) ?_
  refine A_bipush (114) (dX6_name 3 rfl) (by decide +kernel) ?_
  refine A_bipush (99) (dX6_name 4 rfl) (by decide +kernel) ?_
  refine A_bipush (101) (dX6_name 5 rfl) (by decide +kernel) ?_
  refine A_iconst (0) (dX6_name 6 rfl) (by decide +kernel) ?_
  refine A_iconst (0) (dX6_name 7 rfl) (by decide +kernel) ?_
  refine AW.pcq (pc2 := 13) rfl ?_
  refine A_iconst (0) (dX6_name 8 rfl) (by decide +kernel) ?_
  refine A_callVWi 8 (dX6_name 9 rfl) cbX6_isWord cwX6_217 (m_isWord E q g tw a fr n s e B hT hs he hen hsn 102 111 114 99 101 0 0 0) rfl rfl MW_0 rfl rfl (Nat.le_of_ble_eq_true rfl) (Nat.le_of_ble_eq_true rfl) (Nat.le_of_ble_eq_true rfl) (Nat.le_of_ble_eq_true rfl) (Nat.le_of_ble_eq_true rfl) ?_
  rintro r14 w1 ⟨rfl, rfl⟩
  refine AW.pcq (pc2 := 17) rfl ?_
  refine A_if_eq 25 (dX6_name 10 rfl) (by decide) (fun h17 => ?_) (fun h17 => ?_)
  · have n0 : ¬ wcode B s e = 9 := fun z => b01_0.mp h17 ⟨h30, h26, wci_9.mp z⟩
    refine A_aload_n (dX6_name 14 rfl) rfl ?_
    refine A_bipush (119) (dX6_name 15 rfl) (by decide +kernel) ?_
    refine A_bipush (101) (dX6_name 16 rfl) (by decide +kernel) ?_
    refine A_bipush (116) (dX6_name 17 rfl) (by decide +kernel) ?_
    refine A_iconst (0) (dX6_name 18 rfl) (by decide +kernel) ?_
    refine A_iconst (0) (dX6_name 19 rfl) (by decide +kernel) ?_
    refine A_iconst (0) (dX6_name 20 rfl) (by decide +kernel) ?_
    refine A_iconst (0) (dX6_name 21 rfl) (by decide +kernel) ?_
    refine AW.pcq (pc2 := 36) rfl ?_
    refine A_iconst (0) (dX6_name 22 rfl) (by decide +kernel) ?_
    refine A_callVWi 8 (dX6_name 23 rfl) cbX6_isWord cwX6_217 (m_isWord E q g tw a fr n s e B hT hs he hen hsn 119 101 116 0 0 0 0 0) rfl rfl MW_0 rfl rfl (Nat.le_of_ble_eq_true rfl) (Nat.le_of_ble_eq_true rfl) (Nat.le_of_ble_eq_true rfl) (Nat.le_of_ble_eq_true rfl) (Nat.le_of_ble_eq_true rfl) ?_
    rintro r37 w1 ⟨rfl, rfl⟩
    refine AW.pcq (pc2 := 40) rfl ?_
    refine A_if_eq 48 (dX6_name 24 rfl) (by decide) (fun h40 => ?_) (fun h40 => ?_)
    · have n1 : ¬ wcode B s e = 10 := fun z => b01_0.mp h40 ⟨h30, h26, wci_10.mp z⟩
      refine A_aload_n (dX6_name 28 rfl) rfl ?_
      refine A_bipush (103) (dX6_name 29 rfl) (by decide +kernel) ?_
      refine A_bipush (97) (dX6_name 30 rfl) (by decide +kernel) ?_
      refine A_bipush (112) (dX6_name 31 rfl) (by decide +kernel) ?_
      refine A_iconst (0) (dX6_name 32 rfl) (by decide +kernel) ?_
      refine A_iconst (0) (dX6_name 33 rfl) (by decide +kernel) ?_
      refine A_iconst (0) (dX6_name 34 rfl) (by decide +kernel) ?_
      refine A_iconst (0) (dX6_name 35 rfl) (by decide +kernel) ?_
      refine AW.pcq (pc2 := 59) rfl ?_
      refine A_iconst (0) (dX6_name 36 rfl) (by decide +kernel) ?_
      refine A_callVWi 8 (dX6_name 37 rfl) cbX6_isWord cwX6_217 (m_isWord E q g tw a fr n s e B hT hs he hen hsn 103 97 112 0 0 0 0 0) rfl rfl MW_0 rfl rfl (Nat.le_of_ble_eq_true rfl) (Nat.le_of_ble_eq_true rfl) (Nat.le_of_ble_eq_true rfl) (Nat.le_of_ble_eq_true rfl) (Nat.le_of_ble_eq_true rfl) ?_
      rintro r60 w1 ⟨rfl, rfl⟩
      refine AW.pcq (pc2 := 63) rfl ?_
      refine A_if_eq 71 (dX6_name 38 rfl) (by decide) (fun h63 => ?_) (fun h63 => ?_)
      · have n2 : ¬ wcode B s e = 11 := fun z => b01_0.mp h63 ⟨h30, h26, wci_11.mp z⟩
        refine A_aload_n (dX6_name 42 rfl) rfl ?_
        refine A_bipush (101) (dX6_name 43 rfl) (by decide +kernel) ?_
        refine A_bipush (97) (dX6_name 44 rfl) (by decide +kernel) ?_
        refine A_bipush (114) (dX6_name 45 rfl) (by decide +kernel) ?_
        refine A_bipush (115) (dX6_name 46 rfl) (by decide +kernel) ?_
        refine A_iconst (0) (dX6_name 47 rfl) (by decide +kernel) ?_
        refine A_iconst (0) (dX6_name 48 rfl) (by decide +kernel) ?_
        refine A_iconst (0) (dX6_name 49 rfl) (by decide +kernel) ?_
        refine AW.pcq (pc2 := 83) rfl ?_
        refine A_iconst (0) (dX6_name 50 rfl) (by decide +kernel) ?_
        refine A_callVWi 8 (dX6_name 51 rfl) cbX6_isWord cwX6_217 (m_isWord E q g tw a fr n s e B hT hs he hen hsn 101 97 114 115 0 0 0 0) rfl rfl MW_0 rfl rfl (Nat.le_of_ble_eq_true rfl) (Nat.le_of_ble_eq_true rfl) (Nat.le_of_ble_eq_true rfl) (Nat.le_of_ble_eq_true rfl) (Nat.le_of_ble_eq_true rfl) ?_
        rintro r84 w1 ⟨rfl, rfl⟩
        refine AW.pcq (pc2 := 87) rfl ?_
        refine A_if_eq 95 (dX6_name 52 rfl) (by decide) (fun h87 => ?_) (fun h87 => ?_)
        · have n3 : ¬ wcode B s e = 12 := fun z => b01_0.mp h87 ⟨h30, h26, wci_12.mp z⟩
          refine A_aload_n (dX6_name 56 rfl) rfl ?_
          refine A_bipush (114) (dX6_name 57 rfl) (by decide +kernel) ?_
          refine A_bipush (111) (dX6_name 58 rfl) (by decide +kernel) ?_
          refine A_bipush (117) (dX6_name 59 rfl) (by decide +kernel) ?_
          refine A_bipush (110) (dX6_name 60 rfl) (by decide +kernel) ?_
          refine A_bipush (100) (dX6_name 61 rfl) (by decide +kernel) ?_
          refine A_iconst (0) (dX6_name 62 rfl) (by decide +kernel) ?_
          refine A_iconst (0) (dX6_name 63 rfl) (by decide +kernel) ?_
          refine AW.pcq (pc2 := 108) rfl ?_
          refine A_iconst (0) (dX6_name 64 rfl) (by decide +kernel) ?_
          refine A_callVWi 8 (dX6_name 65 rfl) cbX6_isWord cwX6_217 (m_isWord E q g tw a fr n s e B hT hs he hen hsn 114 111 117 110 100 0 0 0) rfl rfl MW_0 rfl rfl (Nat.le_of_ble_eq_true rfl) (Nat.le_of_ble_eq_true rfl) (Nat.le_of_ble_eq_true rfl) (Nat.le_of_ble_eq_true rfl) (Nat.le_of_ble_eq_true rfl) ?_
          rintro r109 w1 ⟨rfl, rfl⟩
          refine AW.pcq (pc2 := 112) rfl ?_
          refine A_if_eq 120 (dX6_name 66 rfl) (by decide) (fun h112 => ?_) (fun h112 => ?_)
          · have n4 : ¬ wcode B s e = 13 := fun z => b01_0.mp h112 ⟨h30, h26, wci_13.mp z⟩
            refine A_aload_n (dX6_name 70 rfl) rfl ?_
            refine A_bipush (116) (dX6_name 71 rfl) (by decide +kernel) ?_
            refine A_bipush (105) (dX6_name 72 rfl) (by decide +kernel) ?_
            refine A_bipush (114) (dX6_name 73 rfl) (by decide +kernel) ?_
            refine A_bipush (101) (dX6_name 74 rfl) (by decide +kernel) ?_
            refine A_bipush (100) (dX6_name 75 rfl) (by decide +kernel) ?_
            refine A_iconst (0) (dX6_name 76 rfl) (by decide +kernel) ?_
            refine A_iconst (0) (dX6_name 77 rfl) (by decide +kernel) ?_
            refine AW.pcq (pc2 := 133) rfl ?_
            refine A_iconst (0) (dX6_name 78 rfl) (by decide +kernel) ?_
            refine A_callVWi 8 (dX6_name 79 rfl) cbX6_isWord cwX6_217 (m_isWord E q g tw a fr n s e B hT hs he hen hsn 116 105 114 101 100 0 0 0) rfl rfl MW_0 rfl rfl (Nat.le_of_ble_eq_true rfl) (Nat.le_of_ble_eq_true rfl) (Nat.le_of_ble_eq_true rfl) (Nat.le_of_ble_eq_true rfl) (Nat.le_of_ble_eq_true rfl) ?_
            rintro r134 w1 ⟨rfl, rfl⟩
            refine AW.pcq (pc2 := 137) rfl ?_
            refine A_if_eq 145 (dX6_name 80 rfl) (by decide) (fun h137 => ?_) (fun h137 => ?_)
            · have n5 : ¬ wcode B s e = 14 := fun z => b01_0.mp h137 ⟨h30, h26, wci_14.mp z⟩
              refine A_aload_n (dX6_name 84 rfl) rfl ?_
              refine A_callVWv 0 (dX6_name 85 rfl) cbX6_fail cwX6_211 (m_fail E q g tw a) rfl rfl MW_0 rfl rfl (Nat.le_of_ble_eq_true rfl) (Nat.le_of_ble_eq_true rfl) (Nat.le_of_ble_eq_true rfl) (Nat.le_of_ble_eq_true rfl) (Nat.le_of_ble_eq_true rfl) ?_
              rintro w1 rfl
              rw [if_pos h30]
              refine AW.pcq (pc2 := 149) rfl ?_
              refine A_iconst (0) (dX6_name 86 rfl) (by decide +kernel) ?_
              refine A_ri (dX6_name 87 rfl) rfl rfl ?_
              exact Or.inr (Or.inr (Or.inr (Or.inr (Or.inr (Or.inr (⟨n0, n1, n2, n3, n4, n5, rfl, rfl⟩))))))
            · have n5 : wcode B s e = 14 := wci_14.mpr (b01_n.mp h137).2.2
              refine A_aload_n (dX6_name 81 rfl) rfl ?_
              refine A_get (dX6_name 82 rfl) fwX6_236 MW_0 MF_22 ?_
              refine A_ri (dX6_name 83 rfl) rfl rfl ?_
              exact Or.inr (Or.inr (Or.inr (Or.inr (Or.inr (Or.inl ⟨n5, rfl, rfl⟩)))))
          · have n4 : wcode B s e = 13 := wci_13.mpr (b01_n.mp h112).2.2
            refine A_aload_n (dX6_name 67 rfl) rfl ?_
            refine A_get (dX6_name 68 rfl) fwX6_233 MW_0 MF_21 ?_
            refine A_ri (dX6_name 69 rfl) rfl rfl ?_
            exact Or.inr (Or.inr (Or.inr (Or.inr (Or.inl ⟨n4, rfl, rfl⟩))))
        · have n3 : wcode B s e = 12 := wci_12.mpr (b01_n.mp h87).2.2
          refine A_aload_n (dX6_name 53 rfl) rfl ?_
          refine A_get (dX6_name 54 rfl) fwX6_230 MW_0 MF_20 ?_
          refine A_ri (dX6_name 55 rfl) rfl rfl ?_
          exact Or.inr (Or.inr (Or.inr (Or.inl ⟨n3, rfl, rfl⟩)))
      · have n2 : wcode B s e = 11 := wci_11.mpr (b01_n.mp h63).2.2
        refine A_aload_n (dX6_name 39 rfl) rfl ?_
        refine A_get (dX6_name 40 rfl) fwX6_227 MW_0 MF_19 ?_
        refine A_ri (dX6_name 41 rfl) rfl rfl ?_
        exact Or.inr (Or.inr (Or.inl ⟨n2, rfl, rfl⟩))
    · have n1 : wcode B s e = 10 := wci_10.mpr (b01_n.mp h40).2.2
      refine A_aload_n (dX6_name 25 rfl) rfl ?_
      refine A_get (dX6_name 26 rfl) fwX6_224 MW_0 MF_18 ?_
      refine A_ri (dX6_name 27 rfl) rfl rfl ?_
      exact Or.inr (Or.inl ⟨n1, rfl, rfl⟩)
  · have n0 : wcode B s e = 9 := wci_9.mpr (b01_n.mp h17).2.2
    refine A_aload_n (dX6_name 11 rfl) rfl ?_
    refine A_get (dX6_name 12 rfl) fwX6_221 MW_0 MF_17 ?_
    refine A_ri (dX6_name 13 rfl) rfl rfl ?_
    exact Or.inl ⟨n0, rfl, rfl⟩

