/-! THE WALK JUDGEMENT AW: a method at a pc with locals, stack and a world of cells comes to its end with 'post answer world'. All that the machine needs beside (heaps, tables' words, addresses, room) is held inside. -/
def gtbl : List Cond := lw_tbl.filter goodWord
theorem gt_in {w : Cond} (i : Nat) (h : lw_tbl[i]? = some w) (g : goodWord w = true) : w ∈ gtbl := List.mem_filter.mpr ⟨List.mem_of_getElem? h, g⟩
theorem gt_good : GoodIn gtbl gtbl := fun w h => ⟨h, good_of_word (List.mem_filter.mp h).2⟩
theorem gt_goodc {c : Cond} (h : c ∈ gtbl) : GoodIn gtbl (c :: gtbl) := fun w hw => by
  rcases List.mem_cons.mp hw with rfl | hw
  · exact ⟨h, good_of_word (List.mem_filter.mp h).2⟩
  · exact gt_good w hw
/-- the launch's numbers: classes and slots; array classes (ints, booleans, sheets, texts); string constants and their bytes; the static row -/
abbrev ag : Type := va_G × (Nat → ClassId) × (Nat → Nat) × (Nat → Nat) × Nat
abbrev ag_tys (E : ag) : List (ClassId × FieldType) := [(E.2.1 0, .int), (E.2.1 1, .boolean), (E.2.1 2, .object "FourFlails$Sheet"), (E.2.1 3, .object "FourFlails$Text")]
def ag_nS : Nat := 13
def ag_own (i : Nat) : String := ["FourFlails", "FourFlails$Reader", "FourFlails$Reader", "FourFlails$Reader", "FourFlails$Reader", "FourFlails$Reader", "FourFlails$Reader", "FourFlails$Reader", "FourFlails$Reader", "FourFlails$Reader", "FourFlails$Reader", "FourFlails$Reader", "FourFlails$Reader"].getD i ""
def ag_idx (i : Nat) : Nat := [64, 88, 90, 92, 94, 96, 98, 100, 102, 104, 106, 108, 110].getD i 0
def ag_txt (i : Nat) : String := ["gives force - wet * 3 ; drifts tired ; hurts 1 ;", "gives", "drifts", "hurts", "or", "and", "not", "force", "wet", "gap", "ears", "round", "tired"].getD i ""
def ag_len : List Nat := [48, 5, 6, 5, 2, 3, 3, 5, 3, 3, 4, 5, 5]
def ag_byt : List (List Int32) := [[103, 105, 118, 101, 115, 32, 102, 111, 114, 99, 101, 32, 45, 32, 119, 101, 116, 32, 42, 32, 51, 32, 59, 32, 100, 114, 105, 102, 116, 115, 32, 116, 105, 114, 101, 100, 32, 59, 32, 104, 117, 114, 116, 115, 32, 49, 32, 59], [103, 105, 118, 101, 115], [100, 114, 105, 102, 116, 115], [104, 117, 114, 116, 115], [111, 114], [97, 110, 100], [110, 111, 116], [102, 111, 114, 99, 101], [119, 101, 116], [103, 97, 112], [101, 97, 114, 115], [114, 111, 117, 110, 100], [116, 105, 114, 101, 100]]
def ag_above (j : Nat) : Int32 := [-1, 0, 0, 2, 1, 3].getD j 0
def ag_nest : List (String × Nat × MethodName × String) := [("FourFlails", 28, ⟨"FourFlails$Flailing", "<init>", "()V"⟩, "FourFlails"), ("FourFlails", 35, ⟨"FourFlails$Reader", "<init>", "()V"⟩, "FourFlails"), ("FourFlails$Reader", 33, ⟨"FourFlails$Text", "<init>", "()V"⟩, "FourFlails"), ("FourFlails", 63, ⟨"FourFlails$Text", "<init>", "()V"⟩, "FourFlails"), ("FourFlails$Floor", 52, ⟨"FourFlails", "held", "(II)I"⟩, "FourFlails"), ("FourFlails$Floor", 65, ⟨"FourFlails", "bounded", "(III)I"⟩, "FourFlails"), ("FourFlails$Flailing", 77, ⟨"FourFlails", "bounded", "(III)I"⟩, "FourFlails"), ("FourFlails$Flailing", 91, ⟨"FourFlails", "held", "(II)I"⟩, "FourFlails"), ("FourFlails$Floor", 69, ⟨"FourFlails", "exchange", "([III)I"⟩, "FourFlails")]
/-- what the launch holds beside the world: it never changes -/
def ac_C (E : ag) (A : Nat → Prop) (U : State) (H : Heap) : Prop :=
  va_K E.1 vwCl (ag_tys E) U ∧ vk_S ag_nS ag_len ag_byt E.2.2.1 E.2.2.2.1 A U H ∧ (∀ i : Nat, i < ag_nS → vk_R (ag_own i) (ag_idx i) (ag_txt i) (E.2.2.1 i) U) ∧
  va_T .int E.2.2.2.2 6 (fun j => .int (ag_above j)) A U H ∧ va_Z "FourFlails" "ABOVE" "[I" (.ref E.2.2.2.2) A U H ∧ va_Z "java/lang/String" "COMPACT_STRINGS" "Z" (.int 1) A U H ∧
  (∀ q : String × Nat × MethodName × String, q ∈ ag_nest → va_Nw (.methodLinkNest q.1 q.2.1 q.2.2.1 q.2.2.2) U) ∧ va_AO "FourFlails$Sheet" U ∧ va_AO "FourFlails$Text" U ∧ va_Zq "jdk/internal/util/Preconditions" "SIOOBE_FORMATTER" "Ljava/util/function/BiFunction;" A U H
theorem ac_C.go {E : ag} {A B : Nat → Prop} {s U : State} {H0 H : Heap} (h : ac_C E A s H0) (hW : s.WarmedH U.vm) (hq : ∀ a : Nat, a < H0.size → ¬ A a → H[a]? = H0[a]?) (hAB : ∀ q, B q → A q) : ac_C E B U H := by
  obtain ⟨h1, h2, h3, h4, h5, h6, h7, h8, h9, h10⟩ := h
  exact ⟨va_K.moved hW.alike h1, vk_S.narrow (vk_S.moved hW.alike (vk_S.kept h2 hq)) hAB, fun i hi => vk_R.warm hW (h3 i hi), va_T.narrow (va_T.moved hW.alike (va_T.kept h4 hq)) hAB, va_Z.narrow (va_Z.moved hW.alike (va_Z.kept h5 hq)) hAB, va_Z.narrow (va_Z.moved hW.alike (va_Z.kept h6 hq)) hAB, fun q hq => va_Nw.warmM hW (h7 q hq), va_AO.moved hW.alike h8, va_AO.moved hW.alike h9, va_Zq.narrow (va_Zq.moved hW.alike (va_Zq.kept h10 hq)) hAB⟩
/-- a method: its class, code, locals, answer, whether it is a constructor -/
abbrev am : Type := String × ByteArray × Nat × Option FieldType × Bool
abbrev rmd (d mc ms : Nat) : Room := { frames := d, cells := mc, slots := ms, locals := 40 * d }
/-- locals by their places -/
def ps : Nat → List (Option Value) → List (Nat × Value)
  | _, [] => []
  | i, none :: r => ps (i + 1) r
  | i, some v :: r => (i, v) :: ps (i + 1) r
theorem ps_mem : ∀ (ls : List (Option Value)) (j i : Nat) (v : Value), ls[i]? = some (some v) → (j + i, v) ∈ ps j ls := by
  intro ls
  induction ls with
  | nil => intro j i v h; simp at h
  | cons x r ih =>
    intro j i v h
    cases i with
    | zero =>
      have hx : x = some v := by simpa using h
      subst hx
      simp [ps]
    | succ i =>
      have h1 : r[i]? = some (some v) := by simpa using h
      have h2 := ih (j + 1) i v h1
      rw [show j + 1 + i = j + (i + 1) by omega] at h2
      cases x with
      | none => exact h2
      | some w => exact List.mem_cons_of_mem _ h2
theorem ps_of : ∀ (ls : List (Option Value)) (j : Nat) (q : Nat × Value), q ∈ ps j ls → ∃ i, q.1 = j + i ∧ ls[i]? = some (some q.2) := by
  intro ls
  induction ls with
  | nil => intro j q h; cases h
  | cons x r ih =>
    intro j q h
    cases x with
    | none =>
      obtain ⟨i, h1, h2⟩ := ih (j + 1) q h
      exact ⟨i + 1, by omega, by simpa using h2⟩
    | some w =>
      rcases List.mem_cons.mp h with rfl | h
      · exact ⟨0, rfl, rfl⟩
      · obtain ⟨i, h1, h2⟩ := ih (j + 1) q h
        exact ⟨i + 1, by omega, by simpa using h2⟩
theorem ps_at {la : Array Slot} {nL i : Nat} {ls : List (Option Value)} {v : Value} (h : lv_has la nL (ps 0 ls)) (hi : ls[i]? = some (some v)) : la[i]? = some (.val v) := by
  have := h.2.2 _ (ps_mem ls 0 i v hi)
  simpa using this
def noL (ls : List (Option Value)) : Bool := ls.all (fun x => match x with | some v => v.category == 1 | none => true)
theorem noL_at {ls : List (Option Value)} (h : noL ls = true) {i : Nat} {v : Value} (hi : ls[i]? = some (some v)) : v.category = 1 := by
  have := List.all_eq_true.mp h _ (List.mem_of_getElem? hi)
  simpa using this
theorem ps_set {la : Array Slot} {nL i : Nat} {ls : List (Option Value)} {v : Value} (hn : noL ls = true) (h : lv_has la nL ((i, v) :: (ps 0 ls).filter (fun q => !(q.1 == i) && !(q.1 + 1 == i && q.2.category == 2)))) : lv_has la nL (ps 0 (ls.set i (some v))) := by
  refine ⟨h.1, h.2.1, fun q hq => ?_⟩
  obtain ⟨j, h1, h2⟩ := ps_of _ 0 q hq
  rw [Nat.zero_add] at h1
  by_cases hj : j = i
  · subst hj
    have hv : q.2 = v := by
      rw [List.getElem?_set] at h2
      split at h2 <;> simp_all
    have : q = (j, v) := by rw [← h1, ← hv]
    rw [this]
    exact h.2.2 _ List.mem_cons_self
  · have h3 : ls[j]? = some (some q.2) := by
      rw [List.getElem?_set] at h2
      split at h2
      · rename_i hh; exact absurd hh.symm hj
      · exact h2
    refine h.2.2 q (List.mem_cons_of_mem _ (List.mem_filter.mpr ⟨?_, ?_⟩))
    · have := ps_mem ls 0 j q.2 h3
      rw [Nat.zero_add, ← h1] at this
      exact this
    · have hc := noL_at hn h3
      simp [h1, hj, hc]
/-- what a method leaves: its answer, the world, nothing else changed -/
def ac_Q (E : ag) (A : Nat → Prop) (post : Option Value → va_W → Prop) : Array Value → State → Outcome → State → Prop := fun _ st oc t => (∃ (v : Option Value) (ws' : va_W), oc = .returned v ∧ post v ws' ∧ va_P E.1 vwCl ws' t.heap ∧ va_D A ws') ∧ va_F A st t
def AX (E : ag) (M : am) (A : Nat → Prop) (p : Program) (s : State) (m : MethodId) (args : Array Value) (meth : Method) (c : Code) : Prop :=
  p.tables.exec = Jvm.exec ∧ c.code = M.2.1 ∧ c.maxLocals = M.2.2.1 ∧ s.vm.findClass M.1 = some m.cls ∧ (∀ w ∈ gtbl, w.before args s = true) ∧ meth.sig.returnType = M.2.2.2.1 ∧ meth.locks = false ∧ (M.2.2.2.2 = true → meth.name = "<init>") ∧ ac_C E A s s.heap ∧ (∀ q, s.heap.size ≤ q → A q)
def AW (E : ag) (M : am) (d bc bs pc : Nat) (ls : List (Option Value)) (st : List Value) (ws : va_W) (post : Option Value → va_W → Prop) : Prop :=
  ∀ (p : Program) (l : Launch) (e : Env) (s : State) (m : MethodId) (args : Array Value) (below : List Frame) (meth : Method) (c : Code) (H : Heap) (locs : List Loc) (cells slots mc ms : Nat) (A : Nat → Prop) (la : Array Slot),
    AX E M A p s m args meth c → lv_has la M.2.2.1 (ps 0 ls) → va_P E.1 vwCl ws H → va_D A ws → va_S A s.heap H locs → cells + bc ≤ mc → slots + bs ≤ ms →
    W p l e (rmd d mc ms) s m args below meth c H locs cells slots (MQ below (ac_Q E A post) args s mc ms A) (F0 m pc la st)
/-- a method's contract: with these arguments and this world it ends with 'post answer world' -/
def CT (E : ag) (y : MethodName) (cc : ByteArray) (nL : Nat) (ret : Option FieldType) (d mc ms : Nat) (av : List Value) (ws : va_W) (post : Option Value → va_W → Prop) : Prop :=
  ∀ (l : Launch) (sz : Nat), Met l y (Cond.code y cc nL ret :: gtbl) (rmd d mc ms) (va_Pc av (fun U => U.heap.size = sz ∧ va_P E.1 vwCl ws U.heap ∧ va_D (fun _ => True) ws ∧ ac_C E (va_A ws sz) U U.heap)) (ac_Q E (va_A ws sz) post) mc ms (va_A ws sz)
set_option maxRecDepth 100000 in
theorem CT.of {E : ag} {M : am} {y : MethodName} {d mc ms : Nat} {av : List Value} {ls : List (Option Value)} {ws : va_W} {post : Option Value → va_W → Prop} (hy : plainName y.cls = true) (hc : y.cls = M.1) (hi : M.2.2.2.2 = true → y.name = "<init>") (hl0 : ps 0 ls = lv_args 0 av) (hn : (lg_sl av).length ≤ M.2.2.1)
    (h : AW E M d mc ms 0 ls [] ws post) : CT E y M.2.1 M.2.2.1 M.2.2.2.1 d mc ms av ws post := by
  intro l sz
  refine Met.ofW (cc := M.2.1) (maxL := M.2.2.1) (ret := M.2.2.2.1) hy rfl ?_
  intro p e s m args below meth c s₁ B hml hv
  obtain ⟨rfl, hsz, hP, hD0, hC⟩ := hv
  have hts := atoms_spec (ws := Cond.code y M.2.1 M.2.2.1 M.2.2.2.1 :: gtbl) B.pre
  have hown : s.vm.findClass y.cls = some m.cls := findClass_of_methodNamed B.named
  subst hsz
  have hl := lv_entry av (n := M.2.2.1) hn
  rw [lg_entry_eq]
  generalize (lg_sl av ++ List.replicate (M.2.2.1 - (lg_sl av).length) Slot.unset).toArray = la at hl ⊢
  rw [← hl0] at hl
  exact h p l e s m av.toArray below meth c s.heap [] 0 0 mc ms (va_A ws s.heap.size) la
    ⟨B.exec, B.bytes, hml, hc ▸ hown, fun w hw => hts w (List.mem_cons_of_mem _ hw), B.returns, B.notSynchronized, fun h => (name_of_methodNamed B.named B.method).1.trans (hi h), hC, fun q hq => Or.inr hq⟩ hl hP hD0.self va_S.rf (by omega) (by omega)

theorem A_iconst {E : ag} {M : am} {d bc bs pc : Nat} {ls : List (Option Value)} {rest : List Value} {ws : va_W} {post : Option Value → va_W → Prop} {n : Int} (v : Int32) (hd : decode M.2.1 pc = .ok (.iconst n, 1)) (hv : Int32.ofInt n = v) (k : AW E M d bc bs (pc + 1) ls (.int v :: rest) ws post) : AW E M d bc bs (pc) ls (rest) ws post := by
  intro p l e s m args below meth c H locs cells slots mc ms A la X hl hP hD hS hbc hbs
  obtain ⟨hx, hb, hml, hown, hts, hr, hlk, hin, hC, hA⟩ := id X
  refine lv_iconst hx hb hd hv ?_
  exact k p l e s m args below meth c H locs cells slots mc ms A la X hl hP hD hS hbc hbs
theorem A_bipush {E : ag} {M : am} {d bc bs pc : Nat} {ls : List (Option Value)} {rest : List Value} {ws : va_W} {post : Option Value → va_W → Prop} {n : Int} (v : Int32) (hd : decode M.2.1 pc = .ok (.bipush n, 2)) (hv : (Int8.ofInt n).toInt32 = v) (k : AW E M d bc bs (pc + 2) ls (.int v :: rest) ws post) : AW E M d bc bs (pc) ls (rest) ws post := by
  intro p l e s m args below meth c H locs cells slots mc ms A la X hl hP hD hS hbc hbs
  obtain ⟨hx, hb, hml, hown, hts, hr, hlk, hin, hC, hA⟩ := id X
  refine lv_bipush hx hb hd hv ?_
  exact k p l e s m args below meth c H locs cells slots mc ms A la X hl hP hD hS hbc hbs
theorem A_sipush {E : ag} {M : am} {d bc bs pc : Nat} {ls : List (Option Value)} {rest : List Value} {ws : va_W} {post : Option Value → va_W → Prop} {n : Int} (v : Int32) (hd : decode M.2.1 pc = .ok (.sipush n, 3)) (hv : (Int16.ofInt n).toInt32 = v) (k : AW E M d bc bs (pc + 3) ls (.int v :: rest) ws post) : AW E M d bc bs (pc) ls (rest) ws post := by
  intro p l e s m args below meth c H locs cells slots mc ms A la X hl hP hD hS hbc hbs
  obtain ⟨hx, hb, hml, hown, hts, hr, hlk, hin, hC, hA⟩ := id X
  refine lv_sipush hx hb hd hv ?_
  exact k p l e s m args below meth c H locs cells slots mc ms A la X hl hP hD hS hbc hbs
theorem A_lconst {E : ag} {M : am} {d bc bs pc : Nat} {ls : List (Option Value)} {rest : List Value} {ws : va_W} {post : Option Value → va_W → Prop} {n : Fin 2} (v : Int64) (hd : decode M.2.1 pc = .ok (.lconst n, 1)) (hv : Int64.ofNat (n : Nat) = v) (k : AW E M d bc bs (pc + 1) ls (.long v :: rest) ws post) : AW E M d bc bs (pc) ls (rest) ws post := by
  intro p l e s m args below meth c H locs cells slots mc ms A la X hl hP hD hS hbc hbs
  obtain ⟨hx, hb, hml, hown, hts, hr, hlk, hin, hC, hA⟩ := id X
  refine lv_lconst hx hb hd hv ?_
  exact k p l e s m args below meth c H locs cells slots mc ms A la X hl hP hD hS hbc hbs
theorem A_aconst_null {E : ag} {M : am} {d bc bs pc : Nat} {ls : List (Option Value)} {rest : List Value} {ws : va_W} {post : Option Value → va_W → Prop}  (hd : decode M.2.1 pc = .ok (.aconst_null, 1))  (k : AW E M d bc bs (pc + 1) ls (.null :: rest) ws post) : AW E M d bc bs (pc) ls (rest) ws post := by
  intro p l e s m args below meth c H locs cells slots mc ms A la X hl hP hD hS hbc hbs
  obtain ⟨hx, hb, hml, hown, hts, hr, hlk, hin, hC, hA⟩ := id X
  refine lv_null hx hb hd ?_
  exact k p l e s m args below meth c H locs cells slots mc ms A la X hl hP hD hS hbc hbs
theorem A_iload_n {E : ag} {M : am} {d bc bs pc : Nat} {ls : List (Option Value)} {rest : List Value} {ws : va_W} {post : Option Value → va_W → Prop} {n : Fin 4} {x : Int32} (hd : decode M.2.1 pc = .ok (.iload_n n, 1)) (h : ls[(n : Nat)]? = some (some (.int x))) (k : AW E M d bc bs (pc + 1) ls (.int x :: rest) ws post) : AW E M d bc bs (pc) ls (rest) ws post := by
  intro p l e s m args below meth c H locs cells slots mc ms A la X hl hP hD hS hbc hbs
  obtain ⟨hx, hb, hml, hown, hts, hr, hlk, hin, hC, hA⟩ := id X
  refine lv_iload_n hx hb hd rfl (ps_at hl h) ?_
  exact k p l e s m args below meth c H locs cells slots mc ms A la X hl hP hD hS hbc hbs
theorem A_iload {E : ag} {M : am} {d bc bs pc : Nat} {ls : List (Option Value)} {rest : List Value} {ws : va_W} {post : Option Value → va_W → Prop} {i : Nat} {x : Int32} (hd : decode M.2.1 pc = .ok (.iload i, 2)) (h : ls[i]? = some (some (.int x))) (k : AW E M d bc bs (pc + 2) ls (.int x :: rest) ws post) : AW E M d bc bs (pc) ls (rest) ws post := by
  intro p l e s m args below meth c H locs cells slots mc ms A la X hl hP hD hS hbc hbs
  obtain ⟨hx, hb, hml, hown, hts, hr, hlk, hin, hC, hA⟩ := id X
  refine lv_iload hx hb hd (ps_at hl h) ?_
  exact k p l e s m args below meth c H locs cells slots mc ms A la X hl hP hD hS hbc hbs
theorem A_lload_n {E : ag} {M : am} {d bc bs pc : Nat} {ls : List (Option Value)} {rest : List Value} {ws : va_W} {post : Option Value → va_W → Prop} {n : Fin 4} {x : Int64} (hd : decode M.2.1 pc = .ok (.lload_n n, 1)) (h : ls[(n : Nat)]? = some (some (.long x))) (k : AW E M d bc bs (pc + 1) ls (.long x :: rest) ws post) : AW E M d bc bs (pc) ls (rest) ws post := by
  intro p l e s m args below meth c H locs cells slots mc ms A la X hl hP hD hS hbc hbs
  obtain ⟨hx, hb, hml, hown, hts, hr, hlk, hin, hC, hA⟩ := id X
  refine lv_lload_n hx hb hd rfl (ps_at hl h) ?_
  exact k p l e s m args below meth c H locs cells slots mc ms A la X hl hP hD hS hbc hbs
theorem A_lload {E : ag} {M : am} {d bc bs pc : Nat} {ls : List (Option Value)} {rest : List Value} {ws : va_W} {post : Option Value → va_W → Prop} {i : Nat} {x : Int64} (hd : decode M.2.1 pc = .ok (.lload i, 2)) (h : ls[i]? = some (some (.long x))) (k : AW E M d bc bs (pc + 2) ls (.long x :: rest) ws post) : AW E M d bc bs (pc) ls (rest) ws post := by
  intro p l e s m args below meth c H locs cells slots mc ms A la X hl hP hD hS hbc hbs
  obtain ⟨hx, hb, hml, hown, hts, hr, hlk, hin, hC, hA⟩ := id X
  refine lv_lload hx hb hd (ps_at hl h) ?_
  exact k p l e s m args below meth c H locs cells slots mc ms A la X hl hP hD hS hbc hbs
theorem A_aload_n {E : ag} {M : am} {d bc bs pc : Nat} {ls : List (Option Value)} {rest : List Value} {ws : va_W} {post : Option Value → va_W → Prop} {n : Fin 4} {a : Nat} (hd : decode M.2.1 pc = .ok (.aload_n n, 1)) (h : ls[(n : Nat)]? = some (some (.ref a))) (k : AW E M d bc bs (pc + 1) ls (.ref a :: rest) ws post) : AW E M d bc bs (pc) ls (rest) ws post := by
  intro p l e s m args below meth c H locs cells slots mc ms A la X hl hP hD hS hbc hbs
  obtain ⟨hx, hb, hml, hown, hts, hr, hlk, hin, hC, hA⟩ := id X
  refine lv_aload_n hx hb hd rfl (ps_at hl h) ?_
  exact k p l e s m args below meth c H locs cells slots mc ms A la X hl hP hD hS hbc hbs
theorem A_aload {E : ag} {M : am} {d bc bs pc : Nat} {ls : List (Option Value)} {rest : List Value} {ws : va_W} {post : Option Value → va_W → Prop} {i : Nat} {a : Nat} (hd : decode M.2.1 pc = .ok (.aload i, 2)) (h : ls[i]? = some (some (.ref a))) (k : AW E M d bc bs (pc + 2) ls (.ref a :: rest) ws post) : AW E M d bc bs (pc) ls (rest) ws post := by
  intro p l e s m args below meth c H locs cells slots mc ms A la X hl hP hD hS hbc hbs
  obtain ⟨hx, hb, hml, hown, hts, hr, hlk, hin, hC, hA⟩ := id X
  refine lv_aload hx hb hd (ps_at hl h) ?_
  exact k p l e s m args below meth c H locs cells slots mc ms A la X hl hP hD hS hbc hbs
theorem A_iadd {E : ag} {M : am} {d bc bs pc : Nat} {ls : List (Option Value)} {rest : List Value} {ws : va_W} {post : Option Value → va_W → Prop} {x y : Int32} (hd : decode M.2.1 pc = .ok (.iadd, 1))  (k : AW E M d bc bs (pc + 1) ls (.int (x + y) :: rest) ws post) : AW E M d bc bs (pc) ls (.int y :: .int x :: rest) ws post := by
  intro p l e s m args below meth c H locs cells slots mc ms A la X hl hP hD hS hbc hbs
  obtain ⟨hx, hb, hml, hown, hts, hr, hlk, hin, hC, hA⟩ := id X
  refine lv_iadd hx hb hd ?_
  exact k p l e s m args below meth c H locs cells slots mc ms A la X hl hP hD hS hbc hbs
theorem A_isub {E : ag} {M : am} {d bc bs pc : Nat} {ls : List (Option Value)} {rest : List Value} {ws : va_W} {post : Option Value → va_W → Prop} {x y : Int32} (hd : decode M.2.1 pc = .ok (.isub, 1))  (k : AW E M d bc bs (pc + 1) ls (.int (x - y) :: rest) ws post) : AW E M d bc bs (pc) ls (.int y :: .int x :: rest) ws post := by
  intro p l e s m args below meth c H locs cells slots mc ms A la X hl hP hD hS hbc hbs
  obtain ⟨hx, hb, hml, hown, hts, hr, hlk, hin, hC, hA⟩ := id X
  refine lv_isub hx hb hd ?_
  exact k p l e s m args below meth c H locs cells slots mc ms A la X hl hP hD hS hbc hbs
theorem A_imul {E : ag} {M : am} {d bc bs pc : Nat} {ls : List (Option Value)} {rest : List Value} {ws : va_W} {post : Option Value → va_W → Prop} {x y : Int32} (hd : decode M.2.1 pc = .ok (.imul, 1))  (k : AW E M d bc bs (pc + 1) ls (.int (x * y) :: rest) ws post) : AW E M d bc bs (pc) ls (.int y :: .int x :: rest) ws post := by
  intro p l e s m args below meth c H locs cells slots mc ms A la X hl hP hD hS hbc hbs
  obtain ⟨hx, hb, hml, hown, hts, hr, hlk, hin, hC, hA⟩ := id X
  refine lv_imul hx hb hd ?_
  exact k p l e s m args below meth c H locs cells slots mc ms A la X hl hP hD hS hbc hbs
theorem A_ladd {E : ag} {M : am} {d bc bs pc : Nat} {ls : List (Option Value)} {rest : List Value} {ws : va_W} {post : Option Value → va_W → Prop} {x y : Int64} (hd : decode M.2.1 pc = .ok (.ladd, 1))  (k : AW E M d bc bs (pc + 1) ls (.long (x + y) :: rest) ws post) : AW E M d bc bs (pc) ls (.long y :: .long x :: rest) ws post := by
  intro p l e s m args below meth c H locs cells slots mc ms A la X hl hP hD hS hbc hbs
  obtain ⟨hx, hb, hml, hown, hts, hr, hlk, hin, hC, hA⟩ := id X
  refine lv_ladd hx hb hd ?_
  exact k p l e s m args below meth c H locs cells slots mc ms A la X hl hP hD hS hbc hbs
theorem A_lsub {E : ag} {M : am} {d bc bs pc : Nat} {ls : List (Option Value)} {rest : List Value} {ws : va_W} {post : Option Value → va_W → Prop} {x y : Int64} (hd : decode M.2.1 pc = .ok (.lsub, 1))  (k : AW E M d bc bs (pc + 1) ls (.long (x - y) :: rest) ws post) : AW E M d bc bs (pc) ls (.long y :: .long x :: rest) ws post := by
  intro p l e s m args below meth c H locs cells slots mc ms A la X hl hP hD hS hbc hbs
  obtain ⟨hx, hb, hml, hown, hts, hr, hlk, hin, hC, hA⟩ := id X
  refine lv_lsub hx hb hd ?_
  exact k p l e s m args below meth c H locs cells slots mc ms A la X hl hP hD hS hbc hbs
theorem A_lmul {E : ag} {M : am} {d bc bs pc : Nat} {ls : List (Option Value)} {rest : List Value} {ws : va_W} {post : Option Value → va_W → Prop} {x y : Int64} (hd : decode M.2.1 pc = .ok (.lmul, 1))  (k : AW E M d bc bs (pc + 1) ls (.long (x * y) :: rest) ws post) : AW E M d bc bs (pc) ls (.long y :: .long x :: rest) ws post := by
  intro p l e s m args below meth c H locs cells slots mc ms A la X hl hP hD hS hbc hbs
  obtain ⟨hx, hb, hml, hown, hts, hr, hlk, hin, hC, hA⟩ := id X
  refine lv_lmul hx hb hd ?_
  exact k p l e s m args below meth c H locs cells slots mc ms A la X hl hP hD hS hbc hbs
theorem A_idiv {E : ag} {M : am} {d bc bs pc : Nat} {ls : List (Option Value)} {rest : List Value} {ws : va_W} {post : Option Value → va_W → Prop} {x y : Int32} (hd : decode M.2.1 pc = .ok (.idiv, 1)) (hne : ¬ y = 0) (k : AW E M d bc bs (pc + 1) ls (.int (x / y) :: rest) ws post) : AW E M d bc bs (pc) ls (.int y :: .int x :: rest) ws post := by
  intro p l e s m args below meth c H locs cells slots mc ms A la X hl hP hD hS hbc hbs
  obtain ⟨hx, hb, hml, hown, hts, hr, hlk, hin, hC, hA⟩ := id X
  refine lv_idiv hx hb hd hne ?_
  exact k p l e s m args below meth c H locs cells slots mc ms A la X hl hP hD hS hbc hbs
theorem A_goto {E : ag} {M : am} {d bc bs pc : Nat} {ls : List (Option Value)} {rest : List Value} {ws : va_W} {post : Option Value → va_W → Prop} {off : Int} (tgt : Nat) (hd : decode M.2.1 pc = .ok (.goto off, 3)) (ht : (pc : Int) + off = (tgt : Int)) (k : AW E M d bc bs (tgt) ls (rest) ws post) : AW E M d bc bs (pc) ls (rest) ws post := by
  intro p l e s m args below meth c H locs cells slots mc ms A la X hl hP hD hS hbc hbs
  obtain ⟨hx, hb, hml, hown, hts, hr, hlk, hin, hC, hA⟩ := id X
  refine lv_goto hx hb hd ht ?_
  exact k p l e s m args below meth c H locs cells slots mc ms A la X hl hP hD hS hbc hbs
theorem A_i2l {E : ag} {M : am} {d bc bs pc : Nat} {ls : List (Option Value)} {rest : List Value} {ws : va_W} {post : Option Value → va_W → Prop} {x : Int32} (hd : decode M.2.1 pc = .ok (.i2l, 1))  (k : AW E M d bc bs (pc + 1) ls (.long x.toInt64 :: rest) ws post) : AW E M d bc bs (pc) ls (.int x :: rest) ws post := by
  intro p l e s m args below meth c H locs cells slots mc ms A la X hl hP hD hS hbc hbs
  obtain ⟨hx, hb, hml, hown, hts, hr, hlk, hin, hC, hA⟩ := id X
  refine lv_i2l hx hb hd rfl ?_
  exact k p l e s m args below meth c H locs cells slots mc ms A la X hl hP hD hS hbc hbs
theorem A_l2i {E : ag} {M : am} {d bc bs pc : Nat} {ls : List (Option Value)} {rest : List Value} {ws : va_W} {post : Option Value → va_W → Prop} {x : Int64} (hd : decode M.2.1 pc = .ok (.l2i, 1))  (k : AW E M d bc bs (pc + 1) ls (.int x.toInt32 :: rest) ws post) : AW E M d bc bs (pc) ls (.long x :: rest) ws post := by
  intro p l e s m args below meth c H locs cells slots mc ms A la X hl hP hD hS hbc hbs
  obtain ⟨hx, hb, hml, hown, hts, hr, hlk, hin, hC, hA⟩ := id X
  refine lv_l2i hx hb hd rfl ?_
  exact k p l e s m args below meth c H locs cells slots mc ms A la X hl hP hD hS hbc hbs
theorem A_dup {E : ag} {M : am} {d bc bs pc : Nat} {ls : List (Option Value)} {rest : List Value} {ws : va_W} {post : Option Value → va_W → Prop} {va : Value} (hd : decode M.2.1 pc = .ok (.dup, 1)) (hva : va.category = 1) (k : AW E M d bc bs (pc + 1) ls (va :: va :: rest) ws post) : AW E M d bc bs (pc) ls (va :: rest) ws post := by
  intro p l e s m args below meth c H locs cells slots mc ms A la X hl hP hD hS hbc hbs
  obtain ⟨hx, hb, hml, hown, hts, hr, hlk, hin, hC, hA⟩ := id X
  refine lv_dup hx hb hd hva ?_
  exact k p l e s m args below meth c H locs cells slots mc ms A la X hl hP hD hS hbc hbs
theorem A_dup2 {E : ag} {M : am} {d bc bs pc : Nat} {ls : List (Option Value)} {rest : List Value} {ws : va_W} {post : Option Value → va_W → Prop} {va vb : Value} (hd : decode M.2.1 pc = .ok (.dup2, 1)) (hva : va.category = 1) (hvb : vb.category = 1) (k : AW E M d bc bs (pc + 1) ls (va :: vb :: va :: vb :: rest) ws post) : AW E M d bc bs (pc) ls (va :: vb :: rest) ws post := by
  intro p l e s m args below meth c H locs cells slots mc ms A la X hl hP hD hS hbc hbs
  obtain ⟨hx, hb, hml, hown, hts, hr, hlk, hin, hC, hA⟩ := id X
  refine lv_dup2_11 hx hb hd hva hvb ?_
  exact k p l e s m args below meth c H locs cells slots mc ms A la X hl hP hD hS hbc hbs
theorem A_pop {E : ag} {M : am} {d bc bs pc : Nat} {ls : List (Option Value)} {rest : List Value} {ws : va_W} {post : Option Value → va_W → Prop} {va : Value} (hd : decode M.2.1 pc = .ok (.pop, 1)) (hva : va.category = 1) (k : AW E M d bc bs (pc + 1) ls (rest) ws post) : AW E M d bc bs (pc) ls (va :: rest) ws post := by
  intro p l e s m args below meth c H locs cells slots mc ms A la X hl hP hD hS hbc hbs
  obtain ⟨hx, hb, hml, hown, hts, hr, hlk, hin, hC, hA⟩ := id X
  refine lv_pop hx hb hd hva ?_
  exact k p l e s m args below meth c H locs cells slots mc ms A la X hl hP hD hS hbc hbs
theorem A_irem {E : ag} {M : am} {d bc bs pc : Nat} {ls : List (Option Value)} {rest : List Value} {ws : va_W} {post : Option Value → va_W → Prop} {x y : Int32} (hd : decode M.2.1 pc = .ok (.irem, 1)) (hne : ¬ y = 0) (k : AW E M d bc bs (pc + 1) ls (.int (x - x / y * y) :: rest) ws post) : AW E M d bc bs (pc) ls (.int y :: .int x :: rest) ws post := by
  intro p l e s m args below meth c H locs cells slots mc ms A la X hl hP hD hS hbc hbs
  obtain ⟨hx, hb, hml, hown, hts, hr, hlk, hin, hC, hA⟩ := id X
  refine lv_irem hx hb hd hne ?_
  exact k p l e s m args below meth c H locs cells slots mc ms A la X hl hP hD hS hbc hbs
theorem A_iand {E : ag} {M : am} {d bc bs pc : Nat} {ls : List (Option Value)} {rest : List Value} {ws : va_W} {post : Option Value → va_W → Prop} {x y : Int32} (hd : decode M.2.1 pc = .ok (.iand, 1))  (k : AW E M d bc bs (pc + 1) ls (.int (x &&& y) :: rest) ws post) : AW E M d bc bs (pc) ls (.int y :: .int x :: rest) ws post := by
  intro p l e s m args below meth c H locs cells slots mc ms A la X hl hP hD hS hbc hbs
  obtain ⟨hx, hb, hml, hown, hts, hr, hlk, hin, hC, hA⟩ := id X
  refine lv_iand hx hb hd ?_
  exact k p l e s m args below meth c H locs cells slots mc ms A la X hl hP hD hS hbc hbs
theorem A_ior {E : ag} {M : am} {d bc bs pc : Nat} {ls : List (Option Value)} {rest : List Value} {ws : va_W} {post : Option Value → va_W → Prop} {x y : Int32} (hd : decode M.2.1 pc = .ok (.ior, 1))  (k : AW E M d bc bs (pc + 1) ls (.int (x ||| y) :: rest) ws post) : AW E M d bc bs (pc) ls (.int y :: .int x :: rest) ws post := by
  intro p l e s m args below meth c H locs cells slots mc ms A la X hl hP hD hS hbc hbs
  obtain ⟨hx, hb, hml, hown, hts, hr, hlk, hin, hC, hA⟩ := id X
  refine lv_ior hx hb hd ?_
  exact k p l e s m args below meth c H locs cells slots mc ms A la X hl hP hD hS hbc hbs
theorem A_ishl {E : ag} {M : am} {d bc bs pc : Nat} {ls : List (Option Value)} {rest : List Value} {ws : va_W} {post : Option Value → va_W → Prop} {x y : Int32} (hd : decode M.2.1 pc = .ok (.ishl, 1))  (k : AW E M d bc bs (pc + 1) ls (.int (x <<< (y &&& 31)) :: rest) ws post) : AW E M d bc bs (pc) ls (.int y :: .int x :: rest) ws post := by
  intro p l e s m args below meth c H locs cells slots mc ms A la X hl hP hD hS hbc hbs
  obtain ⟨hx, hb, hml, hown, hts, hr, hlk, hin, hC, hA⟩ := id X
  refine lv_ishl hx hb hd ?_
  exact k p l e s m args below meth c H locs cells slots mc ms A la X hl hP hD hS hbc hbs
theorem A_ishr {E : ag} {M : am} {d bc bs pc : Nat} {ls : List (Option Value)} {rest : List Value} {ws : va_W} {post : Option Value → va_W → Prop} {x y : Int32} (hd : decode M.2.1 pc = .ok (.ishr, 1))  (k : AW E M d bc bs (pc + 1) ls (.int (x >>> (y &&& 31)) :: rest) ws post) : AW E M d bc bs (pc) ls (.int y :: .int x :: rest) ws post := by
  intro p l e s m args below meth c H locs cells slots mc ms A la X hl hP hD hS hbc hbs
  obtain ⟨hx, hb, hml, hown, hts, hr, hlk, hin, hC, hA⟩ := id X
  refine lv_ishr hx hb hd ?_
  exact k p l e s m args below meth c H locs cells slots mc ms A la X hl hP hD hS hbc hbs
theorem A_iushr {E : ag} {M : am} {d bc bs pc : Nat} {ls : List (Option Value)} {rest : List Value} {ws : va_W} {post : Option Value → va_W → Prop} {x y : Int32} (hd : decode M.2.1 pc = .ok (.iushr, 1))  (k : AW E M d bc bs (pc + 1) ls (.int (x.toUInt32 >>> (y.toUInt32 &&& Int32.toUInt32 31)).toInt32 :: rest) ws post) : AW E M d bc bs (pc) ls (.int y :: .int x :: rest) ws post := by
  intro p l e s m args below meth c H locs cells slots mc ms A la X hl hP hD hS hbc hbs
  obtain ⟨hx, hb, hml, hown, hts, hr, hlk, hin, hC, hA⟩ := id X
  refine lv_iushr hx hb hd rfl ?_
  exact k p l e s m args below meth c H locs cells slots mc ms A la X hl hP hD hS hbc hbs
theorem A_ineg {E : ag} {M : am} {d bc bs pc : Nat} {ls : List (Option Value)} {rest : List Value} {ws : va_W} {post : Option Value → va_W → Prop} {x : Int32} (hd : decode M.2.1 pc = .ok (.ineg, 1))  (k : AW E M d bc bs (pc + 1) ls (.int (-x) :: rest) ws post) : AW E M d bc bs (pc) ls (.int x :: rest) ws post := by
  intro p l e s m args below meth c H locs cells slots mc ms A la X hl hP hD hS hbc hbs
  obtain ⟨hx, hb, hml, hown, hts, hr, hlk, hin, hC, hA⟩ := id X
  refine lv_ineg hx hb hd ?_
  exact k p l e s m args below meth c H locs cells slots mc ms A la X hl hP hD hS hbc hbs
theorem A_i2b {E : ag} {M : am} {d bc bs pc : Nat} {ls : List (Option Value)} {rest : List Value} {ws : va_W} {post : Option Value → va_W → Prop} {x : Int32} (hd : decode M.2.1 pc = .ok (.i2b, 1))  (k : AW E M d bc bs (pc + 1) ls (.int x.toInt8.toInt32 :: rest) ws post) : AW E M d bc bs (pc) ls (.int x :: rest) ws post := by
  intro p l e s m args below meth c H locs cells slots mc ms A la X hl hP hD hS hbc hbs
  obtain ⟨hx, hb, hml, hown, hts, hr, hlk, hin, hC, hA⟩ := id X
  refine lv_i2b hx hb hd rfl ?_
  exact k p l e s m args below meth c H locs cells slots mc ms A la X hl hP hD hS hbc hbs
theorem A_i2s {E : ag} {M : am} {d bc bs pc : Nat} {ls : List (Option Value)} {rest : List Value} {ws : va_W} {post : Option Value → va_W → Prop} {x : Int32} (hd : decode M.2.1 pc = .ok (.i2s, 1))  (k : AW E M d bc bs (pc + 1) ls (.int x.toInt16.toInt32 :: rest) ws post) : AW E M d bc bs (pc) ls (.int x :: rest) ws post := by
  intro p l e s m args below meth c H locs cells slots mc ms A la X hl hP hD hS hbc hbs
  obtain ⟨hx, hb, hml, hown, hts, hr, hlk, hin, hC, hA⟩ := id X
  refine lv_i2s hx hb hd rfl ?_
  exact k p l e s m args below meth c H locs cells slots mc ms A la X hl hP hD hS hbc hbs
theorem A_ldiv {E : ag} {M : am} {d bc bs pc : Nat} {ls : List (Option Value)} {rest : List Value} {ws : va_W} {post : Option Value → va_W → Prop} {x y : Int64} (hd : decode M.2.1 pc = .ok (.ldiv, 1)) (hne : ¬ y = 0) (k : AW E M d bc bs (pc + 1) ls (.long (x / y) :: rest) ws post) : AW E M d bc bs (pc) ls (.long y :: .long x :: rest) ws post := by
  intro p l e s m args below meth c H locs cells slots mc ms A la X hl hP hD hS hbc hbs
  obtain ⟨hx, hb, hml, hown, hts, hr, hlk, hin, hC, hA⟩ := id X
  refine lv_ldiv hx hb hd hne ?_
  exact k p l e s m args below meth c H locs cells slots mc ms A la X hl hP hD hS hbc hbs
theorem A_lcmp {E : ag} {M : am} {d bc bs pc : Nat} {ls : List (Option Value)} {rest : List Value} {ws : va_W} {post : Option Value → va_W → Prop} {x y : Int64} (hd : decode M.2.1 pc = .ok (.lcmp, 1))  (k : AW E M d bc bs (pc + 1) ls (.int (lg_cmp x y) :: rest) ws post) : AW E M d bc bs (pc) ls (.long y :: .long x :: rest) ws post := by
  intro p l e s m args below meth c H locs cells slots mc ms A la X hl hP hD hS hbc hbs
  obtain ⟨hx, hb, hml, hown, hts, hr, hlk, hin, hC, hA⟩ := id X
  refine W.lcmp hx hb hd ?_
  exact k p l e s m args below meth c H locs cells slots mc ms A la X hl hP hD hS hbc hbs
theorem A_ldc {E : ag} {M : am} {d bc bs pc : Nat} {ls : List (Option Value)} {rest : List Value} {ws : va_W} {post : Option Value → va_W → Prop} {v : Int32} {index : Nat} (hd : decode M.2.1 pc = .ok (.ldc index, 2)) (hw : Cond.constant M.1 index v ∈ gtbl) (k : AW E M d bc bs (pc + 2) ls (.int v :: rest) ws post) : AW E M d bc bs (pc) ls (rest) ws post := by
  intro p l e s m args below meth c H locs cells slots mc ms A la X hl hP hD hS hbc hbs
  obtain ⟨hx, hb, hml, hown, hts, hr, hlk, hin, hC, hA⟩ := id X
  refine lv_ldc hx hb hown (hts _ hw) hd ?_
  exact k p l e s m args below meth c H locs cells slots mc ms A la X hl hP hD hS hbc hbs
theorem A_ldc2 {E : ag} {M : am} {d bc bs pc : Nat} {ls : List (Option Value)} {rest : List Value} {ws : va_W} {post : Option Value → va_W → Prop} {v : Int64} {index : Nat} (hd : decode M.2.1 pc = .ok (.ldc2_w index, 3)) (hw : Cond.constantLong M.1 index v ∈ gtbl) (k : AW E M d bc bs (pc + 3) ls (.long v :: rest) ws post) : AW E M d bc bs (pc) ls (rest) ws post := by
  intro p l e s m args below meth c H locs cells slots mc ms A la X hl hP hD hS hbc hbs
  obtain ⟨hx, hb, hml, hown, hts, hr, hlk, hin, hC, hA⟩ := id X
  refine lv_ldc2 hx hb hown (hts _ hw) hd ?_
  exact k p l e s m args below meth c H locs cells slots mc ms A la X hl hP hD hS hbc hbs
theorem A_ldcS {E : ag} {M : am} {d bc bs pc : Nat} {ls : List (Option Value)} {rest : List Value} {ws : va_W} {post : Option Value → va_W → Prop} {index : Nat} (i : Nat) (hd : decode M.2.1 pc = .ok (.ldc index, 2)) (hi : i < ag_nS) (h1 : ag_own i = M.1) (h2 : ag_idx i = index) (k : AW E M d bc bs (pc + 2) ls (.ref (E.2.2.1 i) :: rest) ws post) : AW E M d bc bs (pc) ls (rest) ws post := by
  intro p l e s m args below meth c H locs cells slots mc ms A la X hl hP hD hS hbc hbs
  obtain ⟨hx, hb, hml, hown, hts, hr, hlk, hin, hC, hA⟩ := id X
  refine va_ldcS (tx := ag_txt i) hx hb hown (h1 ▸ h2 ▸ hC.2.2.1 i hi) hd ?_
  exact k p l e s m args below meth c H locs cells slots mc ms A la X hl hP hD hS hbc hbs
theorem A_ifnonnull {E : ag} {M : am} {d bc bs pc : Nat} {ls : List (Option Value)} {rest : List Value} {ws : va_W} {post : Option Value → va_W → Prop} {x : Nat} {off : Int} (tgt : Nat) (hd : decode M.2.1 pc = .ok (.ifnonnull off, 3)) (ht : (pc : Int) + off = (tgt : Int)) (k : AW E M d bc bs (tgt) ls (rest) ws post) : AW E M d bc bs (pc) ls (.ref x :: rest) ws post := by
  intro p l e s m args below meth c H locs cells slots mc ms A la X hl hP hD hS hbc hbs
  obtain ⟨hx, hb, hml, hown, hts, hr, hlk, hin, hC, hA⟩ := id X
  refine lv_ifnonnull hx hb hd ht ?_
  exact k p l e s m args below meth c H locs cells slots mc ms A la X hl hP hD hS hbc hbs
theorem A_ifnull {E : ag} {M : am} {d bc bs pc : Nat} {ls : List (Option Value)} {rest : List Value} {ws : va_W} {post : Option Value → va_W → Prop} {x : Nat} {off : Int} (hd : decode M.2.1 pc = .ok (.ifnull off, 3))  (k : AW E M d bc bs (pc + 3) ls (rest) ws post) : AW E M d bc bs (pc) ls (.ref x :: rest) ws post := by
  intro p l e s m args below meth c H locs cells slots mc ms A la X hl hP hD hS hbc hbs
  obtain ⟨hx, hb, hml, hown, hts, hr, hlk, hin, hC, hA⟩ := id X
  refine lv_ifnull hx hb hd ?_
  exact k p l e s m args below meth c H locs cells slots mc ms A la X hl hP hD hS hbc hbs
theorem A_ifnullN {E : ag} {M : am} {d bc bs pc : Nat} {ls : List (Option Value)} {rest : List Value} {ws : va_W} {post : Option Value → va_W → Prop} {off : Int} (tgt : Nat) (hd : decode M.2.1 pc = .ok (.ifnull off, 3)) (ht : (pc : Int) + off = (tgt : Int)) (k : AW E M d bc bs (tgt) ls (rest) ws post) : AW E M d bc bs (pc) ls (.null :: rest) ws post := by
  intro p l e s m args below meth c H locs cells slots mc ms A la X hl hP hD hS hbc hbs
  obtain ⟨hx, hb, hml, hown, hts, hr, hlk, hin, hC, hA⟩ := id X
  refine lv_ifnullN hx hb hd ht ?_
  exact k p l e s m args below meth c H locs cells slots mc ms A la X hl hP hD hS hbc hbs
theorem A_ifnonnullN {E : ag} {M : am} {d bc bs pc : Nat} {ls : List (Option Value)} {rest : List Value} {ws : va_W} {post : Option Value → va_W → Prop} {off : Int} (hd : decode M.2.1 pc = .ok (.ifnonnull off, 3))  (k : AW E M d bc bs (pc + 3) ls (rest) ws post) : AW E M d bc bs (pc) ls (.null :: rest) ws post := by
  intro p l e s m args below meth c H locs cells slots mc ms A la X hl hP hD hS hbc hbs
  obtain ⟨hx, hb, hml, hown, hts, hr, hlk, hin, hC, hA⟩ := id X
  refine lv_ifnonnullN hx hb hd ?_
  exact k p l e s m args below meth c H locs cells slots mc ms A la X hl hP hD hS hbc hbs
theorem A_tableIn {E : ag} {M : am} {d bc bs pc : Nat} {ls : List (Option Value)} {rest : List Value} {ws : va_W} {post : Option Value → va_W → Prop} {dflt lo hi : Int} {offs : Array Int} {len : Nat} {x : Int32} (off : Int) (tgt : Nat) (hd : decode M.2.1 pc = .ok (.tableswitch dflt lo hi offs, len)) (h1 : ¬ x.toInt < lo) (h2 : ¬ hi < x.toInt) (ho : offs[(x.toInt - lo).toNat]? = some off) (ht : (pc : Int) + off = (tgt : Int)) (k : AW E M d bc bs (tgt) ls (rest) ws post) : AW E M d bc bs (pc) ls (.int x :: rest) ws post := by
  intro p l e s m args below meth c H locs cells slots mc ms A la X hl hP hD hS hbc hbs
  obtain ⟨hx, hb, hml, hown, hts, hr, hlk, hin, hC, hA⟩ := id X
  refine lv_tableIn hx hb hd h1 h2 ho ht ?_
  exact k p l e s m args below meth c H locs cells slots mc ms A la X hl hP hD hS hbc hbs
theorem A_tableOut {E : ag} {M : am} {d bc bs pc : Nat} {ls : List (Option Value)} {rest : List Value} {ws : va_W} {post : Option Value → va_W → Prop} {dflt lo hi : Int} {offs : Array Int} {len : Nat} {x : Int32} (tgt : Nat) (hd : decode M.2.1 pc = .ok (.tableswitch dflt lo hi offs, len)) (h : x.toInt < lo ∨ hi < x.toInt) (ht : (pc : Int) + dflt = (tgt : Int)) (k : AW E M d bc bs (tgt) ls (rest) ws post) : AW E M d bc bs (pc) ls (.int x :: rest) ws post := by
  intro p l e s m args below meth c H locs cells slots mc ms A la X hl hP hD hS hbc hbs
  obtain ⟨hx, hb, hml, hown, hts, hr, hlk, hin, hC, hA⟩ := id X
  refine lv_tableOut hx hb hd h ht ?_
  exact k p l e s m args below meth c H locs cells slots mc ms A la X hl hP hD hS hbc hbs
theorem A_icmp_eq {E : ag} {M : am} {d bc bs pc : Nat} {ls : List (Option Value)} {rest : List Value} {ws : va_W} {post : Option Value → va_W → Prop} {x y : Int32} {off : Int} (tgt : Nat) (hd : decode M.2.1 pc = .ok (.if_icmp .eq off, 3)) (ht : (pc : Int) + off = (tgt : Int)) (kt : (x = y) → AW E M d bc bs (tgt) ls (rest) ws post) (kf : ¬ (x = y) → AW E M d bc bs (pc + 3) ls (rest) ws post) : AW E M d bc bs (pc) ls (.int y :: .int x :: rest) ws post := by
  intro p l e s m args below meth c H locs cells slots mc ms A la X hl hP hD hS hbc hbs
  obtain ⟨hx, hb, hml, hown, hts, hr, hlk, hin, hC, hA⟩ := id X
  exact lv_icmp_eq hx hb hd ht (fun q => kt q p l e s m args below meth c H locs cells slots mc ms A la X hl hP hD hS hbc hbs) (fun q => kf q p l e s m args below meth c H locs cells slots mc ms A la X hl hP hD hS hbc hbs)
theorem A_if_eq {E : ag} {M : am} {d bc bs pc : Nat} {ls : List (Option Value)} {rest : List Value} {ws : va_W} {post : Option Value → va_W → Prop} {x : Int32} {off : Int} (tgt : Nat) (hd : decode M.2.1 pc = .ok (.ifCond .eq off, 3)) (ht : (pc : Int) + off = (tgt : Int)) (kt : (x = 0) → AW E M d bc bs (tgt) ls (rest) ws post) (kf : ¬ (x = 0) → AW E M d bc bs (pc + 3) ls (rest) ws post) : AW E M d bc bs (pc) ls (.int x :: rest) ws post := by
  intro p l e s m args below meth c H locs cells slots mc ms A la X hl hP hD hS hbc hbs
  obtain ⟨hx, hb, hml, hown, hts, hr, hlk, hin, hC, hA⟩ := id X
  exact lv_if_eq hx hb hd ht (fun q => kt q p l e s m args below meth c H locs cells slots mc ms A la X hl hP hD hS hbc hbs) (fun q => kf q p l e s m args below meth c H locs cells slots mc ms A la X hl hP hD hS hbc hbs)
theorem A_icmp_ne {E : ag} {M : am} {d bc bs pc : Nat} {ls : List (Option Value)} {rest : List Value} {ws : va_W} {post : Option Value → va_W → Prop} {x y : Int32} {off : Int} (tgt : Nat) (hd : decode M.2.1 pc = .ok (.if_icmp .ne off, 3)) (ht : (pc : Int) + off = (tgt : Int)) (kt : (¬ x = y) → AW E M d bc bs (tgt) ls (rest) ws post) (kf : (x = y) → AW E M d bc bs (pc + 3) ls (rest) ws post) : AW E M d bc bs (pc) ls (.int y :: .int x :: rest) ws post := by
  intro p l e s m args below meth c H locs cells slots mc ms A la X hl hP hD hS hbc hbs
  obtain ⟨hx, hb, hml, hown, hts, hr, hlk, hin, hC, hA⟩ := id X
  exact lv_icmp_ne hx hb hd ht (fun q => kt q p l e s m args below meth c H locs cells slots mc ms A la X hl hP hD hS hbc hbs) (fun q => kf q p l e s m args below meth c H locs cells slots mc ms A la X hl hP hD hS hbc hbs)
theorem A_if_ne {E : ag} {M : am} {d bc bs pc : Nat} {ls : List (Option Value)} {rest : List Value} {ws : va_W} {post : Option Value → va_W → Prop} {x : Int32} {off : Int} (tgt : Nat) (hd : decode M.2.1 pc = .ok (.ifCond .ne off, 3)) (ht : (pc : Int) + off = (tgt : Int)) (kt : (¬ x = 0) → AW E M d bc bs (tgt) ls (rest) ws post) (kf : (x = 0) → AW E M d bc bs (pc + 3) ls (rest) ws post) : AW E M d bc bs (pc) ls (.int x :: rest) ws post := by
  intro p l e s m args below meth c H locs cells slots mc ms A la X hl hP hD hS hbc hbs
  obtain ⟨hx, hb, hml, hown, hts, hr, hlk, hin, hC, hA⟩ := id X
  exact lv_if_ne hx hb hd ht (fun q => kt q p l e s m args below meth c H locs cells slots mc ms A la X hl hP hD hS hbc hbs) (fun q => kf q p l e s m args below meth c H locs cells slots mc ms A la X hl hP hD hS hbc hbs)
theorem A_icmp_lt {E : ag} {M : am} {d bc bs pc : Nat} {ls : List (Option Value)} {rest : List Value} {ws : va_W} {post : Option Value → va_W → Prop} {x y : Int32} {off : Int} (tgt : Nat) (hd : decode M.2.1 pc = .ok (.if_icmp .lt off, 3)) (ht : (pc : Int) + off = (tgt : Int)) (kt : (x < y) → AW E M d bc bs (tgt) ls (rest) ws post) (kf : ¬ (x < y) → AW E M d bc bs (pc + 3) ls (rest) ws post) : AW E M d bc bs (pc) ls (.int y :: .int x :: rest) ws post := by
  intro p l e s m args below meth c H locs cells slots mc ms A la X hl hP hD hS hbc hbs
  obtain ⟨hx, hb, hml, hown, hts, hr, hlk, hin, hC, hA⟩ := id X
  exact lv_icmp_lt hx hb hd ht (fun q => kt q p l e s m args below meth c H locs cells slots mc ms A la X hl hP hD hS hbc hbs) (fun q => kf q p l e s m args below meth c H locs cells slots mc ms A la X hl hP hD hS hbc hbs)
theorem A_if_lt {E : ag} {M : am} {d bc bs pc : Nat} {ls : List (Option Value)} {rest : List Value} {ws : va_W} {post : Option Value → va_W → Prop} {x : Int32} {off : Int} (tgt : Nat) (hd : decode M.2.1 pc = .ok (.ifCond .lt off, 3)) (ht : (pc : Int) + off = (tgt : Int)) (kt : (x < 0) → AW E M d bc bs (tgt) ls (rest) ws post) (kf : ¬ (x < 0) → AW E M d bc bs (pc + 3) ls (rest) ws post) : AW E M d bc bs (pc) ls (.int x :: rest) ws post := by
  intro p l e s m args below meth c H locs cells slots mc ms A la X hl hP hD hS hbc hbs
  obtain ⟨hx, hb, hml, hown, hts, hr, hlk, hin, hC, hA⟩ := id X
  exact lv_if_lt hx hb hd ht (fun q => kt q p l e s m args below meth c H locs cells slots mc ms A la X hl hP hD hS hbc hbs) (fun q => kf q p l e s m args below meth c H locs cells slots mc ms A la X hl hP hD hS hbc hbs)
theorem A_icmp_ge {E : ag} {M : am} {d bc bs pc : Nat} {ls : List (Option Value)} {rest : List Value} {ws : va_W} {post : Option Value → va_W → Prop} {x y : Int32} {off : Int} (tgt : Nat) (hd : decode M.2.1 pc = .ok (.if_icmp .ge off, 3)) (ht : (pc : Int) + off = (tgt : Int)) (kt : (y ≤ x) → AW E M d bc bs (tgt) ls (rest) ws post) (kf : ¬ (y ≤ x) → AW E M d bc bs (pc + 3) ls (rest) ws post) : AW E M d bc bs (pc) ls (.int y :: .int x :: rest) ws post := by
  intro p l e s m args below meth c H locs cells slots mc ms A la X hl hP hD hS hbc hbs
  obtain ⟨hx, hb, hml, hown, hts, hr, hlk, hin, hC, hA⟩ := id X
  exact lv_icmp_ge hx hb hd ht (fun q => kt q p l e s m args below meth c H locs cells slots mc ms A la X hl hP hD hS hbc hbs) (fun q => kf q p l e s m args below meth c H locs cells slots mc ms A la X hl hP hD hS hbc hbs)
theorem A_if_ge {E : ag} {M : am} {d bc bs pc : Nat} {ls : List (Option Value)} {rest : List Value} {ws : va_W} {post : Option Value → va_W → Prop} {x : Int32} {off : Int} (tgt : Nat) (hd : decode M.2.1 pc = .ok (.ifCond .ge off, 3)) (ht : (pc : Int) + off = (tgt : Int)) (kt : (0 ≤ x) → AW E M d bc bs (tgt) ls (rest) ws post) (kf : ¬ (0 ≤ x) → AW E M d bc bs (pc + 3) ls (rest) ws post) : AW E M d bc bs (pc) ls (.int x :: rest) ws post := by
  intro p l e s m args below meth c H locs cells slots mc ms A la X hl hP hD hS hbc hbs
  obtain ⟨hx, hb, hml, hown, hts, hr, hlk, hin, hC, hA⟩ := id X
  exact lv_if_ge hx hb hd ht (fun q => kt q p l e s m args below meth c H locs cells slots mc ms A la X hl hP hD hS hbc hbs) (fun q => kf q p l e s m args below meth c H locs cells slots mc ms A la X hl hP hD hS hbc hbs)
theorem A_icmp_gt {E : ag} {M : am} {d bc bs pc : Nat} {ls : List (Option Value)} {rest : List Value} {ws : va_W} {post : Option Value → va_W → Prop} {x y : Int32} {off : Int} (tgt : Nat) (hd : decode M.2.1 pc = .ok (.if_icmp .gt off, 3)) (ht : (pc : Int) + off = (tgt : Int)) (kt : (y < x) → AW E M d bc bs (tgt) ls (rest) ws post) (kf : ¬ (y < x) → AW E M d bc bs (pc + 3) ls (rest) ws post) : AW E M d bc bs (pc) ls (.int y :: .int x :: rest) ws post := by
  intro p l e s m args below meth c H locs cells slots mc ms A la X hl hP hD hS hbc hbs
  obtain ⟨hx, hb, hml, hown, hts, hr, hlk, hin, hC, hA⟩ := id X
  exact lv_icmp_gt hx hb hd ht (fun q => kt q p l e s m args below meth c H locs cells slots mc ms A la X hl hP hD hS hbc hbs) (fun q => kf q p l e s m args below meth c H locs cells slots mc ms A la X hl hP hD hS hbc hbs)
theorem A_if_gt {E : ag} {M : am} {d bc bs pc : Nat} {ls : List (Option Value)} {rest : List Value} {ws : va_W} {post : Option Value → va_W → Prop} {x : Int32} {off : Int} (tgt : Nat) (hd : decode M.2.1 pc = .ok (.ifCond .gt off, 3)) (ht : (pc : Int) + off = (tgt : Int)) (kt : (0 < x) → AW E M d bc bs (tgt) ls (rest) ws post) (kf : ¬ (0 < x) → AW E M d bc bs (pc + 3) ls (rest) ws post) : AW E M d bc bs (pc) ls (.int x :: rest) ws post := by
  intro p l e s m args below meth c H locs cells slots mc ms A la X hl hP hD hS hbc hbs
  obtain ⟨hx, hb, hml, hown, hts, hr, hlk, hin, hC, hA⟩ := id X
  exact lv_if_gt hx hb hd ht (fun q => kt q p l e s m args below meth c H locs cells slots mc ms A la X hl hP hD hS hbc hbs) (fun q => kf q p l e s m args below meth c H locs cells slots mc ms A la X hl hP hD hS hbc hbs)
theorem A_icmp_le {E : ag} {M : am} {d bc bs pc : Nat} {ls : List (Option Value)} {rest : List Value} {ws : va_W} {post : Option Value → va_W → Prop} {x y : Int32} {off : Int} (tgt : Nat) (hd : decode M.2.1 pc = .ok (.if_icmp .le off, 3)) (ht : (pc : Int) + off = (tgt : Int)) (kt : (x ≤ y) → AW E M d bc bs (tgt) ls (rest) ws post) (kf : ¬ (x ≤ y) → AW E M d bc bs (pc + 3) ls (rest) ws post) : AW E M d bc bs (pc) ls (.int y :: .int x :: rest) ws post := by
  intro p l e s m args below meth c H locs cells slots mc ms A la X hl hP hD hS hbc hbs
  obtain ⟨hx, hb, hml, hown, hts, hr, hlk, hin, hC, hA⟩ := id X
  exact lv_icmp_le hx hb hd ht (fun q => kt q p l e s m args below meth c H locs cells slots mc ms A la X hl hP hD hS hbc hbs) (fun q => kf q p l e s m args below meth c H locs cells slots mc ms A la X hl hP hD hS hbc hbs)
theorem A_if_le {E : ag} {M : am} {d bc bs pc : Nat} {ls : List (Option Value)} {rest : List Value} {ws : va_W} {post : Option Value → va_W → Prop} {x : Int32} {off : Int} (tgt : Nat) (hd : decode M.2.1 pc = .ok (.ifCond .le off, 3)) (ht : (pc : Int) + off = (tgt : Int)) (kt : (x ≤ 0) → AW E M d bc bs (tgt) ls (rest) ws post) (kf : ¬ (x ≤ 0) → AW E M d bc bs (pc + 3) ls (rest) ws post) : AW E M d bc bs (pc) ls (.int x :: rest) ws post := by
  intro p l e s m args below meth c H locs cells slots mc ms A la X hl hP hD hS hbc hbs
  obtain ⟨hx, hb, hml, hown, hts, hr, hlk, hin, hC, hA⟩ := id X
  exact lv_if_le hx hb hd ht (fun q => kt q p l e s m args below meth c H locs cells slots mc ms A la X hl hP hD hS hbc hbs) (fun q => kf q p l e s m args below meth c H locs cells slots mc ms A la X hl hP hD hS hbc hbs)
theorem A_istore_n {E : ag} {M : am} {d bc bs pc : Nat} {ls : List (Option Value)} {rest : List Value} {ws : va_W} {post : Option Value → va_W → Prop} {n : Fin 4} {x : Int32} {ls2 : List (Option Value)} (hd : decode M.2.1 pc = .ok (.istore_n n, 1)) (hi : (n : Nat) < M.2.2.1) (hn : noL ls = true) (he : ls.set (n : Nat) (some (.int x)) = ls2) (k : AW E M d bc bs (pc + 1) ls2 (rest) ws post) : AW E M d bc bs (pc) ls (.int x :: rest) ws post := by
  subst he
  intro p l e s m args below meth c H locs cells slots mc ms A la X hl hP hD hS hbc hbs
  obtain ⟨hx, hb, hml, hown, hts, hr, hlk, hin, hC, hA⟩ := id X
  refine lv_istore_n hx hb hd rfl hl hi rfl (fun la2 h2 => ?_)
  exact k p l e s m args below meth c H locs cells slots mc ms A la2 X (ps_set hn h2) hP hD hS hbc hbs
theorem A_istore {E : ag} {M : am} {d bc bs pc : Nat} {ls : List (Option Value)} {rest : List Value} {ws : va_W} {post : Option Value → va_W → Prop} {i : Nat} {x : Int32} {ls2 : List (Option Value)} (hd : decode M.2.1 pc = .ok (.istore i, 2)) (hi : i < M.2.2.1) (hn : noL ls = true) (he : ls.set i (some (.int x)) = ls2) (k : AW E M d bc bs (pc + 2) ls2 (rest) ws post) : AW E M d bc bs (pc) ls (.int x :: rest) ws post := by
  subst he
  intro p l e s m args below meth c H locs cells slots mc ms A la X hl hP hD hS hbc hbs
  obtain ⟨hx, hb, hml, hown, hts, hr, hlk, hin, hC, hA⟩ := id X
  refine lv_istore hx hb hd hl hi rfl (fun la2 h2 => ?_)
  exact k p l e s m args below meth c H locs cells slots mc ms A la2 X (ps_set hn h2) hP hD hS hbc hbs
theorem A_astore_n {E : ag} {M : am} {d bc bs pc : Nat} {ls : List (Option Value)} {rest : List Value} {ws : va_W} {post : Option Value → va_W → Prop} {n : Fin 4} {x : Nat} {ls2 : List (Option Value)} (hd : decode M.2.1 pc = .ok (.astore_n n, 1)) (hi : (n : Nat) < M.2.2.1) (hn : noL ls = true) (he : ls.set (n : Nat) (some (.ref x)) = ls2) (k : AW E M d bc bs (pc + 1) ls2 (rest) ws post) : AW E M d bc bs (pc) ls (.ref x :: rest) ws post := by
  subst he
  intro p l e s m args below meth c H locs cells slots mc ms A la X hl hP hD hS hbc hbs
  obtain ⟨hx, hb, hml, hown, hts, hr, hlk, hin, hC, hA⟩ := id X
  refine lv_astore_n hx hb hd rfl hl hi rfl (fun la2 h2 => ?_)
  exact k p l e s m args below meth c H locs cells slots mc ms A la2 X (ps_set hn h2) hP hD hS hbc hbs
theorem A_astore {E : ag} {M : am} {d bc bs pc : Nat} {ls : List (Option Value)} {rest : List Value} {ws : va_W} {post : Option Value → va_W → Prop} {i : Nat} {x : Nat} {ls2 : List (Option Value)} (hd : decode M.2.1 pc = .ok (.astore i, 2)) (hi : i < M.2.2.1) (hn : noL ls = true) (he : ls.set i (some (.ref x)) = ls2) (k : AW E M d bc bs (pc + 2) ls2 (rest) ws post) : AW E M d bc bs (pc) ls (.ref x :: rest) ws post := by
  subst he
  intro p l e s m args below meth c H locs cells slots mc ms A la X hl hP hD hS hbc hbs
  obtain ⟨hx, hb, hml, hown, hts, hr, hlk, hin, hC, hA⟩ := id X
  refine lv_astore hx hb hd hl hi rfl (fun la2 h2 => ?_)
  exact k p l e s m args below meth c H locs cells slots mc ms A la2 X (ps_set hn h2) hP hD hS hbc hbs
theorem A_astoreN_n {E : ag} {M : am} {d bc bs pc : Nat} {ls : List (Option Value)} {rest : List Value} {ws : va_W} {post : Option Value → va_W → Prop} {n : Fin 4} {ls2 : List (Option Value)} (hd : decode M.2.1 pc = .ok (.astore_n n, 1)) (hi : (n : Nat) < M.2.2.1) (hn : noL ls = true) (he : ls.set (n : Nat) (some (.null)) = ls2) (k : AW E M d bc bs (pc + 1) ls2 (rest) ws post) : AW E M d bc bs (pc) ls (.null :: rest) ws post := by
  subst he
  intro p l e s m args below meth c H locs cells slots mc ms A la X hl hP hD hS hbc hbs
  obtain ⟨hx, hb, hml, hown, hts, hr, hlk, hin, hC, hA⟩ := id X
  refine lv_astore_nN hx hb hd rfl hl hi rfl (fun la2 h2 => ?_)
  exact k p l e s m args below meth c H locs cells slots mc ms A la2 X (ps_set hn h2) hP hD hS hbc hbs
theorem A_astoreN {E : ag} {M : am} {d bc bs pc : Nat} {ls : List (Option Value)} {rest : List Value} {ws : va_W} {post : Option Value → va_W → Prop} {i : Nat} {ls2 : List (Option Value)} (hd : decode M.2.1 pc = .ok (.astore i, 2)) (hi : i < M.2.2.1) (hn : noL ls = true) (he : ls.set i (some (.null)) = ls2) (k : AW E M d bc bs (pc + 2) ls2 (rest) ws post) : AW E M d bc bs (pc) ls (.null :: rest) ws post := by
  subst he
  intro p l e s m args below meth c H locs cells slots mc ms A la X hl hP hD hS hbc hbs
  obtain ⟨hx, hb, hml, hown, hts, hr, hlk, hin, hC, hA⟩ := id X
  refine lv_astoreN hx hb hd hl hi rfl (fun la2 h2 => ?_)
  exact k p l e s m args below meth c H locs cells slots mc ms A la2 X (ps_set hn h2) hP hD hS hbc hbs
theorem A_iinc {E : ag} {M : am} {d bc bs pc : Nat} {ls : List (Option Value)} {rest : List Value} {ws : va_W} {post : Option Value → va_W → Prop} {i : Nat} {n : Int} {x : Int32} {ls2 : List (Option Value)} (v : Int32) (hd : decode M.2.1 pc = .ok (.iinc i n, 3)) (hx0 : ls[i]? = some (some (.int x))) (hv : x + Int32.ofInt n = v) (hi : i < M.2.2.1) (hn : noL ls = true) (he : ls.set i (some (.int v)) = ls2) (k : AW E M d bc bs (pc + 3) ls2 (rest) ws post) : AW E M d bc bs (pc) ls (rest) ws post := by
  subst he
  intro p l e s m args below meth c H locs cells slots mc ms A la X hl hP hD hS hbc hbs
  obtain ⟨hx, hb, hml, hown, hts, hr, hlk, hin, hC, hA⟩ := id X
  obtain ⟨j, hj⟩ := List.getElem?_of_mem (ps_mem ls 0 i _ hx0)
  rw [Nat.zero_add] at hj
  refine lv_iinc hx hb hd hl hj hv hi rfl (fun la2 h2 => ?_)
  exact k p l e s m args below meth c H locs cells slots mc ms A la2 X (ps_set hn h2) hP hD hS hbc hbs
def FW (own : String) (index ci k : Nat) : Prop := ∃ (C : String) (T : u_T) (N : Nat), vwCl[ci]? = some (C, T, N) ∧ k < N ∧ (∀ w ∈ u_ws C T N, w ∈ gtbl) ∧ Cond.fieldLink own index (T k).1 (T k).2.1 (T k).2.2.1 ∈ gtbl
/-- a class's own facts, for writes -/
def FC (ci : Nat) : Prop := ∃ (C : String) (T : u_T) (N : Nat) (ty0 : Nat → FieldType), vwCl[ci]? = some (C, T, N) ∧ (∀ k, k < N → parseFieldDescriptor (T k).2.2.1 = some (ty0 k)) ∧ (∀ a, a < N → ∀ b, b < N → a ≠ b → (T a).2.1 ≠ (T b).2.1)
def FT (ci k : Nat) (ty : FieldType) (fin : Bool) (own : String) : Prop := ∃ (C : String) (T : u_T) (N : Nat), vwCl[ci]? = some (C, T, N) ∧ parseFieldDescriptor (T k).2.2.1 = some ty ∧ (T k).2.2.2 = fin ∧ (T k).1 = own
theorem A_get {E : ag} {M : am} {d bc bs pc : Nat} {ls : List (Option Value)} {rest : List Value} {ws : va_W} {post : Option Value → va_W → Prop} {q0 a ci k index : Nat} {fs : List Value} {v : Value} (hd : decode M.2.1 pc = .ok (.getfield index, 3)) (hf : FW M.1 index ci k) (he : ws[q0]? = some (a, .inr (ci, fs))) (hv : fs[k]? = some v) (kk : AW E M d bc bs (pc + 3) ls (v :: rest) ws post) : AW E M d bc bs (pc) ls (.ref a :: rest) ws post := by
  intro p l e s m args below meth c H locs cells slots mc ms A la X hl hP hD hS hbc hbs
  obtain ⟨hx, hb, hml, hown, hts, hr, hlk, hin, hC, hA⟩ := id X
  obtain ⟨C, T, N, hc, hk, hin2, hli⟩ := hf
  refine va_get hx hb hts hin2 hown hC.1 hP q0 he hc k hk (hts _ hli) (fun _ h9 => h9) hv hd ?_
  exact kk p l e s m args below meth c H locs cells slots mc ms A la X hl hP hD hS hbc hbs
theorem A_put {E : ag} {M : am} {d bc bs pc : Nat} {ls : List (Option Value)} {rest : List Value} {ws : va_W} {post : Option Value → va_W → Prop} {q0 a ci k index : Nat} {fs : List Value} {v : Value} {ty : FieldType} {ws2 : va_W} (hd : decode M.2.1 pc = .ok (.putfield index, 3)) (hf : FW M.1 index ci k) (hcl : FC ci) (hft : FT ci k ty false M.1) (he : ws[q0]? = some (a, .inr (ci, fs))) (hnr : narrow ty v = v) (hfit : fits ty v = true) (hlen : k < fs.length) (hw : ws.set q0 (a, .inr (ci, fs.set k v)) = ws2) (kk : AW E M d bc bs (pc + 3) ls (rest) ws2 post) : AW E M d bc bs (pc) ls (v :: .ref a :: rest) ws post := by
  subst hw
  intro p l e s m args below meth c H locs cells slots mc ms A la X hl hP hD hS hbc hbs
  obtain ⟨hx, hb, hml, hown, hts, hr, hlk, hin, hC, hA⟩ := id X
  obtain ⟨C, T, N, hc, hk, hin2, hli⟩ := hf
  obtain ⟨C2, T2, N2, ty0, hc2, hty, hnm⟩ := hcl
  obtain ⟨C3, T3, N3, hc3, hpt, hfin, hdecl⟩ := hft
  have e2 := Option.some.inj (hc.symm.trans hc2)
  cases e2
  have e3 := Option.some.inj (hc.symm.trans hc3)
  cases e3
  refine va_put hx hb hts hin2 ty0 hty hnm hown hC.1 hP hD hS q0 he hc k hk (hts _ hli) (fun _ h9 => h9) hfin hpt hnr hfit hlen hd (fun H1 locs1 hP1 hD1 hS1 => ?_)
  exact kk p l e s m args below meth c H1 locs1 cells slots mc ms A la X hl hP1 hD1 hS1 hbc hbs
theorem A_putF {E : ag} {M : am} {d bc bs pc : Nat} {ls : List (Option Value)} {rest : List Value} {ws : va_W} {post : Option Value → va_W → Prop} {q0 a ci k index : Nat} {fs : List Value} {v : Value} {ty : FieldType} {ws2 : va_W} (hd : decode M.2.1 pc = .ok (.putfield index, 3)) (hf : FW M.1 index ci k) (hcl : FC ci) (hft : FT ci k ty true M.1) (hini : M.2.2.2.2 = true) (he : ws[q0]? = some (a, .inr (ci, fs))) (hnr : narrow ty v = v) (hfit : fits ty v = true) (hlen : k < fs.length) (hw : ws.set q0 (a, .inr (ci, fs.set k v)) = ws2) (kk : AW E M d bc bs (pc + 3) ls (rest) ws2 post) : AW E M d bc bs (pc) ls (v :: .ref a :: rest) ws post := by
  subst hw
  intro p l e s m args below meth c H locs cells slots mc ms A la X hl hP hD hS hbc hbs
  obtain ⟨hx, hb, hml, hown, hts, hr, hlk, hin, hC, hA⟩ := id X
  obtain ⟨C, T, N, hc, hk, hin2, hli⟩ := hf
  obtain ⟨C2, T2, N2, ty0, hc2, hty, hnm⟩ := hcl
  obtain ⟨C3, T3, N3, hc3, hpt, hfin, hdecl⟩ := hft
  have e2 := Option.some.inj (hc.symm.trans hc2)
  cases e2
  have e3 := Option.some.inj (hc.symm.trans hc3)
  cases e3
  refine va_putF hx hb hts hin2 ty0 hty hnm hown hC.1 hP hD hS q0 he hc k hk (hts _ hli) (fun _ h9 => h9) hfin (hin hini) hdecl hpt hnr hfit hlen hd (fun H1 locs1 hP1 hD1 hS1 => ?_)
  exact kk p l e s m args below meth c H1 locs1 cells slots mc ms A la X hl hP1 hD1 hS1 hbc hbs
theorem A_iald {E : ag} {M : am} {d bc bs pc : Nat} {ls : List (Option Value)} {rest : List Value} {ws : va_W} {post : Option Value → va_W → Prop} {q0 a n : Nat} {f : Nat → Int32} {i : Int32} (hd : decode M.2.1 pc = .ok (.iaload, 1)) (he : ws[q0]? = some (a, .inl (E.2.1 0, n, .inl f))) (hi : vp_in i n) (kk : AW E M d bc bs (pc + 1) ls (.int (f i.toNatClampNeg) :: rest) ws post) : AW E M d bc bs (pc) ls (.int i :: .ref a :: rest) ws post := by
  intro p l e s m args below meth c H locs cells slots mc ms A la X hl hP hD hS hbc hbs
  obtain ⟨hx, hb, hml, hown, hts, hr, hlk, hin, hC, hA⟩ := id X
  exact va_iald hx hb hC.1 hP q0 0 he rfl hi hd (kk p l e s m args below meth c H locs cells slots mc ms A la X hl hP hD hS hbc hbs)
theorem A_zald {E : ag} {M : am} {d bc bs pc : Nat} {ls : List (Option Value)} {rest : List Value} {ws : va_W} {post : Option Value → va_W → Prop} {q0 a n : Nat} {f : Nat → Int32} {i : Int32} (hd : decode M.2.1 pc = .ok (.baload, 1)) (he : ws[q0]? = some (a, .inl (E.2.1 1, n, .inl f))) (hi : vp_in i n) (kk : AW E M d bc bs (pc + 1) ls (.int (f i.toNatClampNeg) :: rest) ws post) : AW E M d bc bs (pc) ls (.int i :: .ref a :: rest) ws post := by
  intro p l e s m args below meth c H locs cells slots mc ms A la X hl hP hD hS hbc hbs
  obtain ⟨hx, hb, hml, hown, hts, hr, hlk, hin, hC, hA⟩ := id X
  exact va_zald hx hb hC.1 hP q0 1 he rfl hi hd (kk p l e s m args below meth c H locs cells slots mc ms A la X hl hP hD hS hbc hbs)
theorem A_iast {E : ag} {M : am} {d bc bs pc : Nat} {ls : List (Option Value)} {rest : List Value} {ws : va_W} {post : Option Value → va_W → Prop} {q0 a n : Nat} {f : Nat → Int32} {i x : Int32} {ws2 : va_W} (hd : decode M.2.1 pc = .ok (.iastore, 1)) (he : ws[q0]? = some (a, .inl (E.2.1 0, n, .inl f))) (hi : vp_in i n) (hw : ws.set q0 (a, .inl (E.2.1 0, n, .inl (upd f i.toNatClampNeg x))) = ws2) (kk : AW E M d bc bs (pc + 1) ls (rest) ws2 post) : AW E M d bc bs (pc) ls (.int x :: .int i :: .ref a :: rest) ws post := by
  subst hw
  intro p l e s m args below meth c H locs cells slots mc ms A la X hl hP hD hS hbc hbs
  obtain ⟨hx, hb, hml, hown, hts, hr, hlk, hin, hC, hA⟩ := id X
  exact va_iast hx hb hC.1 hP hD hS q0 0 he rfl hi hd (fun H1 locs1 hP1 hD1 hS1 => kk p l e s m args below meth c H1 locs1 cells slots mc ms A la X hl hP1 hD1 hS1 hbc hbs)
theorem A_zast {E : ag} {M : am} {d bc bs pc : Nat} {ls : List (Option Value)} {rest : List Value} {ws : va_W} {post : Option Value → va_W → Prop} {q0 a n : Nat} {f : Nat → Int32} {i x : Int32} {ws2 : va_W} (hd : decode M.2.1 pc = .ok (.bastore, 1)) (he : ws[q0]? = some (a, .inl (E.2.1 1, n, .inl f))) (hi : vp_in i n) (hw : ws.set q0 (a, .inl (E.2.1 1, n, .inl (upd f i.toNatClampNeg (vp_nar .boolean x)))) = ws2) (kk : AW E M d bc bs (pc + 1) ls (rest) ws2 post) : AW E M d bc bs (pc) ls (.int x :: .int i :: .ref a :: rest) ws post := by
  subst hw
  intro p l e s m args below meth c H locs cells slots mc ms A la X hl hP hD hS hbc hbs
  obtain ⟨hx, hb, hml, hown, hts, hr, hlk, hin, hC, hA⟩ := id X
  exact va_zast hx hb hC.1 hP hD hS q0 1 he rfl hi hd (fun H1 locs1 hP1 hD1 hS1 => kk p l e s m args below meth c H1 locs1 cells slots mc ms A la X hl hP1 hD1 hS1 hbc hbs)
theorem A_alen {E : ag} {M : am} {d bc bs pc : Nat} {ls : List (Option Value)} {rest : List Value} {ws : va_W} {post : Option Value → va_W → Prop} {q0 a n : Nat} {f : Nat → Int32} (v : Int32) (hd : decode M.2.1 pc = .ok (.arraylength, 1)) (he : ws[q0]? = some (a, .inl (E.2.1 0, n, .inl f))) (hv : Int32.ofNat n = v) (kk : AW E M d bc bs (pc + 1) ls (.int v :: rest) ws post) : AW E M d bc bs (pc) ls (.ref a :: rest) ws post := by
  intro p l e s m args below meth c H locs cells slots mc ms A la X hl hP hD hS hbc hbs
  obtain ⟨hx, hb, hml, hown, hts, hr, hlk, hin, hC, hA⟩ := id X
  exact va_alen hx hb hC.1 hP q0 0 he rfl hv hd (kk p l e s m args below meth c H locs cells slots mc ms A la X hl hP hD hS hbc hbs)
theorem A_aald {E : ag} {M : am} {d bc bs pc : Nat} {ls : List (Option Value)} {rest : List Value} {ws : va_W} {post : Option Value → va_W → Prop} {q0 a n : Nat} {f : Nat → Option Nat} {i : Int32} (t : Nat) {C : String} {cA : ClassId} (hd : decode M.2.1 pc = .ok (.aaload, 1)) (he : ws[q0]? = some (a, .inl (cA, n, .inr (.inr (.inr (.inr f)))))) (ht : (ag_tys E)[t]? = some (cA, .object C)) (hi : vp_in i n) (kk : AW E M d bc bs (pc + 1) ls (va_rf (f i.toNatClampNeg) :: rest) ws post) : AW E M d bc bs (pc) ls (.int i :: .ref a :: rest) ws post := by
  intro p l e s m args below meth c H locs cells slots mc ms A la X hl hP hD hS hbc hbs
  obtain ⟨hx, hb, hml, hown, hts, hr, hlk, hin, hC, hA⟩ := id X
  exact va_aldq hx hb hC.1 hP q0 t he ht hi hd (kk p l e s m args below meth c H locs cells slots mc ms A la X hl hP hD hS hbc hbs)
theorem A_aast {E : ag} {M : am} {d bc bs pc : Nat} {ls : List (Option Value)} {rest : List Value} {ws : va_W} {post : Option Value → va_W → Prop} {q0 a n b : Nat} {f : Nat → Option Nat} {i : Int32} {vs : List Value} {r : vw_C} {ws2 : va_W} (t qk ci : Nat) {cA : ClassId} (hd : decode M.2.1 pc = .ok (.aastore, 1)) (he : ws[q0]? = some (a, .inl (cA, n, .inr (.inr (.inr (.inr f)))))) (ht : (ag_tys E)[t]? = some (cA, .object r.1)) (hv : ws[qk]? = some (b, .inr (ci, vs))) (hc : vwCl[ci]? = some r) (hi : vp_in i n) (hw : ws.set q0 (a, .inl (cA, n, .inr (.inr (.inr (.inr (va_up f i.toNatClampNeg (some b))))))) = ws2) (kk : AW E M d bc bs (pc + 1) ls (rest) ws2 post) : AW E M d bc bs (pc) ls (.ref b :: .int i :: .ref a :: rest) ws post := by
  subst hw
  intro p l e s m args below meth c H locs cells slots mc ms A la X hl hP hD hS hbc hbs
  obtain ⟨hx, hb, hml, hown, hts, hr, hlk, hin, hC, hA⟩ := id X
  exact va_astq hx hb hC.1 hP hD hS q0 t qk ci he ht hv hc hi hd (fun H1 locs1 hP1 hD1 hS1 => kk p l e s m args below meth c H1 locs1 cells slots mc ms A la X hl hP1 hD1 hS1 hbc hbs)
theorem A_aastN {E : ag} {M : am} {d bc bs pc : Nat} {ls : List (Option Value)} {rest : List Value} {ws : va_W} {post : Option Value → va_W → Prop} {q0 a n : Nat} {f : Nat → Option Nat} {i : Int32} {C : String} {ws2 : va_W} (t : Nat) {cA : ClassId} (hd : decode M.2.1 pc = .ok (.aastore, 1)) (he : ws[q0]? = some (a, .inl (cA, n, .inr (.inr (.inr (.inr f)))))) (ht : (ag_tys E)[t]? = some (cA, .object C)) (hi : vp_in i n) (hw : ws.set q0 (a, .inl (cA, n, .inr (.inr (.inr (.inr (va_up f i.toNatClampNeg none)))))) = ws2) (kk : AW E M d bc bs (pc + 1) ls (rest) ws2 post) : AW E M d bc bs (pc) ls (.null :: .int i :: .ref a :: rest) ws post := by
  subst hw
  intro p l e s m args below meth c H locs cells slots mc ms A la X hl hP hD hS hbc hbs
  obtain ⟨hx, hb, hml, hown, hts, hr, hlk, hin, hC, hA⟩ := id X
  exact va_astqN hx hb hC.1 hP hD hS q0 t he ht hi hd (fun H1 locs1 hP1 hD1 hS1 => kk p l e s m args below meth c H1 locs1 cells slots mc ms A la X hl hP1 hD1 hS1 hbc hbs)
theorem A_above {E : ag} {M : am} {d bc bs pc : Nat} {ls : List (Option Value)} {rest : List Value} {ws : va_W} {post : Option Value → va_W → Prop} {index : Nat} (hd : decode M.2.1 pc = .ok (.getstatic index, 3)) (hw : Cond.fieldLink M.1 index "FourFlails" "ABOVE" "[I" ∈ gtbl) (k : AW E M d bc bs (pc + 3) ls (.ref E.2.2.2.2 :: rest) ws post) : AW E M d bc bs (pc) ls (rest) ws post := by
  intro p l e s m args below meth c H locs cells slots mc ms A la X hl hP hD hS hbc hbs
  obtain ⟨hx, hb, hml, hown, hts, hr, hlk, hin, hC, hA⟩ := id X
  refine va_gets hx hb hC.2.2.2.2.1 hS hown (hts _ hw) (fun _ h9 => h9) hd ?_
  exact k p l e s m args below meth c H locs cells slots mc ms A la X hl hP hD hS hbc hbs
theorem A_abld {E : ag} {M : am} {d bc bs pc : Nat} {ls : List (Option Value)} {rest : List Value} {ws : va_W} {post : Option Value → va_W → Prop} {i : Int32} (hd : decode M.2.1 pc = .ok (.iaload, 1)) (hi : vp_in i 6) (k : AW E M d bc bs (pc + 1) ls (.int (ag_above i.toNatClampNeg) :: rest) ws post) : AW E M d bc bs (pc) ls (.int i :: .ref E.2.2.2.2 :: rest) ws post := by
  intro p l e s m args below meth c H locs cells slots mc ms A la X hl hP hD hS hbc hbs
  obtain ⟨hx, hb, hml, hown, hts, hr, hlk, hin, hC, hA⟩ := id X
  refine va_ti hx hb hC.2.2.2.1 hS hi rfl hd ?_
  exact k p l e s m args below meth c H locs cells slots mc ms A la X hl hP hD hS hbc hbs
theorem A_ablen {E : ag} {M : am} {d bc bs pc : Nat} {ls : List (Option Value)} {rest : List Value} {ws : va_W} {post : Option Value → va_W → Prop}  (hd : decode M.2.1 pc = .ok (.arraylength, 1))  (k : AW E M d bc bs (pc + 1) ls (.int (Int32.ofNat 6) :: rest) ws post) : AW E M d bc bs (pc) ls (.ref E.2.2.2.2 :: rest) ws post := by
  intro p l e s m args below meth c H locs cells slots mc ms A la X hl hP hD hS hbc hbs
  obtain ⟨hx, hb, hml, hown, hts, hr, hlk, hin, hC, hA⟩ := id X
  refine va_tlen hx hb hC.2.2.2.1 hS rfl hd ?_
  exact k p l e s m args below meth c H locs cells slots mc ms A la X hl hP hD hS hbc hbs
theorem A_iret {E : ag} {M : am} {d bc bs pc : Nat} {ls : List (Option Value)} {ws : va_W} {post : Option Value → va_W → Prop} {v : Int32} {ty : FieldType} (hd : decode M.2.1 pc = .ok (.ireturn, 1)) (hre : M.2.2.2.1 = some ty) (hnr : narrow ty (.int v) = .int v) (h : post (some (.int v)) ws) : AW E M d bc bs (pc) ls ([.int v]) ws post := by
  intro p l e s m args below meth c H locs cells slots mc ms A la X hl hP hD hS hbc hbs
  obtain ⟨hx, hb, hml, hown, hts, hr, hlk, hin, hC, hA⟩ := id X
  refine W.widen (k := mc) (n := ms) (by omega) (by omega) ?_
  exact W.zret hx hb (hr.trans hre) hnr (fun t ht hW => ⟨⟨_, ws, rfl, h, by rw [ht]; exact hP, hD⟩, hS.F ht⟩) hS.2.2 hd hlk
theorem A_lret {E : ag} {M : am} {d bc bs pc : Nat} {ls : List (Option Value)} {ws : va_W} {post : Option Value → va_W → Prop} {v : Int64} (hd : decode M.2.1 pc = .ok (.lreturn, 1)) (hre : M.2.2.2.1 = some .long) (h : post (some (.long v)) ws) : AW E M d bc bs (pc) ls ([.long v]) ws post := by
  intro p l e s m args below meth c H locs cells slots mc ms A la X hl hP hD hS hbc hbs
  obtain ⟨hx, hb, hml, hown, hts, hr, hlk, hin, hC, hA⟩ := id X
  refine W.widen (k := mc) (n := ms) (by omega) (by omega) ?_
  exact W.lret hx hb (hr.trans hre) (fun t ht hW => ⟨⟨_, ws, rfl, h, by rw [ht]; exact hP, hD⟩, hS.F ht⟩) hS.2.2 hd hlk
theorem A_vret {E : ag} {M : am} {d bc bs pc : Nat} {ls : List (Option Value)} {ws : va_W} {post : Option Value → va_W → Prop}  (hd : decode M.2.1 pc = .ok (.return_, 1)) (hre : M.2.2.2.1 = none) (h : post (none) ws) : AW E M d bc bs (pc) ls ([]) ws post := by
  intro p l e s m args below meth c H locs cells slots mc ms A la X hl hP hD hS hbc hbs
  obtain ⟨hx, hb, hml, hown, hts, hr, hlk, hin, hC, hA⟩ := id X
  refine W.widen (k := mc) (n := ms) (by omega) (by omega) ?_
  exact W.vret hx hb (hr.trans hre) (fun t ht hW => ⟨⟨_, ws, rfl, h, by rw [ht]; exact hP, hD⟩, hS.F ht⟩) hS.2.2 hd hlk
theorem A_aret {E : ag} {M : am} {d bc bs pc : Nat} {ls : List (Option Value)} {ws : va_W} {post : Option Value → va_W → Prop} {v : Value} {rt : FieldType} (hd : decode M.2.1 pc = .ok (.areturn, 1)) (hre : M.2.2.2.1 = some rt) (hrt : (∃ n, rt = .object n) ∨ ∃ t, rt = .array t) (hv : v = .null ∨ ∃ a, v = .ref a) (h : post (some v) ws) : AW E M d bc bs (pc) ls ([v]) ws post := by
  intro p l e s m args below meth c H locs cells slots mc ms A la X hl hP hD hS hbc hbs
  obtain ⟨hx, hb, hml, hown, hts, hr, hlk, hin, hC, hA⟩ := id X
  refine W.widen (k := mc) (n := ms) (by omega) (by omega) ?_
  exact W.aret hx hb (hr.trans hre) hrt hv (fun t ht hW => ⟨⟨_, ws, rfl, h, by rw [ht]; exact hP, hD⟩, hS.F ht⟩) hS.2.2 hd hlk
theorem AW.mono {E : ag} {M : am} {d bc bs pc : Nat} {ls : List (Option Value)} {st : List Value} {ws : va_W} {post post2 : Option Value → va_W → Prop} (h : AW E M d bc bs pc ls st ws post) (hp : ∀ v w, post v w → post2 v w) : AW E M d bc bs pc ls st ws post2 := by
  intro p l e s m args below meth c H locs cells slots mc ms A la X hl hP hD hS hbc hbs T hT XS
  obtain ⟨t, h1, o, h2, h3, ⟨⟨v, w, h4, h5, h6⟩, h7⟩, h8⟩ := h p l e s m args below meth c H locs cells slots mc ms A la X hl hP hD hS hbc hbs T hT XS
  exact ⟨t, h1, o, h2, h3, ⟨⟨v, w, h4, hp v w h5, h6⟩, h7⟩, h8⟩
