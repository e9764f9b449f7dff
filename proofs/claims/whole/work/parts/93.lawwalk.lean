/-! THE LAW'S WALK: as AW, but for the law's own body: what it may write is what it made itself; its script is read, not written -/
def LX (E : ag) (b L : Nat) (xs : Nat → Int32) (p : Program) (s : State) (m : MethodId) (meth : Method) (c : Code) : Prop :=
  p.tables.exec = Jvm.exec ∧ c.code = code ∧ c.maxLocals = 4 ∧ s.vm.findClass R_law = some m.cls ∧ (∀ w ∈ gtbl, w.before #[Value.ref b] s = true) ∧ meth.sig.returnType = ret ∧ meth.locks = false ∧ ac_C E (fun q => s.heap.size ≤ q) s s.heap ∧ va_X b L xs s s.heap ∧ b < s.heap.size
def LW (E : ag) (b L : Nat) (xs : Nat → Int32) (bc bs pc : Nat) (ls : List (Option Value)) (st : List Value) (ws : va_W) : Prop :=
  ∀ (p : Program) (l : Launch) (e : Env) (s : State) (m : MethodId) (below : List Frame) (meth : Method) (c : Code) (H : Heap) (locs : List Loc) (cells slots : Nat) (la : Array Slot),
    LX E b L xs p s m meth c → lv_has la 4 (ps 0 ls) → va_P E.1 vwCl ws H → va_D (fun q => s.heap.size ≤ q) ws → va_S (fun q => s.heap.size ≤ q) s.heap H locs → cells + bc ≤ 600000 → slots + bs ≤ 7302250 →
    W p l e room_1 s m #[Value.ref b] below meth c H locs cells slots (lw_Z below #[Value.ref b] s) (F0 m pc la st)
theorem LW.less {E : ag} {b L : Nat} {xs : Nat → Int32} {bc bs bc2 bs2 pc : Nat} {ls : List (Option Value)} {st : List Value} {ws : va_W} (h1 : bc2 ≤ bc) (h2 : bs2 ≤ bs) (h : LW E b L xs bc2 bs2 pc ls st ws) : LW E b L xs bc bs pc ls st ws := by
  intro p l e s m below meth c H locs cells slots la X hl hP hD hS hbc hbs
  exact h p l e s m below meth c H locs cells slots la X hl hP hD hS (by omega) (by omega)
theorem LW.pcq {E : ag} {b L : Nat} {xs : Nat → Int32} {bc bs pc : Nat} {pc2 : Nat} {ls : List (Option Value)} {st : List Value} {ws : va_W} (h : pc = pc2) (k : LW E b L xs bc bs pc2 ls st ws) : LW E b L xs bc bs pc ls st ws := h ▸ k
theorem LW.world {E : ag} {b L : Nat} {xs : Nat → Int32} {bc bs pc : Nat} {ls : List (Option Value)} {st : List Value} {ws ws2 : va_W} (h : ws = ws2) (k : LW E b L xs bc bs pc ls st ws2) : LW E b L xs bc bs pc ls st ws := h ▸ k
theorem LW.topi {E : ag} {b L : Nat} {xs : Nat → Int32} {bc bs pc : Nat} {ls : List (Option Value)} {rest : List Value} {ws : va_W} {x : Int32} (k : ∀ y : Int32, y = x → LW E b L xs bc bs pc ls (.int y :: rest) ws) : LW E b L xs bc bs pc ls (.int x :: rest) ws := k x rfl
theorem L_dup {E : ag} {b0 L0 : Nat} {xs0 : Nat → Int32} {bc bs pc : Nat} {ls : List (Option Value)} {rest : List Value} {ws : va_W} {va : Value} (hd : decode code pc = .ok (.dup, 1)) (hva : va.category = 1) (k : LW E b0 L0 xs0 bc bs (pc + 1) ls (va :: va :: rest) ws) : LW E b0 L0 xs0 bc bs (pc) ls (va :: rest) ws := by
  intro p l e s m below meth c H locs cells slots la X hl hP hD hS hbc hbs
  obtain ⟨hx, hb, hml, hown, hts, hr, hlk, hC, hX, hbl⟩ := id X
  refine lv_dup hx hb hd hva ?_
  exact k p l e s m below meth c H locs cells slots la X hl hP hD hS hbc hbs
theorem L_astore_n {E : ag} {b0 L0 : Nat} {xs0 : Nat → Int32} {bc bs pc : Nat} {ls : List (Option Value)} {rest : List Value} {ws : va_W} {n : Fin 4} {x : Nat} {ls2 : List (Option Value)} (hd : decode code pc = .ok (.astore_n n, 1)) (hi : (n : Nat) < 4) (hn : noL ls = true) (he : ls.set (n : Nat) (some (.ref x)) = ls2) (k : LW E b0 L0 xs0 bc bs (pc + 1) ls2 (rest) ws) : LW E b0 L0 xs0 bc bs (pc) ls (.ref x :: rest) ws := by
  subst he
  intro p l e s m below meth c H locs cells slots la X hl hP hD hS hbc hbs
  obtain ⟨hx, hb, hml, hown, hts, hr, hlk, hC, hX, hbl⟩ := id X
  refine lv_astore_n hx hb hd rfl hl hi rfl (fun la2 h2 => ?_)
  exact k p l e s m below meth c H locs cells slots la2 X (ps_set hn h2) hP hD hS hbc hbs
theorem L_iconst {E : ag} {b0 L0 : Nat} {xs0 : Nat → Int32} {bc bs pc : Nat} {ls : List (Option Value)} {rest : List Value} {ws : va_W} {n : Int} (v : Int32) (hd : decode code pc = .ok (.iconst n, 1)) (hv : Int32.ofInt n = v) (k : LW E b0 L0 xs0 bc bs (pc + 1) ls (.int v :: rest) ws) : LW E b0 L0 xs0 bc bs (pc) ls (rest) ws := by
  intro p l e s m below meth c H locs cells slots la X hl hP hD hS hbc hbs
  obtain ⟨hx, hb, hml, hown, hts, hr, hlk, hC, hX, hbl⟩ := id X
  refine lv_iconst hx hb hd hv ?_
  exact k p l e s m below meth c H locs cells slots la X hl hP hD hS hbc hbs
theorem L_istore_n {E : ag} {b0 L0 : Nat} {xs0 : Nat → Int32} {bc bs pc : Nat} {ls : List (Option Value)} {rest : List Value} {ws : va_W} {n : Fin 4} {x : Int32} {ls2 : List (Option Value)} (hd : decode code pc = .ok (.istore_n n, 1)) (hi : (n : Nat) < 4) (hn : noL ls = true) (he : ls.set (n : Nat) (some (.int x)) = ls2) (k : LW E b0 L0 xs0 bc bs (pc + 1) ls2 (rest) ws) : LW E b0 L0 xs0 bc bs (pc) ls (.int x :: rest) ws := by
  subst he
  intro p l e s m below meth c H locs cells slots la X hl hP hD hS hbc hbs
  obtain ⟨hx, hb, hml, hown, hts, hr, hlk, hC, hX, hbl⟩ := id X
  refine lv_istore_n hx hb hd rfl hl hi rfl (fun la2 h2 => ?_)
  exact k p l e s m below meth c H locs cells slots la2 X (ps_set hn h2) hP hD hS hbc hbs
theorem L_iload_n {E : ag} {b0 L0 : Nat} {xs0 : Nat → Int32} {bc bs pc : Nat} {ls : List (Option Value)} {rest : List Value} {ws : va_W} {n : Fin 4} {x : Int32} (hd : decode code pc = .ok (.iload_n n, 1)) (h : ls[(n : Nat)]? = some (some (.int x))) (k : LW E b0 L0 xs0 bc bs (pc + 1) ls (.int x :: rest) ws) : LW E b0 L0 xs0 bc bs (pc) ls (rest) ws := by
  intro p l e s m below meth c H locs cells slots la X hl hP hD hS hbc hbs
  obtain ⟨hx, hb, hml, hown, hts, hr, hlk, hC, hX, hbl⟩ := id X
  refine lv_iload_n hx hb hd rfl (ps_at hl h) ?_
  exact k p l e s m below meth c H locs cells slots la X hl hP hD hS hbc hbs
theorem L_aload_n {E : ag} {b0 L0 : Nat} {xs0 : Nat → Int32} {bc bs pc : Nat} {ls : List (Option Value)} {rest : List Value} {ws : va_W} {n : Fin 4} {a : Nat} (hd : decode code pc = .ok (.aload_n n, 1)) (h : ls[(n : Nat)]? = some (some (.ref a))) (k : LW E b0 L0 xs0 bc bs (pc + 1) ls (.ref a :: rest) ws) : LW E b0 L0 xs0 bc bs (pc) ls (rest) ws := by
  intro p l e s m below meth c H locs cells slots la X hl hP hD hS hbc hbs
  obtain ⟨hx, hb, hml, hown, hts, hr, hlk, hC, hX, hbl⟩ := id X
  refine lv_aload_n hx hb hd rfl (ps_at hl h) ?_
  exact k p l e s m below meth c H locs cells slots la X hl hP hD hS hbc hbs
theorem L_bipush {E : ag} {b0 L0 : Nat} {xs0 : Nat → Int32} {bc bs pc : Nat} {ls : List (Option Value)} {rest : List Value} {ws : va_W} {n : Int} (v : Int32) (hd : decode code pc = .ok (.bipush n, 2)) (hv : (Int8.ofInt n).toInt32 = v) (k : LW E b0 L0 xs0 bc bs (pc + 2) ls (.int v :: rest) ws) : LW E b0 L0 xs0 bc bs (pc) ls (rest) ws := by
  intro p l e s m below meth c H locs cells slots la X hl hP hD hS hbc hbs
  obtain ⟨hx, hb, hml, hown, hts, hr, hlk, hC, hX, hbl⟩ := id X
  refine lv_bipush hx hb hd hv ?_
  exact k p l e s m below meth c H locs cells slots la X hl hP hD hS hbc hbs
theorem L_isub {E : ag} {b0 L0 : Nat} {xs0 : Nat → Int32} {bc bs pc : Nat} {ls : List (Option Value)} {rest : List Value} {ws : va_W} {x y : Int32} (hd : decode code pc = .ok (.isub, 1))  (k : LW E b0 L0 xs0 bc bs (pc + 1) ls (.int (x - y) :: rest) ws) : LW E b0 L0 xs0 bc bs (pc) ls (.int y :: .int x :: rest) ws := by
  intro p l e s m below meth c H locs cells slots la X hl hP hD hS hbc hbs
  obtain ⟨hx, hb, hml, hown, hts, hr, hlk, hC, hX, hbl⟩ := id X
  refine lv_isub hx hb hd ?_
  exact k p l e s m below meth c H locs cells slots la X hl hP hD hS hbc hbs
theorem L_icmp_gt {E : ag} {b0 L0 : Nat} {xs0 : Nat → Int32} {bc bs pc : Nat} {ls : List (Option Value)} {rest : List Value} {ws : va_W} {x y : Int32} {off : Int} (tgt : Nat) (hd : decode code pc = .ok (.if_icmp .gt off, 3)) (ht : (pc : Int) + off = (tgt : Int)) (kt : (y < x) → LW E b0 L0 xs0 bc bs (tgt) ls (rest) ws) (kf : ¬ (y < x) → LW E b0 L0 xs0 bc bs (pc + 3) ls (rest) ws) : LW E b0 L0 xs0 bc bs (pc) ls (.int y :: .int x :: rest) ws := by
  intro p l e s m below meth c H locs cells slots la X hl hP hD hS hbc hbs
  obtain ⟨hx, hb, hml, hown, hts, hr, hlk, hC, hX, hbl⟩ := id X
  exact lv_icmp_gt hx hb hd ht (fun q => kt q p l e s m below meth c H locs cells slots la X hl hP hD hS hbc hbs) (fun q => kf q p l e s m below meth c H locs cells slots la X hl hP hD hS hbc hbs)
theorem L_icmp_eq {E : ag} {b0 L0 : Nat} {xs0 : Nat → Int32} {bc bs pc : Nat} {ls : List (Option Value)} {rest : List Value} {ws : va_W} {x y : Int32} {off : Int} (tgt : Nat) (hd : decode code pc = .ok (.if_icmp .eq off, 3)) (ht : (pc : Int) + off = (tgt : Int)) (kt : (x = y) → LW E b0 L0 xs0 bc bs (tgt) ls (rest) ws) (kf : ¬ (x = y) → LW E b0 L0 xs0 bc bs (pc + 3) ls (rest) ws) : LW E b0 L0 xs0 bc bs (pc) ls (.int y :: .int x :: rest) ws := by
  intro p l e s m below meth c H locs cells slots la X hl hP hD hS hbc hbs
  obtain ⟨hx, hb, hml, hown, hts, hr, hlk, hC, hX, hbl⟩ := id X
  exact lv_icmp_eq hx hb hd ht (fun q => kt q p l e s m below meth c H locs cells slots la X hl hP hD hS hbc hbs) (fun q => kf q p l e s m below meth c H locs cells slots la X hl hP hD hS hbc hbs)
theorem L_iand {E : ag} {b0 L0 : Nat} {xs0 : Nat → Int32} {bc bs pc : Nat} {ls : List (Option Value)} {rest : List Value} {ws : va_W} {x y : Int32} (hd : decode code pc = .ok (.iand, 1))  (k : LW E b0 L0 xs0 bc bs (pc + 1) ls (.int (x &&& y) :: rest) ws) : LW E b0 L0 xs0 bc bs (pc) ls (.int y :: .int x :: rest) ws := by
  intro p l e s m below meth c H locs cells slots la X hl hP hD hS hbc hbs
  obtain ⟨hx, hb, hml, hown, hts, hr, hlk, hC, hX, hbl⟩ := id X
  refine lv_iand hx hb hd ?_
  exact k p l e s m below meth c H locs cells slots la X hl hP hD hS hbc hbs
theorem L_iadd {E : ag} {b0 L0 : Nat} {xs0 : Nat → Int32} {bc bs pc : Nat} {ls : List (Option Value)} {rest : List Value} {ws : va_W} {x y : Int32} (hd : decode code pc = .ok (.iadd, 1))  (k : LW E b0 L0 xs0 bc bs (pc + 1) ls (.int (x + y) :: rest) ws) : LW E b0 L0 xs0 bc bs (pc) ls (.int y :: .int x :: rest) ws := by
  intro p l e s m below meth c H locs cells slots la X hl hP hD hS hbc hbs
  obtain ⟨hx, hb, hml, hown, hts, hr, hlk, hC, hX, hbl⟩ := id X
  refine lv_iadd hx hb hd ?_
  exact k p l e s m below meth c H locs cells slots la X hl hP hD hS hbc hbs
theorem L_tableIn {E : ag} {b0 L0 : Nat} {xs0 : Nat → Int32} {bc bs pc : Nat} {ls : List (Option Value)} {rest : List Value} {ws : va_W} {dflt lo hi : Int} {offs : Array Int} {len : Nat} {x : Int32} (off : Int) (tgt : Nat) (hd : decode code pc = .ok (.tableswitch dflt lo hi offs, len)) (h1 : ¬ x.toInt < lo) (h2 : ¬ hi < x.toInt) (ho : offs[(x.toInt - lo).toNat]? = some off) (ht : (pc : Int) + off = (tgt : Int)) (k : LW E b0 L0 xs0 bc bs (tgt) ls (rest) ws) : LW E b0 L0 xs0 bc bs (pc) ls (.int x :: rest) ws := by
  intro p l e s m below meth c H locs cells slots la X hl hP hD hS hbc hbs
  obtain ⟨hx, hb, hml, hown, hts, hr, hlk, hC, hX, hbl⟩ := id X
  refine lv_tableIn hx hb hd h1 h2 ho ht ?_
  exact k p l e s m below meth c H locs cells slots la X hl hP hD hS hbc hbs
theorem L_tableOut {E : ag} {b0 L0 : Nat} {xs0 : Nat → Int32} {bc bs pc : Nat} {ls : List (Option Value)} {rest : List Value} {ws : va_W} {dflt lo hi : Int} {offs : Array Int} {len : Nat} {x : Int32} (tgt : Nat) (hd : decode code pc = .ok (.tableswitch dflt lo hi offs, len)) (h : x.toInt < lo ∨ hi < x.toInt) (ht : (pc : Int) + dflt = (tgt : Int)) (k : LW E b0 L0 xs0 bc bs (tgt) ls (rest) ws) : LW E b0 L0 xs0 bc bs (pc) ls (.int x :: rest) ws := by
  intro p l e s m below meth c H locs cells slots la X hl hP hD hS hbc hbs
  obtain ⟨hx, hb, hml, hown, hts, hr, hlk, hC, hX, hbl⟩ := id X
  refine lv_tableOut hx hb hd h ht ?_
  exact k p l e s m below meth c H locs cells slots la X hl hP hD hS hbc hbs
theorem L_lcmp {E : ag} {b0 L0 : Nat} {xs0 : Nat → Int32} {bc bs pc : Nat} {ls : List (Option Value)} {rest : List Value} {ws : va_W} {x y : Int64} (hd : decode code pc = .ok (.lcmp, 1))  (k : LW E b0 L0 xs0 bc bs (pc + 1) ls (.int (lg_cmp x y) :: rest) ws) : LW E b0 L0 xs0 bc bs (pc) ls (.long y :: .long x :: rest) ws := by
  intro p l e s m below meth c H locs cells slots la X hl hP hD hS hbc hbs
  obtain ⟨hx, hb, hml, hown, hts, hr, hlk, hC, hX, hbl⟩ := id X
  refine W.lcmp hx hb hd ?_
  exact k p l e s m below meth c H locs cells slots la X hl hP hD hS hbc hbs
theorem L_if_eq {E : ag} {b0 L0 : Nat} {xs0 : Nat → Int32} {bc bs pc : Nat} {ls : List (Option Value)} {rest : List Value} {ws : va_W} {x : Int32} {off : Int} (tgt : Nat) (hd : decode code pc = .ok (.ifCond .eq off, 3)) (ht : (pc : Int) + off = (tgt : Int)) (kt : (x = 0) → LW E b0 L0 xs0 bc bs (tgt) ls (rest) ws) (kf : ¬ (x = 0) → LW E b0 L0 xs0 bc bs (pc + 3) ls (rest) ws) : LW E b0 L0 xs0 bc bs (pc) ls (.int x :: rest) ws := by
  intro p l e s m below meth c H locs cells slots la X hl hP hD hS hbc hbs
  obtain ⟨hx, hb, hml, hown, hts, hr, hlk, hC, hX, hbl⟩ := id X
  exact lv_if_eq hx hb hd ht (fun q => kt q p l e s m below meth c H locs cells slots la X hl hP hD hS hbc hbs) (fun q => kf q p l e s m below meth c H locs cells slots la X hl hP hD hS hbc hbs)
theorem L_goto {E : ag} {b0 L0 : Nat} {xs0 : Nat → Int32} {bc bs pc : Nat} {ls : List (Option Value)} {rest : List Value} {ws : va_W} {off : Int} (tgt : Nat) (hd : decode code pc = .ok (.goto off, 3)) (ht : (pc : Int) + off = (tgt : Int)) (k : LW E b0 L0 xs0 bc bs (tgt) ls (rest) ws) : LW E b0 L0 xs0 bc bs (pc) ls (rest) ws := by
  intro p l e s m below meth c H locs cells slots la X hl hP hD hS hbc hbs
  obtain ⟨hx, hb, hml, hown, hts, hr, hlk, hC, hX, hbl⟩ := id X
  refine lv_goto hx hb hd ht ?_
  exact k p l e s m below meth c H locs cells slots la X hl hP hD hS hbc hbs
theorem L_iinc {E : ag} {b0 L0 : Nat} {xs0 : Nat → Int32} {bc bs pc : Nat} {ls : List (Option Value)} {rest : List Value} {ws : va_W} {i : Nat} {n : Int} {x : Int32} {ls2 : List (Option Value)} (v : Int32) (hd : decode code pc = .ok (.iinc i n, 3)) (hx0 : ls[i]? = some (some (.int x))) (hv : x + Int32.ofInt n = v) (hi : i < 4) (hn : noL ls = true) (he : ls.set i (some (.int v)) = ls2) (k : LW E b0 L0 xs0 bc bs (pc + 3) ls2 (rest) ws) : LW E b0 L0 xs0 bc bs (pc) ls (rest) ws := by
  subst he
  intro p l e s m below meth c H locs cells slots la X hl hP hD hS hbc hbs
  obtain ⟨hx, hb, hml, hown, hts, hr, hlk, hC, hX, hbl⟩ := id X
  obtain ⟨j, hj⟩ := List.getElem?_of_mem (ps_mem ls 0 i _ hx0)
  rw [Nat.zero_add] at hj
  refine lv_iinc hx hb hd hl hj hv hi rfl (fun la2 h2 => ?_)
  exact k p l e s m below meth c H locs cells slots la2 X (ps_set hn h2) hP hD hS hbc hbs
theorem L_slen {E : ag} {b0 L0 : Nat} {xs0 : Nat → Int32} {bc bs pc : Nat} {ls : List (Option Value)} {rest : List Value} {ws : va_W} (hd : decode code pc = .ok (.arraylength, 1)) (k : LW E b0 L0 xs0 bc bs (pc + 1) ls (.int (nI L0) :: rest) ws) : LW E b0 L0 xs0 bc bs pc ls (.ref b0 :: rest) ws := by
  intro p l e s m below meth c H locs cells slots la X hl hP hD hS hbc hbs
  obtain ⟨hx, hb, hml, hown, hts, hr, hlk, hC, hX, hbl⟩ := id X
  refine va_slen hx hb hX hbl (Nat.not_le.mpr hbl) hS hd ?_
  exact k p l e s m below meth c H locs cells slots la X hl hP hD hS hbc hbs
theorem L_sld {E : ag} {b0 L0 : Nat} {xs0 : Nat → Int32} {bc bs pc : Nat} {ls : List (Option Value)} {rest : List Value} {ws : va_W} {i : Int32} (hd : decode code pc = .ok (.iaload, 1)) (hi : vp_in i L0) (k : LW E b0 L0 xs0 bc bs (pc + 1) ls (.int (xs0 i.toNatClampNeg) :: rest) ws) : LW E b0 L0 xs0 bc bs pc ls (.int i :: .ref b0 :: rest) ws := by
  intro p l e s m below meth c H locs cells slots la X hl hP hD hS hbc hbs
  obtain ⟨hx, hb, hml, hown, hts, hr, hlk, hC, hX, hbl⟩ := id X
  refine va_sld hx hb hX hbl (Nat.not_le.mpr hbl) hS hi hd ?_
  exact k p l e s m below meth c H locs cells slots la X hl hP hD hS hbc hbs
theorem L_ret {E : ag} {b0 L0 : Nat} {xs0 : Nat → Int32} {bc bs pc : Nat} {ls : List (Option Value)} {ws : va_W} (hd : decode code pc = .ok (.ireturn, 1)) : LW E b0 L0 xs0 bc bs pc ls [.int 1] ws := by
  intro p l e s m below meth c H locs cells slots la X hl hP hD hS hbc hbs
  obtain ⟨hx, hb, hml, hown, hts, hr, hlk, hC, hX, hbl⟩ := id X
  refine va_forget (fun q hq => hS.2.2 q hq) ?_
  refine W.widen (k := 600000) (n := 7302250) (by omega) (by omega) ?_
  exact lw_ret hx hb hr hlk hd
theorem L_new {E : ag} {b0 L0 : Nat} {xs0 : Nat → Int32} {bc bs pc : Nat} {ls : List (Option Value)} {rest : List Value} {ws : va_W} {index ci N : Nat} {fs : List Value} (hd : decode code pc = .ok (.new index, 3)) (hf : NW R_law index ci N fs) (h1 : 1 ≤ bc) (h2 : N ≤ bs) (kk : ∀ q : Nat, LW E b0 L0 xs0 (bc - 1) (bs - N) (pc + 3) ls (.ref q :: rest) (ws ++ [(q, .inr (ci, fs))])) : LW E b0 L0 xs0 bc bs pc ls rest ws := by
  intro p l e s m below meth c H locs cells slots la X hl hP hD hS hbc hbs
  obtain ⟨hx, hb, hml, hown, hts, hr, hlk, hC, hX, hbl⟩ := id X
  obtain ⟨C, T, ty, hc, hin2, hty, w1, w2, w3, hdf⟩ := hf
  refine va_new hx hb hts hin2 ty hty hown (hts _ w1) (hts _ w2) (hts _ w3) hC.1 hP hD hS (fun _ h => h) hc hdf (by show cells + 1 ≤ 600000; omega) (by show slots + N ≤ 7302250; omega) hd (fun q H1 hP1 hD1 hS1 => ?_)
  exact kk q p l e s m below meth c H1 locs (cells + 1) (slots + N) la X hl hP1 hD1 hS1 (by omega) (by omega)
/-! worlds in two halves -/
theorem P_app {D : va_G} {cl : List vw_C} {A B : va_W} {H : Heap} : va_P D cl (A ++ B) H ↔ va_P D cl A H ∧ va_P D cl B H := by
  constructor
  · intro h
    refine ⟨fun k q hk => h k q ?_, fun k q hk => h (A.length + k) q ?_⟩
    · rw [List.getElem?_append_left (List.getElem?_eq_some_iff.mp hk).1]; exact hk
    · rw [List.getElem?_append_right (by omega), show A.length + k - A.length = k by omega]; exact hk
  · rintro ⟨h1, h2⟩ k q hk
    rcases Nat.lt_or_ge k A.length with z | z
    · rw [List.getElem?_append_left z] at hk; exact h1 k q hk
    · rw [List.getElem?_append_right z] at hk; exact h2 _ q hk
def D_x (A B : va_W) : Prop := ∀ (i j : Nat) (p q : Nat × va_E), A[i]? = some p → B[j]? = some q → ¬ p.1 = q.1
theorem D_app {AA : Nat → Prop} {A B : va_W} : va_D AA (A ++ B) ↔ va_D AA A ∧ va_D AA B ∧ D_x A B := by
  have eL : ∀ {k : Nat} {q : Nat × va_E}, A[k]? = some q → (A ++ B)[k]? = some q := fun hk => by
    rw [List.getElem?_append_left (List.getElem?_eq_some_iff.mp hk).1]; exact hk
  have eR : ∀ {k : Nat} {q : Nat × va_E}, B[k]? = some q → (A ++ B)[A.length + k]? = some q := fun {k q} hk => by
    rw [List.getElem?_append_right (by omega), show A.length + k - A.length = k by omega]; exact hk
  constructor
  · rintro ⟨h1, h2⟩
    refine ⟨⟨fun i j p q hi hj e => h1 i j p q (eL hi) (eL hj) e, fun k q hk => h2 k q (eL hk)⟩, ⟨fun i j p q hi hj e => by have := h1 _ _ p q (eR hi) (eR hj) e; omega, fun k q hk => h2 _ q (eR hk)⟩, fun i j p q hi hj e => ?_⟩
    have := h1 _ _ p q (eL hi) (eR hj) e
    have := (List.getElem?_eq_some_iff.mp hi).1
    omega
  · rintro ⟨⟨a1, a2⟩, ⟨b1, b2⟩, x⟩
    refine ⟨fun i j p q hi hj e => ?_, fun k q hk => ?_⟩
    · rcases Nat.lt_or_ge i A.length with z | z
      · rw [List.getElem?_append_left z] at hi
        rcases Nat.lt_or_ge j A.length with y | y
        · rw [List.getElem?_append_left y] at hj; exact a1 i j p q hi hj e
        · rw [List.getElem?_append_right y] at hj; exact absurd e (x _ _ p q hi hj)
      · rw [List.getElem?_append_right z] at hi
        rcases Nat.lt_or_ge j A.length with y | y
        · rw [List.getElem?_append_left y] at hj; exact absurd e.symm (x _ _ q p hj hi)
        · rw [List.getElem?_append_right y] at hj
          have := b1 _ _ p q hi hj e
          omega
    · rcases Nat.lt_or_ge k A.length with z | z
      · rw [List.getElem?_append_left z] at hk; exact a2 k q hk
      · rw [List.getElem?_append_right z] at hk; exact b2 _ q hk
theorem LW.swap {E : ag} {b L : Nat} {xs : Nat → Int32} {bc bs pc : Nat} {ls : List (Option Value)} {st : List Value} {A B : va_W} (k : LW E b L xs bc bs pc ls st (A ++ B)) : LW E b L xs bc bs pc ls st (B ++ A) := by
  intro p l e s m below meth c H locs cells slots la X hl hP hD hS hbc hbs
  obtain ⟨p1, p2⟩ := P_app.mp hP
  obtain ⟨d1, d2, d3⟩ := D_app.mp hD
  exact k p l e s m below meth c H locs cells slots la X hl (P_app.mpr ⟨p2, p1⟩) (D_app.mpr ⟨d2, d1, fun i j p q hi hj e => d3 j i q p hj hi e.symm⟩) hS hbc hbs
theorem sub_L {A B : va_W} : (List.range' 0 A.length).map (fun i => (A ++ B)[i]?) = A.map some := by
  apply List.ext_getElem?
  intro k
  rw [List.getElem?_map, List.getElem?_map]
  by_cases hk : k < A.length
  · rw [List.getElem?_range' hk]
    show some ((A ++ B)[0 + 1 * k]?) = _
    rw [show 0 + 1 * k = k by omega, List.getElem?_append_left hk, List.getElem?_eq_getElem hk]
    rfl
  · rw [List.getElem?_eq_none (by rw [List.length_range']; omega), List.getElem?_eq_none (by omega)]
    rfl
theorem nd_L : ∀ n k, va_nd (List.range' k n) = true := by
  intro n
  induction n with
  | zero => intro k; rfl
  | succ n ih =>
    intro k
    rw [List.range'_succ]
    simp only [va_nd, Bool.and_eq_true, decide_eq_true_eq]
    refine ⟨fun z => ?_, ih (k + 1)⟩
    rw [List.mem_range'] at z
    obtain ⟨i, -, h⟩ := z
    omega
set_option maxRecDepth 10000 in
theorem L_callV {E : ag} {b0 L0 : Nat} {xs0 : Nat → Int32} {bc bs pc : Nat} {ls : List (Option Value)} {st rest : List Value} {ws A : va_W} {y : MethodName} {cc1 : ByteArray} {nL1 d1 mc1 ms1 index : Nat} {ret1 : Option FieldType} (n : Nat) {b : Nat} {As : List Value} {postc : Option Value → va_W → Prop} (hd : decode code pc = .ok (.invokevirtual index, 3)) (cb : CWb y cc1 nL1 ret1 n) (cw : CWv R_law index y) (hM : CT E y cc1 nL1 ret1 d1 mc1 ms1 (.ref b :: As) ws postc) (hst : st = As.reverse ++ .ref b :: rest) (hn : As.length = n) {q0 ci : Nat} {fs : List Value} {r : vw_C} (hrv : ws[q0]? = some (b, .inr (ci, fs))) (hrc : vwCl[ci]? = some r) (hry : r.1 = y.cls) (hroom : d1 + 1 ≤ 2000) (hnl : nL1 ≤ 21) (hcat : (rest.map fun v => v.category).sum ≤ 8) (hmc : mc1 ≤ bc) (hms : ms1 ≤ bs)
    (kk : ∀ (v : Option Value) (w1 : va_W), postc v w1 → LW E b0 L0 xs0 (bc - mc1) (bs - ms1) (pc + 3) ls (v.toList ++ rest) (A ++ w1)) : LW E b0 L0 xs0 bc bs pc ls st (ws ++ A) := by
  subst hst
  intro p l e s m below meth c H locs cells slots la X hl hP hD hS hbc hbs
  obtain ⟨hx, hb, hml, hown, hts, hr, hlk, hC, hX, hbl⟩ := id X
  obtain ⟨hPc, hPA⟩ := P_app.mp hP
  obtain ⟨hDc, hDA, hDx⟩ := D_app.mp hD
  have hFc : ∀ q, va_A ws H.size q → s.heap.size ≤ q := va_free hD hS (fun _ h => h) (List.range' 0 ws.length) sub_L
  have hrun := va_runV (H := H) (locs := locs) (cells := cells) (slots := slots) (R := room_1) (below := below) (meth := meth) (e := e) (g := F0 m pc la (As.reverse ++ .ref b :: rest)) (nL := 4) (As := As) (rest := rest) ⟨hx, hb, hml, hown, hts⟩ (hM l H.size) ⟨callB_of n hts (gt_goodc cb.2.1) rfl rfl rfl (hts _ cb.1) (hts _ cw.1) cb.2.2 ⟨by show d1 + 1 ≤ 2048; omega, by show 8 + (nL1 + 11) + 40 * d1 ≤ 84000; omega⟩, hts _ cw.2.1, hts _ cw.2.2⟩
    ⟨fun a U g mk q => by
      obtain ⟨q0, q1, qP, qD, qC⟩ := q
      exact ⟨q0, q1, qP, qD, ac_C.same qC rfl⟩, by rw [← hry]; exact va_recv hC.1 hPc hrc hrv, fun U hU hW => ⟨rfl, by rw [hU], by rw [hU]; exact hPc, hDc.weaken (fun _ _ _ _ => trivial), by
        rw [hU]
        exact hC.go hW (fun a h1 h2 => hS.2.1 a h1 h2) hFc⟩⟩ rfl hn hl.1 rfl (lv_room hcat) hd ⟨by show cells + mc1 ≤ 600000; omega, by show slots + ms1 ≤ 7302250; omega⟩
  refine ac_call hrun hS hFc (fun v w1 H1 locs1 hpc hP1 hD1 hk1 hS1 => ?_)
  have hna : ∀ (i : Nat) (x : Nat × va_E), A[i]? = some x → x.1 < H.size ∧ ¬ va_A ws H.size x.1 := fun i x hi => by
    have hlt := (hPA i x hi).lt
    refine ⟨hlt, ?_⟩
    rintro (⟨k, e, hk⟩ | z)
    · exact hDx k i _ x hk hi rfl
    · omega
  refine kk v w1 hpc p l e s m below meth c H1 locs1 (cells + mc1) (slots + ms1) la X hl (P_app.mpr ⟨hPA.kept (fun i x hi => hk1 _ (hna i x hi).1 (hna i x hi).2), hP1⟩) (D_app.mpr ⟨hDA, ⟨hD1.1, fun k x hk => hFc _ (hD1.2 k x hk)⟩, fun i j x z hi hj e => ?_⟩) hS1 (by omega) (by omega)
  exact (hna i x hi).2 (by rw [e]; exact hD1.2 j z hj)
set_option maxRecDepth 10000 in
theorem L_callI {E : ag} {b0 L0 : Nat} {xs0 : Nat → Int32} {bc bs pc : Nat} {ls : List (Option Value)} {st rest : List Value} {ws A : va_W} {y : MethodName} {cc1 : ByteArray} {nL1 d1 mc1 ms1 index : Nat} (n : Nat) {b : Nat} {As : List Value} {postc : Option Value → va_W → Prop} (hd : decode code pc = .ok (.invokespecial index, 3)) (cb : CWb y cc1 nL1 none n) (cw : CWi R_law index y) (hM : CT E y cc1 nL1 none d1 mc1 ms1 (.ref b :: As) ws postc) (hst : st = As.reverse ++ .ref b :: rest) (hn : As.length = n) (hroom : d1 + 1 ≤ 2000) (hnl : nL1 ≤ 21) (hcat : (rest.map fun v => v.category).sum ≤ 8) (hmc : mc1 ≤ bc) (hms : ms1 ≤ bs)
    (kk : ∀ (v : Option Value) (w1 : va_W), postc v w1 → LW E b0 L0 xs0 (bc - mc1) (bs - ms1) (pc + 3) ls (v.toList ++ rest) (A ++ w1)) : LW E b0 L0 xs0 bc bs pc ls st (ws ++ A) := by
  subst hst
  intro p l e s m below meth c H locs cells slots la X hl hP hD hS hbc hbs
  obtain ⟨hx, hb, hml, hown, hts, hr, hlk, hC, hX, hbl⟩ := id X
  obtain ⟨hPc, hPA⟩ := P_app.mp hP
  obtain ⟨hDc, hDA, hDx⟩ := D_app.mp hD
  have hFc : ∀ q, va_A ws H.size q → s.heap.size ≤ q := va_free hD hS (fun _ h => h) (List.range' 0 ws.length) sub_L
  have hrun := va_runI (H := H) (locs := locs) (cells := cells) (slots := slots) (R := room_1) (below := below) (meth := meth) (e := e) (g := F0 m pc la (As.reverse ++ .ref b :: rest)) (nL := 4) (As := As) (rest := rest) ⟨hx, hb, hml, hown, hts⟩ (hM l H.size) ⟨callB_of n hts (gt_goodc cb.2.1) rfl rfl rfl (hts _ cb.1) (hts _ cw.1) cb.2.2 ⟨by show d1 + 1 ≤ 2048; omega, by show 8 + (nL1 + 11) + 40 * d1 ≤ 84000; omega⟩, cw.2.2, hts _ cw.2.1⟩
    ⟨fun a U g mk q => by
      obtain ⟨q0, q1, qP, qD, qC⟩ := q
      exact ⟨q0, q1, qP, qD, ac_C.same qC rfl⟩, fun U hU hW => ⟨rfl, by rw [hU], by rw [hU]; exact hPc, hDc.weaken (fun _ _ _ _ => trivial), by
        rw [hU]
        exact hC.go hW (fun a h1 h2 => hS.2.1 a h1 h2) hFc⟩⟩ rfl hn hl.1 rfl (lv_room hcat) hd ⟨by show cells + mc1 ≤ 600000; omega, by show slots + ms1 ≤ 7302250; omega⟩
  refine ac_call hrun hS hFc (fun v w1 H1 locs1 hpc hP1 hD1 hk1 hS1 => ?_)
  have hna : ∀ (i : Nat) (x : Nat × va_E), A[i]? = some x → x.1 < H.size ∧ ¬ va_A ws H.size x.1 := fun i x hi => by
    have hlt := (hPA i x hi).lt
    refine ⟨hlt, ?_⟩
    rintro (⟨k, e, hk⟩ | z)
    · exact hDx k i _ x hk hi rfl
    · omega
  refine kk v w1 hpc p l e s m below meth c H1 locs1 (cells + mc1) (slots + ms1) la X hl (P_app.mpr ⟨hPA.kept (fun i x hi => hk1 _ (hna i x hi).1 (hna i x hi).2), hP1⟩) (D_app.mpr ⟨hDA, ⟨hD1.1, fun k x hk => hFc _ (hD1.2 k x hk)⟩, fun i j x z hi hj e => ?_⟩) hS1 (by omega) (by omega)
  exact (hna i x hi).2 (by rw [e]; exact hD1.2 j z hj)
