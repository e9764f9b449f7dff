/-! CALLS: a callee's world is the whole of the caller's, or some of its cells by their places; what comes back stands at the same places -/
theorem ac_C.same {E : ag} {A : Nat → Prop} {s U : State} {H : Heap} (h : ac_C E A s H) (hv : s.vm = U.vm) : ac_C E A U H := by
  obtain ⟨h1, h2, h3, h4, h5, h6, h7, h8, h9, h10⟩ := h
  have ha : s.vm.Alike U.vm := by rw [hv]; exact Vm.Alike.refl U.vm
  exact ⟨va_K.moved ha h1, vk_S.moved ha h2, fun i hi => vk_R.same hv.symm (h3 i hi), va_T.moved ha h4, va_Z.moved ha h5, va_Z.moved ha h6, fun q hq => va_Nw.same rfl hv (h7 q hq), va_AO.moved ha h8, va_AO.moved ha h9, va_Zq.moved ha h10⟩
/-- the world with a callee's cells put back at their places, new ones behind -/
def mrg : va_W → List Nat → va_W → va_W
  | ws, [], w1 => ws ++ w1
  | ws, _ :: _, [] => ws
  | ws, i :: is, x :: w1 => mrg (ws.set i x) is w1
theorem mrg_at : ∀ (is : List Nat) (ws w1 : va_W), (∀ i ∈ is, i < ws.length) → va_nd is = true → is.length ≤ w1.length → ∀ (k : Nat) (q : Nat × va_E), (mrg ws is w1)[k]? = some q →
    (∃ j : Nat, is[j]? = some k ∧ w1[j]? = some q) ∨ (k ∉ is ∧ k < ws.length ∧ ws[k]? = some q) ∨ (∃ t : Nat, k = ws.length + t ∧ w1[is.length + t]? = some q) := by
  intro is
  induction is with
  | nil =>
    intro ws w1 h1 h2 h3 k q hk
    rw [mrg] at hk
    by_cases hl : k < ws.length
    · rw [List.getElem?_append_left hl] at hk
      exact Or.inr (Or.inl ⟨by simp, hl, hk⟩)
    · rw [List.getElem?_append_right (by omega)] at hk
      exact Or.inr (Or.inr ⟨k - ws.length, by omega, by simpa using hk⟩)
  | cons i is ih =>
    intro ws w1 h1 h2 h3 k q hk
    cases w1 with
    | nil => simp at h3
    | cons x w1 =>
      rw [mrg] at hk
      have hnd : i ∉ is ∧ va_nd is = true := by
        simp only [va_nd, Bool.and_eq_true] at h2
        refine ⟨fun h => ?_, h2.2⟩
        have := h2.1
        simp_all
      have h5 := ih (ws.set i x) w1 (fun j hj => by rw [List.length_set]; exact h1 j (List.mem_cons_of_mem _ hj)) hnd.2 (by simpa using h3) k q hk
      rcases h5 with ⟨j, a1, a2⟩ | ⟨a1, a2, a3⟩ | ⟨t, a1, a2⟩
      · exact Or.inl ⟨j + 1, by simpa using a1, by simpa using a2⟩
      · rw [List.length_set] at a2
        by_cases hki : k = i
        · subst hki
          rw [List.getElem?_set] at a3
          simp only [if_true, a2] at a3
          exact Or.inl ⟨0, rfl, by simpa using a3⟩
        · rw [List.getElem?_set] at a3
          rw [if_neg (fun h => hki h.symm)] at a3
          exact Or.inr (Or.inl ⟨by simp [hki, a1], a2, a3⟩)
      · rw [List.length_set] at a1
        refine Or.inr (Or.inr ⟨t, a1, ?_⟩)
        rw [show (i :: is).length + t = (is.length + t) + 1 by simp; omega]
        simpa using a2
theorem mrg_PD {A0 : Nat → Prop} {E : ag} {ws wc w1 : va_W} {H H1 : Heap} (is : List Nat) (hP : va_P E.1 vwCl ws H) (hD : va_D A0 ws) (hC : is.map (fun i => ws[i]?) = wc.map some) (hn : va_nd is = true) (hlen : is.length ≤ w1.length)
    (hk : ∀ q : Nat, q < H.size → ¬ va_A wc H.size q → H1[q]? = H[q]?) (hF : ∀ q, va_A wc H.size q → A0 q) (hP1 : va_P E.1 vwCl w1 H1) (hD1 : va_D (va_A wc H.size) w1) : va_P E.1 vwCl (mrg ws is w1) H1 ∧ va_D A0 (mrg ws is w1) := by
  have hin : ∀ i ∈ is, i < ws.length := by
    intro i hi
    obtain ⟨j, hj⟩ := List.getElem?_of_mem hi
    have h1 : (is.map (fun i => ws[i]?))[j]? = some ws[i]? := by rw [List.getElem?_map, hj]; rfl
    rw [hC, List.getElem?_map] at h1
    cases hw : wc[j]? with
    | none => rw [hw] at h1; cases h1
    | some x =>
      rw [hw] at h1
      have h2 : some x = ws[i]? := by simpa using h1
      exact (List.getElem?_eq_some_iff.mp h2.symm).1
  have hat : ∀ (j : Nat) (x : Nat × va_E), wc[j]? = some x → ∃ i : Nat, is[j]? = some i ∧ ws[i]? = some x := by
    intro j x hx
    have h1 : (is.map (fun i => ws[i]?))[j]? = some (some x) := by rw [hC, List.getElem?_map, hx]; rfl
    rw [List.getElem?_map] at h1
    cases hi : is[j]? with
    | none => rw [hi] at h1; cases h1
    | some i => rw [hi] at h1; exact ⟨i, rfl, by simpa using h1⟩
  have hrest : ∀ (k : Nat) (q : Nat × va_E), k ∉ is → ws[k]? = some q → q.1 < H.size ∧ ¬ va_A wc H.size q.1 := by
    intro k q hk1 hq
    have hl := (hP k q hq).lt
    refine ⟨hl, fun h => ?_⟩
    rcases h with ⟨j, e, h⟩ | h
    · obtain ⟨i, h3, h4⟩ := hat j _ h
      have := hD.1 k i q (q.1, e) hq h4 rfl
      subst this
      exact hk1 (List.mem_of_getElem? h3)
    · omega
  have cases3 := mrg_at is ws w1 hin hn hlen
  have inA : ∀ (k : Nat) (q : Nat × va_E), (mrg ws is w1)[k]? = some q → (∃ j : Nat, w1[j]? = some q ∧ ((j < is.length ∧ is[j]? = some k) ∨ (is.length ≤ j ∧ k = ws.length + (j - is.length)))) ∨ (k ∉ is ∧ k < ws.length ∧ ws[k]? = some q) := by
    intro k q hq
    rcases cases3 k q hq with ⟨j, a1, a2⟩ | h | ⟨t, a1, a2⟩
    · exact Or.inl ⟨j, a2, Or.inl ⟨(List.getElem?_eq_some_iff.mp a1).1, a1⟩⟩
    · exact Or.inr h
    · exact Or.inl ⟨is.length + t, a2, Or.inr ⟨by omega, by omega⟩⟩
  refine ⟨fun k q hq => ?_, fun i j x y hx hy hxy => ?_, fun k q hq => ?_⟩
  · rcases inA k q hq with ⟨j, a1, -⟩ | ⟨a1, a2, a3⟩
    · exact hP1 j q a1
    · obtain ⟨g1, g2⟩ := hrest k q a1 a3
      exact (hP k q a3).kept (hk q.1 g1 g2)
  · rcases inA i x hx with ⟨a, a1, a2⟩ | ⟨a1, a2, a3⟩ <;> rcases inA j y hy with ⟨b, b1, b2⟩ | ⟨b1, b2, b3⟩
    · have hab := hD1.1 a b x y a1 b1 hxy
      subst hab
      rcases a2 with ⟨c1, c2⟩ | ⟨c1, c2⟩ <;> rcases b2 with ⟨d1, d2⟩ | ⟨d1, d2⟩
      · exact Option.some.inj (c2.symm.trans d2)
      · omega
      · omega
      · omega
    · exact absurd (hxy ▸ hD1.2 a x a1) (hrest j y b1 b3).2
    · exact absurd (hxy ▸ hD1.2 b y b1) (hrest i x a1 a3).2
    · exact hD.1 i j x y a3 b3 hxy
  · rcases inA k q hq with ⟨j, a1, -⟩ | ⟨a1, a2, a3⟩
    · exact hF _ (hD1.2 j q a1)
    · exact hD.2 k q a3
section CallRules
variable {p : Program} {l : Launch} {e : Env} {R : Room} {s : State} {m : MethodId} {args : Array Value} {below : List Frame} {meth : Method} {c : Code} {H : Heap} {locs : List Loc} {cells slots : Nat} {Q : State → Prop}
theorem ac_call {E : ag} {A0 A1 : Nat → Prop} {H0 : Heap} {pc mc1 ms1 : Nat} {la : Array Slot} {rest st0 : List Value} {a : Array Value} {postc : Option Value → va_W → Prop} (hr : va_Run p l e R s m args below meth c H locs cells slots mc1 ms1 (F0 m pc la st0) rest (ac_Q E A1 postc a) A1) (hS : va_S A0 H0 H locs) (hf : ∀ q, A1 q → A0 q)
    (kk : ∀ (v : Option Value) (w1 : va_W) (H1 : Heap) (locs1 : List Loc), postc v w1 → va_P E.1 vwCl w1 H1 → va_D A1 w1 → (∀ q : Nat, q < H.size → ¬ A1 q → H1[q]? = H[q]?) → va_S A0 H0 H1 locs1 → W p l e R s m args below meth c H1 locs1 (cells + mc1) (slots + ms1) Q (F0 m (pc + 3) la (v.toList ++ rest))) : W p l e R s m args below meth c H locs cells slots Q (F0 m pc la st0) := by
  intro T hT X
  obtain ⟨v, st₀, t, T', L, h0, X', hL, e1, e2, ⟨⟨v2, w1, hv, hp, hP1, hD1⟩, hz, hk⟩, st⟩ := hr T hT X
  cases hv
  rw [h0] at hz hk
  obtain ⟨t2, a1, b1⟩ := kk v w1 T'.heap (locs ++ L) hp (by rw [e1]; exact hP1) hD1 (fun q h1 h2 => by rw [e1]; exact hk q h1 h2)
    ⟨Nat.le_trans hS.1 (by rw [e1]; exact hz), fun q h1 h2 => by rw [e1, hk q (Nat.lt_of_lt_of_le h1 hS.1) (fun z => h2 (hf q z))]; exact hS.2.1 q h1 h2, fun q hq => by
      rcases List.mem_append.mp hq with h | h
      · exact hS.2.2 q h
      · exact hf _ (hL q h)⟩ T' rfl X'
  exact ⟨t2, st t2 a1, b1⟩
end CallRules
/-- what a call's row of the tables says: by kind (a method of an object, a static one, a constructor; of one's own or of a nest mate) -/
def CWb (y : MethodName) (cc : ByteArray) (nL : Nat) (ret : Option FieldType) (n : Nat) : Prop := Cond.initialized y.cls ∈ gtbl ∧ Cond.code y cc nL ret ∈ gtbl ∧ (y.cls ≠ "java/lang/invoke/MethodHandle" ∧ y.cls ≠ "java/lang/invoke/VarHandle" ∧ (parseMethodDescriptor y.desc).map (fun d => d.parameters.length) = some n)
def CWv (own : String) (index : Nat) (y : MethodName) : Prop := Cond.methodLink own index y ∈ gtbl ∧ Cond.instanceMethod y ∈ gtbl ∧ Cond.selects y.cls y y ∈ gtbl
def CWs (own : String) (index : Nat) (y : MethodName) : Prop := Cond.methodLink own index y ∈ gtbl ∧ Cond.static y ∈ gtbl
def CWi (own : String) (index : Nat) (y : MethodName) : Prop := Cond.methodLink own index y ∈ gtbl ∧ Cond.instanceMethod y ∈ gtbl ∧ y.name = "<init>"
def CWns (own : String) (index : Nat) (y : MethodName) : Prop := (∃ host, (own, index, y, host) ∈ ag_nest) ∧ Cond.static y ∈ gtbl
def CWni (own : String) (index : Nat) (y : MethodName) : Prop := (∃ host, (own, index, y, host) ∈ ag_nest) ∧ Cond.instanceMethod y ∈ gtbl ∧ y.name = "<init>"
theorem AW.world {E : ag} {M : am} {d bc bs pc : Nat} {ls : List (Option Value)} {st : List Value} {ws ws2 : va_W} {post : Option Value → va_W → Prop} (h : ws = ws2) (k : AW E M d bc bs pc ls st ws2 post) : AW E M d bc bs pc ls st ws post := h ▸ k
theorem AW.stack {E : ag} {M : am} {d bc bs pc : Nat} {ls : List (Option Value)} {st st2 : List Value} {ws : va_W} {post : Option Value → va_W → Prop} (h : st = st2) (k : AW E M d bc bs pc ls st2 ws post) : AW E M d bc bs pc ls st ws post := h ▸ k
theorem AW.loc {E : ag} {M : am} {d bc bs pc : Nat} {ls ls2 : List (Option Value)} {st : List Value} {ws : va_W} {post : Option Value → va_W → Prop} (h : ls = ls2) (k : AW E M d bc bs pc ls2 st ws post) : AW E M d bc bs pc ls st ws post := h ▸ k
set_option maxRecDepth 10000 in
theorem A_callV {E : ag} {M : am} {d bc bs pc : Nat} {ls : List (Option Value)} {st rest : List Value} {ws : va_W} {post : Option Value → va_W → Prop} {y : MethodName} {cc1 : ByteArray} {nL1 d1 mc1 ms1 index : Nat} {ret1 : Option FieldType} (n : Nat) {b : Nat} {As : List Value} {wc : va_W} {postc : Option Value → va_W → Prop} (hd : decode M.2.1 pc = .ok (.invokevirtual index, 3)) (cb : CWb y cc1 nL1 ret1 n) (cw : CWv M.1 index y) (hM : CT E y cc1 nL1 ret1 d1 mc1 ms1 (.ref b :: As) wc postc) (hst : st = As.reverse ++ .ref b :: rest) (hn : As.length = n) {q0 ci : Nat} {fs : List Value} {r : vw_C} (hrv : wc[q0]? = some (b, .inr (ci, fs))) (hrc : vwCl[ci]? = some r) (hry : r.1 = y.cls) (is : List Nat) (hCc : is.map (fun i => ws[i]?) = wc.map some) (hnd : va_nd is = true) (hroom : d1 + 1 ≤ d) (hnl : nL1 ≤ 21) (hcat : (rest.map fun v => v.category).sum ≤ 8) (hmc : mc1 ≤ bc) (hms : ms1 ≤ bs) (hlen : ∀ v w1, postc v w1 → is.length ≤ w1.length) 
    (kk : ∀ (v : Option Value) (w1 : va_W), postc v w1 → AW E M d (bc - mc1) (bs - ms1) (pc + 3) ls (v.toList ++ rest) (mrg ws is w1) post) : AW E M d bc bs pc ls st ws post := by
  subst hst
  intro p l e s m args below meth c H locs cells slots mc ms A la X hl hP hD hS hbc hbs
  obtain ⟨hx, hb, hml, hown, hts, hr, hlk, hin, hC, hA⟩ := id X
  have hlo : 8 + (nL1 + 11) + 40 * d1 ≤ 40 * d := by omega
  have hPc : va_P E.1 vwCl wc H := fun k q hk => by
    have h1 : (is.map (fun i => ws[i]?))[k]? = some (some q) := by rw [hCc, List.getElem?_map, hk]; rfl
    rw [List.getElem?_map] at h1
    cases hi : is[k]? with
    | none => rw [hi] at h1; cases h1
    | some i => rw [hi] at h1; exact hP i q (by simpa using h1)
  have hDc : va_D A wc := hD.sub is hnd hCc
  have hFc : ∀ q, va_A wc H.size q → A q := va_free hD hS hA is hCc
  have hrun := va_runV (H := H) (locs := locs) (cells := cells) (slots := slots) (R := rmd d mc ms) (below := below) (meth := meth) (e := e) (g := F0 m pc la (As.reverse ++ .ref b :: rest)) (nL := M.2.2.1) (As := As) (rest := rest) ⟨hx, hb, hml, hown, hts⟩ (hM l H.size) ⟨callB_of n hts (gt_goodc cb.2.1) rfl rfl rfl (hts _ cb.1) (hts _ cw.1) cb.2.2 ⟨hroom, hlo⟩, hts _ cw.2.1, hts _ cw.2.2⟩
    ⟨fun a U g mk q => by
      obtain ⟨q0, q1, qP, qD, qC⟩ := q
      exact ⟨q0, q1, qP, qD, ac_C.same qC rfl⟩, by rw [← hry]; exact va_recv hC.1 hPc hrc hrv, fun U hU hW => ⟨rfl, by rw [hU], by rw [hU]; exact hPc, hDc.weaken (fun _ _ _ _ => trivial), by
        rw [hU]
        exact hC.go hW (fun a h1 h2 => hS.2.1 a h1 h2) hFc⟩⟩ rfl hn hl.1 rfl (lv_room hcat) hd ⟨by show cells + mc1 ≤ mc; omega, by show slots + ms1 ≤ ms; omega⟩
  refine ac_call hrun hS hFc (fun v w1 H1 locs1 hpc hP1 hD1 hk1 hS1 => ?_)
  obtain ⟨hP2, hD2⟩ := mrg_PD is hP hD hCc hnd (hlen v w1 hpc) hk1 hFc hP1 hD1
  exact kk v w1 hpc p l e s m args below meth c H1 locs1 (cells + mc1) (slots + ms1) mc ms A la X hl hP2 hD2 hS1 (by omega) (by omega)
set_option maxRecDepth 10000 in
theorem A_callVW {E : ag} {M : am} {d bc bs pc : Nat} {ls : List (Option Value)} {st rest : List Value} {ws : va_W} {post : Option Value → va_W → Prop} {y : MethodName} {cc1 : ByteArray} {nL1 d1 mc1 ms1 index : Nat} {ret1 : Option FieldType} (n : Nat) {b : Nat} {As : List Value} {postc : Option Value → va_W → Prop} (hd : decode M.2.1 pc = .ok (.invokevirtual index, 3)) (cb : CWb y cc1 nL1 ret1 n) (cw : CWv M.1 index y) (hM : CT E y cc1 nL1 ret1 d1 mc1 ms1 (.ref b :: As) ws postc) (hst : st = As.reverse ++ .ref b :: rest) (hn : As.length = n) {q0 ci : Nat} {fs : List Value} {r : vw_C} (hrv : ws[q0]? = some (b, .inr (ci, fs))) (hrc : vwCl[ci]? = some r) (hry : r.1 = y.cls) (hroom : d1 + 1 ≤ d) (hnl : nL1 ≤ 21) (hcat : (rest.map fun v => v.category).sum ≤ 8) (hmc : mc1 ≤ bc) (hms : ms1 ≤ bs) 
    (kk : ∀ (v : Option Value) (w1 : va_W), postc v w1 → AW E M d (bc - mc1) (bs - ms1) (pc + 3) ls (v.toList ++ rest) (w1) post) : AW E M d bc bs pc ls st ws post := by
  subst hst
  intro p l e s m args below meth c H locs cells slots mc ms A la X hl hP hD hS hbc hbs
  obtain ⟨hx, hb, hml, hown, hts, hr, hlk, hin, hC, hA⟩ := id X
  have hlo : 8 + (nL1 + 11) + 40 * d1 ≤ 40 * d := by omega
  have hPc : va_P E.1 vwCl ws H := hP
  have hDc : va_D A ws := hD
  have hFc : ∀ q, va_A ws H.size q → A q := fun q h => by
    rcases h with ⟨k, e, h⟩ | h
    · exact hD.2 k (q, e) h
    · exact hA q (Nat.le_trans hS.1 h)
  have hrun := va_runV (H := H) (locs := locs) (cells := cells) (slots := slots) (R := rmd d mc ms) (below := below) (meth := meth) (e := e) (g := F0 m pc la (As.reverse ++ .ref b :: rest)) (nL := M.2.2.1) (As := As) (rest := rest) ⟨hx, hb, hml, hown, hts⟩ (hM l H.size) ⟨callB_of n hts (gt_goodc cb.2.1) rfl rfl rfl (hts _ cb.1) (hts _ cw.1) cb.2.2 ⟨hroom, hlo⟩, hts _ cw.2.1, hts _ cw.2.2⟩
    ⟨fun a U g mk q => by
      obtain ⟨q0, q1, qP, qD, qC⟩ := q
      exact ⟨q0, q1, qP, qD, ac_C.same qC rfl⟩, by rw [← hry]; exact va_recv hC.1 hPc hrc hrv, fun U hU hW => ⟨rfl, by rw [hU], by rw [hU]; exact hPc, hDc.weaken (fun _ _ _ _ => trivial), by
        rw [hU]
        exact hC.go hW (fun a h1 h2 => hS.2.1 a h1 h2) hFc⟩⟩ rfl hn hl.1 rfl (lv_room hcat) hd ⟨by show cells + mc1 ≤ mc; omega, by show slots + ms1 ≤ ms; omega⟩
  refine ac_call hrun hS hFc (fun v w1 H1 locs1 hpc hP1 hD1 hk1 hS1 => ?_)
  exact kk v w1 hpc p l e s m args below meth c H1 locs1 (cells + mc1) (slots + ms1) mc ms A la X hl hP1 (hD1.weaken (fun k q _ h => hFc q.1 h)) hS1 (by omega) (by omega)
set_option maxRecDepth 10000 in
theorem A_callS {E : ag} {M : am} {d bc bs pc : Nat} {ls : List (Option Value)} {st rest : List Value} {ws : va_W} {post : Option Value → va_W → Prop} {y : MethodName} {cc1 : ByteArray} {nL1 d1 mc1 ms1 index : Nat} {ret1 : Option FieldType} (n : Nat) {As : List Value} {wc : va_W} {postc : Option Value → va_W → Prop} (hd : decode M.2.1 pc = .ok (.invokestatic index, 3)) (cb : CWb y cc1 nL1 ret1 n) (cw : CWs M.1 index y) (hM : CT E y cc1 nL1 ret1 d1 mc1 ms1 (As) wc postc) (hst : st = As.reverse ++ rest) (hn : As.length = n) (is : List Nat) (hCc : is.map (fun i => ws[i]?) = wc.map some) (hnd : va_nd is = true) (hroom : d1 + 1 ≤ d) (hnl : nL1 ≤ 21) (hcat : (rest.map fun v => v.category).sum ≤ 8) (hmc : mc1 ≤ bc) (hms : ms1 ≤ bs) (hlen : ∀ v w1, postc v w1 → is.length ≤ w1.length) 
    (kk : ∀ (v : Option Value) (w1 : va_W), postc v w1 → AW E M d (bc - mc1) (bs - ms1) (pc + 3) ls (v.toList ++ rest) (mrg ws is w1) post) : AW E M d bc bs pc ls st ws post := by
  subst hst
  intro p l e s m args below meth c H locs cells slots mc ms A la X hl hP hD hS hbc hbs
  obtain ⟨hx, hb, hml, hown, hts, hr, hlk, hin, hC, hA⟩ := id X
  have hlo : 8 + (nL1 + 11) + 40 * d1 ≤ 40 * d := by omega
  have hPc : va_P E.1 vwCl wc H := fun k q hk => by
    have h1 : (is.map (fun i => ws[i]?))[k]? = some (some q) := by rw [hCc, List.getElem?_map, hk]; rfl
    rw [List.getElem?_map] at h1
    cases hi : is[k]? with
    | none => rw [hi] at h1; cases h1
    | some i => rw [hi] at h1; exact hP i q (by simpa using h1)
  have hDc : va_D A wc := hD.sub is hnd hCc
  have hFc : ∀ q, va_A wc H.size q → A q := va_free hD hS hA is hCc
  have hrun := va_runS (H := H) (locs := locs) (cells := cells) (slots := slots) (R := rmd d mc ms) (below := below) (meth := meth) (e := e) (g := F0 m pc la (As.reverse ++ rest)) (nL := M.2.2.1) (As := As) (rest := rest) ⟨hx, hb, hml, hown, hts⟩ (hM l H.size) ⟨callB_of n hts (gt_goodc cb.2.1) rfl rfl rfl (hts _ cb.1) (hts _ cw.1) cb.2.2 ⟨hroom, hlo⟩, hts _ cw.2⟩
    ⟨fun a U g mk q => by
      obtain ⟨q0, q1, qP, qD, qC⟩ := q
      exact ⟨q0, q1, qP, qD, ac_C.same qC rfl⟩, fun U hU hW => ⟨rfl, by rw [hU], by rw [hU]; exact hPc, hDc.weaken (fun _ _ _ _ => trivial), by
        rw [hU]
        exact hC.go hW (fun a h1 h2 => hS.2.1 a h1 h2) hFc⟩⟩ rfl hn hl.1 rfl (lv_room hcat) hd ⟨by show cells + mc1 ≤ mc; omega, by show slots + ms1 ≤ ms; omega⟩
  refine ac_call hrun hS hFc (fun v w1 H1 locs1 hpc hP1 hD1 hk1 hS1 => ?_)
  obtain ⟨hP2, hD2⟩ := mrg_PD is hP hD hCc hnd (hlen v w1 hpc) hk1 hFc hP1 hD1
  exact kk v w1 hpc p l e s m args below meth c H1 locs1 (cells + mc1) (slots + ms1) mc ms A la X hl hP2 hD2 hS1 (by omega) (by omega)
set_option maxRecDepth 10000 in
theorem A_callSW {E : ag} {M : am} {d bc bs pc : Nat} {ls : List (Option Value)} {st rest : List Value} {ws : va_W} {post : Option Value → va_W → Prop} {y : MethodName} {cc1 : ByteArray} {nL1 d1 mc1 ms1 index : Nat} {ret1 : Option FieldType} (n : Nat) {As : List Value} {postc : Option Value → va_W → Prop} (hd : decode M.2.1 pc = .ok (.invokestatic index, 3)) (cb : CWb y cc1 nL1 ret1 n) (cw : CWs M.1 index y) (hM : CT E y cc1 nL1 ret1 d1 mc1 ms1 (As) ws postc) (hst : st = As.reverse ++ rest) (hn : As.length = n) (hroom : d1 + 1 ≤ d) (hnl : nL1 ≤ 21) (hcat : (rest.map fun v => v.category).sum ≤ 8) (hmc : mc1 ≤ bc) (hms : ms1 ≤ bs) 
    (kk : ∀ (v : Option Value) (w1 : va_W), postc v w1 → AW E M d (bc - mc1) (bs - ms1) (pc + 3) ls (v.toList ++ rest) (w1) post) : AW E M d bc bs pc ls st ws post := by
  subst hst
  intro p l e s m args below meth c H locs cells slots mc ms A la X hl hP hD hS hbc hbs
  obtain ⟨hx, hb, hml, hown, hts, hr, hlk, hin, hC, hA⟩ := id X
  have hlo : 8 + (nL1 + 11) + 40 * d1 ≤ 40 * d := by omega
  have hPc : va_P E.1 vwCl ws H := hP
  have hDc : va_D A ws := hD
  have hFc : ∀ q, va_A ws H.size q → A q := fun q h => by
    rcases h with ⟨k, e, h⟩ | h
    · exact hD.2 k (q, e) h
    · exact hA q (Nat.le_trans hS.1 h)
  have hrun := va_runS (H := H) (locs := locs) (cells := cells) (slots := slots) (R := rmd d mc ms) (below := below) (meth := meth) (e := e) (g := F0 m pc la (As.reverse ++ rest)) (nL := M.2.2.1) (As := As) (rest := rest) ⟨hx, hb, hml, hown, hts⟩ (hM l H.size) ⟨callB_of n hts (gt_goodc cb.2.1) rfl rfl rfl (hts _ cb.1) (hts _ cw.1) cb.2.2 ⟨hroom, hlo⟩, hts _ cw.2⟩
    ⟨fun a U g mk q => by
      obtain ⟨q0, q1, qP, qD, qC⟩ := q
      exact ⟨q0, q1, qP, qD, ac_C.same qC rfl⟩, fun U hU hW => ⟨rfl, by rw [hU], by rw [hU]; exact hPc, hDc.weaken (fun _ _ _ _ => trivial), by
        rw [hU]
        exact hC.go hW (fun a h1 h2 => hS.2.1 a h1 h2) hFc⟩⟩ rfl hn hl.1 rfl (lv_room hcat) hd ⟨by show cells + mc1 ≤ mc; omega, by show slots + ms1 ≤ ms; omega⟩
  refine ac_call hrun hS hFc (fun v w1 H1 locs1 hpc hP1 hD1 hk1 hS1 => ?_)
  exact kk v w1 hpc p l e s m args below meth c H1 locs1 (cells + mc1) (slots + ms1) mc ms A la X hl hP1 (hD1.weaken (fun k q _ h => hFc q.1 h)) hS1 (by omega) (by omega)
set_option maxRecDepth 10000 in
theorem A_callI {E : ag} {M : am} {d bc bs pc : Nat} {ls : List (Option Value)} {st rest : List Value} {ws : va_W} {post : Option Value → va_W → Prop} {y : MethodName} {cc1 : ByteArray} {nL1 d1 mc1 ms1 index : Nat} (n : Nat) {b : Nat} {As : List Value} {wc : va_W} {postc : Option Value → va_W → Prop} (hd : decode M.2.1 pc = .ok (.invokespecial index, 3)) (cb : CWb y cc1 nL1 none n) (cw : CWi M.1 index y) (hM : CT E y cc1 nL1 none d1 mc1 ms1 (.ref b :: As) wc postc) (hst : st = As.reverse ++ .ref b :: rest) (hn : As.length = n) (is : List Nat) (hCc : is.map (fun i => ws[i]?) = wc.map some) (hnd : va_nd is = true) (hroom : d1 + 1 ≤ d) (hnl : nL1 ≤ 21) (hcat : (rest.map fun v => v.category).sum ≤ 8) (hmc : mc1 ≤ bc) (hms : ms1 ≤ bs) (hlen : ∀ v w1, postc v w1 → is.length ≤ w1.length) 
    (kk : ∀ (v : Option Value) (w1 : va_W), postc v w1 → AW E M d (bc - mc1) (bs - ms1) (pc + 3) ls (v.toList ++ rest) (mrg ws is w1) post) : AW E M d bc bs pc ls st ws post := by
  subst hst
  intro p l e s m args below meth c H locs cells slots mc ms A la X hl hP hD hS hbc hbs
  obtain ⟨hx, hb, hml, hown, hts, hr, hlk, hin, hC, hA⟩ := id X
  have hlo : 8 + (nL1 + 11) + 40 * d1 ≤ 40 * d := by omega
  have hPc : va_P E.1 vwCl wc H := fun k q hk => by
    have h1 : (is.map (fun i => ws[i]?))[k]? = some (some q) := by rw [hCc, List.getElem?_map, hk]; rfl
    rw [List.getElem?_map] at h1
    cases hi : is[k]? with
    | none => rw [hi] at h1; cases h1
    | some i => rw [hi] at h1; exact hP i q (by simpa using h1)
  have hDc : va_D A wc := hD.sub is hnd hCc
  have hFc : ∀ q, va_A wc H.size q → A q := va_free hD hS hA is hCc
  have hrun := va_runI (H := H) (locs := locs) (cells := cells) (slots := slots) (R := rmd d mc ms) (below := below) (meth := meth) (e := e) (g := F0 m pc la (As.reverse ++ .ref b :: rest)) (nL := M.2.2.1) (As := As) (rest := rest) ⟨hx, hb, hml, hown, hts⟩ (hM l H.size) ⟨callB_of n hts (gt_goodc cb.2.1) rfl rfl rfl (hts _ cb.1) (hts _ cw.1) cb.2.2 ⟨hroom, hlo⟩, cw.2.2, hts _ cw.2.1⟩
    ⟨fun a U g mk q => by
      obtain ⟨q0, q1, qP, qD, qC⟩ := q
      exact ⟨q0, q1, qP, qD, ac_C.same qC rfl⟩, fun U hU hW => ⟨rfl, by rw [hU], by rw [hU]; exact hPc, hDc.weaken (fun _ _ _ _ => trivial), by
        rw [hU]
        exact hC.go hW (fun a h1 h2 => hS.2.1 a h1 h2) hFc⟩⟩ rfl hn hl.1 rfl (lv_room hcat) hd ⟨by show cells + mc1 ≤ mc; omega, by show slots + ms1 ≤ ms; omega⟩
  refine ac_call hrun hS hFc (fun v w1 H1 locs1 hpc hP1 hD1 hk1 hS1 => ?_)
  obtain ⟨hP2, hD2⟩ := mrg_PD is hP hD hCc hnd (hlen v w1 hpc) hk1 hFc hP1 hD1
  exact kk v w1 hpc p l e s m args below meth c H1 locs1 (cells + mc1) (slots + ms1) mc ms A la X hl hP2 hD2 hS1 (by omega) (by omega)
set_option maxRecDepth 10000 in
theorem A_callIW {E : ag} {M : am} {d bc bs pc : Nat} {ls : List (Option Value)} {st rest : List Value} {ws : va_W} {post : Option Value → va_W → Prop} {y : MethodName} {cc1 : ByteArray} {nL1 d1 mc1 ms1 index : Nat} (n : Nat) {b : Nat} {As : List Value} {postc : Option Value → va_W → Prop} (hd : decode M.2.1 pc = .ok (.invokespecial index, 3)) (cb : CWb y cc1 nL1 none n) (cw : CWi M.1 index y) (hM : CT E y cc1 nL1 none d1 mc1 ms1 (.ref b :: As) ws postc) (hst : st = As.reverse ++ .ref b :: rest) (hn : As.length = n) (hroom : d1 + 1 ≤ d) (hnl : nL1 ≤ 21) (hcat : (rest.map fun v => v.category).sum ≤ 8) (hmc : mc1 ≤ bc) (hms : ms1 ≤ bs) 
    (kk : ∀ (v : Option Value) (w1 : va_W), postc v w1 → AW E M d (bc - mc1) (bs - ms1) (pc + 3) ls (v.toList ++ rest) (w1) post) : AW E M d bc bs pc ls st ws post := by
  subst hst
  intro p l e s m args below meth c H locs cells slots mc ms A la X hl hP hD hS hbc hbs
  obtain ⟨hx, hb, hml, hown, hts, hr, hlk, hin, hC, hA⟩ := id X
  have hlo : 8 + (nL1 + 11) + 40 * d1 ≤ 40 * d := by omega
  have hPc : va_P E.1 vwCl ws H := hP
  have hDc : va_D A ws := hD
  have hFc : ∀ q, va_A ws H.size q → A q := fun q h => by
    rcases h with ⟨k, e, h⟩ | h
    · exact hD.2 k (q, e) h
    · exact hA q (Nat.le_trans hS.1 h)
  have hrun := va_runI (H := H) (locs := locs) (cells := cells) (slots := slots) (R := rmd d mc ms) (below := below) (meth := meth) (e := e) (g := F0 m pc la (As.reverse ++ .ref b :: rest)) (nL := M.2.2.1) (As := As) (rest := rest) ⟨hx, hb, hml, hown, hts⟩ (hM l H.size) ⟨callB_of n hts (gt_goodc cb.2.1) rfl rfl rfl (hts _ cb.1) (hts _ cw.1) cb.2.2 ⟨hroom, hlo⟩, cw.2.2, hts _ cw.2.1⟩
    ⟨fun a U g mk q => by
      obtain ⟨q0, q1, qP, qD, qC⟩ := q
      exact ⟨q0, q1, qP, qD, ac_C.same qC rfl⟩, fun U hU hW => ⟨rfl, by rw [hU], by rw [hU]; exact hPc, hDc.weaken (fun _ _ _ _ => trivial), by
        rw [hU]
        exact hC.go hW (fun a h1 h2 => hS.2.1 a h1 h2) hFc⟩⟩ rfl hn hl.1 rfl (lv_room hcat) hd ⟨by show cells + mc1 ≤ mc; omega, by show slots + ms1 ≤ ms; omega⟩
  refine ac_call hrun hS hFc (fun v w1 H1 locs1 hpc hP1 hD1 hk1 hS1 => ?_)
  exact kk v w1 hpc p l e s m args below meth c H1 locs1 (cells + mc1) (slots + ms1) mc ms A la X hl hP1 (hD1.weaken (fun k q _ h => hFc q.1 h)) hS1 (by omega) (by omega)
set_option maxRecDepth 10000 in
theorem A_callSN {E : ag} {M : am} {d bc bs pc : Nat} {ls : List (Option Value)} {st rest : List Value} {ws : va_W} {post : Option Value → va_W → Prop} {y : MethodName} {cc1 : ByteArray} {nL1 d1 mc1 ms1 index : Nat} {ret1 : Option FieldType} (n : Nat) {As : List Value} {wc : va_W} {postc : Option Value → va_W → Prop} (hd : decode M.2.1 pc = .ok (.invokestatic index, 3)) (cb : CWb y cc1 nL1 ret1 n) (cw : CWns M.1 index y) (hM : CT E y cc1 nL1 ret1 d1 mc1 ms1 (As) wc postc) (hst : st = As.reverse ++ rest) (hn : As.length = n) (is : List Nat) (hCc : is.map (fun i => ws[i]?) = wc.map some) (hnd : va_nd is = true) (hroom : d1 + 1 ≤ d) (hnl : nL1 ≤ 21) (hcat : (rest.map fun v => v.category).sum ≤ 8) (hmc : mc1 ≤ bc) (hms : ms1 ≤ bs) (hlen : ∀ v w1, postc v w1 → is.length ≤ w1.length) 
    (kk : ∀ (v : Option Value) (w1 : va_W), postc v w1 → AW E M d (bc - mc1) (bs - ms1) (pc + 3) ls (v.toList ++ rest) (mrg ws is w1) post) : AW E M d bc bs pc ls st ws post := by
  subst hst
  intro p l e s m args below meth c H locs cells slots mc ms A la X hl hP hD hS hbc hbs
  obtain ⟨hx, hb, hml, hown, hts, hr, hlk, hin, hC, hA⟩ := id X
  have hlo : 8 + (nL1 + 11) + 40 * d1 ≤ 40 * d := by omega
  obtain ⟨⟨host, hhost⟩, cw2⟩ := id cw
  have hPc : va_P E.1 vwCl wc H := fun k q hk => by
    have h1 : (is.map (fun i => ws[i]?))[k]? = some (some q) := by rw [hCc, List.getElem?_map, hk]; rfl
    rw [List.getElem?_map] at h1
    cases hi : is[k]? with
    | none => rw [hi] at h1; cases h1
    | some i => rw [hi] at h1; exact hP i q (by simpa using h1)
  have hDc : va_D A wc := hD.sub is hnd hCc
  have hFc : ∀ q, va_A wc H.size q → A q := va_free hD hS hA is hCc
  have hrun := va_runSN (H := H) (locs := locs) (cells := cells) (slots := slots) (R := rmd d mc ms) (below := below) (meth := meth) (e := e) (g := F0 m pc la (As.reverse ++ rest)) (nL := M.2.2.1) (As := As) (rest := rest) ⟨hx, hb, hml, hown, hts⟩ (hM l H.size) ⟨va_cnB n hts (gt_goodc cb.2.1) rfl rfl rfl (hC.2.2.2.2.2.2.1 _ hhost) (hts _ cb.1) cb.2.2 ⟨hroom, hlo⟩, hts _ cw2, trivial⟩
    ⟨fun a U g mk q => by
      obtain ⟨q0, q1, qP, qD, qC⟩ := q
      exact ⟨q0, q1, qP, qD, ac_C.same qC rfl⟩, fun U hU hW => ⟨rfl, by rw [hU], by rw [hU]; exact hPc, hDc.weaken (fun _ _ _ _ => trivial), by
        rw [hU]
        exact hC.go hW (fun a h1 h2 => hS.2.1 a h1 h2) hFc⟩⟩ rfl hn hl.1 rfl (lv_room hcat) hd ⟨by show cells + mc1 ≤ mc; omega, by show slots + ms1 ≤ ms; omega⟩
  refine ac_call hrun hS hFc (fun v w1 H1 locs1 hpc hP1 hD1 hk1 hS1 => ?_)
  obtain ⟨hP2, hD2⟩ := mrg_PD is hP hD hCc hnd (hlen v w1 hpc) hk1 hFc hP1 hD1
  exact kk v w1 hpc p l e s m args below meth c H1 locs1 (cells + mc1) (slots + ms1) mc ms A la X hl hP2 hD2 hS1 (by omega) (by omega)
set_option maxRecDepth 10000 in
theorem A_callSNW {E : ag} {M : am} {d bc bs pc : Nat} {ls : List (Option Value)} {st rest : List Value} {ws : va_W} {post : Option Value → va_W → Prop} {y : MethodName} {cc1 : ByteArray} {nL1 d1 mc1 ms1 index : Nat} {ret1 : Option FieldType} (n : Nat) {As : List Value} {postc : Option Value → va_W → Prop} (hd : decode M.2.1 pc = .ok (.invokestatic index, 3)) (cb : CWb y cc1 nL1 ret1 n) (cw : CWns M.1 index y) (hM : CT E y cc1 nL1 ret1 d1 mc1 ms1 (As) ws postc) (hst : st = As.reverse ++ rest) (hn : As.length = n) (hroom : d1 + 1 ≤ d) (hnl : nL1 ≤ 21) (hcat : (rest.map fun v => v.category).sum ≤ 8) (hmc : mc1 ≤ bc) (hms : ms1 ≤ bs) 
    (kk : ∀ (v : Option Value) (w1 : va_W), postc v w1 → AW E M d (bc - mc1) (bs - ms1) (pc + 3) ls (v.toList ++ rest) (w1) post) : AW E M d bc bs pc ls st ws post := by
  subst hst
  intro p l e s m args below meth c H locs cells slots mc ms A la X hl hP hD hS hbc hbs
  obtain ⟨hx, hb, hml, hown, hts, hr, hlk, hin, hC, hA⟩ := id X
  have hlo : 8 + (nL1 + 11) + 40 * d1 ≤ 40 * d := by omega
  obtain ⟨⟨host, hhost⟩, cw2⟩ := id cw
  have hPc : va_P E.1 vwCl ws H := hP
  have hDc : va_D A ws := hD
  have hFc : ∀ q, va_A ws H.size q → A q := fun q h => by
    rcases h with ⟨k, e, h⟩ | h
    · exact hD.2 k (q, e) h
    · exact hA q (Nat.le_trans hS.1 h)
  have hrun := va_runSN (H := H) (locs := locs) (cells := cells) (slots := slots) (R := rmd d mc ms) (below := below) (meth := meth) (e := e) (g := F0 m pc la (As.reverse ++ rest)) (nL := M.2.2.1) (As := As) (rest := rest) ⟨hx, hb, hml, hown, hts⟩ (hM l H.size) ⟨va_cnB n hts (gt_goodc cb.2.1) rfl rfl rfl (hC.2.2.2.2.2.2.1 _ hhost) (hts _ cb.1) cb.2.2 ⟨hroom, hlo⟩, hts _ cw2, trivial⟩
    ⟨fun a U g mk q => by
      obtain ⟨q0, q1, qP, qD, qC⟩ := q
      exact ⟨q0, q1, qP, qD, ac_C.same qC rfl⟩, fun U hU hW => ⟨rfl, by rw [hU], by rw [hU]; exact hPc, hDc.weaken (fun _ _ _ _ => trivial), by
        rw [hU]
        exact hC.go hW (fun a h1 h2 => hS.2.1 a h1 h2) hFc⟩⟩ rfl hn hl.1 rfl (lv_room hcat) hd ⟨by show cells + mc1 ≤ mc; omega, by show slots + ms1 ≤ ms; omega⟩
  refine ac_call hrun hS hFc (fun v w1 H1 locs1 hpc hP1 hD1 hk1 hS1 => ?_)
  exact kk v w1 hpc p l e s m args below meth c H1 locs1 (cells + mc1) (slots + ms1) mc ms A la X hl hP1 (hD1.weaken (fun k q _ h => hFc q.1 h)) hS1 (by omega) (by omega)
set_option maxRecDepth 10000 in
theorem A_callIN {E : ag} {M : am} {d bc bs pc : Nat} {ls : List (Option Value)} {st rest : List Value} {ws : va_W} {post : Option Value → va_W → Prop} {y : MethodName} {cc1 : ByteArray} {nL1 d1 mc1 ms1 index : Nat} (n : Nat) {b : Nat} {As : List Value} {wc : va_W} {postc : Option Value → va_W → Prop} (hd : decode M.2.1 pc = .ok (.invokespecial index, 3)) (cb : CWb y cc1 nL1 none n) (cw : CWni M.1 index y) (hM : CT E y cc1 nL1 none d1 mc1 ms1 (.ref b :: As) wc postc) (hst : st = As.reverse ++ .ref b :: rest) (hn : As.length = n) (is : List Nat) (hCc : is.map (fun i => ws[i]?) = wc.map some) (hnd : va_nd is = true) (hroom : d1 + 1 ≤ d) (hnl : nL1 ≤ 21) (hcat : (rest.map fun v => v.category).sum ≤ 8) (hmc : mc1 ≤ bc) (hms : ms1 ≤ bs) (hlen : ∀ v w1, postc v w1 → is.length ≤ w1.length) 
    (kk : ∀ (v : Option Value) (w1 : va_W), postc v w1 → AW E M d (bc - mc1) (bs - ms1) (pc + 3) ls (v.toList ++ rest) (mrg ws is w1) post) : AW E M d bc bs pc ls st ws post := by
  subst hst
  intro p l e s m args below meth c H locs cells slots mc ms A la X hl hP hD hS hbc hbs
  obtain ⟨hx, hb, hml, hown, hts, hr, hlk, hin, hC, hA⟩ := id X
  have hlo : 8 + (nL1 + 11) + 40 * d1 ≤ 40 * d := by omega
  obtain ⟨⟨host, hhost⟩, cw2⟩ := id cw
  have hPc : va_P E.1 vwCl wc H := fun k q hk => by
    have h1 : (is.map (fun i => ws[i]?))[k]? = some (some q) := by rw [hCc, List.getElem?_map, hk]; rfl
    rw [List.getElem?_map] at h1
    cases hi : is[k]? with
    | none => rw [hi] at h1; cases h1
    | some i => rw [hi] at h1; exact hP i q (by simpa using h1)
  have hDc : va_D A wc := hD.sub is hnd hCc
  have hFc : ∀ q, va_A wc H.size q → A q := va_free hD hS hA is hCc
  have hrun := va_runIN (H := H) (locs := locs) (cells := cells) (slots := slots) (R := rmd d mc ms) (below := below) (meth := meth) (e := e) (g := F0 m pc la (As.reverse ++ .ref b :: rest)) (nL := M.2.2.1) (As := As) (rest := rest) ⟨hx, hb, hml, hown, hts⟩ (hM l H.size) ⟨va_cnB n hts (gt_goodc cb.2.1) rfl rfl rfl (hC.2.2.2.2.2.2.1 _ hhost) (hts _ cb.1) cb.2.2 ⟨hroom, hlo⟩, cw2.2, hts _ cw2.1⟩
    ⟨fun a U g mk q => by
      obtain ⟨q0, q1, qP, qD, qC⟩ := q
      exact ⟨q0, q1, qP, qD, ac_C.same qC rfl⟩, fun U hU hW => ⟨rfl, by rw [hU], by rw [hU]; exact hPc, hDc.weaken (fun _ _ _ _ => trivial), by
        rw [hU]
        exact hC.go hW (fun a h1 h2 => hS.2.1 a h1 h2) hFc⟩⟩ rfl hn hl.1 rfl (lv_room hcat) hd ⟨by show cells + mc1 ≤ mc; omega, by show slots + ms1 ≤ ms; omega⟩
  refine ac_call hrun hS hFc (fun v w1 H1 locs1 hpc hP1 hD1 hk1 hS1 => ?_)
  obtain ⟨hP2, hD2⟩ := mrg_PD is hP hD hCc hnd (hlen v w1 hpc) hk1 hFc hP1 hD1
  exact kk v w1 hpc p l e s m args below meth c H1 locs1 (cells + mc1) (slots + ms1) mc ms A la X hl hP2 hD2 hS1 (by omega) (by omega)
set_option maxRecDepth 10000 in
theorem A_callINW {E : ag} {M : am} {d bc bs pc : Nat} {ls : List (Option Value)} {st rest : List Value} {ws : va_W} {post : Option Value → va_W → Prop} {y : MethodName} {cc1 : ByteArray} {nL1 d1 mc1 ms1 index : Nat} (n : Nat) {b : Nat} {As : List Value} {postc : Option Value → va_W → Prop} (hd : decode M.2.1 pc = .ok (.invokespecial index, 3)) (cb : CWb y cc1 nL1 none n) (cw : CWni M.1 index y) (hM : CT E y cc1 nL1 none d1 mc1 ms1 (.ref b :: As) ws postc) (hst : st = As.reverse ++ .ref b :: rest) (hn : As.length = n) (hroom : d1 + 1 ≤ d) (hnl : nL1 ≤ 21) (hcat : (rest.map fun v => v.category).sum ≤ 8) (hmc : mc1 ≤ bc) (hms : ms1 ≤ bs) 
    (kk : ∀ (v : Option Value) (w1 : va_W), postc v w1 → AW E M d (bc - mc1) (bs - ms1) (pc + 3) ls (v.toList ++ rest) (w1) post) : AW E M d bc bs pc ls st ws post := by
  subst hst
  intro p l e s m args below meth c H locs cells slots mc ms A la X hl hP hD hS hbc hbs
  obtain ⟨hx, hb, hml, hown, hts, hr, hlk, hin, hC, hA⟩ := id X
  have hlo : 8 + (nL1 + 11) + 40 * d1 ≤ 40 * d := by omega
  obtain ⟨⟨host, hhost⟩, cw2⟩ := id cw
  have hPc : va_P E.1 vwCl ws H := hP
  have hDc : va_D A ws := hD
  have hFc : ∀ q, va_A ws H.size q → A q := fun q h => by
    rcases h with ⟨k, e, h⟩ | h
    · exact hD.2 k (q, e) h
    · exact hA q (Nat.le_trans hS.1 h)
  have hrun := va_runIN (H := H) (locs := locs) (cells := cells) (slots := slots) (R := rmd d mc ms) (below := below) (meth := meth) (e := e) (g := F0 m pc la (As.reverse ++ .ref b :: rest)) (nL := M.2.2.1) (As := As) (rest := rest) ⟨hx, hb, hml, hown, hts⟩ (hM l H.size) ⟨va_cnB n hts (gt_goodc cb.2.1) rfl rfl rfl (hC.2.2.2.2.2.2.1 _ hhost) (hts _ cb.1) cb.2.2 ⟨hroom, hlo⟩, cw2.2, hts _ cw2.1⟩
    ⟨fun a U g mk q => by
      obtain ⟨q0, q1, qP, qD, qC⟩ := q
      exact ⟨q0, q1, qP, qD, ac_C.same qC rfl⟩, fun U hU hW => ⟨rfl, by rw [hU], by rw [hU]; exact hPc, hDc.weaken (fun _ _ _ _ => trivial), by
        rw [hU]
        exact hC.go hW (fun a h1 h2 => hS.2.1 a h1 h2) hFc⟩⟩ rfl hn hl.1 rfl (lv_room hcat) hd ⟨by show cells + mc1 ≤ mc; omega, by show slots + ms1 ≤ ms; omega⟩
  refine ac_call hrun hS hFc (fun v w1 H1 locs1 hpc hP1 hD1 hk1 hS1 => ?_)
  exact kk v w1 hpc p l e s m args below meth c H1 locs1 (cells + mc1) (slots + ms1) mc ms A la X hl hP1 (hD1.weaken (fun k q _ h => hFc q.1 h)) hS1 (by omega) (by omega)
