/-! STRING CONSTANTS: the JDK's own methods on them -/
theorem A_strV {E : ag} {M : am} {d bc bs pc : Nat} {ls : List (Option Value)} {rest : List Value} {ws : va_W} {post : Option Value → va_W → Prop} {index : Nat} (i : Nat) (hd : decode M.2.1 pc = .ok (.getfield index, 3)) (hi : i < ag_nS) (hw : Cond.fieldLink M.1 index "java/lang/String" "value" "[B" ∈ gtbl) (k : AW E M d bc bs (pc + 3) ls (.ref (E.2.2.2.1 i) :: rest) ws post) : AW E M d bc bs pc ls (.ref (E.2.2.1 i) :: rest) ws post := by
  intro p l e s m args below meth c H locs cells slots mc ms A la X hl hP hD hS hbc hbs
  obtain ⟨hx, hb, hml, hown, hts, hr, hlk, hin, hC, hA⟩ := id X
  refine vk_getf hx hb (hC.2.1.1 i hi).2.2.1 hS hown (hts _ hw) (fun _ h9 => h9) hd ?_
  exact k p l e s m args below meth c H locs cells slots mc ms A la X hl hP hD hS hbc hbs
theorem A_strC {E : ag} {M : am} {d bc bs pc : Nat} {ls : List (Option Value)} {rest : List Value} {ws : va_W} {post : Option Value → va_W → Prop} {index : Nat} (i : Nat) (hd : decode M.2.1 pc = .ok (.getfield index, 3)) (hi : i < ag_nS) (hw : Cond.fieldLink M.1 index "java/lang/String" "coder" "B" ∈ gtbl) (k : AW E M d bc bs (pc + 3) ls (.int 0 :: rest) ws post) : AW E M d bc bs pc ls (.ref (E.2.2.1 i) :: rest) ws post := by
  intro p l e s m args below meth c H locs cells slots mc ms A la X hl hP hD hS hbc hbs
  obtain ⟨hx, hb, hml, hown, hts, hr, hlk, hin, hC, hA⟩ := id X
  refine vk_getf hx hb (hC.2.1.1 i hi).2.1 hS hown (hts _ hw) (fun _ h9 => h9) hd ?_
  exact k p l e s m args below meth c H locs cells slots mc ms A la X hl hP hD hS hbc hbs
theorem A_compact {E : ag} {M : am} {d bc bs pc : Nat} {ls : List (Option Value)} {rest : List Value} {ws : va_W} {post : Option Value → va_W → Prop} {index : Nat} (hd : decode M.2.1 pc = .ok (.getstatic index, 3)) (hw : Cond.fieldLink M.1 index "java/lang/String" "COMPACT_STRINGS" "Z" ∈ gtbl) (k : AW E M d bc bs (pc + 3) ls (.int 1 :: rest) ws post) : AW E M d bc bs pc ls (rest) ws post := by
  intro p l e s m args below meth c H locs cells slots mc ms A la X hl hP hD hS hbc hbs
  obtain ⟨hx, hb, hml, hown, hts, hr, hlk, hin, hC, hA⟩ := id X
  refine va_gets hx hb hC.2.2.2.2.2.1 hS hown (hts _ hw) (fun _ h9 => h9) hd ?_
  exact k p l e s m args below meth c H locs cells slots mc ms A la X hl hP hD hS hbc hbs
theorem A_strL {E : ag} {M : am} {d bc bs pc : Nat} {ls : List (Option Value)} {rest : List Value} {ws : va_W} {post : Option Value → va_W → Prop} (i : Nat) (hd : decode M.2.1 pc = .ok (.arraylength, 1)) (hi : i < ag_nS) (k : AW E M d bc bs (pc + 1) ls (.int (Int32.ofNat (ag_len.getD i 0)) :: rest) ws post) : AW E M d bc bs pc ls (.ref (E.2.2.2.1 i) :: rest) ws post := by
  intro p l e s m args below meth c H locs cells slots mc ms A la X hl hP hD hS hbc hbs
  obtain ⟨hx, hb, hml, hown, hts, hr, hlk, hin, hC, hA⟩ := id X
  refine va_tlen hx hb (hC.2.1.1 i hi).2.2.2 hS rfl hd ?_
  exact k p l e s m args below meth c H locs cells slots mc ms A la X hl hP hD hS hbc hbs
theorem A_strB {E : ag} {M : am} {d bc bs pc : Nat} {ls : List (Option Value)} {rest : List Value} {ws : va_W} {post : Option Value → va_W → Prop} (i : Nat) {j : Int32} (hd : decode M.2.1 pc = .ok (.baload, 1)) (hi : i < ag_nS) (hj : vp_in j (ag_len.getD i 0)) (k : AW E M d bc bs (pc + 1) ls (.int ((ag_byt.getD i []).getD j.toNatClampNeg 0) :: rest) ws post) : AW E M d bc bs pc ls (.int j :: .ref (E.2.2.2.1 i) :: rest) ws post := by
  intro p l e s m args below meth c H locs cells slots mc ms A la X hl hP hD hS hbc hbs
  obtain ⟨hx, hb, hml, hown, hts, hr, hlk, hin, hC, hA⟩ := id X
  refine va_tb hx hb (hC.2.1.1 i hi).2.2.2 hS hj rfl hd ?_
  exact k p l e s m args below meth c H locs cells slots mc ms A la X hl hP hD hS hbc hbs
theorem A_i2c {E : ag} {M : am} {d bc bs pc : Nat} {ls : List (Option Value)} {rest : List Value} {ws : va_W} {post : Option Value → va_W → Prop} {x : Int32} (hd : decode M.2.1 pc = .ok (.i2c, 1))  (k : AW E M d bc bs (pc + 1) ls (.int (x.toUInt32 % 65536).toInt32 :: rest) ws post) : AW E M d bc bs pc ls (.int x :: rest) ws post := by
  intro p l e s m args below meth c H locs cells slots mc ms A la X hl hP hD hS hbc hbs
  obtain ⟨hx, hb, hml, hown, hts, hr, hlk, hin, hC, hA⟩ := id X
  refine lv_i2c hx hb hd rfl ?_
  exact k p l e s m args below meth c H locs cells slots mc ms A la X hl hP hD hS hbc hbs
theorem A_sio {E : ag} {M : am} {d bc bs pc : Nat} {ls : List (Option Value)} {rest : List Value} {ws : va_W} {post : Option Value → va_W → Prop} {index : Nat} (hd : decode M.2.1 pc = .ok (.getstatic index, 3)) (hw : Cond.fieldLink M.1 index "jdk/internal/util/Preconditions" "SIOOBE_FORMATTER" "Ljava/util/function/BiFunction;" ∈ gtbl) (k : ∀ x : Value, (x = .null ∨ ∃ r : Nat, x = .ref r) → AW E M d bc bs (pc + 3) ls (x :: rest) ws post) : AW E M d bc bs pc ls rest ws post := by
  intro p l e s m args below meth c H locs cells slots mc ms A la X hl hP hD hS hbc hbs
  obtain ⟨hx, hb, hml, hown, hts, hr, hlk, hin, hC, hA⟩ := id X
  rcases hC.2.2.2.2.2.2.2.2.2 with hZ | ⟨x, hZ⟩
  · refine va_gets hx hb hZ hS hown (hts _ hw) (fun _ h9 => h9) hd ?_
    exact k .null (Or.inl rfl) p l e s m args below meth c H locs cells slots mc ms A la X hl hP hD hS hbc hbs
  · refine va_gets hx hb hZ hS hown (hts _ hw) (fun _ h9 => h9) hd ?_
    exact k (.ref x) (Or.inr ⟨x, rfl⟩) p l e s m args below meth c H locs cells slots mc ms A la X hl hP hD hS hbc hbs
set_option maxRecDepth 10000 in
theorem A_callKW {E : ag} {M : am} {d bc bs pc : Nat} {ls : List (Option Value)} {st rest : List Value} {ws : va_W} {post : Option Value → va_W → Prop} {y : MethodName} {cc1 : ByteArray} {nL1 d1 mc1 ms1 index : Nat} {ret1 : Option FieldType} (n : Nat) {b : Nat} {As : List Value} {postc : Option Value → va_W → Prop} (hd : decode M.2.1 pc = .ok (.invokevirtual index, 3)) (cb : CWb y cc1 nL1 ret1 n) (cw : CWv M.1 index y) (hM : CT E y cc1 nL1 ret1 d1 mc1 ms1 (.ref b :: As) ws postc) (hst : st = As.reverse ++ .ref b :: rest) (hn : As.length = n) (ki : Nat) (hki : ki < ag_nS) (hkb : b = E.2.2.1 ki) (hry : y.cls = "java/lang/String") (hroom : d1 + 1 ≤ d) (hnl : nL1 ≤ 21) (hcat : (rest.map fun v => v.category).sum ≤ 8) (hmc : mc1 ≤ bc) (hms : ms1 ≤ bs) 
    (kk : ∀ (v : Option Value) (w1 : va_W), postc v w1 → AW E M d (bc - mc1) (bs - ms1) (pc + 3) ls (v.toList ++ rest) (w1) post) : AW E M d bc bs pc ls st ws post := by
  subst hst
  intro p l e s m args below meth c H locs cells slots mc ms A la X hl hP hD hS hbc hbs
  obtain ⟨hx, hb, hml, hown, hts, hr, hlk, hin, hC, hA⟩ := id X
  have hlo : 8 + (nL1 + 11) + 40 * d1 ≤ 40 * d := by omega
  have hPc : va_P E.1 vwCl ws H := hP
  have hDc : va_D A ws := hD
  have hFc : ∀ q, va_A ws H.size q → A q := fun q h => by
    rcases h with ⟨k, e, h⟩ | h
    · exact hD.2 k (q, e) h
    · exact hA q (Nat.le_trans hS.1 h)
  have hrun := va_runV (H := H) (locs := locs) (cells := cells) (slots := slots) (R := rmd d mc ms) (below := below) (meth := meth) (e := e) (g := F0 m pc la (As.reverse ++ .ref b :: rest)) (nL := M.2.2.1) (As := As) (rest := rest) ⟨hx, hb, hml, hown, hts⟩ (hM l H.size) ⟨callB_of n hts (gt_goodc cb.2.1) rfl rfl rfl (hts _ cb.1) (hts _ cw.1) cb.2.2 ⟨hroom, hlo⟩, hts _ cw.2.1, hts _ cw.2.2⟩
    ⟨fun a U g mk q => by
      obtain ⟨q0, q1, qP, qD, qC⟩ := q
      exact ⟨q0, q1, qP, qD, ac_C.same qC rfl⟩, by rw [hry, hkb]; exact vk_recv hC.2.1 hki hS, fun U hU hW => ⟨rfl, by rw [hU], by rw [hU]; exact hPc, hDc.weaken (fun _ _ _ _ => trivial), by
        rw [hU]
        exact hC.go hW (fun a h1 h2 => hS.2.1 a h1 h2) hFc⟩⟩ rfl hn hl.1 rfl (lv_room hcat) hd ⟨by show cells + mc1 ≤ mc; omega, by show slots + ms1 ≤ ms; omega⟩
  refine ac_call hrun hS hFc (fun v w1 H1 locs1 hpc hP1 hD1 hk1 hS1 => ?_)
  exact kk v w1 hpc p l e s m args below meth c H1 locs1 (cells + mc1) (slots + ms1) mc ms A la X hl hP1 (hD1.weaken (fun k q _ h => hFc q.1 h)) hS1 (by omega) (by omega)
theorem A_callKWi {E : ag} {M : am} {d bc bs pc : Nat} {ls : List (Option Value)} {st rest : List Value} {ws : va_W} {post : Option Value → va_W → Prop} {y : MethodName} {cc1 : ByteArray} {nL1 d1 mc1 ms1 index : Nat} {ret1 : Option FieldType} (n : Nat) {b : Nat} {As : List Value} {f : Int32 → va_W → Prop} (hd : decode M.2.1 pc = .ok (.invokevirtual index, 3)) (cb : CWb y cc1 nL1 ret1 n) (cw : CWv M.1 index y) (hM : CT E y cc1 nL1 ret1 d1 mc1 ms1 (.ref b :: As) ws (ri f)) (hst : st = As.reverse ++ .ref b :: rest) (hn : As.length = n) (ki : Nat) (hki : ki < ag_nS) (hkb : b = E.2.2.1 ki) (hry : y.cls = "java/lang/String") (hroom : d1 + 1 ≤ d) (hnl : nL1 ≤ 21) (hcat : (rest.map fun v => v.category).sum ≤ 8) (hmc : mc1 ≤ bc) (hms : ms1 ≤ bs)
    (kk : ∀ (r : Int32) (w1 : va_W), f r w1 → AW E M d (bc - mc1) (bs - ms1) (pc + 3) ls (.int r :: rest) w1 post) : AW E M d bc bs pc ls st ws post := A_callKW n hd cb cw hM hst hn ki hki hkb hry hroom hnl hcat hmc hms (fun v w1 h => by
  obtain ⟨r, rfl, h⟩ := h
  exact kk r w1 h)
abbrev cJ_length : ByteArray := prog_10_method_54_code
def yJ_length : MethodName := ⟨"java/lang/String", "length", "()I"⟩
def tJ_length : List (Nat × Instr × Nat) := [(0, .aload_n 0, 1), (1, .getfield 9, 3), (4, .arraylength, 1), (5, .aload_n 0, 1), (6, .invokevirtual 335, 3), (9, .ishr, 1), (10, .ireturn, 1)]
theorem tJ_length_ok : tJ_length.all (dk cJ_length) = true := by decide +kernel
theorem dJ_length (k : Nat) {pc len : Nat} {i : Instr} (hk : tJ_length[k]? = some (pc, i, len)) : decode cJ_length pc = .ok (i, len) := dt_of tJ_length_ok k hk
theorem cbJ_length : CWb yJ_length cJ_length 1 (some .int) 0 := ⟨(gt_in 61 (by decide +kernel) (by decide +kernel)), (gt_in 218 (by decide +kernel) (by decide +kernel)), by decide +kernel⟩
abbrev mJ_length : am := ("java/lang/String", cJ_length, 1, some .int, false)
abbrev cJ_coder : ByteArray := prog_10_method_152_code
def yJ_coder : MethodName := ⟨"java/lang/String", "coder", "()B"⟩
def tJ_coder : List (Nat × Instr × Nat) := [(0, .getstatic 38, 3), (3, .ifCond .eq 10, 3), (6, .aload_n 0, 1), (7, .getfield 15, 3), (10, .goto 4, 3), (14, .ireturn, 1)]
theorem tJ_coder_ok : tJ_coder.all (dk cJ_coder) = true := by decide +kernel
theorem dJ_coder (k : Nat) {pc len : Nat} {i : Instr} (hk : tJ_coder[k]? = some (pc, i, len)) : decode cJ_coder pc = .ok (i, len) := dt_of tJ_coder_ok k hk
theorem cbJ_coder : CWb yJ_coder cJ_coder 1 (some .byte) 0 := ⟨(gt_in 61 (by decide +kernel) (by decide +kernel)), (gt_in 222 (by decide +kernel) (by decide +kernel)), by decide +kernel⟩
abbrev mJ_coder : am := ("java/lang/String", cJ_coder, 1, some .byte, false)
abbrev cJ_charAt : ByteArray := prog_10_method_56_code
def yJ_charAt : MethodName := ⟨"java/lang/String", "charAt", "(I)C"⟩
def tJ_charAt : List (Nat × Instr × Nat) := [(0, .aload_n 0, 1), (1, .invokevirtual 492, 3), (4, .ifCond .eq 12, 3), (7, .aload_n 0, 1), (8, .getfield 9, 3), (11, .iload_n 1, 1), (12, .invokestatic 495, 3), (15, .ireturn, 1)]
theorem tJ_charAt_ok : tJ_charAt.all (dk cJ_charAt) = true := by decide +kernel
theorem dJ_charAt (k : Nat) {pc len : Nat} {i : Instr} (hk : tJ_charAt[k]? = some (pc, i, len)) : decode cJ_charAt pc = .ok (i, len) := dt_of tJ_charAt_ok k hk
theorem cbJ_charAt : CWb yJ_charAt cJ_charAt 2 (some .char) 1 := ⟨(gt_in 61 (by decide +kernel) (by decide +kernel)), (gt_in 228 (by decide +kernel) (by decide +kernel)), by decide +kernel⟩
abbrev mJ_charAt : am := ("java/lang/String", cJ_charAt, 2, some .char, false)
abbrev cJ_isLatin1 : ByteArray := prog_10_method_154_code
def yJ_isLatin1 : MethodName := ⟨"java/lang/String", "isLatin1", "()Z"⟩
def tJ_isLatin1 : List (Nat × Instr × Nat) := [(0, .getstatic 38, 3), (3, .ifCond .eq 14, 3), (6, .aload_n 0, 1), (7, .getfield 15, 3), (10, .ifCond .ne 7, 3), (13, .iconst 1, 1), (14, .goto 4, 3), (18, .ireturn, 1)]
theorem tJ_isLatin1_ok : tJ_isLatin1.all (dk cJ_isLatin1) = true := by decide +kernel
theorem dJ_isLatin1 (k : Nat) {pc len : Nat} {i : Instr} (hk : tJ_isLatin1[k]? = some (pc, i, len)) : decode cJ_isLatin1 pc = .ok (i, len) := dt_of tJ_isLatin1_ok k hk
theorem cbJ_isLatin1 : CWb yJ_isLatin1 cJ_isLatin1 1 (some .boolean) 0 := ⟨(gt_in 61 (by decide +kernel) (by decide +kernel)), (gt_in 232 (by decide +kernel) (by decide +kernel)), by decide +kernel⟩
abbrev mJ_isLatin1 : am := ("java/lang/String", cJ_isLatin1, 1, some .boolean, false)
abbrev cJ_check : ByteArray := prog_10_method_155_code
def yJ_check : MethodName := ⟨"java/lang/String", "checkIndex", "(II)V"⟩
def tJ_check : List (Nat × Instr × Nat) := [(0, .iload_n 0, 1), (1, .iload_n 1, 1), (2, .getstatic 1053, 3), (5, .invokestatic 1059, 3), (8, .pop, 1), (9, .return_, 1)]
theorem tJ_check_ok : tJ_check.all (dk cJ_check) = true := by decide +kernel
theorem dJ_check (k : Nat) {pc len : Nat} {i : Instr} (hk : tJ_check[k]? = some (pc, i, len)) : decode cJ_check pc = .ok (i, len) := dt_of tJ_check_ok k hk
theorem cbJ_check : CWb yJ_check cJ_check 2 (none) 2 := ⟨(gt_in 61 (by decide +kernel) (by decide +kernel)), (gt_in 238 (by decide +kernel) (by decide +kernel)), by decide +kernel⟩
abbrev mJ_check : am := ("java/lang/String", cJ_check, 2, none, false)
abbrev cJ_l1 : ByteArray := prog_11_method_2_code
def yJ_l1 : MethodName := ⟨"java/lang/StringLatin1", "charAt", "([BI)C"⟩
def tJ_l1 : List (Nat × Instr × Nat) := [(0, .iload_n 1, 1), (1, .aload_n 0, 1), (2, .arraylength, 1), (3, .invokestatic 9, 3), (6, .aload_n 0, 1), (7, .iload_n 1, 1), (8, .baload, 1), (9, .sipush 255, 3), (12, .iand, 1), (13, .i2c, 1), (14, .ireturn, 1)]
theorem tJ_l1_ok : tJ_l1.all (dk cJ_l1) = true := by decide +kernel
theorem dJ_l1 (k : Nat) {pc len : Nat} {i : Instr} (hk : tJ_l1[k]? = some (pc, i, len)) : decode cJ_l1 pc = .ok (i, len) := dt_of tJ_l1_ok k hk
theorem cbJ_l1 : CWb yJ_l1 cJ_l1 2 (some .char) 2 := ⟨(gt_in 62 (by decide +kernel) (by decide +kernel)), (gt_in 235 (by decide +kernel) (by decide +kernel)), by decide +kernel⟩
abbrev mJ_l1 : am := ("java/lang/StringLatin1", cJ_l1, 2, some .char, false)
abbrev cJ_pre : ByteArray := prog_14_method_11_code
def yJ_pre : MethodName := ⟨"jdk/internal/util/Preconditions", "checkIndex", "(IILjava/util/function/BiFunction;)I"⟩
def tJ_pre : List (Nat × Instr × Nat) := [(0, .iload_n 0, 1), (1, .ifCond .lt 8, 3), (4, .iload_n 0, 1), (5, .iload_n 1, 1), (6, .if_icmp .lt 10, 3), (16, .iload_n 0, 1), (17, .ireturn, 1)]
theorem tJ_pre_ok : tJ_pre.all (dk cJ_pre) = true := by decide +kernel
theorem dJ_pre (k : Nat) {pc len : Nat} {i : Instr} (hk : tJ_pre[k]? = some (pc, i, len)) : decode cJ_pre pc = .ok (i, len) := dt_of tJ_pre_ok k hk
theorem cbJ_pre : CWb yJ_pre cJ_pre 3 (some .int) 3 := ⟨(gt_in 63 (by decide +kernel) (by decide +kernel)), (gt_in 243 (by decide +kernel) (by decide +kernel)), by decide +kernel⟩
abbrev mJ_pre : am := ("jdk/internal/util/Preconditions", cJ_pre, 3, some .int, false)
theorem cwJ_335 : CWv "java/lang/String" 335 yJ_coder := ⟨(gt_in 219 (by decide +kernel) (by decide +kernel)), (gt_in 220 (by decide +kernel) (by decide +kernel)), (gt_in 221 (by decide +kernel) (by decide +kernel))⟩
theorem cwJ_492 : CWv "java/lang/String" 492 yJ_isLatin1 := ⟨(gt_in 229 (by decide +kernel) (by decide +kernel)), (gt_in 230 (by decide +kernel) (by decide +kernel)), (gt_in 231 (by decide +kernel) (by decide +kernel))⟩
theorem cwJ_495 : CWs "java/lang/String" 495 yJ_l1 := ⟨(gt_in 233 (by decide +kernel) (by decide +kernel)), (gt_in 234 (by decide +kernel) (by decide +kernel))⟩
theorem cwJ_9 : CWs "java/lang/StringLatin1" 9 yJ_check := ⟨(gt_in 236 (by decide +kernel) (by decide +kernel)), (gt_in 237 (by decide +kernel) (by decide +kernel))⟩
theorem cwJ_1059 : CWs "java/lang/String" 1059 yJ_pre := ⟨(gt_in 241 (by decide +kernel) (by decide +kernel)), (gt_in 242 (by decide +kernel) (by decide +kernel))⟩
theorem cwX5_66 : CWv "FourFlails" 66 yJ_length := ⟨(gt_in 215 (by decide +kernel) (by decide +kernel)), (gt_in 216 (by decide +kernel) (by decide +kernel)), (gt_in 217 (by decide +kernel) (by decide +kernel))⟩
theorem cwX5_72 : CWv "FourFlails" 72 yJ_charAt := ⟨(gt_in 225 (by decide +kernel) (by decide +kernel)), (gt_in 226 (by decide +kernel) (by decide +kernel)), (gt_in 227 (by decide +kernel) (by decide +kernel))⟩
theorem cwX2_79 : CWv "FourFlails$Reader" 79 yJ_length := ⟨(gt_in 312 (by decide +kernel) (by decide +kernel)), (gt_in 216 (by decide +kernel) (by decide +kernel)), (gt_in 217 (by decide +kernel) (by decide +kernel))⟩
theorem cwX2_84 : CWv "FourFlails$Reader" 84 yJ_charAt := ⟨(gt_in 313 (by decide +kernel) (by decide +kernel)), (gt_in 226 (by decide +kernel) (by decide +kernel)), (gt_in 227 (by decide +kernel) (by decide +kernel))⟩
set_option maxRecDepth 100000 in
theorem j_coder (E : ag) (ws : va_W) (i : Nat) (hi : i < ag_nS) : CT E yJ_coder cJ_coder 1 mJ_coder.2.2.2.1 1 0 0 [.ref (E.2.2.1 i)] ws (ri (fun r w => r = 0 ∧ w = ws)) := by
  refine CT.of (M := mJ_coder) (ls := [some (.ref (E.2.2.1 i))]) (by decide) rfl (by decide) rfl (Nat.le_of_ble_eq_true rfl) ?_
  refine A_compact (dJ_coder 0 rfl) (gt_in 223 (by decide +kernel) (by decide +kernel)) ?_
  refine A_if_eq 13 (dJ_coder 1 rfl) (by decide) (fun h => absurd h (by decide)) (fun _ => ?_)
  refine A_aload_n (dJ_coder 2 rfl) rfl ?_
  refine A_strC i (dJ_coder 3 rfl) hi (gt_in 1204 (by decide +kernel) (by decide +kernel)) ?_
  refine A_goto 14 (dJ_coder 4 rfl) (by decide) ?_
  refine A_ri (dJ_coder 5 rfl) rfl (by decide) ?_
  exact ⟨rfl, rfl⟩
theorem shr0 (x : Int32) : x >>> ((0 : Int32) &&& 31) = x := by rw [show (0 : Int32) &&& 31 = 0 from by decide, ← Int32.toBitVec_inj]; simp
set_option maxRecDepth 100000 in
theorem j_length (E : ag) (ws : va_W) (i : Nat) (hi : i < ag_nS) : CT E yJ_length cJ_length 1 mJ_length.2.2.2.1 2 0 0 [.ref (E.2.2.1 i)] ws (ri (fun r w => r = nI (ag_len.getD i 0) ∧ w = ws)) := by
  refine CT.of (M := mJ_length) (ls := [some (.ref (E.2.2.1 i))]) (by decide) rfl (by decide) rfl (Nat.le_of_ble_eq_true rfl) ?_
  refine A_aload_n (dJ_length 0 rfl) rfl ?_
  refine A_strV i (dJ_length 1 rfl) hi (gt_in 1203 (by decide +kernel) (by decide +kernel)) ?_
  refine A_strL i (dJ_length 2 rfl) hi ?_
  refine A_aload_n (dJ_length 3 rfl) rfl ?_
  refine A_callKWi 0 (dJ_length 4 rfl) cbJ_coder cwJ_335 (j_coder E _ i hi) rfl rfl i hi rfl rfl (Nat.le_of_ble_eq_true rfl) (Nat.le_of_ble_eq_true rfl) (Nat.le_of_ble_eq_true rfl) (Nat.le_of_ble_eq_true rfl) (Nat.le_of_ble_eq_true rfl) ?_
  rintro r w1 ⟨rfl, rfl⟩
  refine A_ishr (dJ_length 5 rfl) ?_
  refine A_ri (dJ_length 6 rfl) rfl rfl ?_
  exact ⟨shr0 _, rfl⟩
set_option maxRecDepth 100000 in
theorem j_isLatin1 (E : ag) (ws : va_W) (i : Nat) (hi : i < ag_nS) : CT E yJ_isLatin1 cJ_isLatin1 1 mJ_isLatin1.2.2.2.1 1 0 0 [.ref (E.2.2.1 i)] ws (ri (fun r w => r = 1 ∧ w = ws)) := by
  refine CT.of (M := mJ_isLatin1) (ls := [some (.ref (E.2.2.1 i))]) (by decide) rfl (by decide) rfl (Nat.le_of_ble_eq_true rfl) ?_
  refine A_compact (dJ_isLatin1 0 rfl) (gt_in 223 (by decide +kernel) (by decide +kernel)) ?_
  refine A_if_eq 17 (dJ_isLatin1 1 rfl) (by decide) (fun h => absurd h (by decide)) (fun _ => ?_)
  refine A_aload_n (dJ_isLatin1 2 rfl) rfl ?_
  refine A_strC i (dJ_isLatin1 3 rfl) hi (gt_in 1204 (by decide +kernel) (by decide +kernel)) ?_
  refine A_if_ne 17 (dJ_isLatin1 4 rfl) (by decide) (fun h => absurd rfl h) (fun _ => ?_)
  refine A_iconst 1 (dJ_isLatin1 5 rfl) (by decide +kernel) ?_
  refine A_goto 18 (dJ_isLatin1 6 rfl) (by decide) ?_
  refine A_ri (dJ_isLatin1 7 rfl) rfl (by decide) ?_
  exact ⟨rfl, rfl⟩
set_option maxRecDepth 100000 in
theorem j_pre (E : ag) (ws : va_W) (j L x : Nat) (hj : j < L) (hL : L < 2 ^ 31) : CT E yJ_pre cJ_pre 3 mJ_pre.2.2.2.1 1 0 0 [.int (nI j), .int (nI L), .ref x] ws (ri (fun r w => r = nI j ∧ w = ws)) := by
  refine CT.of (M := mJ_pre) (ls := [some (.int (nI j)), some (.int (nI L)), some (.ref x)]) (by decide) rfl (by decide) rfl (Nat.le_of_ble_eq_true rfl) ?_
  refine A_iload_n (dJ_pre 0 rfl) rfl ?_
  refine A_if_lt 9 (dJ_pre 1 rfl) (by decide) (fun h => absurd h (nI_pos (by omega))) (fun _ => ?_)
  refine A_iload_n (dJ_pre 2 rfl) rfl ?_
  refine A_iload_n (dJ_pre 3 rfl) rfl ?_
  refine A_icmp_lt 16 (dJ_pre 4 rfl) (by decide) (fun _ => ?_) (fun h => absurd (nI_lt hj hL) h)
  refine A_iload_n (dJ_pre 5 rfl) rfl ?_
  refine A_ri (dJ_pre 6 rfl) rfl rfl ?_
  exact ⟨rfl, rfl⟩
set_option maxRecDepth 100000 in
theorem j_preN (E : ag) (ws : va_W) (j L : Nat) (hj : j < L) (hL : L < 2 ^ 31) : CT E yJ_pre cJ_pre 3 mJ_pre.2.2.2.1 1 0 0 [.int (nI j), .int (nI L), .null] ws (ri (fun r w => r = nI j ∧ w = ws)) := by
  refine CT.of (M := mJ_pre) (ls := [some (.int (nI j)), some (.int (nI L)), some .null]) (by decide) rfl (by decide) rfl (Nat.le_of_ble_eq_true rfl) ?_
  refine A_iload_n (dJ_pre 0 rfl) rfl ?_
  refine A_if_lt 9 (dJ_pre 1 rfl) (by decide) (fun h => absurd h (nI_pos (by omega))) (fun _ => ?_)
  refine A_iload_n (dJ_pre 2 rfl) rfl ?_
  refine A_iload_n (dJ_pre 3 rfl) rfl ?_
  refine A_icmp_lt 16 (dJ_pre 4 rfl) (by decide) (fun _ => ?_) (fun h => absurd (nI_lt hj hL) h)
  refine A_iload_n (dJ_pre 5 rfl) rfl ?_
  refine A_ri (dJ_pre 6 rfl) rfl rfl ?_
  exact ⟨rfl, rfl⟩
set_option maxRecDepth 100000 in
theorem j_check (E : ag) (ws : va_W) (j L : Nat) (hj : j < L) (hL : L < 2 ^ 31) : CT E yJ_check cJ_check 2 mJ_check.2.2.2.1 2 0 0 [.int (nI j), .int (nI L)] ws (rv (fun w => w = ws)) := by
  refine CT.of (M := mJ_check) (ls := [some (.int (nI j)), some (.int (nI L))]) (by decide) rfl (by decide) rfl (Nat.le_of_ble_eq_true rfl) ?_
  refine A_iload_n (dJ_check 0 rfl) rfl ?_
  refine A_iload_n (dJ_check 1 rfl) rfl ?_
  refine A_sio (dJ_check 2 rfl) (gt_in 239 (by decide +kernel) (by decide +kernel)) (fun x9 hx9 => ?_)
  rcases hx9 with rfl | ⟨x, rfl⟩
  · refine A_callSWi 3 (dJ_check 3 rfl) cbJ_pre cwJ_1059 (j_preN E _ j L hj hL) rfl rfl (Nat.le_of_ble_eq_true rfl) (Nat.le_of_ble_eq_true rfl) (Nat.le_of_ble_eq_true rfl) (Nat.le_of_ble_eq_true rfl) (Nat.le_of_ble_eq_true rfl) ?_
    rintro r w1 ⟨rfl, rfl⟩
    refine A_pop (dJ_check 4 rfl) rfl ?_
    refine A_rv (dJ_check 5 rfl) rfl ?_
    rfl
  · refine A_callSWi 3 (dJ_check 3 rfl) cbJ_pre cwJ_1059 (j_pre E _ j L x hj hL) rfl rfl (Nat.le_of_ble_eq_true rfl) (Nat.le_of_ble_eq_true rfl) (Nat.le_of_ble_eq_true rfl) (Nat.le_of_ble_eq_true rfl) (Nat.le_of_ble_eq_true rfl) ?_
    rintro r w1 ⟨rfl, rfl⟩
    refine A_pop (dJ_check 4 rfl) rfl ?_
    refine A_rv (dJ_check 5 rfl) rfl ?_
    rfl
theorem chr_ok : ∀ i, i < ag_nS → ag_len.getD i 0 < 2 ^ 31 ∧ ∀ j, j < ag_len.getD i 0 → (((ag_byt.getD i []).getD j 0 &&& 255).toUInt32 % 65536).toInt32 = (ag_byt.getD i []).getD j 0 ∧ ¬ (ag_byt.getD i []).getD j 0 < 0 := by decide +kernel
theorem chr_nar (x : Int32) : narrow .char (.int (x.toUInt32 % 65536).toInt32) = .int (x.toUInt32 % 65536).toInt32 := pk_nc x
set_option maxRecDepth 100000 in
theorem j_l1 (E : ag) (ws : va_W) (i : Nat) (hi : i < ag_nS) (j : Nat) (hj : j < ag_len.getD i 0) : CT E yJ_l1 cJ_l1 2 mJ_l1.2.2.2.1 3 0 0 [.ref (E.2.2.2.1 i), .int (nI j)] ws (ri (fun r w => r = (ag_byt.getD i []).getD j 0 ∧ w = ws)) := by
  refine CT.of (M := mJ_l1) (ls := [some (.ref (E.2.2.2.1 i)), some (.int (nI j))]) (by decide) rfl (by decide) rfl (Nat.le_of_ble_eq_true rfl) ?_
  refine A_iload_n (dJ_l1 0 rfl) rfl ?_
  refine A_aload_n (dJ_l1 1 rfl) rfl ?_
  refine A_strL i (dJ_l1 2 rfl) hi ?_
  refine A_callSWv 2 (dJ_l1 3 rfl) cbJ_check cwJ_9 (j_check E _ j (ag_len.getD i 0) hj (chr_ok i hi).1) rfl rfl (Nat.le_of_ble_eq_true rfl) (Nat.le_of_ble_eq_true rfl) (Nat.le_of_ble_eq_true rfl) (Nat.le_of_ble_eq_true rfl) (Nat.le_of_ble_eq_true rfl) ?_
  rintro w1 rfl
  refine A_aload_n (dJ_l1 4 rfl) rfl ?_
  refine A_iload_n (dJ_l1 5 rfl) rfl ?_
  refine A_strB i (dJ_l1 6 rfl) hi (vp_in_nI hj (chr_ok i hi).1) ?_
  rw [nI_clamp (n := j) (by have := (chr_ok i hi).1; omega)]
  refine A_sipush (255) (dJ_l1 7 rfl) (by decide +kernel) ?_
  refine A_iand (dJ_l1 8 rfl) ?_
  refine A_i2c (dJ_l1 9 rfl) ?_
  refine A_ri (dJ_l1 10 rfl) rfl (chr_nar _) ?_
  exact ⟨((chr_ok i hi).2 j hj).1, rfl⟩
theorem chr_n2 : ∀ i, i < ag_nS → ∀ j, j < ag_len.getD i 0 → narrow .char (.int ((ag_byt.getD i []).getD j 0)) = .int ((ag_byt.getD i []).getD j 0) := by decide +kernel
set_option maxRecDepth 100000 in
theorem j_charAt (E : ag) (ws : va_W) (i : Nat) (hi : i < ag_nS) (j : Nat) (hj : j < ag_len.getD i 0) : CT E yJ_charAt cJ_charAt 2 mJ_charAt.2.2.2.1 4 0 0 [.ref (E.2.2.1 i), .int (nI j)] ws (ri (fun r w => r = (ag_byt.getD i []).getD j 0 ∧ w = ws)) := by
  refine CT.of (M := mJ_charAt) (ls := [some (.ref (E.2.2.1 i)), some (.int (nI j))]) (by decide) rfl (by decide) rfl (Nat.le_of_ble_eq_true rfl) ?_
  refine A_aload_n (dJ_charAt 0 rfl) rfl ?_
  refine A_callKWi 0 (dJ_charAt 1 rfl) cbJ_isLatin1 cwJ_492 (j_isLatin1 E _ i hi) rfl rfl i hi rfl rfl (Nat.le_of_ble_eq_true rfl) (Nat.le_of_ble_eq_true rfl) (Nat.le_of_ble_eq_true rfl) (Nat.le_of_ble_eq_true rfl) (Nat.le_of_ble_eq_true rfl) ?_
  rintro r w1 ⟨rfl, rfl⟩
  refine A_if_eq 16 (dJ_charAt 2 rfl) (by decide) (fun h => absurd h (by decide)) (fun _ => ?_)
  refine A_aload_n (dJ_charAt 3 rfl) rfl ?_
  refine A_strV i (dJ_charAt 4 rfl) hi (gt_in 1203 (by decide +kernel) (by decide +kernel)) ?_
  refine A_iload_n (dJ_charAt 5 rfl) rfl ?_
  refine A_callSWi 2 (dJ_charAt 6 rfl) cbJ_l1 cwJ_495 (j_l1 E _ i hi j hj) rfl rfl (Nat.le_of_ble_eq_true rfl) (Nat.le_of_ble_eq_true rfl) (Nat.le_of_ble_eq_true rfl) (Nat.le_of_ble_eq_true rfl) (Nat.le_of_ble_eq_true rfl) ?_
  rintro r w1 ⟨rfl, rfl⟩
  refine A_ri (dJ_charAt 7 rfl) rfl (chr_n2 i hi j hj) ?_
  exact ⟨rfl, rfl⟩
