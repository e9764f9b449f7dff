section
-- ===== PART A: goes FIRST, ahead of the names: the tables' words, and 'selects' of the private methods out of them =====
/-- a private method of a class that the tables say can be made, by its rows of tables_1 -/
def lw_okq (q : MethodName × Nat) : Prop := (q.1.cls ≠ "java/lang/invoke/MethodHandle" ∧ q.1.cls ≠ "java/lang/invoke/VarHandle") ∧ Cond.instantiable q.1.cls q.2 ∈ tables_1 ∧ Cond.privateMethod q.1 ∈ tables_1 ∧ Cond.instanceMethod q.1 ∈ tables_1
theorem lw_p0 : lw_okq (⟨"FourFlails$Reader", "next", "()V"⟩, 7) := ⟨⟨by decide +kernel, by decide +kernel⟩, List.mem_of_getElem? (i := 109) (by decide +kernel), List.mem_of_getElem? (i := 221) (by decide +kernel), List.mem_of_getElem? (i := 222) (by decide +kernel)⟩
theorem lw_p1 : lw_okq (⟨"FourFlails$Reader", "numberHere", "()I"⟩, 7) := ⟨⟨by decide +kernel, by decide +kernel⟩, List.mem_of_getElem? (i := 109) (by decide +kernel), List.mem_of_getElem? (i := 228) (by decide +kernel), List.mem_of_getElem? (i := 229) (by decide +kernel)⟩
theorem lw_p2 : lw_okq (⟨"FourFlails$Reader", "wordHere", "()I"⟩, 7) := ⟨⟨by decide +kernel, by decide +kernel⟩, List.mem_of_getElem? (i := 109) (by decide +kernel), List.mem_of_getElem? (i := 235) (by decide +kernel), List.mem_of_getElem? (i := 236) (by decide +kernel)⟩
theorem lw_p3 : lw_okq (⟨"FourFlails$Reader", "isHere", "(Ljava/lang/String;)Z"⟩, 7) := ⟨⟨by decide +kernel, by decide +kernel⟩, List.mem_of_getElem? (i := 109) (by decide +kernel), List.mem_of_getElem? (i := 254) (by decide +kernel), List.mem_of_getElem? (i := 255) (by decide +kernel)⟩
theorem lw_p4 : lw_okq (⟨"FourFlails$Reader", "take", "(I)Z"⟩, 7) := ⟨⟨by decide +kernel, by decide +kernel⟩, List.mem_of_getElem? (i := 109) (by decide +kernel), List.mem_of_getElem? (i := 263) (by decide +kernel), List.mem_of_getElem? (i := 264) (by decide +kernel)⟩
theorem lw_p5 : lw_okq (⟨"FourFlails$Reader", "either", "(I)Z"⟩, 7) := ⟨⟨by decide +kernel, by decide +kernel⟩, List.mem_of_getElem? (i := 109) (by decide +kernel), List.mem_of_getElem? (i := 267) (by decide +kernel), List.mem_of_getElem? (i := 268) (by decide +kernel)⟩
theorem lw_p6 : lw_okq (⟨"FourFlails$Reader", "both", "(I)Z"⟩, 7) := ⟨⟨by decide +kernel, by decide +kernel⟩, List.mem_of_getElem? (i := 109) (by decide +kernel), List.mem_of_getElem? (i := 271) (by decide +kernel), List.mem_of_getElem? (i := 272) (by decide +kernel)⟩
theorem lw_p7 : lw_okq (⟨"FourFlails$Reader", "denied", "(I)Z"⟩, 7) := ⟨⟨by decide +kernel, by decide +kernel⟩, List.mem_of_getElem? (i := 109) (by decide +kernel), List.mem_of_getElem? (i := 275) (by decide +kernel), List.mem_of_getElem? (i := 276) (by decide +kernel)⟩
theorem lw_p8 : lw_okq (⟨"FourFlails$Reader", "sum", "(I)Z"⟩, 7) := ⟨⟨by decide +kernel, by decide +kernel⟩, List.mem_of_getElem? (i := 109) (by decide +kernel), List.mem_of_getElem? (i := 283) (by decide +kernel), List.mem_of_getElem? (i := 284) (by decide +kernel)⟩
theorem lw_p9 : lw_okq (⟨"FourFlails$Reader", "term", "(I)Z"⟩, 7) := ⟨⟨by decide +kernel, by decide +kernel⟩, List.mem_of_getElem? (i := 109) (by decide +kernel), List.mem_of_getElem? (i := 287) (by decide +kernel), List.mem_of_getElem? (i := 288) (by decide +kernel)⟩
theorem lw_p10 : lw_okq (⟨"FourFlails$Reader", "one", "(I)Z"⟩, 7) := ⟨⟨by decide +kernel, by decide +kernel⟩, List.mem_of_getElem? (i := 109) (by decide +kernel), List.mem_of_getElem? (i := 291) (by decide +kernel), List.mem_of_getElem? (i := 292) (by decide +kernel)⟩
theorem lw_p11 : lw_okq (⟨"FourFlails", "isMan", "(I)Z"⟩, 11) := ⟨⟨by decide +kernel, by decide +kernel⟩, List.mem_of_getElem? (i := 15) (by decide +kernel), List.mem_of_getElem? (i := 362) (by decide +kernel), List.mem_of_getElem? (i := 363) (by decide +kernel)⟩
theorem lw_p12 : lw_okq (⟨"FourFlails$Flailing", "takeTurn", "(LFourFlails$Floor;LFourFlails$Text;II)V"⟩, 6) := ⟨⟨by decide +kernel, by decide +kernel⟩, List.mem_of_getElem? (i := 82) (by decide +kernel), List.mem_of_getElem? (i := 419) (by decide +kernel), List.mem_of_getElem? (i := 420) (by decide +kernel)⟩
theorem lw_p13 : lw_okq (⟨"FourFlails$Flailing", "look", "(LFourFlails$Floor;III)V"⟩, 6) := ⟨⟨by decide +kernel, by decide +kernel⟩, List.mem_of_getElem? (i := 82) (by decide +kernel), List.mem_of_getElem? (i := 428) (by decide +kernel), List.mem_of_getElem? (i := 429) (by decide +kernel)⟩
theorem lw_p14 : lw_okq (⟨"FourFlails$Flailing", "knock", "(II)V"⟩, 6) := ⟨⟨by decide +kernel, by decide +kernel⟩, List.mem_of_getElem? (i := 82) (by decide +kernel), List.mem_of_getElem? (i := 452) (by decide +kernel), List.mem_of_getElem? (i := 453) (by decide +kernel)⟩
theorem lw_p15 : lw_okq (⟨"FourFlails$Flailing", "nextDrawn", "()I"⟩, 6) := ⟨⟨by decide +kernel, by decide +kernel⟩, List.mem_of_getElem? (i := 82) (by decide +kernel), List.mem_of_getElem? (i := 457) (by decide +kernel), List.mem_of_getElem? (i := 458) (by decide +kernel)⟩
def lw_privs_1 : List (MethodName × Nat) := [(⟨"FourFlails$Reader", "next", "()V"⟩, 7), (⟨"FourFlails$Reader", "numberHere", "()I"⟩, 7), (⟨"FourFlails$Reader", "wordHere", "()I"⟩, 7), (⟨"FourFlails$Reader", "isHere", "(Ljava/lang/String;)Z"⟩, 7), (⟨"FourFlails$Reader", "take", "(I)Z"⟩, 7), (⟨"FourFlails$Reader", "either", "(I)Z"⟩, 7), (⟨"FourFlails$Reader", "both", "(I)Z"⟩, 7), (⟨"FourFlails$Reader", "denied", "(I)Z"⟩, 7), (⟨"FourFlails$Reader", "sum", "(I)Z"⟩, 7), (⟨"FourFlails$Reader", "term", "(I)Z"⟩, 7), (⟨"FourFlails$Reader", "one", "(I)Z"⟩, 7), (⟨"FourFlails", "isMan", "(I)Z"⟩, 11), (⟨"FourFlails$Flailing", "takeTurn", "(LFourFlails$Floor;LFourFlails$Text;II)V"⟩, 6), (⟨"FourFlails$Flailing", "look", "(LFourFlails$Floor;III)V"⟩, 6), (⟨"FourFlails$Flailing", "knock", "(II)V"⟩, 6), (⟨"FourFlails$Flailing", "nextDrawn", "()I"⟩, 6)]
theorem lw_r1 : ∀ q ∈ lw_privs_1, lw_okq q := List.forall_mem_cons.mpr ⟨lw_p0, List.forall_mem_cons.mpr ⟨lw_p1, List.forall_mem_cons.mpr ⟨lw_p2, List.forall_mem_cons.mpr ⟨lw_p3, List.forall_mem_cons.mpr ⟨lw_p4, List.forall_mem_cons.mpr ⟨lw_p5, List.forall_mem_cons.mpr ⟨lw_p6, List.forall_mem_cons.mpr ⟨lw_p7, List.forall_mem_cons.mpr ⟨lw_p8, List.forall_mem_cons.mpr ⟨lw_p9, List.forall_mem_cons.mpr ⟨lw_p10, List.forall_mem_cons.mpr ⟨lw_p11, List.forall_mem_cons.mpr ⟨lw_p12, List.forall_mem_cons.mpr ⟨lw_p13, List.forall_mem_cons.mpr ⟨lw_p14, List.forall_mem_cons.mpr ⟨lw_p15, fun _ h => absurd h List.not_mem_nil⟩⟩⟩⟩⟩⟩⟩⟩⟩⟩⟩⟩⟩⟩⟩⟩
theorem lw_p16 : lw_okq (⟨"FourFlails", "beginTrial", "()V"⟩, 11) := ⟨⟨by decide +kernel, by decide +kernel⟩, List.mem_of_getElem? (i := 15) (by decide +kernel), List.mem_of_getElem? (i := 469) (by decide +kernel), List.mem_of_getElem? (i := 470) (by decide +kernel)⟩
theorem lw_p17 : lw_okq (⟨"FourFlails", "tryRounds", "(I)V"⟩, 11) := ⟨⟨by decide +kernel, by decide +kernel⟩, List.mem_of_getElem? (i := 15) (by decide +kernel), List.mem_of_getElem? (i := 480) (by decide +kernel), List.mem_of_getElem? (i := 481) (by decide +kernel)⟩
theorem lw_p18 : lw_okq (⟨"FourFlails", "seekOrder", "()I"⟩, 11) := ⟨⟨by decide +kernel, by decide +kernel⟩, List.mem_of_getElem? (i := 15) (by decide +kernel), List.mem_of_getElem? (i := 507) (by decide +kernel), List.mem_of_getElem? (i := 508) (by decide +kernel)⟩
theorem lw_p19 : lw_okq (⟨"FourFlails$Floor", "takeMan", "(ILFourFlails$Floor;I)V"⟩, 11) := ⟨⟨by decide +kernel, by decide +kernel⟩, List.mem_of_getElem? (i := 23) (by decide +kernel), List.mem_of_getElem? (i := 515) (by decide +kernel), List.mem_of_getElem? (i := 516) (by decide +kernel)⟩
theorem lw_p20 : lw_okq (⟨"FourFlails", "nextRow", "(I)Z"⟩, 11) := ⟨⟨by decide +kernel, by decide +kernel⟩, List.mem_of_getElem? (i := 15) (by decide +kernel), List.mem_of_getElem? (i := 520) (by decide +kernel), List.mem_of_getElem? (i := 521) (by decide +kernel)⟩
theorem lw_p21 : lw_okq (⟨"FourFlails", "outTurnedAhead", "(I)I"⟩, 11) := ⟨⟨by decide +kernel, by decide +kernel⟩, List.mem_of_getElem? (i := 15) (by decide +kernel), List.mem_of_getElem? (i := 549) (by decide +kernel), List.mem_of_getElem? (i := 550) (by decide +kernel)⟩
theorem lw_p22 : lw_okq (⟨"FourFlailsModel", "spell", "(IIIIIIIII)V"⟩, 64) := ⟨⟨by decide +kernel, by decide +kernel⟩, List.mem_of_getElem? (i := 651) (by decide +kernel), List.mem_of_getElem? (i := 657) (by decide +kernel), List.mem_of_getElem? (i := 658) (by decide +kernel)⟩
theorem lw_p23 : lw_okq (⟨"FourFlailsModel", "isMan", "(I)Z"⟩, 64) := ⟨⟨by decide +kernel, by decide +kernel⟩, List.mem_of_getElem? (i := 651) (by decide +kernel), List.mem_of_getElem? (i := 874) (by decide +kernel), List.mem_of_getElem? (i := 875) (by decide +kernel)⟩
theorem lw_p24 : lw_okq (⟨"FourFlailsModel", "strikes", "(I)I"⟩, 64) := ⟨⟨by decide +kernel, by decide +kernel⟩, List.mem_of_getElem? (i := 651) (by decide +kernel), List.mem_of_getElem? (i := 887) (by decide +kernel), List.mem_of_getElem? (i := 888) (by decide +kernel)⟩
theorem lw_p25 : lw_okq (⟨"FourFlailsModel", "gapOf", "(I)I"⟩, 64) := ⟨⟨by decide +kernel, by decide +kernel⟩, List.mem_of_getElem? (i := 651) (by decide +kernel), List.mem_of_getElem? (i := 891) (by decide +kernel), List.mem_of_getElem? (i := 892) (by decide +kernel)⟩
theorem lw_p26 : lw_okq (⟨"FourFlailsModel", "bars", "(I)V"⟩, 64) := ⟨⟨by decide +kernel, by decide +kernel⟩, List.mem_of_getElem? (i := 651) (by decide +kernel), List.mem_of_getElem? (i := 895) (by decide +kernel), List.mem_of_getElem? (i := 896) (by decide +kernel)⟩
theorem lw_p27 : lw_okq (⟨"FourFlailsModel", "mended", "(II)I"⟩, 64) := ⟨⟨by decide +kernel, by decide +kernel⟩, List.mem_of_getElem? (i := 651) (by decide +kernel), List.mem_of_getElem? (i := 905) (by decide +kernel), List.mem_of_getElem? (i := 906) (by decide +kernel)⟩
theorem lw_p28 : lw_okq (⟨"FourFlailsModel", "read", "(II)I"⟩, 64) := ⟨⟨by decide +kernel, by decide +kernel⟩, List.mem_of_getElem? (i := 651) (by decide +kernel), List.mem_of_getElem? (i := 919) (by decide +kernel), List.mem_of_getElem? (i := 920) (by decide +kernel)⟩
theorem lw_p29 : lw_okq (⟨"FourFlailsModel", "next", "()V"⟩, 64) := ⟨⟨by decide +kernel, by decide +kernel⟩, List.mem_of_getElem? (i := 651) (by decide +kernel), List.mem_of_getElem? (i := 923) (by decide +kernel), List.mem_of_getElem? (i := 924) (by decide +kernel)⟩
theorem lw_p30 : lw_okq (⟨"FourFlailsModel", "byteAt", "(I)I"⟩, 64) := ⟨⟨by decide +kernel, by decide +kernel⟩, List.mem_of_getElem? (i := 651) (by decide +kernel), List.mem_of_getElem? (i := 927) (by decide +kernel), List.mem_of_getElem? (i := 928) (by decide +kernel)⟩
theorem lw_p31 : lw_okq (⟨"FourFlailsModel", "isWord", "(IIIIIIII)Z"⟩, 64) := ⟨⟨by decide +kernel, by decide +kernel⟩, List.mem_of_getElem? (i := 651) (by decide +kernel), List.mem_of_getElem? (i := 936) (by decide +kernel), List.mem_of_getElem? (i := 937) (by decide +kernel)⟩
def lw_privs_2 : List (MethodName × Nat) := [(⟨"FourFlails", "beginTrial", "()V"⟩, 11), (⟨"FourFlails", "tryRounds", "(I)V"⟩, 11), (⟨"FourFlails", "seekOrder", "()I"⟩, 11), (⟨"FourFlails$Floor", "takeMan", "(ILFourFlails$Floor;I)V"⟩, 11), (⟨"FourFlails", "nextRow", "(I)Z"⟩, 11), (⟨"FourFlails", "outTurnedAhead", "(I)I"⟩, 11), (⟨"FourFlailsModel", "spell", "(IIIIIIIII)V"⟩, 64), (⟨"FourFlailsModel", "isMan", "(I)Z"⟩, 64), (⟨"FourFlailsModel", "strikes", "(I)I"⟩, 64), (⟨"FourFlailsModel", "gapOf", "(I)I"⟩, 64), (⟨"FourFlailsModel", "bars", "(I)V"⟩, 64), (⟨"FourFlailsModel", "mended", "(II)I"⟩, 64), (⟨"FourFlailsModel", "read", "(II)I"⟩, 64), (⟨"FourFlailsModel", "next", "()V"⟩, 64), (⟨"FourFlailsModel", "byteAt", "(I)I"⟩, 64), (⟨"FourFlailsModel", "isWord", "(IIIIIIII)Z"⟩, 64)]
theorem lw_r2 : ∀ q ∈ lw_privs_2, lw_okq q := List.forall_mem_cons.mpr ⟨lw_p16, List.forall_mem_cons.mpr ⟨lw_p17, List.forall_mem_cons.mpr ⟨lw_p18, List.forall_mem_cons.mpr ⟨lw_p19, List.forall_mem_cons.mpr ⟨lw_p20, List.forall_mem_cons.mpr ⟨lw_p21, List.forall_mem_cons.mpr ⟨lw_p22, List.forall_mem_cons.mpr ⟨lw_p23, List.forall_mem_cons.mpr ⟨lw_p24, List.forall_mem_cons.mpr ⟨lw_p25, List.forall_mem_cons.mpr ⟨lw_p26, List.forall_mem_cons.mpr ⟨lw_p27, List.forall_mem_cons.mpr ⟨lw_p28, List.forall_mem_cons.mpr ⟨lw_p29, List.forall_mem_cons.mpr ⟨lw_p30, List.forall_mem_cons.mpr ⟨lw_p31, fun _ h => absurd h List.not_mem_nil⟩⟩⟩⟩⟩⟩⟩⟩⟩⟩⟩⟩⟩⟩⟩⟩
theorem lw_p32 : lw_okq (⟨"FourFlailsModel", "isLetter", "(II)Z"⟩, 64) := ⟨⟨by decide +kernel, by decide +kernel⟩, List.mem_of_getElem? (i := 651) (by decide +kernel), List.mem_of_getElem? (i := 940) (by decide +kernel), List.mem_of_getElem? (i := 941) (by decide +kernel)⟩
theorem lw_p33 : lw_okq (⟨"FourFlailsModel", "part", "(Z)I"⟩, 64) := ⟨⟨by decide +kernel, by decide +kernel⟩, List.mem_of_getElem? (i := 651) (by decide +kernel), List.mem_of_getElem? (i := 944) (by decide +kernel), List.mem_of_getElem? (i := 945) (by decide +kernel)⟩
theorem lw_p34 : lw_okq (⟨"FourFlailsModel", "fail", "()V"⟩, 64) := ⟨⟨by decide +kernel, by decide +kernel⟩, List.mem_of_getElem? (i := 651) (by decide +kernel), List.mem_of_getElem? (i := 948) (by decide +kernel), List.mem_of_getElem? (i := 949) (by decide +kernel)⟩
theorem lw_p35 : lw_okq (⟨"FourFlailsModel", "either", "()I"⟩, 64) := ⟨⟨by decide +kernel, by decide +kernel⟩, List.mem_of_getElem? (i := 651) (by decide +kernel), List.mem_of_getElem? (i := 952) (by decide +kernel), List.mem_of_getElem? (i := 953) (by decide +kernel)⟩
theorem lw_p36 : lw_okq (⟨"FourFlailsModel", "both", "()I"⟩, 64) := ⟨⟨by decide +kernel, by decide +kernel⟩, List.mem_of_getElem? (i := 651) (by decide +kernel), List.mem_of_getElem? (i := 956) (by decide +kernel), List.mem_of_getElem? (i := 957) (by decide +kernel)⟩
theorem lw_p37 : lw_okq (⟨"FourFlailsModel", "not", "()I"⟩, 64) := ⟨⟨by decide +kernel, by decide +kernel⟩, List.mem_of_getElem? (i := 651) (by decide +kernel), List.mem_of_getElem? (i := 960) (by decide +kernel), List.mem_of_getElem? (i := 961) (by decide +kernel)⟩
theorem lw_p38 : lw_okq (⟨"FourFlailsModel", "opens", "()Z"⟩, 64) := ⟨⟨by decide +kernel, by decide +kernel⟩, List.mem_of_getElem? (i := 651) (by decide +kernel), List.mem_of_getElem? (i := 964) (by decide +kernel), List.mem_of_getElem? (i := 965) (by decide +kernel)⟩
theorem lw_p39 : lw_okq (⟨"FourFlailsModel", "added", "()I"⟩, 64) := ⟨⟨by decide +kernel, by decide +kernel⟩, List.mem_of_getElem? (i := 651) (by decide +kernel), List.mem_of_getElem? (i := 968) (by decide +kernel), List.mem_of_getElem? (i := 969) (by decide +kernel)⟩
theorem lw_p40 : lw_okq (⟨"FourFlailsModel", "term", "()I"⟩, 64) := ⟨⟨by decide +kernel, by decide +kernel⟩, List.mem_of_getElem? (i := 651) (by decide +kernel), List.mem_of_getElem? (i := 972) (by decide +kernel), List.mem_of_getElem? (i := 973) (by decide +kernel)⟩
theorem lw_p41 : lw_okq (⟨"FourFlailsModel", "atom", "()I"⟩, 64) := ⟨⟨by decide +kernel, by decide +kernel⟩, List.mem_of_getElem? (i := 651) (by decide +kernel), List.mem_of_getElem? (i := 976) (by decide +kernel), List.mem_of_getElem? (i := 977) (by decide +kernel)⟩
theorem lw_p42 : lw_okq (⟨"FourFlailsModel", "isSign", "(I)Z"⟩, 64) := ⟨⟨by decide +kernel, by decide +kernel⟩, List.mem_of_getElem? (i := 651) (by decide +kernel), List.mem_of_getElem? (i := 980) (by decide +kernel), List.mem_of_getElem? (i := 981) (by decide +kernel)⟩
theorem lw_p43 : lw_okq (⟨"FourFlailsModel", "name", "()I"⟩, 64) := ⟨⟨by decide +kernel, by decide +kernel⟩, List.mem_of_getElem? (i := 651) (by decide +kernel), List.mem_of_getElem? (i := 984) (by decide +kernel), List.mem_of_getElem? (i := 985) (by decide +kernel)⟩
theorem lw_p44 : lw_okq (⟨"FourFlailsModel", "goes", "()V"⟩, 64) := ⟨⟨by decide +kernel, by decide +kernel⟩, List.mem_of_getElem? (i := 651) (by decide +kernel), List.mem_of_getElem? (i := 998) (by decide +kernel), List.mem_of_getElem? (i := 999) (by decide +kernel)⟩
theorem lw_p45 : lw_okq (⟨"FourFlailsModel", "strikesOnce", "(II)V"⟩, 64) := ⟨⟨by decide +kernel, by decide +kernel⟩, List.mem_of_getElem? (i := 651) (by decide +kernel), List.mem_of_getElem? (i := 1002) (by decide +kernel), List.mem_of_getElem? (i := 1003) (by decide +kernel)⟩
theorem lw_p46 : lw_okq (⟨"FourFlailsModel", "says", "(III)V"⟩, 64) := ⟨⟨by decide +kernel, by decide +kernel⟩, List.mem_of_getElem? (i := 651) (by decide +kernel), List.mem_of_getElem? (i := 1006) (by decide +kernel), List.mem_of_getElem? (i := 1007) (by decide +kernel)⟩
theorem lw_p47 : lw_okq (⟨"FourFlailsModel", "laysAside", "()V"⟩, 64) := ⟨⟨by decide +kernel, by decide +kernel⟩, List.mem_of_getElem? (i := 651) (by decide +kernel), List.mem_of_getElem? (i := 1019) (by decide +kernel), List.mem_of_getElem? (i := 1020) (by decide +kernel)⟩
def lw_privs_3 : List (MethodName × Nat) := [(⟨"FourFlailsModel", "isLetter", "(II)Z"⟩, 64), (⟨"FourFlailsModel", "part", "(Z)I"⟩, 64), (⟨"FourFlailsModel", "fail", "()V"⟩, 64), (⟨"FourFlailsModel", "either", "()I"⟩, 64), (⟨"FourFlailsModel", "both", "()I"⟩, 64), (⟨"FourFlailsModel", "not", "()I"⟩, 64), (⟨"FourFlailsModel", "opens", "()Z"⟩, 64), (⟨"FourFlailsModel", "added", "()I"⟩, 64), (⟨"FourFlailsModel", "term", "()I"⟩, 64), (⟨"FourFlailsModel", "atom", "()I"⟩, 64), (⟨"FourFlailsModel", "isSign", "(I)Z"⟩, 64), (⟨"FourFlailsModel", "name", "()I"⟩, 64), (⟨"FourFlailsModel", "goes", "()V"⟩, 64), (⟨"FourFlailsModel", "strikesOnce", "(II)V"⟩, 64), (⟨"FourFlailsModel", "says", "(III)V"⟩, 64), (⟨"FourFlailsModel", "laysAside", "()V"⟩, 64)]
theorem lw_r3 : ∀ q ∈ lw_privs_3, lw_okq q := List.forall_mem_cons.mpr ⟨lw_p32, List.forall_mem_cons.mpr ⟨lw_p33, List.forall_mem_cons.mpr ⟨lw_p34, List.forall_mem_cons.mpr ⟨lw_p35, List.forall_mem_cons.mpr ⟨lw_p36, List.forall_mem_cons.mpr ⟨lw_p37, List.forall_mem_cons.mpr ⟨lw_p38, List.forall_mem_cons.mpr ⟨lw_p39, List.forall_mem_cons.mpr ⟨lw_p40, List.forall_mem_cons.mpr ⟨lw_p41, List.forall_mem_cons.mpr ⟨lw_p42, List.forall_mem_cons.mpr ⟨lw_p43, List.forall_mem_cons.mpr ⟨lw_p44, List.forall_mem_cons.mpr ⟨lw_p45, List.forall_mem_cons.mpr ⟨lw_p46, List.forall_mem_cons.mpr ⟨lw_p47, fun _ h => absurd h List.not_mem_nil⟩⟩⟩⟩⟩⟩⟩⟩⟩⟩⟩⟩⟩⟩⟩⟩
theorem lw_p48 : lw_okq (⟨"FourFlailsModel", "goesOn", "(I)V"⟩, 64) := ⟨⟨by decide +kernel, by decide +kernel⟩, List.mem_of_getElem? (i := 651) (by decide +kernel), List.mem_of_getElem? (i := 1023) (by decide +kernel), List.mem_of_getElem? (i := 1024) (by decide +kernel)⟩
theorem lw_p49 : lw_okq (⟨"FourFlailsModel", "left", "()I"⟩, 64) := ⟨⟨by decide +kernel, by decide +kernel⟩, List.mem_of_getElem? (i := 651) (by decide +kernel), List.mem_of_getElem? (i := 1027) (by decide +kernel), List.mem_of_getElem? (i := 1028) (by decide +kernel)⟩
theorem lw_p50 : lw_okq (⟨"FourFlailsModel", "laysBack", "()V"⟩, 64) := ⟨⟨by decide +kernel, by decide +kernel⟩, List.mem_of_getElem? (i := 651) (by decide +kernel), List.mem_of_getElem? (i := 1031) (by decide +kernel), List.mem_of_getElem? (i := 1032) (by decide +kernel)⟩
theorem lw_p51 : lw_okq (⟨"FourFlailsModel", "comes", "(II)V"⟩, 64) := ⟨⟨by decide +kernel, by decide +kernel⟩, List.mem_of_getElem? (i := 651) (by decide +kernel), List.mem_of_getElem? (i := 1035) (by decide +kernel), List.mem_of_getElem? (i := 1036) (by decide +kernel)⟩
theorem lw_p52 : lw_okq (⟨"FourFlailsModel", "orders", "(III)V"⟩, 64) := ⟨⟨by decide +kernel, by decide +kernel⟩, List.mem_of_getElem? (i := 651) (by decide +kernel), List.mem_of_getElem? (i := 1057) (by decide +kernel), List.mem_of_getElem? (i := 1058) (by decide +kernel)⟩
theorem lw_p53 : lw_okq (⟨"FourFlailsModel", "stand", "(I)V"⟩, 64) := ⟨⟨by decide +kernel, by decide +kernel⟩, List.mem_of_getElem? (i := 651) (by decide +kernel), List.mem_of_getElem? (i := 1061) (by decide +kernel), List.mem_of_getElem? (i := 1062) (by decide +kernel)⟩
theorem lw_p54 : lw_okq (⟨"FourFlailsModel", "turns", "()V"⟩, 64) := ⟨⟨by decide +kernel, by decide +kernel⟩, List.mem_of_getElem? (i := 651) (by decide +kernel), List.mem_of_getElem? (i := 1073) (by decide +kernel), List.mem_of_getElem? (i := 1074) (by decide +kernel)⟩
def lw_privs_4 : List (MethodName × Nat) := [(⟨"FourFlailsModel", "goesOn", "(I)V"⟩, 64), (⟨"FourFlailsModel", "left", "()I"⟩, 64), (⟨"FourFlailsModel", "laysBack", "()V"⟩, 64), (⟨"FourFlailsModel", "comes", "(II)V"⟩, 64), (⟨"FourFlailsModel", "orders", "(III)V"⟩, 64), (⟨"FourFlailsModel", "stand", "(I)V"⟩, 64), (⟨"FourFlailsModel", "turns", "()V"⟩, 64)]
theorem lw_r4 : ∀ q ∈ lw_privs_4, lw_okq q := List.forall_mem_cons.mpr ⟨lw_p48, List.forall_mem_cons.mpr ⟨lw_p49, List.forall_mem_cons.mpr ⟨lw_p50, List.forall_mem_cons.mpr ⟨lw_p51, List.forall_mem_cons.mpr ⟨lw_p52, List.forall_mem_cons.mpr ⟨lw_p53, List.forall_mem_cons.mpr ⟨lw_p54, fun _ h => absurd h List.not_mem_nil⟩⟩⟩⟩⟩⟩⟩
def lw_privs : List (MethodName × Nat) := lw_privs_1 ++ (lw_privs_2 ++ (lw_privs_3 ++ (lw_privs_4)))
def lw_tbl : List Cond := k2_sels lw_privs ++ tables_1
theorem lw_privs_ok : ∀ q ∈ lw_privs, lw_okq q := by
  show ∀ q ∈ lw_privs_1 ++ (lw_privs_2 ++ (lw_privs_3 ++ (lw_privs_4))), lw_okq q
  exact List.forall_mem_append.mpr ⟨lw_r1, List.forall_mem_append.mpr ⟨lw_r2, List.forall_mem_append.mpr ⟨lw_r3, lw_r4⟩⟩⟩
end
section
def RX0 : String := "FourFlails$Flailing"
def TX0 : u_T := fun k => match k with
  | 0 => ("FourFlails$Flailing", "sight", "[I", true)
  | 1 => ("FourFlails$Flailing", "stack", "[I", true)
  | 2 => ("FourFlails$Flailing", "drawing", "Z", false)
  | 3 => ("FourFlails$Flailing", "z", "I", false)
  | 4 => ("FourFlails$Flailing", "knocks", "I", false)
  | _ => ("FourFlails$Flailing", "hit", "I", false)
def tyX0 : Nat → FieldType := fun k => match k with
  | 0 => .array .int
  | 1 => .array .int
  | 2 => .boolean
  | 3 => .int
  | 4 => .int
  | _ => .int
theorem nmX0 : ∀ a, a < 6 → ∀ b, b < 6 → a ≠ b → (TX0 a).2.1 ≠ (TX0 b).2.1 := by decide +kernel
theorem tyX0_ok : ∀ k, k < 6 → parseFieldDescriptor (TX0 k).2.2.1 = some (tyX0 k) := by decide +kernel
abbrev cX0_init : ByteArray := prog_2_method_1_code
def yX0_init : MethodName := ⟨RX0, "<init>", "()V"⟩
abbrev cX0_begin : ByteArray := prog_2_method_2_code
def yX0_begin : MethodName := ⟨RX0, "begin", "()V"⟩
abbrev cX0_draw : ByteArray := prog_2_method_3_code
def yX0_draw : MethodName := ⟨RX0, "draw", "(I)V"⟩
abbrev cX0_pass : ByteArray := prog_2_method_4_code
def yX0_pass : MethodName := ⟨RX0, "pass", "(LFourFlails$Floor;LFourFlails$Text;)V"⟩
abbrev cX0_allStrike : ByteArray := prog_2_method_5_code
def yX0_allStrike : MethodName := ⟨RX0, "allStrike", "(LFourFlails$Floor;LFourFlails$Text;I)V"⟩
abbrev cX0_takeTurn : ByteArray := prog_2_method_6_code
def yX0_takeTurn : MethodName := ⟨RX0, "takeTurn", "(LFourFlails$Floor;LFourFlails$Text;II)V"⟩
abbrev cX0_look : ByteArray := prog_2_method_7_code
def yX0_look : MethodName := ⟨RX0, "look", "(LFourFlails$Floor;III)V"⟩
abbrev cX0_knock : ByteArray := prog_2_method_8_code
def yX0_knock : MethodName := ⟨RX0, "knock", "(II)V"⟩
abbrev cX0_nextDrawn : ByteArray := prog_2_method_9_code
def yX0_nextDrawn : MethodName := ⟨RX0, "nextDrawn", "()I"⟩
def RX1 : String := "FourFlails$Floor"
def TX1 : u_T := fun k => match k with
  | 0 => ("FourFlails$Floor", "ears", "[I", true)
  | 1 => ("FourFlails$Floor", "wet", "[I", true)
  | 2 => ("FourFlails$Floor", "kinds", "[I", true)
  | 3 => ("FourFlails$Floor", "beats", "[I", true)
  | 4 => ("FourFlails$Floor", "forces", "[I", true)
  | 5 => ("FourFlails$Floor", "numbers", "[I", true)
  | 6 => ("FourFlails$Floor", "men", "I", false)
  | 7 => ("FourFlails$Floor", "bar", "I", false)
  | 8 => ("FourFlails$Floor", "round", "I", false)
  | 9 => ("FourFlails$Floor", "out", "I", false)
  | _ => ("FourFlails$Floor", "rule", "I", false)
def tyX1 : Nat → FieldType := fun k => match k with
  | 0 => .array .int
  | 1 => .array .int
  | 2 => .array .int
  | 3 => .array .int
  | 4 => .array .int
  | 5 => .array .int
  | 6 => .int
  | 7 => .int
  | 8 => .int
  | 9 => .int
  | _ => .int
theorem nmX1 : ∀ a, a < 11 → ∀ b, b < 11 → a ≠ b → (TX1 a).2.1 ≠ (TX1 b).2.1 := by decide +kernel
theorem tyX1_ok : ∀ k, k < 11 → parseFieldDescriptor (TX1 k).2.2.1 = some (tyX1 k) := by decide +kernel
abbrev cX1_init : ByteArray := prog_3_method_1_code
def yX1_init : MethodName := ⟨RX1, "<init>", "()V"⟩
abbrev cX1_takeOver : ByteArray := prog_3_method_2_code
def yX1_takeOver : MethodName := ⟨RX1, "takeOver", "(LFourFlails$Floor;)V"⟩
abbrev cX1_add : ByteArray := prog_3_method_3_code
def yX1_add : MethodName := ⟨RX1, "add", "(III)I"⟩
abbrev cX1_takeMan : ByteArray := prog_3_method_4_code
def yX1_takeMan : MethodName := ⟨RX1, "takeMan", "(ILFourFlails$Floor;I)V"⟩
abbrev cX1_standAs : ByteArray := prog_3_method_5_code
def yX1_standAs : MethodName := ⟨RX1, "standAs", "(LFourFlails$Floor;[I)V"⟩
abbrev cX1_leaveOut : ByteArray := prog_3_method_6_code
def yX1_leaveOut : MethodName := ⟨RX1, "leaveOut", "(I)V"⟩
abbrev cX1_holdBy : ByteArray := prog_3_method_7_code
def yX1_holdBy : MethodName := ⟨RX1, "holdBy", "(I)I"⟩
abbrev cX1_gapOf : ByteArray := prog_3_method_8_code
def yX1_gapOf : MethodName := ⟨RX1, "gapOf", "(I)I"⟩
abbrev cX1_cellOf : ByteArray := prog_3_method_9_code
def yX1_cellOf : MethodName := ⟨RX1, "cellOf", "(I)I"⟩
abbrev cX1_strikesOf : ByteArray := prog_3_method_10_code
def yX1_strikesOf : MethodName := ⟨RX1, "strikesOf", "(I)I"⟩
abbrev cX1_mendsOf : ByteArray := prog_3_method_11_code
def yX1_mendsOf : MethodName := ⟨RX1, "mendsOf", "(II)I"⟩
abbrev cX1_getOut : ByteArray := prog_3_method_12_code
def yX1_getOut : MethodName := ⟨RX1, "getOut", "(II)V"⟩
abbrev cX1_turnStraw : ByteArray := prog_3_method_13_code
def yX1_turnStraw : MethodName := ⟨RX1, "turnStraw", "()V"⟩
abbrev cX1_allEars : ByteArray := prog_3_method_14_code
def yX1_allEars : MethodName := ⟨RX1, "allEars", "()I"⟩
abbrev cX1_allWet : ByteArray := prog_3_method_15_code
def yX1_allWet : MethodName := ⟨RX1, "allWet", "()I"⟩
abbrev cX1_sum : ByteArray := prog_3_method_16_code
def yX1_sum : MethodName := ⟨RX1, "sum", "([I)I"⟩
def RX2 : String := "FourFlails$Reader"
def TX2 : u_T := fun k => match k with
  | 0 => ("FourFlails$Reader", "letters", "[I", true)
  | 1 => ("FourFlails$Reader", "size", "I", false)
  | 2 => ("FourFlails$Reader", "start", "I", false)
  | 3 => ("FourFlails$Reader", "at", "I", false)
  | 4 => ("FourFlails$Reader", "token", "I", false)
  | 5 => ("FourFlails$Reader", "value", "I", false)
  | _ => ("FourFlails$Reader", "into", "LFourFlails$Text;", false)
def tyX2 : Nat → FieldType := fun k => match k with
  | 0 => .array .int
  | 1 => .int
  | 2 => .int
  | 3 => .int
  | 4 => .int
  | 5 => .int
  | _ => .object "FourFlails$Text"
theorem nmX2 : ∀ a, a < 7 → ∀ b, b < 7 → a ≠ b → (TX2 a).2.1 ≠ (TX2 b).2.1 := by decide +kernel
theorem tyX2_ok : ∀ k, k < 7 → parseFieldDescriptor (TX2 k).2.2.1 = some (tyX2 k) := by decide +kernel
abbrev cX2_init : ByteArray := prog_4_method_1_code
def yX2_init : MethodName := ⟨RX2, "<init>", "()V"⟩
abbrev cX2_add : ByteArray := prog_4_method_2_code
def yX2_add : MethodName := ⟨RX2, "add", "(I)Z"⟩
abbrev cX2_empty : ByteArray := prog_4_method_3_code
def yX2_empty : MethodName := ⟨RX2, "empty", "()V"⟩
abbrev cX2_readInto : ByteArray := prog_4_method_4_code
def yX2_readInto : MethodName := ⟨RX2, "readInto", "(LFourFlails$Text;)Z"⟩
abbrev cX2_take : ByteArray := prog_4_method_5_code
def yX2_take : MethodName := ⟨RX2, "take", "(I)Z"⟩
abbrev cX2_next : ByteArray := prog_4_method_6_code
def yX2_next : MethodName := ⟨RX2, "next", "()V"⟩
abbrev cX2_numberHere : ByteArray := prog_4_method_7_code
def yX2_numberHere : MethodName := ⟨RX2, "numberHere", "()I"⟩
abbrev cX2_wordHere : ByteArray := prog_4_method_8_code
def yX2_wordHere : MethodName := ⟨RX2, "wordHere", "()I"⟩
abbrev cX2_isHere : ByteArray := prog_4_method_9_code
def yX2_isHere : MethodName := ⟨RX2, "isHere", "(Ljava/lang/String;)Z"⟩
abbrev cX2_word : ByteArray := prog_4_method_10_code
def yX2_word : MethodName := ⟨RX2, "word", "(I)Ljava/lang/String;"⟩
abbrev cX2_isDigit : ByteArray := prog_4_method_11_code
def yX2_isDigit : MethodName := ⟨RX2, "isDigit", "(I)Z"⟩
abbrev cX2_isSmall : ByteArray := prog_4_method_12_code
def yX2_isSmall : MethodName := ⟨RX2, "isSmall", "(I)Z"⟩
abbrev cX2_isSign : ByteArray := prog_4_method_13_code
def yX2_isSign : MethodName := ⟨RX2, "isSign", "(I)Z"⟩
abbrev cX2_either : ByteArray := prog_4_method_14_code
def yX2_either : MethodName := ⟨RX2, "either", "(I)Z"⟩
abbrev cX2_both : ByteArray := prog_4_method_15_code
def yX2_both : MethodName := ⟨RX2, "both", "(I)Z"⟩
abbrev cX2_denied : ByteArray := prog_4_method_16_code
def yX2_denied : MethodName := ⟨RX2, "denied", "(I)Z"⟩
abbrev cX2_sum : ByteArray := prog_4_method_17_code
def yX2_sum : MethodName := ⟨RX2, "sum", "(I)Z"⟩
abbrev cX2_term : ByteArray := prog_4_method_18_code
def yX2_term : MethodName := ⟨RX2, "term", "(I)Z"⟩
abbrev cX2_one : ByteArray := prog_4_method_19_code
def yX2_one : MethodName := ⟨RX2, "one", "(I)Z"⟩
def RX3 : String := "FourFlails$Sheet"
def TX3 : u_T := fun k => match k with
  | 0 => ("FourFlails$Sheet", "sort", "I", true)
  | _ => ("FourFlails$Sheet", "items", "[I", true)
def tyX3 : Nat → FieldType := fun k => match k with
  | 0 => .int
  | _ => .array .int
theorem nmX3 : ∀ a, a < 2 → ∀ b, b < 2 → a ≠ b → (TX3 a).2.1 ≠ (TX3 b).2.1 := by decide +kernel
theorem tyX3_ok : ∀ k, k < 2 → parseFieldDescriptor (TX3 k).2.2.1 = some (tyX3 k) := by decide +kernel
abbrev cX3_init : ByteArray := prog_5_method_1_code
def yX3_init : MethodName := ⟨RX3, "<init>", "(II)V"⟩
abbrev cX3_has : ByteArray := prog_5_method_2_code
def yX3_has : MethodName := ⟨RX3, "has", "(II)Z"⟩
abbrev cX3_put : ByteArray := prog_5_method_3_code
def yX3_put : MethodName := ⟨RX3, "put", "(II)Z"⟩
def RX4 : String := "FourFlails$Text"
def TX4 : u_T := fun k => match k with
  | 0 => ("FourFlails$Text", "steps", "[I", true)
  | 1 => ("FourFlails$Text", "ends", "[I", true)
  | _ => ("FourFlails$Text", "size", "I", false)
def tyX4 : Nat → FieldType := fun k => match k with
  | 0 => .array .int
  | 1 => .array .int
  | _ => .int
theorem nmX4 : ∀ a, a < 3 → ∀ b, b < 3 → a ≠ b → (TX4 a).2.1 ≠ (TX4 b).2.1 := by decide +kernel
theorem tyX4_ok : ∀ k, k < 3 → parseFieldDescriptor (TX4 k).2.2.1 = some (tyX4 k) := by decide +kernel
abbrev cX4_init : ByteArray := prog_6_method_1_code
def yX4_init : MethodName := ⟨RX4, "<init>", "()V"⟩
abbrev cX4_clear : ByteArray := prog_6_method_2_code
def yX4_clear : MethodName := ⟨RX4, "clear", "()V"⟩
abbrev cX4_put : ByteArray := prog_6_method_3_code
def yX4_put : MethodName := ⟨RX4, "put", "(I)V"⟩
abbrev cX4_endPart : ByteArray := prog_6_method_4_code
def yX4_endPart : MethodName := ⟨RX4, "endPart", "(I)V"⟩
abbrev cX4_tells : ByteArray := prog_6_method_5_code
def yX4_tells : MethodName := ⟨RX4, "tells", "(I[I[I)I"⟩
abbrev cX4_joined : ByteArray := prog_6_method_6_code
def yX4_joined : MethodName := ⟨RX4, "joined", "(III)I"⟩
def RX5 : String := "FourFlails"
def TX5 : u_T := fun k => match k with
  | 0 => ("FourFlails", "floor", "LFourFlails$Floor;", true)
  | 1 => ("FourFlails", "trial", "LFourFlails$Floor;", true)
  | 2 => ("FourFlails", "kept", "LFourFlails$Floor;", true)
  | 3 => ("FourFlails", "anyKept", "Z", false)
  | 4 => ("FourFlails", "flailing", "LFourFlails$Flailing;", true)
  | 5 => ("FourFlails", "tape", "LFourFlails$Reader;", true)
  | 6 => ("FourFlails", "texts", "[LFourFlails$Text;", true)
  | 7 => ("FourFlails", "textCount", "I", false)
  | 8 => ("FourFlails", "sheets", "[LFourFlails$Sheet;", true)
  | 9 => ("FourFlails", "row", "[I", true)
  | _ => ("FourFlails", "bestRow", "[I", true)
def tyX5 : Nat → FieldType := fun k => match k with
  | 0 => .object "FourFlails$Floor"
  | 1 => .object "FourFlails$Floor"
  | 2 => .object "FourFlails$Floor"
  | 3 => .boolean
  | 4 => .object "FourFlails$Flailing"
  | 5 => .object "FourFlails$Reader"
  | 6 => .array (.object "FourFlails$Text")
  | 7 => .int
  | 8 => .array (.object "FourFlails$Sheet")
  | 9 => .array .int
  | _ => .array .int
theorem nmX5 : ∀ a, a < 11 → ∀ b, b < 11 → a ≠ b → (TX5 a).2.1 ≠ (TX5 b).2.1 := by decide +kernel
theorem tyX5_ok : ∀ k, k < 11 → parseFieldDescriptor (TX5 k).2.2.1 = some (tyX5 k) := by decide +kernel
abbrev cX5_init : ByteArray := prog_1_method_1_code
def yX5_init : MethodName := ⟨RX5, "<init>", "()V"⟩
abbrev cX5_man : ByteArray := prog_1_method_2_code
def yX5_man : MethodName := ⟨RX5, "man", "(III)I"⟩
abbrev cX5_set : ByteArray := prog_1_method_3_code
def yX5_set : MethodName := ⟨RX5, "set", "(III)I"⟩
abbrev cX5_told : ByteArray := prog_1_method_4_code
def yX5_told : MethodName := ⟨RX5, "told", "(II)I"⟩
abbrev cX5_mends : ByteArray := prog_1_method_5_code
def yX5_mends : MethodName := ⟨RX5, "mends", "(II)I"⟩
abbrev cX5_feed : ByteArray := prog_1_method_6_code
def yX5_feed : MethodName := ⟨RX5, "feed", "(I)I"⟩
abbrev cX5_text : ByteArray := prog_1_method_7_code
def yX5_text : MethodName := ⟨RX5, "text", "()I"⟩
abbrev cX5_force : ByteArray := prog_1_method_8_code
def yX5_force : MethodName := ⟨RX5, "force", "(I)I"⟩
abbrev cX5_round : ByteArray := prog_1_method_9_code
def yX5_round : MethodName := ⟨RX5, "round", "()I"⟩
abbrev cX5_run : ByteArray := prog_1_method_10_code
def yX5_run : MethodName := ⟨RX5, "run", "(II)I"⟩
abbrev cX5_beat : ByteArray := prog_1_method_11_code
def yX5_beat : MethodName := ⟨RX5, "beat", "(II)I"⟩
abbrev cX5_holds : ByteArray := prog_1_method_12_code
def yX5_holds : MethodName := ⟨RX5, "holds", "()I"⟩
abbrev cX5_bar : ByteArray := prog_1_method_13_code
def yX5_bar : MethodName := ⟨RX5, "bar", "(I)I"⟩
abbrev cX5_order : ByteArray := prog_1_method_14_code
def yX5_order : MethodName := ⟨RX5, "order", "(I)I"⟩
abbrev cX5_home : ByteArray := prog_1_method_15_code
def yX5_home : MethodName := ⟨RX5, "home", "()I"⟩
abbrev cX5_turn : ByteArray := prog_1_method_16_code
def yX5_turn : MethodName := ⟨RX5, "turn", "()I"⟩
abbrev cX5_when : ByteArray := prog_1_method_17_code
def yX5_when : MethodName := ⟨RX5, "when", "()I"⟩
abbrev cX5_stop : ByteArray := prog_1_method_18_code
def yX5_stop : MethodName := ⟨RX5, "stop", "(I)I"⟩
abbrev cX5_fewest : ByteArray := prog_1_method_19_code
def yX5_fewest : MethodName := ⟨RX5, "fewest", "(I)I"⟩
abbrev cX5_judge : ByteArray := prog_1_method_20_code
def yX5_judge : MethodName := ⟨RX5, "judge", "(II)I"⟩
abbrev cX5_slow : ByteArray := prog_1_method_21_code
def yX5_slow : MethodName := ⟨RX5, "slow", "(I)I"⟩
abbrev cX5_drawn : ByteArray := prog_1_method_22_code
def yX5_drawn : MethodName := ⟨RX5, "drawn", "(II)I"⟩
abbrev cX5_once : ByteArray := prog_1_method_23_code
def yX5_once : MethodName := ⟨RX5, "once", "(II)J"⟩
abbrev cX5_image : ByteArray := prog_1_method_24_code
def yX5_image : MethodName := ⟨RX5, "image", "()I"⟩
abbrev cX5_back : ByteArray := prog_1_method_25_code
def yX5_back : MethodName := ⟨RX5, "back", "()I"⟩
abbrev cX5_count : ByteArray := prog_1_method_26_code
def yX5_count : MethodName := ⟨RX5, "count", "(I)I"⟩
abbrev cX5_sheet : ByteArray := prog_1_method_27_code
def yX5_sheet : MethodName := ⟨RX5, "sheet", "(III)I"⟩
abbrev cX5_cell : ByteArray := prog_1_method_28_code
def yX5_cell : MethodName := ⟨RX5, "cell", "(III)I"⟩
abbrev cX5_copy : ByteArray := prog_1_method_29_code
def yX5_copy : MethodName := ⟨RX5, "copy", "(IIIII)I"⟩
abbrev cX5_men : ByteArray := prog_1_method_30_code
def yX5_men : MethodName := ⟨RX5, "men", "(IIII)I"⟩
abbrev cX5_taken : ByteArray := prog_1_method_31_code
def yX5_taken : MethodName := ⟨RX5, "taken", "(II)I"⟩
abbrev cX5_within : ByteArray := prog_1_method_32_code
def yX5_within : MethodName := ⟨RX5, "within", "(II)Z"⟩
abbrev cX5_isCell : ByteArray := prog_1_method_33_code
def yX5_isCell : MethodName := ⟨RX5, "isCell", "(I)Z"⟩
abbrev cX5_isMan : ByteArray := prog_1_method_34_code
def yX5_isMan : MethodName := ⟨RX5, "isMan", "(I)Z"⟩
abbrev cX5_isSheet : ByteArray := prog_1_method_35_code
def yX5_isSheet : MethodName := ⟨RX5, "isSheet", "(I)Z"⟩
abbrev cX5_bounded : ByteArray := prog_1_method_36_code
def yX5_bounded : MethodName := ⟨RX5, "bounded", "(III)I"⟩
abbrev cX5_exchange : ByteArray := prog_1_method_37_code
def yX5_exchange : MethodName := ⟨RX5, "exchange", "([III)I"⟩
abbrev cX5_held : ByteArray := prog_1_method_38_code
def yX5_held : MethodName := ⟨RX5, "held", "(II)I"⟩
abbrev cX5_isUnder : ByteArray := prog_1_method_39_code
def yX5_isUnder : MethodName := ⟨RX5, "isUnder", "(II)Z"⟩
abbrev cX5_beginTrial : ByteArray := prog_1_method_40_code
def yX5_beginTrial : MethodName := ⟨RX5, "beginTrial", "()V"⟩
abbrev cX5_tryRounds : ByteArray := prog_1_method_41_code
def yX5_tryRounds : MethodName := ⟨RX5, "tryRounds", "(I)V"⟩
abbrev cX5_outTurnedAhead : ByteArray := prog_1_method_42_code
def yX5_outTurnedAhead : MethodName := ⟨RX5, "outTurnedAhead", "(I)I"⟩
abbrev cX5_seekOrder : ByteArray := prog_1_method_43_code
def yX5_seekOrder : MethodName := ⟨RX5, "seekOrder", "()I"⟩
abbrev cX5_nextRow : ByteArray := prog_1_method_44_code
def yX5_nextRow : MethodName := ⟨RX5, "nextRow", "(I)Z"⟩
def RX6 : String := "FourFlailsModel"
def TX6 : u_T := fun k => match k with
  | 0 => ("FourFlailsModel", "thrown", "I", false)
  | 1 => ("FourFlailsModel", "texts", "[I", true)
  | 2 => ("FourFlailsModel", "textSize", "[I", true)
  | 3 => ("FourFlailsModel", "textCount", "I", false)
  | 4 => ("FourFlailsModel", "rule", "I", false)
  | 5 => ("FourFlailsModel", "tape", "[I", true)
  | 6 => ("FourFlailsModel", "taped", "I", false)
  | 7 => ("FourFlailsModel", "ears", "[I", true)
  | 8 => ("FourFlailsModel", "wets", "[I", true)
  | 9 => ("FourFlailsModel", "kinds", "[I", true)
  | 10 => ("FourFlailsModel", "beats", "[I", true)
  | 11 => ("FourFlailsModel", "forces", "[I", true)
  | 12 => ("FourFlailsModel", "numbers", "[I", true)
  | 13 => ("FourFlailsModel", "many", "I", false)
  | 14 => ("FourFlailsModel", "bar", "I", false)
  | 15 => ("FourFlailsModel", "round", "I", false)
  | 16 => ("FourFlailsModel", "out", "I", false)
  | 17 => ("FourFlailsModel", "ofForce", "I", false)
  | 18 => ("FourFlailsModel", "ofWet", "I", false)
  | 19 => ("FourFlailsModel", "ofGap", "I", false)
  | 20 => ("FourFlailsModel", "ofEars", "I", false)
  | 21 => ("FourFlailsModel", "ofRound", "I", false)
  | 22 => ("FourFlailsModel", "ofTired", "I", false)
  | 23 => ("FourFlailsModel", "from", "I", false)
  | 24 => ("FourFlailsModel", "size", "I", false)
  | 25 => ("FourFlailsModel", "here", "I", false)
  | 26 => ("FourFlailsModel", "token", "I", false)
  | 27 => ("FourFlailsModel", "tokenAt", "I", false)
  | 28 => ("FourFlailsModel", "tokenWorth", "J", false)
  | 29 => ("FourFlailsModel", "open", "I", false)
  | 30 => ("FourFlailsModel", "bad", "Z", false)
  | 31 => ("FourFlailsModel", "fault", "I", false)
  | 32 => ("FourFlailsModel", "given", "I", false)
  | 33 => ("FourFlailsModel", "drifted", "I", false)
  | 34 => ("FourFlailsModel", "hurt", "I", false)
  | 35 => ("FourFlailsModel", "knocks", "I", false)
  | 36 => ("FourFlailsModel", "hit", "I", false)
  | 37 => ("FourFlailsModel", "earsWas", "[I", true)
  | 38 => ("FourFlailsModel", "wetsWas", "[I", true)
  | 39 => ("FourFlailsModel", "kindsWas", "[I", true)
  | 40 => ("FourFlailsModel", "beatsWas", "[I", true)
  | 41 => ("FourFlailsModel", "forcesWas", "[I", true)
  | 42 => ("FourFlailsModel", "numbersWas", "[I", true)
  | 43 => ("FourFlailsModel", "manyWas", "I", false)
  | 44 => ("FourFlailsModel", "barWas", "I", false)
  | 45 => ("FourFlailsModel", "roundWas", "I", false)
  | 46 => ("FourFlailsModel", "outWas", "I", false)
  | 47 => ("FourFlailsModel", "bestOrder", "I", false)
  | 48 => ("FourFlailsModel", "bestKnocks", "I", false)
  | 49 => ("FourFlailsModel", "bestOut", "I", false)
  | 50 => ("FourFlailsModel", "earsKept", "[I", true)
  | 51 => ("FourFlailsModel", "wetsKept", "[I", true)
  | 52 => ("FourFlailsModel", "beatsKept", "[I", true)
  | 53 => ("FourFlailsModel", "forcesKept", "[I", true)
  | 54 => ("FourFlailsModel", "numbersKept", "[I", true)
  | 55 => ("FourFlailsModel", "manyKept", "I", false)
  | 56 => ("FourFlailsModel", "barKept", "I", false)
  | 57 => ("FourFlailsModel", "roundKept", "I", false)
  | 58 => ("FourFlailsModel", "outKept", "I", false)
  | 59 => ("FourFlailsModel", "ruleKept", "I", false)
  | 60 => ("FourFlailsModel", "isThere", "[Z", true)
  | 61 => ("FourFlailsModel", "sorts", "[I", true)
  | 62 => ("FourFlailsModel", "sheetSize", "[I", true)
  | _ => ("FourFlailsModel", "items", "[I", true)
def tyX6 : Nat → FieldType := fun k => match k with
  | 0 => .int
  | 1 => .array .int
  | 2 => .array .int
  | 3 => .int
  | 4 => .int
  | 5 => .array .int
  | 6 => .int
  | 7 => .array .int
  | 8 => .array .int
  | 9 => .array .int
  | 10 => .array .int
  | 11 => .array .int
  | 12 => .array .int
  | 13 => .int
  | 14 => .int
  | 15 => .int
  | 16 => .int
  | 17 => .int
  | 18 => .int
  | 19 => .int
  | 20 => .int
  | 21 => .int
  | 22 => .int
  | 23 => .int
  | 24 => .int
  | 25 => .int
  | 26 => .int
  | 27 => .int
  | 28 => .long
  | 29 => .int
  | 30 => .boolean
  | 31 => .int
  | 32 => .int
  | 33 => .int
  | 34 => .int
  | 35 => .int
  | 36 => .int
  | 37 => .array .int
  | 38 => .array .int
  | 39 => .array .int
  | 40 => .array .int
  | 41 => .array .int
  | 42 => .array .int
  | 43 => .int
  | 44 => .int
  | 45 => .int
  | 46 => .int
  | 47 => .int
  | 48 => .int
  | 49 => .int
  | 50 => .array .int
  | 51 => .array .int
  | 52 => .array .int
  | 53 => .array .int
  | 54 => .array .int
  | 55 => .int
  | 56 => .int
  | 57 => .int
  | 58 => .int
  | 59 => .int
  | 60 => .array .boolean
  | 61 => .array .int
  | 62 => .array .int
  | _ => .array .int
theorem nmX6 : ∀ a, a < 64 → ∀ b, b < 64 → a ≠ b → (TX6 a).2.1 ≠ (TX6 b).2.1 := by decide +kernel
theorem tyX6_ok : ∀ k, k < 64 → parseFieldDescriptor (TX6 k).2.2.1 = some (tyX6 k) := by decide +kernel
abbrev cX6_in : ByteArray := prog_8_method_2_code
def yX6_in : MethodName := ⟨RX6, "in", "(JJJ)Z"⟩
abbrev cX6_within : ByteArray := prog_8_method_3_code
def yX6_within : MethodName := ⟨RX6, "within", "(III)I"⟩
abbrev cX6_init : ByteArray := prog_8_method_4_code
def yX6_init : MethodName := ⟨RX6, "<init>", "()V"⟩
abbrev cX6_spell : ByteArray := prog_8_method_5_code
def yX6_spell : MethodName := ⟨RX6, "spell", "(IIIIIIIII)V"⟩
abbrev cX6_isMan : ByteArray := prog_8_method_6_code
def yX6_isMan : MethodName := ⟨RX6, "isMan", "(I)Z"⟩
abbrev cX6_isCell : ByteArray := prog_8_method_7_code
def yX6_isCell : MethodName := ⟨RX6, "isCell", "(I)Z"⟩
abbrev cX6_man : ByteArray := prog_8_method_8_code
def yX6_man : MethodName := ⟨RX6, "man", "(III)I"⟩
abbrev cX6_bars : ByteArray := prog_8_method_9_code
def yX6_bars : MethodName := ⟨RX6, "bars", "(I)V"⟩
abbrev cX6_set : ByteArray := prog_8_method_10_code
def yX6_set : MethodName := ⟨RX6, "set", "(III)I"⟩
abbrev cX6_strikes : ByteArray := prog_8_method_11_code
def yX6_strikes : MethodName := ⟨RX6, "strikes", "(I)I"⟩
abbrev cX6_mended : ByteArray := prog_8_method_12_code
def yX6_mended : MethodName := ⟨RX6, "mended", "(II)I"⟩
abbrev cX6_gapOf : ByteArray := prog_8_method_13_code
def yX6_gapOf : MethodName := ⟨RX6, "gapOf", "(I)I"⟩
abbrev cX6_told : ByteArray := prog_8_method_14_code
def yX6_told : MethodName := ⟨RX6, "told", "(II)I"⟩
abbrev cX6_mends : ByteArray := prog_8_method_15_code
def yX6_mends : MethodName := ⟨RX6, "mends", "(II)I"⟩
abbrev cX6_feed : ByteArray := prog_8_method_16_code
def yX6_feed : MethodName := ⟨RX6, "feed", "(I)I"⟩
abbrev cX6_byteAt : ByteArray := prog_8_method_17_code
def yX6_byteAt : MethodName := ⟨RX6, "byteAt", "(I)I"⟩
abbrev cX6_next : ByteArray := prog_8_method_18_code
def yX6_next : MethodName := ⟨RX6, "next", "()V"⟩
abbrev cX6_fail : ByteArray := prog_8_method_19_code
def yX6_fail : MethodName := ⟨RX6, "fail", "()V"⟩
abbrev cX6_isLetter : ByteArray := prog_8_method_20_code
def yX6_isLetter : MethodName := ⟨RX6, "isLetter", "(II)Z"⟩
abbrev cX6_isWord : ByteArray := prog_8_method_21_code
def yX6_isWord : MethodName := ⟨RX6, "isWord", "(IIIIIIII)Z"⟩
abbrev cX6_isSign : ByteArray := prog_8_method_22_code
def yX6_isSign : MethodName := ⟨RX6, "isSign", "(I)Z"⟩
abbrev cX6_opens : ByteArray := prog_8_method_23_code
def yX6_opens : MethodName := ⟨RX6, "opens", "()Z"⟩
abbrev cX6_name : ByteArray := prog_8_method_24_code
def yX6_name : MethodName := ⟨RX6, "name", "()I"⟩
abbrev cX6_atom : ByteArray := prog_8_method_25_code
def yX6_atom : MethodName := ⟨RX6, "atom", "()I"⟩
abbrev cX6_term : ByteArray := prog_8_method_26_code
def yX6_term : MethodName := ⟨RX6, "term", "()I"⟩
abbrev cX6_added : ByteArray := prog_8_method_27_code
def yX6_added : MethodName := ⟨RX6, "added", "()I"⟩
abbrev cX6_not : ByteArray := prog_8_method_28_code
def yX6_not : MethodName := ⟨RX6, "not", "()I"⟩
abbrev cX6_both : ByteArray := prog_8_method_29_code
def yX6_both : MethodName := ⟨RX6, "both", "()I"⟩
abbrev cX6_either : ByteArray := prog_8_method_30_code
def yX6_either : MethodName := ⟨RX6, "either", "()I"⟩
abbrev cX6_part : ByteArray := prog_8_method_31_code
def yX6_part : MethodName := ⟨RX6, "part", "(Z)I"⟩
abbrev cX6_read : ByteArray := prog_8_method_32_code
def yX6_read : MethodName := ⟨RX6, "read", "(II)I"⟩
abbrev cX6_text : ByteArray := prog_8_method_33_code
def yX6_text : MethodName := ⟨RX6, "text", "()I"⟩
abbrev cX6_force : ByteArray := prog_8_method_34_code
def yX6_force : MethodName := ⟨RX6, "force", "(I)I"⟩
abbrev cX6_says : ByteArray := prog_8_method_35_code
def yX6_says : MethodName := ⟨RX6, "says", "(III)V"⟩
abbrev cX6_strikesOnce : ByteArray := prog_8_method_36_code
def yX6_strikesOnce : MethodName := ⟨RX6, "strikesOnce", "(II)V"⟩
abbrev cX6_goes : ByteArray := prog_8_method_37_code
def yX6_goes : MethodName := ⟨RX6, "goes", "()V"⟩
abbrev cX6_round : ByteArray := prog_8_method_38_code
def yX6_round : MethodName := ⟨RX6, "round", "()I"⟩
abbrev cX6_laysAside : ByteArray := prog_8_method_39_code
def yX6_laysAside : MethodName := ⟨RX6, "laysAside", "()V"⟩
abbrev cX6_laysBack : ByteArray := prog_8_method_40_code
def yX6_laysBack : MethodName := ⟨RX6, "laysBack", "()V"⟩
abbrev cX6_comes : ByteArray := prog_8_method_41_code
def yX6_comes : MethodName := ⟨RX6, "comes", "(II)V"⟩
abbrev cX6_goesOn : ByteArray := prog_8_method_42_code
def yX6_goesOn : MethodName := ⟨RX6, "goesOn", "(I)V"⟩
abbrev cX6_left : ByteArray := prog_8_method_43_code
def yX6_left : MethodName := ⟨RX6, "left", "()I"⟩
abbrev cX6_run : ByteArray := prog_8_method_44_code
def yX6_run : MethodName := ⟨RX6, "run", "(II)I"⟩
abbrev cX6_beat : ByteArray := prog_8_method_45_code
def yX6_beat : MethodName := ⟨RX6, "beat", "(II)I"⟩
abbrev cX6_holds : ByteArray := prog_8_method_46_code
def yX6_holds : MethodName := ⟨RX6, "holds", "()I"⟩
abbrev cX6_bar : ByteArray := prog_8_method_47_code
def yX6_bar : MethodName := ⟨RX6, "bar", "(I)I"⟩
abbrev cX6_orders : ByteArray := prog_8_method_48_code
def yX6_orders : MethodName := ⟨RX6, "orders", "(III)V"⟩
abbrev cX6_stand : ByteArray := prog_8_method_49_code
def yX6_stand : MethodName := ⟨RX6, "stand", "(I)V"⟩
abbrev cX6_order : ByteArray := prog_8_method_50_code
def yX6_order : MethodName := ⟨RX6, "order", "(I)I"⟩
abbrev cX6_home : ByteArray := prog_8_method_51_code
def yX6_home : MethodName := ⟨RX6, "home", "()I"⟩
abbrev cX6_turns : ByteArray := prog_8_method_52_code
def yX6_turns : MethodName := ⟨RX6, "turns", "()V"⟩
abbrev cX6_turn : ByteArray := prog_8_method_53_code
def yX6_turn : MethodName := ⟨RX6, "turn", "()I"⟩
abbrev cX6_when : ByteArray := prog_8_method_54_code
def yX6_when : MethodName := ⟨RX6, "when", "()I"⟩
abbrev cX6_stop : ByteArray := prog_8_method_55_code
def yX6_stop : MethodName := ⟨RX6, "stop", "(I)I"⟩
abbrev cX6_fewest : ByteArray := prog_8_method_56_code
def yX6_fewest : MethodName := ⟨RX6, "fewest", "(I)I"⟩
abbrev cX6_judge : ByteArray := prog_8_method_57_code
def yX6_judge : MethodName := ⟨RX6, "judge", "(II)I"⟩
abbrev cX6_slow : ByteArray := prog_8_method_58_code
def yX6_slow : MethodName := ⟨RX6, "slow", "(I)I"⟩
abbrev cX6_drawn : ByteArray := prog_8_method_59_code
def yX6_drawn : MethodName := ⟨RX6, "drawn", "(II)I"⟩
abbrev cX6_once : ByteArray := prog_8_method_60_code
def yX6_once : MethodName := ⟨RX6, "once", "(II)J"⟩
abbrev cX6_image : ByteArray := prog_8_method_61_code
def yX6_image : MethodName := ⟨RX6, "image", "()I"⟩
abbrev cX6_back : ByteArray := prog_8_method_62_code
def yX6_back : MethodName := ⟨RX6, "back", "()I"⟩
abbrev cX6_count : ByteArray := prog_8_method_63_code
def yX6_count : MethodName := ⟨RX6, "count", "(I)I"⟩
abbrev cX6_isSheet : ByteArray := prog_8_method_64_code
def yX6_isSheet : MethodName := ⟨RX6, "isSheet", "(I)Z"⟩
abbrev cX6_sheet : ByteArray := prog_8_method_65_code
def yX6_sheet : MethodName := ⟨RX6, "sheet", "(III)I"⟩
abbrev cX6_cell : ByteArray := prog_8_method_66_code
def yX6_cell : MethodName := ⟨RX6, "cell", "(III)I"⟩
abbrev cX6_copy : ByteArray := prog_8_method_67_code
def yX6_copy : MethodName := ⟨RX6, "copy", "(IIIII)I"⟩
abbrev cX6_men : ByteArray := prog_8_method_68_code
def yX6_men : MethodName := ⟨RX6, "men", "(IIII)I"⟩
abbrev cX6_over : ByteArray := prog_8_method_69_code
def yX6_over : MethodName := ⟨RX6, "over", "(I)I"⟩
abbrev cX6_taken : ByteArray := prog_8_method_70_code
def yX6_taken : MethodName := ⟨RX6, "taken", "(II)I"⟩
def RL : String := "FourFlailsLaw"
abbrev cL_law : ByteArray := code
def yL_law : MethodName := ⟨RL, "law", "([I)Z"⟩
abbrev vwCl : List vw_C := [(RX0, TX0, 6), (RX1, TX1, 11), (RX2, TX2, 7), (RX3, TX3, 2), (RX4, TX4, 3), (RX5, TX5, 11), (RX6, TX6, 64)]
def dk (cc : ByteArray) (e : Nat × Instr × Nat) : Bool := decide (decode cc e.1 = .ok (e.2.1, e.2.2))
theorem dk_of {cc : ByteArray} {e : Nat × Instr × Nat} (h : dk cc e = true) : decode cc e.1 = .ok (e.2.1, e.2.2) := by unfold dk at h; exact of_decide_eq_true h
theorem dt_of {cc : ByteArray} {t : List (Nat × Instr × Nat)} (h : t.all (dk cc) = true) (k : Nat) {pc len : Nat} {i : Instr} (hk : t[k]? = some (pc, i, len)) : decode cc pc = .ok (i, len) := dk_of (e := (pc, i, len)) (List.all_eq_true.mp h _ (List.mem_of_getElem? hk))
def tX0_init : List (Nat × Instr × Nat) := [(0, .aload_n 0, 1), (1, .invokespecial 3, 3), (4, .aload_n 0, 1), (5, .bipush 6, 2), (7, .newarray .int, 2), (9, .putfield 9, 3), (12, .aload_n 0, 1), (13, .sipush 160, 3), (16, .newarray .int, 2), (18, .putfield 15, 3), (21, .aload_n 0, 1), (22, .iconst 0, 1), (23, .putfield 18, 3), (26, .aload_n 0, 1), (27, .iconst 0, 1), (28, .putfield 22, 3), (31, .aload_n 0, 1), (32, .iconst 0, 1), (33, .putfield 26, 3), (36, .aload_n 0, 1), (37, .iconst 0, 1), (38, .putfield 29, 3), (41, .return_, 1)]
theorem tX0_init_ok : tX0_init.all (dk cX0_init) = true := by decide +kernel
theorem dX0_init (k : Nat) {pc len : Nat} {i : Instr} (hk : tX0_init[k]? = some (pc, i, len)) : decode cX0_init pc = .ok (i, len) := dt_of tX0_init_ok k hk
def tX0_begin : List (Nat × Instr × Nat) := [(0, .aload_n 0, 1), (1, .iconst 0, 1), (2, .putfield 18, 3), (5, .aload_n 0, 1), (6, .iconst 0, 1), (7, .putfield 26, 3), (10, .aload_n 0, 1), (11, .iconst 0, 1), (12, .putfield 29, 3), (15, .return_, 1)]
theorem tX0_begin_ok : tX0_begin.all (dk cX0_begin) = true := by decide +kernel
theorem dX0_begin (k : Nat) {pc len : Nat} {i : Instr} (hk : tX0_begin[k]? = some (pc, i, len)) : decode cX0_begin pc = .ok (i, len) := dt_of tX0_begin_ok k hk
def tX0_draw : List (Nat × Instr × Nat) := [(0, .aload_n 0, 1), (1, .iconst 1, 1), (2, .putfield 18, 3), (5, .aload_n 0, 1), (6, .iload_n 1, 1), (7, .putfield 22, 3), (10, .return_, 1)]
theorem tX0_draw_ok : tX0_draw.all (dk cX0_draw) = true := by decide +kernel
theorem dX0_draw (k : Nat) {pc len : Nat} {i : Instr} (hk : tX0_draw[k]? = some (pc, i, len)) : decode cX0_draw pc = .ok (i, len) := dt_of tX0_draw_ok k hk
def tX0_pass : List (Nat × Instr × Nat) := [(0, .aload_n 1, 1), (1, .getfield 32, 3), (4, .ifCond .le 15, 3), (7, .aload_n 1, 1), (8, .getfield 37, 3), (11, .aload_n 1, 1), (12, .getfield 32, 3), (15, .idiv, 1), (16, .goto 4, 3), (19, .iconst 0, 1), (20, .istore_n 3, 1), (21, .iconst 0, 1), (22, .istore 4, 2), (24, .iload 4, 2), (26, .aload_n 1, 1), (27, .getfield 32, 3), (30, .if_icmp .ge 18, 3), (33, .aload_n 0, 1), (34, .aload_n 1, 1), (35, .aload_n 2, 1), (36, .iload 4, 2), (38, .iload_n 3, 1), (39, .invokevirtual 40, 3), (42, .iinc 4 1, 3), (45, .goto (-21), 3), (48, .aload_n 1, 1), (49, .aload_n 1, 1), (50, .getfield 44, 3), (53, .iconst 1, 1), (54, .iadd, 1), (55, .sipush 999, 3), (58, .invokestatic 47, 3), (61, .putfield 44, 3), (64, .return_, 1)]
theorem tX0_pass_ok : tX0_pass.all (dk cX0_pass) = true := by decide +kernel
theorem dX0_pass (k : Nat) {pc len : Nat} {i : Instr} (hk : tX0_pass[k]? = some (pc, i, len)) : decode cX0_pass pc = .ok (i, len) := dt_of tX0_pass_ok k hk
def tX0_allStrike : List (Nat × Instr × Nat) := [(0, .iconst 0, 1), (1, .istore 4, 2), (3, .iload 4, 2), (5, .aload_n 1, 1), (6, .getfield 32, 3), (9, .if_icmp .ge 41, 3), (12, .aload_n 0, 1), (13, .aload_n 1, 1), (14, .iload 4, 2), (16, .iload_n 3, 1), (17, .aload_n 1, 1), (18, .iload 4, 2), (20, .invokevirtual 53, 3), (23, .invokevirtual 57, 3), (26, .aload_n 1, 1), (27, .iload_n 3, 1), (28, .aload_n 2, 1), (29, .iconst 0, 1), (30, .aload_n 0, 1), (31, .getfield 9, 3), (34, .aload_n 0, 1), (35, .getfield 15, 3), (38, .invokevirtual 61, 3), (41, .invokevirtual 67, 3), (44, .iinc 4 1, 3), (47, .goto (-44), 3), (50, .return_, 1)]
theorem tX0_allStrike_ok : tX0_allStrike.all (dk cX0_allStrike) = true := by decide +kernel
theorem dX0_allStrike (k : Nat) {pc len : Nat} {i : Instr} (hk : tX0_allStrike[k]? = some (pc, i, len)) : decode cX0_allStrike pc = .ok (i, len) := dt_of tX0_allStrike_ok k hk
def tX0_takeTurn : List (Nat × Instr × Nat) := [(0, .aload_n 1, 1), (1, .iload_n 3, 1), (2, .invokevirtual 71, 3), (5, .istore 5, 2), (7, .aload_n 1, 1), (8, .iload_n 3, 1), (9, .invokevirtual 53, 3), (12, .istore 6, 2), (14, .aload_n 0, 1), (15, .aload_n 1, 1), (16, .iload_n 3, 1), (17, .iload 5, 2), (19, .iload 6, 2), (21, .invokevirtual 57, 3), (24, .iload 6, 2), (26, .bipush 8, 2), (28, .if_icmp .lt 25, 3), (31, .aload_n 1, 1), (32, .iload 5, 2), (34, .aload_n 2, 1), (35, .iconst 0, 1), (36, .aload_n 0, 1), (37, .getfield 9, 3), (40, .aload_n 0, 1), (41, .getfield 15, 3), (44, .invokevirtual 61, 3), (47, .invokevirtual 67, 3), (50, .goto 21, 3), (53, .aload_n 0, 1), (54, .iload_n 3, 1), (55, .aload_n 2, 1), (56, .iconst 2, 1), (57, .aload_n 0, 1), (58, .getfield 9, 3), (61, .aload_n 0, 1), (62, .getfield 15, 3), (65, .invokevirtual 61, 3), (68, .invokevirtual 74, 3), (71, .aload_n 2, 1), (72, .iconst 1, 1), (73, .aload_n 0, 1), (74, .getfield 9, 3), (77, .aload_n 0, 1), (78, .getfield 15, 3), (81, .invokevirtual 61, 3), (84, .bipush (-99), 2), (86, .bipush 99, 2), (88, .invokestatic 77, 3), (91, .aload_n 0, 1), (92, .invokevirtual 81, 3), (95, .iadd, 1), (96, .istore 7, 2), (98, .aload_n 1, 1), (99, .getfield 85, 3), (102, .iload_n 3, 1), (103, .aload_n 1, 1), (104, .getfield 85, 3), (107, .iload_n 3, 1), (108, .iaload, 1), (109, .aload_n 1, 1), (110, .iload_n 3, 1), (111, .iload 6, 2), (113, .iload 4, 2), (115, .isub, 1), (116, .invokevirtual 88, 3), (119, .isub, 1), (120, .iload 7, 2), (122, .iadd, 1), (123, .aload_n 1, 1), (124, .getfield 37, 3), (127, .invokestatic 91, 3), (130, .iastore, 1), (131, .return_, 1)]
theorem tX0_takeTurn_ok : tX0_takeTurn.all (dk cX0_takeTurn) = true := by decide +kernel
theorem dX0_takeTurn (k : Nat) {pc len : Nat} {i : Instr} (hk : tX0_takeTurn[k]? = some (pc, i, len)) : decode cX0_takeTurn pc = .ok (i, len) := dt_of tX0_takeTurn_ok k hk
def tX0_look : List (Nat × Instr × Nat) := [(0, .aload_n 0, 1), (1, .getfield 9, 3), (4, .iconst 0, 1), (5, .aload_n 1, 1), (6, .iload_n 2, 1), (7, .invokevirtual 94, 3), (10, .iastore, 1), (11, .aload_n 0, 1), (12, .getfield 9, 3), (15, .iconst 1, 1), (16, .aload_n 1, 1), (17, .getfield 97, 3), (20, .iload_n 3, 1), (21, .iaload, 1), (22, .iastore, 1), (23, .aload_n 0, 1), (24, .getfield 9, 3), (27, .iconst 2, 1), (28, .iload 4, 2), (30, .iastore, 1), (31, .aload_n 0, 1), (32, .getfield 9, 3), (35, .iconst 3, 1), (36, .aload_n 1, 1), (37, .getfield 100, 3), (40, .iload_n 3, 1), (41, .iaload, 1), (42, .iastore, 1), (43, .aload_n 0, 1), (44, .getfield 9, 3), (47, .iconst 4, 1), (48, .aload_n 1, 1), (49, .getfield 44, 3), (52, .iastore, 1), (53, .aload_n 0, 1), (54, .getfield 9, 3), (57, .iconst 5, 1), (58, .aload_n 1, 1), (59, .getfield 103, 3), (62, .iload_n 2, 1), (63, .iaload, 1), (64, .iastore, 1), (65, .return_, 1)]
theorem tX0_look_ok : tX0_look.all (dk cX0_look) = true := by decide +kernel
theorem dX0_look (k : Nat) {pc len : Nat} {i : Instr} (hk : tX0_look[k]? = some (pc, i, len)) : decode cX0_look pc = .ok (i, len) := dt_of tX0_look_ok k hk
def tX0_knock : List (Nat × Instr × Nat) := [(0, .aload_n 0, 1), (1, .dup, 1), (2, .getfield 26, 3), (5, .iconst 1, 1), (6, .iadd, 1), (7, .putfield 26, 3), (10, .iload_n 2, 1), (11, .ifCond .eq 15, 3), (14, .aload_n 0, 1), (15, .dup, 1), (16, .getfield 29, 3), (19, .iconst 1, 1), (20, .iload_n 1, 1), (21, .ishl, 1), (22, .ior, 1), (23, .putfield 29, 3), (26, .return_, 1)]
theorem tX0_knock_ok : tX0_knock.all (dk cX0_knock) = true := by decide +kernel
theorem dX0_knock (k : Nat) {pc len : Nat} {i : Instr} (hk : tX0_knock[k]? = some (pc, i, len)) : decode cX0_knock pc = .ok (i, len) := dt_of tX0_knock_ok k hk
def tX0_nextDrawn : List (Nat × Instr × Nat) := [(0, .aload_n 0, 1), (1, .getfield 18, 3), (4, .ifCond .ne 5, 3), (7, .iconst 0, 1), (8, .ireturn, 1), (9, .aload_n 0, 1), (10, .aload_n 0, 1), (11, .getfield 22, 3), (14, .ldc 106, 2), (16, .imul, 1), (17, .sipush 12345, 3), (20, .iadd, 1), (21, .putfield 22, 3), (24, .aload_n 0, 1), (25, .getfield 22, 3), (28, .bipush 9, 2), (30, .iushr, 1), (31, .bipush 7, 2), (33, .irem, 1), (34, .iconst 3, 1), (35, .isub, 1), (36, .ireturn, 1)]
theorem tX0_nextDrawn_ok : tX0_nextDrawn.all (dk cX0_nextDrawn) = true := by decide +kernel
theorem dX0_nextDrawn (k : Nat) {pc len : Nat} {i : Instr} (hk : tX0_nextDrawn[k]? = some (pc, i, len)) : decode cX0_nextDrawn pc = .ok (i, len) := dt_of tX0_nextDrawn_ok k hk
def tX1_init : List (Nat × Instr × Nat) := [(0, .aload_n 0, 1), (1, .invokespecial 3, 3), (4, .aload_n 0, 1), (5, .bipush 12, 2), (7, .newarray .int, 2), (9, .putfield 9, 3), (12, .aload_n 0, 1), (13, .bipush 12, 2), (15, .newarray .int, 2), (17, .putfield 15, 3), (20, .aload_n 0, 1), (21, .iconst 5, 1), (22, .newarray .int, 2), (24, .putfield 18, 3), (27, .aload_n 0, 1), (28, .iconst 5, 1), (29, .newarray .int, 2), (31, .putfield 21, 3), (34, .aload_n 0, 1), (35, .iconst 5, 1), (36, .newarray .int, 2), (38, .putfield 24, 3), (41, .aload_n 0, 1), (42, .iconst 5, 1), (43, .newarray .int, 2), (45, .putfield 27, 3), (48, .aload_n 0, 1), (49, .iconst 0, 1), (50, .putfield 30, 3), (53, .aload_n 0, 1), (54, .bipush 120, 2), (56, .putfield 34, 3), (59, .aload_n 0, 1), (60, .iconst 0, 1), (61, .putfield 37, 3), (64, .aload_n 0, 1), (65, .iconst 0, 1), (66, .putfield 40, 3), (69, .aload_n 0, 1), (70, .iconst 0, 1), (71, .putfield 43, 3), (74, .iconst 0, 1), (75, .istore_n 1, 1), (76, .iload_n 1, 1), (77, .bipush 12, 2), (79, .if_icmp .ge 25, 3), (82, .aload_n 0, 1), (83, .getfield 9, 3), (86, .iload_n 1, 1), (87, .sipush 1000, 3), (90, .iastore, 1), (91, .aload_n 0, 1), (92, .getfield 15, 3), (95, .iload_n 1, 1), (96, .iconst 2, 1), (97, .iastore, 1), (98, .iinc 1 1, 3), (101, .goto (-25), 3), (104, .return_, 1)]
theorem tX1_init_ok : tX1_init.all (dk cX1_init) = true := by decide +kernel
theorem dX1_init (k : Nat) {pc len : Nat} {i : Instr} (hk : tX1_init[k]? = some (pc, i, len)) : decode cX1_init pc = .ok (i, len) := dt_of tX1_init_ok k hk
def tX1_takeOver : List (Nat × Instr × Nat) := [(0, .aload_n 1, 1), (1, .getfield 9, 3), (4, .iconst 0, 1), (5, .aload_n 0, 1), (6, .getfield 9, 3), (9, .iconst 0, 1), (10, .bipush 12, 2), (12, .invokestatic 46, 3), (15, .aload_n 1, 1), (16, .getfield 15, 3), (19, .iconst 0, 1), (20, .aload_n 0, 1), (21, .getfield 15, 3), (24, .iconst 0, 1), (25, .bipush 12, 2), (27, .invokestatic 46, 3), (30, .aload_n 1, 1), (31, .getfield 18, 3), (34, .iconst 0, 1), (35, .aload_n 0, 1), (36, .getfield 18, 3), (39, .iconst 0, 1), (40, .iconst 5, 1), (41, .invokestatic 46, 3), (44, .aload_n 1, 1), (45, .getfield 21, 3), (48, .iconst 0, 1), (49, .aload_n 0, 1), (50, .getfield 21, 3), (53, .iconst 0, 1), (54, .iconst 5, 1), (55, .invokestatic 46, 3), (58, .aload_n 1, 1), (59, .getfield 24, 3), (62, .iconst 0, 1), (63, .aload_n 0, 1), (64, .getfield 24, 3), (67, .iconst 0, 1), (68, .iconst 5, 1), (69, .invokestatic 46, 3), (72, .aload_n 1, 1), (73, .getfield 27, 3), (76, .iconst 0, 1), (77, .aload_n 0, 1), (78, .getfield 27, 3), (81, .iconst 0, 1), (82, .iconst 5, 1), (83, .invokestatic 46, 3), (86, .aload_n 0, 1), (87, .aload_n 1, 1), (88, .getfield 30, 3), (91, .putfield 30, 3), (94, .aload_n 0, 1), (95, .aload_n 1, 1), (96, .getfield 34, 3), (99, .putfield 34, 3), (102, .aload_n 0, 1), (103, .aload_n 1, 1), (104, .getfield 37, 3), (107, .putfield 37, 3), (110, .aload_n 0, 1), (111, .aload_n 1, 1), (112, .getfield 40, 3), (115, .putfield 40, 3), (118, .aload_n 0, 1), (119, .aload_n 1, 1), (120, .getfield 43, 3), (123, .putfield 43, 3), (126, .return_, 1)]
theorem tX1_takeOver_ok : tX1_takeOver.all (dk cX1_takeOver) = true := by decide +kernel
theorem dX1_takeOver (k : Nat) {pc len : Nat} {i : Instr} (hk : tX1_takeOver[k]? = some (pc, i, len)) : decode cX1_takeOver pc = .ok (i, len) := dt_of tX1_takeOver_ok k hk
def tX1_add : List (Nat × Instr × Nat) := [(0, .aload_n 0, 1), (1, .getfield 30, 3), (4, .istore 4, 2), (6, .aload_n 0, 1), (7, .getfield 18, 3), (10, .iload 4, 2), (12, .iload_n 1, 1), (13, .iastore, 1), (14, .aload_n 0, 1), (15, .getfield 21, 3), (18, .iload 4, 2), (20, .iload_n 2, 1), (21, .aload_n 0, 1), (22, .getfield 34, 3), (25, .invokestatic 52, 3), (28, .iastore, 1), (29, .aload_n 0, 1), (30, .getfield 24, 3), (33, .iload 4, 2), (35, .iload_n 3, 1), (36, .bipush 10, 2), (38, .idiv, 1), (39, .iastore, 1), (40, .aload_n 0, 1), (41, .getfield 27, 3), (44, .iload 4, 2), (46, .iload_n 3, 1), (47, .bipush 10, 2), (49, .irem, 1), (50, .iastore, 1), (51, .aload_n 0, 1), (52, .dup, 1), (53, .getfield 30, 3), (56, .iconst 1, 1), (57, .iadd, 1), (58, .putfield 30, 3), (61, .iload 4, 2), (63, .ireturn, 1)]
theorem tX1_add_ok : tX1_add.all (dk cX1_add) = true := by decide +kernel
theorem dX1_add (k : Nat) {pc len : Nat} {i : Instr} (hk : tX1_add[k]? = some (pc, i, len)) : decode cX1_add pc = .ok (i, len) := dt_of tX1_add_ok k hk
def tX1_takeMan : List (Nat × Instr × Nat) := [(0, .aload_n 0, 1), (1, .getfield 18, 3), (4, .iload_n 1, 1), (5, .aload_n 2, 1), (6, .getfield 18, 3), (9, .iload_n 3, 1), (10, .iaload, 1), (11, .iastore, 1), (12, .aload_n 0, 1), (13, .getfield 21, 3), (16, .iload_n 1, 1), (17, .aload_n 2, 1), (18, .getfield 21, 3), (21, .iload_n 3, 1), (22, .iaload, 1), (23, .iastore, 1), (24, .aload_n 0, 1), (25, .getfield 24, 3), (28, .iload_n 1, 1), (29, .aload_n 2, 1), (30, .getfield 24, 3), (33, .iload_n 3, 1), (34, .iaload, 1), (35, .iastore, 1), (36, .aload_n 0, 1), (37, .getfield 27, 3), (40, .iload_n 1, 1), (41, .aload_n 2, 1), (42, .getfield 27, 3), (45, .iload_n 3, 1), (46, .iaload, 1), (47, .iastore, 1), (48, .return_, 1)]
theorem tX1_takeMan_ok : tX1_takeMan.all (dk cX1_takeMan) = true := by decide +kernel
theorem dX1_takeMan (k : Nat) {pc len : Nat} {i : Instr} (hk : tX1_takeMan[k]? = some (pc, i, len)) : decode cX1_takeMan pc = .ok (i, len) := dt_of tX1_takeMan_ok k hk
def tX1_standAs : List (Nat × Instr × Nat) := [(0, .iconst 0, 1), (1, .istore_n 3, 1), (2, .iload_n 3, 1), (3, .aload_n 0, 1), (4, .getfield 30, 3), (7, .if_icmp .ge 18, 3), (10, .aload_n 0, 1), (11, .iload_n 3, 1), (12, .aload_n 1, 1), (13, .aload_n 2, 1), (14, .iload_n 3, 1), (15, .iaload, 1), (16, .invokevirtual 56, 3), (19, .iinc 3 1, 3), (22, .goto (-20), 3), (25, .return_, 1)]
theorem tX1_standAs_ok : tX1_standAs.all (dk cX1_standAs) = true := by decide +kernel
theorem dX1_standAs (k : Nat) {pc len : Nat} {i : Instr} (hk : tX1_standAs[k]? = some (pc, i, len)) : decode cX1_standAs pc = .ok (i, len) := dt_of tX1_standAs_ok k hk
def tX1_leaveOut : List (Nat × Instr × Nat) := [(0, .iload_n 1, 1), (1, .istore_n 2, 1), (2, .iload_n 2, 1), (3, .iconst 1, 1), (4, .iadd, 1), (5, .aload_n 0, 1), (6, .getfield 30, 3), (9, .if_icmp .ge 18, 3), (12, .aload_n 0, 1), (13, .iload_n 2, 1), (14, .aload_n 0, 1), (15, .iload_n 2, 1), (16, .iconst 1, 1), (17, .iadd, 1), (18, .invokevirtual 56, 3), (21, .iinc 2 1, 3), (24, .goto (-22), 3), (27, .aload_n 0, 1), (28, .dup, 1), (29, .getfield 30, 3), (32, .iconst 1, 1), (33, .isub, 1), (34, .putfield 30, 3), (37, .return_, 1)]
theorem tX1_leaveOut_ok : tX1_leaveOut.all (dk cX1_leaveOut) = true := by decide +kernel
theorem dX1_leaveOut (k : Nat) {pc len : Nat} {i : Instr} (hk : tX1_leaveOut[k]? = some (pc, i, len)) : decode cX1_leaveOut pc = .ok (i, len) := dt_of tX1_leaveOut_ok k hk
def tX1_holdBy : List (Nat × Instr × Nat) := [(0, .aload_n 0, 1), (1, .getfield 34, 3), (4, .istore_n 2, 1), (5, .aload_n 0, 1), (6, .iload_n 1, 1), (7, .putfield 34, 3), (10, .iconst 0, 1), (11, .istore_n 3, 1), (12, .iload_n 3, 1), (13, .aload_n 0, 1), (14, .getfield 30, 3), (17, .if_icmp .ge 28, 3), (20, .aload_n 0, 1), (21, .getfield 21, 3), (24, .iload_n 3, 1), (25, .aload_n 0, 1), (26, .getfield 21, 3), (29, .iload_n 3, 1), (30, .iaload, 1), (31, .aload_n 0, 1), (32, .getfield 34, 3), (35, .invokestatic 52, 3), (38, .iastore, 1), (39, .iinc 3 1, 3), (42, .goto (-30), 3), (45, .iload_n 2, 1), (46, .ireturn, 1)]
theorem tX1_holdBy_ok : tX1_holdBy.all (dk cX1_holdBy) = true := by decide +kernel
theorem dX1_holdBy (k : Nat) {pc len : Nat} {i : Instr} (hk : tX1_holdBy[k]? = some (pc, i, len)) : decode cX1_holdBy pc = .ok (i, len) := dt_of tX1_holdBy_ok k hk
def tX1_gapOf : List (Nat × Instr × Nat) := [(0, .aload_n 0, 1), (1, .getfield 30, 3), (4, .iconst 1, 1), (5, .if_icmp .ne 8, 3), (8, .aload_n 0, 1), (9, .getfield 34, 3), (12, .ireturn, 1), (13, .iload_n 1, 1), (14, .ifCond .ne 12, 3), (17, .aload_n 0, 1), (18, .getfield 30, 3), (21, .iconst 1, 1), (22, .isub, 1), (23, .goto 6, 3), (26, .iload_n 1, 1), (27, .iconst 1, 1), (28, .isub, 1), (29, .istore_n 2, 1), (30, .aload_n 0, 1), (31, .getfield 21, 3), (34, .iload_n 1, 1), (35, .iaload, 1), (36, .aload_n 0, 1), (37, .getfield 21, 3), (40, .iload_n 2, 1), (41, .iaload, 1), (42, .isub, 1), (43, .aload_n 0, 1), (44, .getfield 34, 3), (47, .invokestatic 52, 3), (50, .ireturn, 1)]
theorem tX1_gapOf_ok : tX1_gapOf.all (dk cX1_gapOf) = true := by decide +kernel
theorem dX1_gapOf (k : Nat) {pc len : Nat} {i : Instr} (hk : tX1_gapOf[k]? = some (pc, i, len)) : decode cX1_gapOf pc = .ok (i, len) := dt_of tX1_gapOf_ok k hk
def tX1_cellOf : List (Nat × Instr × Nat) := [(0, .aload_n 0, 1), (1, .getfield 37, 3), (4, .aload_n 0, 1), (5, .getfield 30, 3), (8, .imul, 1), (9, .iload_n 1, 1), (10, .iadd, 1), (11, .bipush 12, 2), (13, .irem, 1), (14, .ireturn, 1)]
theorem tX1_cellOf_ok : tX1_cellOf.all (dk cX1_cellOf) = true := by decide +kernel
theorem dX1_cellOf (k : Nat) {pc len : Nat} {i : Instr} (hk : tX1_cellOf[k]? = some (pc, i, len)) : decode cX1_cellOf pc = .ok (i, len) := dt_of tX1_cellOf_ok k hk
def tX1_strikesOf : List (Nat × Instr × Nat) := [(0, .bipush 10, 2), (2, .aload_n 0, 1), (3, .getfield 24, 3), (6, .iload_n 1, 1), (7, .iaload, 1), (8, .imul, 1), (9, .istore_n 2, 1), (10, .aload_n 0, 1), (11, .getfield 18, 3), (14, .iload_n 1, 1), (15, .iaload, 1), (16, .tableswitch 71 1 5 #[36, 47, 47, 36, 58], 36), (52, .iload_n 2, 1), (53, .iconst 5, 1), (54, .aload_n 0, 1), (55, .getfield 27, 3), (58, .iload_n 1, 1), (59, .iaload, 1), (60, .imul, 1), (61, .iadd, 1), (62, .ireturn, 1), (63, .iconst 0, 1), (64, .iload_n 2, 1), (65, .aload_n 0, 1), (66, .getfield 37, 3), (69, .isub, 1), (70, .invokestatic 60, 3), (73, .ireturn, 1), (74, .iconst 0, 1), (75, .iload_n 2, 1), (76, .aload_n 0, 1), (77, .getfield 37, 3), (80, .isub, 1), (81, .iconst 2, 1), (82, .idiv, 1), (83, .invokestatic 60, 3), (86, .ireturn, 1), (87, .iload_n 2, 1), (88, .ireturn, 1)]
theorem tX1_strikesOf_ok : tX1_strikesOf.all (dk cX1_strikesOf) = true := by decide +kernel
theorem dX1_strikesOf (k : Nat) {pc len : Nat} {i : Instr} (hk : tX1_strikesOf[k]? = some (pc, i, len)) : decode cX1_strikesOf pc = .ok (i, len) := dt_of tX1_strikesOf_ok k hk
def tX1_mendsOf : List (Nat × Instr × Nat) := [(0, .iload_n 2, 1), (1, .iconst 2, 1), (2, .idiv, 1), (3, .istore_n 3, 1), (4, .aload_n 0, 1), (5, .getfield 18, 3), (8, .iload_n 1, 1), (9, .iaload, 1), (10, .tableswitch 59 1 5 #[34, 38, 42, 53, 42], 34), (44, .iload_n 3, 1), (45, .iconst 2, 1), (46, .idiv, 1), (47, .ireturn, 1), (48, .iload_n 3, 1), (49, .iconst 3, 1), (50, .idiv, 1), (51, .ireturn, 1), (52, .iload_n 3, 1), (53, .iconst 3, 1), (54, .idiv, 1), (55, .aload_n 0, 1), (56, .getfield 27, 3), (59, .iload_n 1, 1), (60, .iaload, 1), (61, .isub, 1), (62, .ireturn, 1), (63, .iload_n 2, 1), (64, .iload_n 3, 1), (65, .iconst 2, 1), (66, .idiv, 1), (67, .isub, 1), (68, .ireturn, 1), (69, .iload_n 3, 1), (70, .ireturn, 1)]
theorem tX1_mendsOf_ok : tX1_mendsOf.all (dk cX1_mendsOf) = true := by decide +kernel
theorem dX1_mendsOf (k : Nat) {pc len : Nat} {i : Instr} (hk : tX1_mendsOf[k]? = some (pc, i, len)) : decode cX1_mendsOf pc = .ok (i, len) := dt_of tX1_mendsOf_ok k hk
def tX1_getOut : List (Nat × Instr × Nat) := [(0, .iload_n 2, 1), (1, .iconst 0, 1), (2, .sipush 1000, 3), (5, .invokestatic 65, 3), (8, .aload_n 0, 1), (9, .getfield 9, 3), (12, .iload_n 1, 1), (13, .iaload, 1), (14, .imul, 1), (15, .sipush 1000, 3), (18, .idiv, 1), (19, .istore_n 3, 1), (20, .aload_n 0, 1), (21, .getfield 9, 3), (24, .iload_n 1, 1), (25, .dup2, 1), (26, .iaload, 1), (27, .iload_n 3, 1), (28, .isub, 1), (29, .iastore, 1), (30, .aload_n 0, 1), (31, .dup, 1), (32, .getfield 40, 3), (35, .iload_n 3, 1), (36, .iadd, 1), (37, .putfield 40, 3), (40, .return_, 1)]
theorem tX1_getOut_ok : tX1_getOut.all (dk cX1_getOut) = true := by decide +kernel
theorem dX1_getOut (k : Nat) {pc len : Nat} {i : Instr} (hk : tX1_getOut[k]? = some (pc, i, len)) : decode cX1_getOut pc = .ok (i, len) := dt_of tX1_getOut_ok k hk
def tX1_turnStraw : List (Nat × Instr × Nat) := [(0, .iconst 0, 1), (1, .istore_n 1, 1), (2, .iload_n 1, 1), (3, .bipush 6, 2), (5, .if_icmp .ge 35, 3), (8, .aload_n 0, 1), (9, .getfield 9, 3), (12, .bipush 11, 2), (14, .iload_n 1, 1), (15, .isub, 1), (16, .aload_n 0, 1), (17, .getfield 9, 3), (20, .iload_n 1, 1), (21, .aload_n 0, 1), (22, .getfield 9, 3), (25, .bipush 11, 2), (27, .iload_n 1, 1), (28, .isub, 1), (29, .iaload, 1), (30, .invokestatic 69, 3), (33, .iastore, 1), (34, .iinc 1 1, 3), (37, .goto (-35), 3), (40, .iconst 0, 1), (41, .istore_n 1, 1), (42, .iload_n 1, 1), (43, .bipush 12, 2), (45, .if_icmp .ge 27, 3), (48, .aload_n 0, 1), (49, .getfield 15, 3), (52, .iload_n 1, 1), (53, .iconst 0, 1), (54, .aload_n 0, 1), (55, .getfield 15, 3), (58, .iload_n 1, 1), (59, .iaload, 1), (60, .iconst 1, 1), (61, .isub, 1), (62, .invokestatic 60, 3), (65, .iastore, 1), (66, .iinc 1 1, 3), (69, .goto (-27), 3), (72, .return_, 1)]
theorem tX1_turnStraw_ok : tX1_turnStraw.all (dk cX1_turnStraw) = true := by decide +kernel
theorem dX1_turnStraw (k : Nat) {pc len : Nat} {i : Instr} (hk : tX1_turnStraw[k]? = some (pc, i, len)) : decode cX1_turnStraw pc = .ok (i, len) := dt_of tX1_turnStraw_ok k hk
def tX1_allEars : List (Nat × Instr × Nat) := [(0, .aload_n 0, 1), (1, .getfield 9, 3), (4, .invokestatic 73, 3), (7, .ireturn, 1)]
theorem tX1_allEars_ok : tX1_allEars.all (dk cX1_allEars) = true := by decide +kernel
theorem dX1_allEars (k : Nat) {pc len : Nat} {i : Instr} (hk : tX1_allEars[k]? = some (pc, i, len)) : decode cX1_allEars pc = .ok (i, len) := dt_of tX1_allEars_ok k hk
def tX1_allWet : List (Nat × Instr × Nat) := [(0, .aload_n 0, 1), (1, .getfield 15, 3), (4, .invokestatic 73, 3), (7, .ireturn, 1)]
theorem tX1_allWet_ok : tX1_allWet.all (dk cX1_allWet) = true := by decide +kernel
theorem dX1_allWet (k : Nat) {pc len : Nat} {i : Instr} (hk : tX1_allWet[k]? = some (pc, i, len)) : decode cX1_allWet pc = .ok (i, len) := dt_of tX1_allWet_ok k hk
def tX1_sum : List (Nat × Instr × Nat) := [(0, .iconst 0, 1), (1, .istore_n 1, 1), (2, .aload_n 0, 1), (3, .astore_n 2, 1), (4, .aload_n 2, 1), (5, .arraylength, 1), (6, .istore_n 3, 1), (7, .iconst 0, 1), (8, .istore 4, 2), (10, .iload 4, 2), (12, .iload_n 3, 1), (13, .if_icmp .ge 20, 3), (16, .aload_n 2, 1), (17, .iload 4, 2), (19, .iaload, 1), (20, .istore 5, 2), (22, .iload_n 1, 1), (23, .iload 5, 2), (25, .iadd, 1), (26, .istore_n 1, 1), (27, .iinc 4 1, 3), (30, .goto (-20), 3), (33, .iload_n 1, 1), (34, .ireturn, 1)]
theorem tX1_sum_ok : tX1_sum.all (dk cX1_sum) = true := by decide +kernel
theorem dX1_sum (k : Nat) {pc len : Nat} {i : Instr} (hk : tX1_sum[k]? = some (pc, i, len)) : decode cX1_sum pc = .ok (i, len) := dt_of tX1_sum_ok k hk
def tX2_init : List (Nat × Instr × Nat) := [(0, .aload_n 0, 1), (1, .invokespecial 3, 3), (4, .aload_n 0, 1), (5, .sipush 160, 3), (8, .newarray .int, 2), (10, .putfield 9, 3), (13, .aload_n 0, 1), (14, .iconst 0, 1), (15, .putfield 15, 3), (18, .aload_n 0, 1), (19, .iconst 0, 1), (20, .putfield 19, 3), (23, .aload_n 0, 1), (24, .iconst 0, 1), (25, .putfield 22, 3), (28, .aload_n 0, 1), (29, .iconst 0, 1), (30, .putfield 25, 3), (33, .aload_n 0, 1), (34, .iconst 0, 1), (35, .putfield 28, 3), (38, .aload_n 0, 1), (39, .new 31, 3), (42, .dup, 1), (43, .invokespecial 33, 3), (46, .putfield 34, 3), (49, .return_, 1)]
theorem tX2_init_ok : tX2_init.all (dk cX2_init) = true := by decide +kernel
theorem dX2_init (k : Nat) {pc len : Nat} {i : Instr} (hk : tX2_init[k]? = some (pc, i, len)) : decode cX2_init pc = .ok (i, len) := dt_of tX2_init_ok k hk
def tX2_add : List (Nat × Instr × Nat) := [(0, .aload_n 0, 1), (1, .getfield 15, 3), (4, .aload_n 0, 1), (5, .getfield 9, 3), (8, .arraylength, 1), (9, .if_icmp .lt 5, 3), (12, .iconst 0, 1), (13, .ireturn, 1), (14, .aload_n 0, 1), (15, .getfield 9, 3), (18, .aload_n 0, 1), (19, .getfield 15, 3), (22, .iload_n 1, 1), (23, .iastore, 1), (24, .aload_n 0, 1), (25, .dup, 1), (26, .getfield 15, 3), (29, .iconst 1, 1), (30, .iadd, 1), (31, .putfield 15, 3), (34, .iconst 1, 1), (35, .ireturn, 1)]
theorem tX2_add_ok : tX2_add.all (dk cX2_add) = true := by decide +kernel
theorem dX2_add (k : Nat) {pc len : Nat} {i : Instr} (hk : tX2_add[k]? = some (pc, i, len)) : decode cX2_add pc = .ok (i, len) := dt_of tX2_add_ok k hk
def tX2_empty : List (Nat × Instr × Nat) := [(0, .aload_n 0, 1), (1, .iconst 0, 1), (2, .putfield 15, 3), (5, .return_, 1)]
theorem tX2_empty_ok : tX2_empty.all (dk cX2_empty) = true := by decide +kernel
theorem dX2_empty (k : Nat) {pc len : Nat} {i : Instr} (hk : tX2_empty[k]? = some (pc, i, len)) : decode cX2_empty pc = .ok (i, len) := dt_of tX2_empty_ok k hk
def tX2_readInto : List (Nat × Instr × Nat) := [(0, .aload_n 0, 1), (1, .aload_n 1, 1), (2, .putfield 34, 3), (5, .aload_n 1, 1), (6, .invokevirtual 38, 3), (9, .aload_n 0, 1), (10, .iconst 0, 1), (11, .putfield 22, 3), (14, .aload_n 0, 1), (15, .invokevirtual 41, 3), (18, .iconst 0, 1), (19, .istore_n 2, 1), (20, .iload_n 2, 1), (21, .iconst 3, 1), (22, .if_icmp .ge 43, 3), (25, .aload_n 0, 1), (26, .iconst 3, 1), (27, .iload_n 2, 1), (28, .iadd, 1), (29, .invokevirtual 44, 3), (32, .ifCond .eq 20, 3), (35, .aload_n 0, 1), (36, .iconst 0, 1), (37, .invokevirtual 48, 3), (40, .ifCond .eq 12, 3), (43, .aload_n 0, 1), (44, .bipush 59, 2), (46, .invokevirtual 44, 3), (49, .ifCond .ne 5, 3), (52, .iconst 0, 1), (53, .ireturn, 1), (54, .aload_n 1, 1), (55, .iload_n 2, 1), (56, .invokevirtual 51, 3), (59, .iinc 2 1, 3), (62, .goto (-42), 3), (65, .aload_n 0, 1), (66, .getfield 25, 3), (69, .ifCond .ne 7, 3), (72, .iconst 1, 1), (73, .goto 4, 3), (76, .iconst 0, 1), (77, .ireturn, 1)]
theorem tX2_readInto_ok : tX2_readInto.all (dk cX2_readInto) = true := by decide +kernel
theorem dX2_readInto (k : Nat) {pc len : Nat} {i : Instr} (hk : tX2_readInto[k]? = some (pc, i, len)) : decode cX2_readInto pc = .ok (i, len) := dt_of tX2_readInto_ok k hk
def tX2_take : List (Nat × Instr × Nat) := [(0, .aload_n 0, 1), (1, .getfield 25, 3), (4, .iload_n 1, 1), (5, .if_icmp .eq 5, 3), (8, .iconst 0, 1), (9, .ireturn, 1), (10, .aload_n 0, 1), (11, .invokevirtual 41, 3), (14, .iconst 1, 1), (15, .ireturn, 1)]
theorem tX2_take_ok : tX2_take.all (dk cX2_take) = true := by decide +kernel
theorem dX2_take (k : Nat) {pc len : Nat} {i : Instr} (hk : tX2_take[k]? = some (pc, i, len)) : decode cX2_take pc = .ok (i, len) := dt_of tX2_take_ok k hk
def tX2_next : List (Nat × Instr × Nat) := [(0, .aload_n 0, 1), (1, .getfield 22, 3), (4, .aload_n 0, 1), (5, .getfield 15, 3), (8, .if_icmp .ge 44, 3), (11, .aload_n 0, 1), (12, .getfield 9, 3), (15, .aload_n 0, 1), (16, .getfield 22, 3), (19, .iaload, 1), (20, .bipush 32, 2), (22, .if_icmp .eq 17, 3), (25, .aload_n 0, 1), (26, .getfield 9, 3), (29, .aload_n 0, 1), (30, .getfield 22, 3), (33, .iaload, 1), (34, .bipush 10, 2), (36, .if_icmp .ne 16, 3), (39, .aload_n 0, 1), (40, .dup, 1), (41, .getfield 22, 3), (44, .iconst 1, 1), (45, .iadd, 1), (46, .putfield 22, 3), (49, .goto (-49), 3), (52, .aload_n 0, 1), (53, .aload_n 0, 1), (54, .getfield 22, 3), (57, .putfield 19, 3), (60, .aload_n 0, 1), (61, .getfield 22, 3), (64, .aload_n 0, 1), (65, .getfield 15, 3), (68, .if_icmp .lt 11, 3), (71, .aload_n 0, 1), (72, .iconst 0, 1), (73, .putfield 25, 3), (76, .goto 97, 3), (79, .aload_n 0, 1), (80, .getfield 9, 3), (83, .aload_n 0, 1), (84, .getfield 22, 3), (87, .iaload, 1), (88, .invokestatic 55, 3), (91, .ifCond .eq 14, 3), (94, .aload_n 0, 1), (95, .aload_n 0, 1), (96, .invokevirtual 58, 3), (99, .putfield 25, 3), (102, .goto 71, 3), (105, .aload_n 0, 1), (106, .getfield 9, 3), (109, .aload_n 0, 1), (110, .getfield 22, 3), (113, .iaload, 1), (114, .invokestatic 62, 3), (117, .ifCond .eq 14, 3), (120, .aload_n 0, 1), (121, .aload_n 0, 1), (122, .invokevirtual 65, 3), (125, .putfield 25, 3), (128, .goto 45, 3), (131, .aload_n 0, 1), (132, .aload_n 0, 1), (133, .getfield 9, 3), (136, .aload_n 0, 1), (137, .getfield 22, 3), (140, .iaload, 1), (141, .invokestatic 68, 3), (144, .ifCond .eq 15, 3), (147, .aload_n 0, 1), (148, .getfield 9, 3), (151, .aload_n 0, 1), (152, .getfield 22, 3), (155, .iaload, 1), (156, .goto 4, 3), (159, .iconst 2, 1), (160, .putfield 25, 3), (163, .aload_n 0, 1), (164, .dup, 1), (165, .getfield 22, 3), (168, .iconst 1, 1), (169, .iadd, 1), (170, .putfield 22, 3), (173, .return_, 1)]
theorem tX2_next_ok : tX2_next.all (dk cX2_next) = true := by decide +kernel
theorem dX2_next (k : Nat) {pc len : Nat} {i : Instr} (hk : tX2_next[k]? = some (pc, i, len)) : decode cX2_next pc = .ok (i, len) := dt_of tX2_next_ok k hk
def tX2_numberHere : List (Nat × Instr × Nat) := [(0, .aload_n 0, 1), (1, .iconst 0, 1), (2, .putfield 28, 3), (5, .aload_n 0, 1), (6, .getfield 22, 3), (9, .aload_n 0, 1), (10, .getfield 15, 3), (13, .if_icmp .ge 55, 3), (16, .aload_n 0, 1), (17, .getfield 9, 3), (20, .aload_n 0, 1), (21, .getfield 22, 3), (24, .iaload, 1), (25, .invokestatic 55, 3), (28, .ifCond .eq 40, 3), (31, .aload_n 0, 1), (32, .bipush 10, 2), (34, .aload_n 0, 1), (35, .getfield 28, 3), (38, .imul, 1), (39, .aload_n 0, 1), (40, .getfield 9, 3), (43, .aload_n 0, 1), (44, .getfield 22, 3), (47, .iaload, 1), (48, .iadd, 1), (49, .bipush 48, 2), (51, .isub, 1), (52, .putfield 28, 3), (55, .aload_n 0, 1), (56, .dup, 1), (57, .getfield 22, 3), (60, .iconst 1, 1), (61, .iadd, 1), (62, .putfield 22, 3), (65, .goto (-60), 3), (68, .aload_n 0, 1), (69, .getfield 22, 3), (72, .aload_n 0, 1), (73, .getfield 19, 3), (76, .isub, 1), (77, .iconst 4, 1), (78, .if_icmp .gt 7, 3), (81, .iconst 1, 1), (82, .goto 4, 3), (85, .iconst 2, 1), (86, .ireturn, 1)]
theorem tX2_numberHere_ok : tX2_numberHere.all (dk cX2_numberHere) = true := by decide +kernel
theorem dX2_numberHere (k : Nat) {pc len : Nat} {i : Instr} (hk : tX2_numberHere[k]? = some (pc, i, len)) : decode cX2_numberHere pc = .ok (i, len) := dt_of tX2_numberHere_ok k hk
def tX2_wordHere : List (Nat × Instr × Nat) := [(0, .aload_n 0, 1), (1, .getfield 22, 3), (4, .aload_n 0, 1), (5, .getfield 15, 3), (8, .if_icmp .ge 31, 3), (11, .aload_n 0, 1), (12, .getfield 9, 3), (15, .aload_n 0, 1), (16, .getfield 22, 3), (19, .iaload, 1), (20, .invokestatic 62, 3), (23, .ifCond .eq 16, 3), (26, .aload_n 0, 1), (27, .dup, 1), (28, .getfield 22, 3), (31, .iconst 1, 1), (32, .iadd, 1), (33, .putfield 22, 3), (36, .goto (-36), 3), (39, .iconst 0, 1), (40, .istore_n 1, 1), (41, .iload_n 1, 1), (42, .bipush 12, 2), (44, .if_icmp .ge 24, 3), (47, .aload_n 0, 1), (48, .iload_n 1, 1), (49, .invokestatic 71, 3), (52, .invokevirtual 75, 3), (55, .ifCond .eq 7, 3), (58, .iconst 3, 1), (59, .iload_n 1, 1), (60, .iadd, 1), (61, .ireturn, 1), (62, .iinc 1 1, 3), (65, .goto (-24), 3), (68, .iconst 2, 1), (69, .ireturn, 1)]
theorem tX2_wordHere_ok : tX2_wordHere.all (dk cX2_wordHere) = true := by decide +kernel
theorem dX2_wordHere (k : Nat) {pc len : Nat} {i : Instr} (hk : tX2_wordHere[k]? = some (pc, i, len)) : decode cX2_wordHere pc = .ok (i, len) := dt_of tX2_wordHere_ok k hk
def tX2_isHere : List (Nat × Instr × Nat) := [(0, .aload_n 1, 1), (1, .invokevirtual 79, 3), (4, .aload_n 0, 1), (5, .getfield 22, 3), (8, .aload_n 0, 1), (9, .getfield 19, 3), (12, .isub, 1), (13, .if_icmp .eq 5, 3), (16, .iconst 0, 1), (17, .ireturn, 1), (18, .iconst 0, 1), (19, .istore_n 2, 1), (20, .iload_n 2, 1), (21, .aload_n 1, 1), (22, .invokevirtual 79, 3), (25, .if_icmp .ge 30, 3), (28, .aload_n 1, 1), (29, .iload_n 2, 1), (30, .invokevirtual 84, 3), (33, .aload_n 0, 1), (34, .getfield 9, 3), (37, .aload_n 0, 1), (38, .getfield 19, 3), (41, .iload_n 2, 1), (42, .iadd, 1), (43, .iaload, 1), (44, .if_icmp .eq 5, 3), (47, .iconst 0, 1), (48, .ireturn, 1), (49, .iinc 2 1, 3), (52, .goto (-32), 3), (55, .iconst 1, 1), (56, .ireturn, 1)]
theorem tX2_isHere_ok : tX2_isHere.all (dk cX2_isHere) = true := by decide +kernel
theorem dX2_isHere (k : Nat) {pc len : Nat} {i : Instr} (hk : tX2_isHere[k]? = some (pc, i, len)) : decode cX2_isHere pc = .ok (i, len) := dt_of tX2_isHere_ok k hk
def tX2_word : List (Nat × Instr × Nat) := [(0, .iload_n 0, 1), (1, .tableswitch 92 0 10 #[59, 62, 65, 68, 71, 74, 77, 80, 83, 86, 89], 59), (60, .ldc 88, 2), (62, .areturn, 1), (63, .ldc 90, 2), (65, .areturn, 1), (66, .ldc 92, 2), (68, .areturn, 1), (69, .ldc 94, 2), (71, .areturn, 1), (72, .ldc 96, 2), (74, .areturn, 1), (75, .ldc 98, 2), (77, .areturn, 1), (78, .ldc 100, 2), (80, .areturn, 1), (81, .ldc 102, 2), (83, .areturn, 1), (84, .ldc 104, 2), (86, .areturn, 1), (87, .ldc 106, 2), (89, .areturn, 1), (90, .ldc 108, 2), (92, .areturn, 1), (93, .ldc 110, 2), (95, .areturn, 1)]
theorem tX2_word_ok : tX2_word.all (dk cX2_word) = true := by decide +kernel
theorem dX2_word (k : Nat) {pc len : Nat} {i : Instr} (hk : tX2_word[k]? = some (pc, i, len)) : decode cX2_word pc = .ok (i, len) := dt_of tX2_word_ok k hk
def tX2_isDigit : List (Nat × Instr × Nat) := [(0, .iload_n 0, 1), (1, .bipush 48, 2), (3, .if_icmp .lt 13, 3), (6, .iload_n 0, 1), (7, .bipush 57, 2), (9, .if_icmp .gt 7, 3), (12, .iconst 1, 1), (13, .goto 4, 3), (16, .iconst 0, 1), (17, .ireturn, 1)]
theorem tX2_isDigit_ok : tX2_isDigit.all (dk cX2_isDigit) = true := by decide +kernel
theorem dX2_isDigit (k : Nat) {pc len : Nat} {i : Instr} (hk : tX2_isDigit[k]? = some (pc, i, len)) : decode cX2_isDigit pc = .ok (i, len) := dt_of tX2_isDigit_ok k hk
def tX2_isSmall : List (Nat × Instr × Nat) := [(0, .iload_n 0, 1), (1, .bipush 97, 2), (3, .if_icmp .lt 13, 3), (6, .iload_n 0, 1), (7, .bipush 122, 2), (9, .if_icmp .gt 7, 3), (12, .iconst 1, 1), (13, .goto 4, 3), (16, .iconst 0, 1), (17, .ireturn, 1)]
theorem tX2_isSmall_ok : tX2_isSmall.all (dk cX2_isSmall) = true := by decide +kernel
theorem dX2_isSmall (k : Nat) {pc len : Nat} {i : Instr} (hk : tX2_isSmall[k]? = some (pc, i, len)) : decode cX2_isSmall pc = .ok (i, len) := dt_of tX2_isSmall_ok k hk
def tX2_isSign : List (Nat × Instr × Nat) := [(0, .iload_n 0, 1), (1, .bipush 40, 2), (3, .if_icmp .eq 45, 3), (6, .iload_n 0, 1), (7, .bipush 41, 2), (9, .if_icmp .eq 39, 3), (12, .iload_n 0, 1), (13, .bipush 59, 2), (15, .if_icmp .eq 33, 3), (18, .iload_n 0, 1), (19, .bipush 43, 2), (21, .if_icmp .eq 27, 3), (24, .iload_n 0, 1), (25, .bipush 45, 2), (27, .if_icmp .eq 21, 3), (30, .iload_n 0, 1), (31, .bipush 42, 2), (33, .if_icmp .eq 15, 3), (36, .iload_n 0, 1), (37, .bipush 60, 2), (39, .if_icmp .eq 9, 3), (42, .iload_n 0, 1), (43, .bipush 61, 2), (45, .if_icmp .ne 7, 3), (48, .iconst 1, 1), (49, .goto 4, 3), (52, .iconst 0, 1), (53, .ireturn, 1)]
theorem tX2_isSign_ok : tX2_isSign.all (dk cX2_isSign) = true := by decide +kernel
theorem dX2_isSign (k : Nat) {pc len : Nat} {i : Instr} (hk : tX2_isSign[k]? = some (pc, i, len)) : decode cX2_isSign pc = .ok (i, len) := dt_of tX2_isSign_ok k hk
def tX2_either : List (Nat × Instr × Nat) := [(0, .aload_n 0, 1), (1, .iload_n 1, 1), (2, .invokevirtual 112, 3), (5, .istore_n 2, 1), (6, .iconst 0, 1), (7, .istore_n 3, 1), (8, .iload_n 3, 1), (9, .sipush 160, 3), (12, .if_icmp .ge 41, 3), (15, .iload_n 2, 1), (16, .ifCond .eq 37, 3), (19, .aload_n 0, 1), (20, .getfield 25, 3), (23, .bipush 6, 2), (25, .if_icmp .ne 28, 3), (28, .aload_n 0, 1), (29, .invokevirtual 41, 3), (32, .aload_n 0, 1), (33, .iload_n 1, 1), (34, .invokevirtual 112, 3), (37, .istore_n 2, 1), (38, .aload_n 0, 1), (39, .getfield 34, 3), (42, .bipush (-15), 2), (44, .invokevirtual 115, 3), (47, .iinc 3 1, 3), (50, .goto (-42), 3), (53, .iload_n 2, 1), (54, .ireturn, 1)]
theorem tX2_either_ok : tX2_either.all (dk cX2_either) = true := by decide +kernel
theorem dX2_either (k : Nat) {pc len : Nat} {i : Instr} (hk : tX2_either[k]? = some (pc, i, len)) : decode cX2_either pc = .ok (i, len) := dt_of tX2_either_ok k hk
def tX2_both : List (Nat × Instr × Nat) := [(0, .aload_n 0, 1), (1, .iload_n 1, 1), (2, .invokevirtual 118, 3), (5, .istore_n 2, 1), (6, .iconst 0, 1), (7, .istore_n 3, 1), (8, .iload_n 3, 1), (9, .sipush 160, 3), (12, .if_icmp .ge 41, 3), (15, .iload_n 2, 1), (16, .ifCond .eq 37, 3), (19, .aload_n 0, 1), (20, .getfield 25, 3), (23, .bipush 7, 2), (25, .if_icmp .ne 28, 3), (28, .aload_n 0, 1), (29, .invokevirtual 41, 3), (32, .aload_n 0, 1), (33, .iload_n 1, 1), (34, .invokevirtual 118, 3), (37, .istore_n 2, 1), (38, .aload_n 0, 1), (39, .getfield 34, 3), (42, .bipush (-14), 2), (44, .invokevirtual 115, 3), (47, .iinc 3 1, 3), (50, .goto (-42), 3), (53, .iload_n 2, 1), (54, .ireturn, 1)]
theorem tX2_both_ok : tX2_both.all (dk cX2_both) = true := by decide +kernel
theorem dX2_both (k : Nat) {pc len : Nat} {i : Instr} (hk : tX2_both[k]? = some (pc, i, len)) : decode cX2_both pc = .ok (i, len) := dt_of tX2_both_ok k hk
def tX2_denied : List (Nat × Instr × Nat) := [(0, .aload_n 0, 1), (1, .getfield 25, 3), (4, .bipush 8, 2), (6, .if_icmp .ne 33, 3), (9, .iload_n 1, 1), (10, .iconst 5, 1), (11, .if_icmp .lt 5, 3), (14, .iconst 0, 1), (15, .ireturn, 1), (16, .aload_n 0, 1), (17, .invokevirtual 41, 3), (20, .aload_n 0, 1), (21, .iload_n 1, 1), (22, .iconst 1, 1), (23, .iadd, 1), (24, .invokevirtual 118, 3), (27, .istore_n 2, 1), (28, .aload_n 0, 1), (29, .getfield 34, 3), (32, .bipush (-8), 2), (34, .invokevirtual 115, 3), (37, .iload_n 2, 1), (38, .ireturn, 1), (39, .aload_n 0, 1), (40, .iload_n 1, 1), (41, .invokevirtual 121, 3), (44, .ifCond .ne 5, 3), (47, .iconst 0, 1), (48, .ireturn, 1), (49, .aload_n 0, 1), (50, .getfield 25, 3), (53, .bipush 60, 2), (55, .if_icmp .eq 14, 3), (58, .aload_n 0, 1), (59, .getfield 25, 3), (62, .bipush 61, 2), (64, .if_icmp .eq 5, 3), (67, .iconst 1, 1), (68, .ireturn, 1), (69, .aload_n 0, 1), (70, .getfield 25, 3), (73, .bipush 60, 2), (75, .if_icmp .ne 8, 3), (78, .bipush (-12), 2), (80, .goto 5, 3), (83, .bipush (-13), 2), (85, .istore_n 2, 1), (86, .aload_n 0, 1), (87, .invokevirtual 41, 3), (90, .aload_n 0, 1), (91, .iload_n 1, 1), (92, .invokevirtual 121, 3), (95, .istore_n 3, 1), (96, .aload_n 0, 1), (97, .getfield 34, 3), (100, .iload_n 2, 1), (101, .invokevirtual 115, 3), (104, .iload_n 3, 1), (105, .ireturn, 1)]
theorem tX2_denied_ok : tX2_denied.all (dk cX2_denied) = true := by decide +kernel
theorem dX2_denied (k : Nat) {pc len : Nat} {i : Instr} (hk : tX2_denied[k]? = some (pc, i, len)) : decode cX2_denied pc = .ok (i, len) := dt_of tX2_denied_ok k hk
def tX2_sum : List (Nat × Instr × Nat) := [(0, .aload_n 0, 1), (1, .iload_n 1, 1), (2, .invokevirtual 124, 3), (5, .istore_n 2, 1), (6, .iconst 0, 1), (7, .istore_n 3, 1), (8, .iload_n 3, 1), (9, .sipush 160, 3), (12, .if_icmp .ge 68, 3), (15, .iload_n 2, 1), (16, .ifCond .eq 64, 3), (19, .aload_n 0, 1), (20, .getfield 25, 3), (23, .bipush 43, 2), (25, .if_icmp .eq 12, 3), (28, .aload_n 0, 1), (29, .getfield 25, 3), (32, .bipush 45, 2), (34, .if_icmp .ne 46, 3), (37, .aload_n 0, 1), (38, .getfield 25, 3), (41, .bipush 43, 2), (43, .if_icmp .ne 8, 3), (46, .bipush (-9), 2), (48, .goto 5, 3), (51, .bipush (-10), 2), (53, .istore 4, 2), (55, .aload_n 0, 1), (56, .invokevirtual 41, 3), (59, .aload_n 0, 1), (60, .iload_n 1, 1), (61, .invokevirtual 124, 3), (64, .istore_n 2, 1), (65, .aload_n 0, 1), (66, .getfield 34, 3), (69, .iload 4, 2), (71, .invokevirtual 115, 3), (74, .iinc 3 1, 3), (77, .goto (-69), 3), (80, .iload_n 2, 1), (81, .ireturn, 1)]
theorem tX2_sum_ok : tX2_sum.all (dk cX2_sum) = true := by decide +kernel
theorem dX2_sum (k : Nat) {pc len : Nat} {i : Instr} (hk : tX2_sum[k]? = some (pc, i, len)) : decode cX2_sum pc = .ok (i, len) := dt_of tX2_sum_ok k hk
def tX2_term : List (Nat × Instr × Nat) := [(0, .aload_n 0, 1), (1, .iload_n 1, 1), (2, .invokevirtual 127, 3), (5, .istore_n 2, 1), (6, .iconst 0, 1), (7, .istore_n 3, 1), (8, .iload_n 3, 1), (9, .sipush 160, 3), (12, .if_icmp .ge 41, 3), (15, .iload_n 2, 1), (16, .ifCond .eq 37, 3), (19, .aload_n 0, 1), (20, .getfield 25, 3), (23, .bipush 42, 2), (25, .if_icmp .ne 28, 3), (28, .aload_n 0, 1), (29, .invokevirtual 41, 3), (32, .aload_n 0, 1), (33, .iload_n 1, 1), (34, .invokevirtual 127, 3), (37, .istore_n 2, 1), (38, .aload_n 0, 1), (39, .getfield 34, 3), (42, .bipush (-11), 2), (44, .invokevirtual 115, 3), (47, .iinc 3 1, 3), (50, .goto (-42), 3), (53, .iload_n 2, 1), (54, .ireturn, 1)]
theorem tX2_term_ok : tX2_term.all (dk cX2_term) = true := by decide +kernel
theorem dX2_term (k : Nat) {pc len : Nat} {i : Instr} (hk : tX2_term[k]? = some (pc, i, len)) : decode cX2_term pc = .ok (i, len) := dt_of tX2_term_ok k hk
def tX2_one : List (Nat × Instr × Nat) := [(0, .aload_n 0, 1), (1, .getfield 25, 3), (4, .iconst 1, 1), (5, .if_icmp .ne 20, 3), (8, .aload_n 0, 1), (9, .getfield 34, 3), (12, .aload_n 0, 1), (13, .getfield 28, 3), (16, .invokevirtual 115, 3), (19, .aload_n 0, 1), (20, .invokevirtual 41, 3), (23, .iconst 1, 1), (24, .ireturn, 1), (25, .aload_n 0, 1), (26, .getfield 25, 3), (29, .bipush 9, 2), (31, .if_icmp .lt 32, 3), (34, .aload_n 0, 1), (35, .getfield 25, 3), (38, .bipush 15, 2), (40, .if_icmp .ge 23, 3), (43, .aload_n 0, 1), (44, .getfield 34, 3), (47, .bipush 8, 2), (49, .aload_n 0, 1), (50, .getfield 25, 3), (53, .isub, 1), (54, .invokevirtual 115, 3), (57, .aload_n 0, 1), (58, .invokevirtual 41, 3), (61, .iconst 1, 1), (62, .ireturn, 1), (63, .iload_n 1, 1), (64, .iconst 5, 1), (65, .if_icmp .lt 5, 3), (68, .iconst 0, 1), (69, .ireturn, 1), (70, .aload_n 0, 1), (71, .bipush 45, 2), (73, .invokevirtual 44, 3), (76, .ifCond .eq 22, 3), (79, .aload_n 0, 1), (80, .iload_n 1, 1), (81, .iconst 1, 1), (82, .iadd, 1), (83, .invokevirtual 127, 3), (86, .istore_n 2, 1), (87, .aload_n 0, 1), (88, .getfield 34, 3), (91, .bipush (-7), 2), (93, .invokevirtual 115, 3), (96, .iload_n 2, 1), (97, .ireturn, 1), (98, .aload_n 0, 1), (99, .bipush 40, 2), (101, .invokevirtual 44, 3), (104, .ifCond .eq 26, 3), (107, .aload_n 0, 1), (108, .iload_n 1, 1), (109, .iconst 1, 1), (110, .iadd, 1), (111, .invokevirtual 48, 3), (114, .ifCond .eq 16, 3), (117, .aload_n 0, 1), (118, .bipush 41, 2), (120, .invokevirtual 44, 3), (123, .ifCond .eq 7, 3), (126, .iconst 1, 1), (127, .goto 4, 3), (130, .iconst 0, 1), (131, .ireturn, 1)]
theorem tX2_one_ok : tX2_one.all (dk cX2_one) = true := by decide +kernel
theorem dX2_one (k : Nat) {pc len : Nat} {i : Instr} (hk : tX2_one[k]? = some (pc, i, len)) : decode cX2_one pc = .ok (i, len) := dt_of tX2_one_ok k hk
def tX3_init : List (Nat × Instr × Nat) := [(0, .aload_n 0, 1), (1, .invokespecial 3, 3), (4, .aload_n 0, 1), (5, .iload_n 1, 1), (6, .putfield 9, 3), (9, .aload_n 0, 1), (10, .iload_n 2, 1), (11, .newarray .int, 2), (13, .putfield 15, 3), (16, .return_, 1)]
theorem tX3_init_ok : tX3_init.all (dk cX3_init) = true := by decide +kernel
theorem dX3_init (k : Nat) {pc len : Nat} {i : Instr} (hk : tX3_init[k]? = some (pc, i, len)) : decode cX3_init pc = .ok (i, len) := dt_of tX3_init_ok k hk
def tX3_has : List (Nat × Instr × Nat) := [(0, .iload_n 1, 1), (1, .ifCond .lt 22, 3), (4, .iload_n 2, 1), (5, .ifCond .lt 18, 3), (8, .iload_n 2, 1), (9, .aload_n 0, 1), (10, .getfield 15, 3), (13, .arraylength, 1), (14, .iload_n 1, 1), (15, .isub, 1), (16, .if_icmp .gt 7, 3), (19, .iconst 1, 1), (20, .goto 4, 3), (23, .iconst 0, 1), (24, .ireturn, 1)]
theorem tX3_has_ok : tX3_has.all (dk cX3_has) = true := by decide +kernel
theorem dX3_has (k : Nat) {pc len : Nat} {i : Instr} (hk : tX3_has[k]? = some (pc, i, len)) : decode cX3_has pc = .ok (i, len) := dt_of tX3_has_ok k hk
def tX3_put : List (Nat × Instr × Nat) := [(0, .iload_n 1, 1), (1, .ifCond .lt 12, 3), (4, .iload_n 1, 1), (5, .aload_n 0, 1), (6, .getfield 15, 3), (9, .arraylength, 1), (10, .if_icmp .lt 5, 3), (13, .iconst 0, 1), (14, .ireturn, 1), (15, .aload_n 0, 1), (16, .getfield 15, 3), (19, .iload_n 1, 1), (20, .aload_n 0, 1), (21, .getfield 9, 3), (24, .ifCond .ne 8, 3), (27, .iload_n 2, 1), (28, .i2b, 1), (29, .goto 17, 3), (32, .aload_n 0, 1), (33, .getfield 9, 3), (36, .iconst 1, 1), (37, .if_icmp .ne 8, 3), (40, .iload_n 2, 1), (41, .i2s, 1), (42, .goto 4, 3), (45, .iload_n 2, 1), (46, .iastore, 1), (47, .iconst 1, 1), (48, .ireturn, 1)]
theorem tX3_put_ok : tX3_put.all (dk cX3_put) = true := by decide +kernel
theorem dX3_put (k : Nat) {pc len : Nat} {i : Instr} (hk : tX3_put[k]? = some (pc, i, len)) : decode cX3_put pc = .ok (i, len) := dt_of tX3_put_ok k hk
def tX4_init : List (Nat × Instr × Nat) := [(0, .aload_n 0, 1), (1, .invokespecial 3, 3), (4, .aload_n 0, 1), (5, .sipush 160, 3), (8, .newarray .int, 2), (10, .putfield 9, 3), (13, .aload_n 0, 1), (14, .iconst 4, 1), (15, .newarray .int, 2), (17, .putfield 15, 3), (20, .aload_n 0, 1), (21, .iconst 0, 1), (22, .putfield 18, 3), (25, .return_, 1)]
theorem tX4_init_ok : tX4_init.all (dk cX4_init) = true := by decide +kernel
theorem dX4_init (k : Nat) {pc len : Nat} {i : Instr} (hk : tX4_init[k]? = some (pc, i, len)) : decode cX4_init pc = .ok (i, len) := dt_of tX4_init_ok k hk
def tX4_clear : List (Nat × Instr × Nat) := [(0, .aload_n 0, 1), (1, .iconst 0, 1), (2, .putfield 18, 3), (5, .return_, 1)]
theorem tX4_clear_ok : tX4_clear.all (dk cX4_clear) = true := by decide +kernel
theorem dX4_clear (k : Nat) {pc len : Nat} {i : Instr} (hk : tX4_clear[k]? = some (pc, i, len)) : decode cX4_clear pc = .ok (i, len) := dt_of tX4_clear_ok k hk
def tX4_put : List (Nat × Instr × Nat) := [(0, .aload_n 0, 1), (1, .getfield 18, 3), (4, .aload_n 0, 1), (5, .getfield 9, 3), (8, .arraylength, 1), (9, .if_icmp .ge 23, 3), (12, .aload_n 0, 1), (13, .getfield 9, 3), (16, .aload_n 0, 1), (17, .getfield 18, 3), (20, .iload_n 1, 1), (21, .iastore, 1), (22, .aload_n 0, 1), (23, .dup, 1), (24, .getfield 18, 3), (27, .iconst 1, 1), (28, .iadd, 1), (29, .putfield 18, 3), (32, .return_, 1)]
theorem tX4_put_ok : tX4_put.all (dk cX4_put) = true := by decide +kernel
theorem dX4_put (k : Nat) {pc len : Nat} {i : Instr} (hk : tX4_put[k]? = some (pc, i, len)) : decode cX4_put pc = .ok (i, len) := dt_of tX4_put_ok k hk
def tX4_endPart : List (Nat × Instr × Nat) := [(0, .aload_n 0, 1), (1, .getfield 15, 3), (4, .iload_n 1, 1), (5, .iconst 1, 1), (6, .iadd, 1), (7, .aload_n 0, 1), (8, .getfield 18, 3), (11, .iastore, 1), (12, .return_, 1)]
theorem tX4_endPart_ok : tX4_endPart.all (dk cX4_endPart) = true := by decide +kernel
theorem dX4_endPart (k : Nat) {pc len : Nat} {i : Instr} (hk : tX4_endPart[k]? = some (pc, i, len)) : decode cX4_endPart pc = .ok (i, len) := dt_of tX4_endPart_ok k hk
def tX4_tells : List (Nat × Instr × Nat) := [(0, .iconst (-1), 1), (1, .istore 4, 2), (3, .aload_n 0, 1), (4, .getfield 15, 3), (7, .iload_n 1, 1), (8, .iconst 1, 1), (9, .iadd, 1), (10, .iaload, 1), (11, .aload_n 0, 1), (12, .getfield 9, 3), (15, .arraylength, 1), (16, .invokestatic 22, 3), (19, .istore 5, 2), (21, .aload_n 0, 1), (22, .getfield 15, 3), (25, .iload_n 1, 1), (26, .iaload, 1), (27, .istore 6, 2), (29, .iload 6, 2), (31, .iload 5, 2), (33, .if_icmp .ge 134, 3), (36, .aload_n 0, 1), (37, .getfield 9, 3), (40, .iload 6, 2), (42, .iaload, 1), (43, .istore 7, 2), (45, .iload 7, 2), (47, .bipush (-6), 2), (49, .if_icmp .lt 38, 3), (52, .iload 4, 2), (54, .iconst 1, 1), (55, .iadd, 1), (56, .aload_n 3, 1), (57, .arraylength, 1), (58, .if_icmp .ge 103, 3), (61, .iinc 4 1, 3), (64, .aload_n 3, 1), (65, .iload 4, 2), (67, .iload 7, 2), (69, .ifCond .lt 8, 3), (72, .iload 7, 2), (74, .goto 9, 3), (77, .aload_n 2, 1), (78, .iconst (-1), 1), (79, .iload 7, 2), (81, .isub, 1), (82, .iaload, 1), (83, .iastore, 1), (84, .goto 77, 3), (87, .iload 7, 2), (89, .bipush (-8), 2), (91, .if_icmp .lt 42, 3), (94, .iload 4, 2), (96, .ifCond .lt 65, 3), (99, .aload_n 3, 1), (100, .iload 4, 2), (102, .iload 7, 2), (104, .bipush (-7), 2), (106, .if_icmp .ne 11, 3), (109, .aload_n 3, 1), (110, .iload 4, 2), (112, .iaload, 1), (113, .ineg, 1), (114, .goto 15, 3), (117, .aload_n 3, 1), (118, .iload 4, 2), (120, .iaload, 1), (121, .ifCond .ne 7, 3), (124, .iconst 1, 1), (125, .goto 4, 3), (128, .iconst 0, 1), (129, .iastore, 1), (130, .goto 31, 3), (133, .iload 4, 2), (135, .iconst 1, 1), (136, .if_icmp .lt 25, 3), (139, .iinc 4 (-1), 3), (142, .aload_n 3, 1), (143, .iload 4, 2), (145, .iload 7, 2), (147, .aload_n 3, 1), (148, .iload 4, 2), (150, .iaload, 1), (151, .aload_n 3, 1), (152, .iload 4, 2), (154, .iconst 1, 1), (155, .iadd, 1), (156, .iaload, 1), (157, .invokestatic 28, 3), (160, .iastore, 1), (161, .iinc 6 1, 3), (164, .goto (-135), 3), (167, .iload 4, 2), (169, .ifCond .lt 10, 3), (172, .aload_n 3, 1), (173, .iload 4, 2), (175, .iaload, 1), (176, .goto 4, 3), (179, .iconst 0, 1), (180, .ireturn, 1)]
theorem tX4_tells_ok : tX4_tells.all (dk cX4_tells) = true := by decide +kernel
theorem dX4_tells (k : Nat) {pc len : Nat} {i : Instr} (hk : tX4_tells[k]? = some (pc, i, len)) : decode cX4_tells pc = .ok (i, len) := dt_of tX4_tells_ok k hk
def tX4_joined : List (Nat × Instr × Nat) := [(0, .iload_n 0, 1), (1, .tableswitch 87 (-14) (-9) #[73, 62, 51, 47, 43, 39], 39), (40, .iload_n 1, 1), (41, .iload_n 2, 1), (42, .iadd, 1), (43, .ireturn, 1), (44, .iload_n 1, 1), (45, .iload_n 2, 1), (46, .isub, 1), (47, .ireturn, 1), (48, .iload_n 1, 1), (49, .iload_n 2, 1), (50, .imul, 1), (51, .ireturn, 1), (52, .iload_n 1, 1), (53, .iload_n 2, 1), (54, .if_icmp .ge 7, 3), (57, .iconst 1, 1), (58, .goto 4, 3), (61, .iconst 0, 1), (62, .ireturn, 1), (63, .iload_n 1, 1), (64, .iload_n 2, 1), (65, .if_icmp .ne 7, 3), (68, .iconst 1, 1), (69, .goto 4, 3), (72, .iconst 0, 1), (73, .ireturn, 1), (74, .iload_n 1, 1), (75, .ifCond .eq 11, 3), (78, .iload_n 2, 1), (79, .ifCond .eq 7, 3), (82, .iconst 1, 1), (83, .goto 4, 3), (86, .iconst 0, 1), (87, .ireturn, 1), (88, .iload_n 1, 1), (89, .ifCond .ne 7, 3), (92, .iload_n 2, 1), (93, .ifCond .eq 7, 3), (96, .iconst 1, 1), (97, .goto 4, 3), (100, .iconst 0, 1), (101, .ireturn, 1)]
theorem tX4_joined_ok : tX4_joined.all (dk cX4_joined) = true := by decide +kernel
theorem dX4_joined (k : Nat) {pc len : Nat} {i : Instr} (hk : tX4_joined[k]? = some (pc, i, len)) : decode cX4_joined pc = .ok (i, len) := dt_of tX4_joined_ok k hk
def tX5_init : List (Nat × Instr × Nat) := [(0, .aload_n 0, 1), (1, .invokespecial 1, 3), (4, .aload_n 0, 1), (5, .new 7, 3), (8, .dup, 1), (9, .invokespecial 9, 3), (12, .putfield 10, 3), (15, .aload_n 0, 1), (16, .new 7, 3), (19, .dup, 1), (20, .invokespecial 9, 3), (23, .putfield 16, 3), (26, .aload_n 0, 1), (27, .new 7, 3), (30, .dup, 1), (31, .invokespecial 9, 3), (34, .putfield 19, 3), (37, .aload_n 0, 1), (38, .iconst 0, 1), (39, .putfield 22, 3), (42, .aload_n 0, 1), (43, .new 26, 3), (46, .dup, 1), (47, .invokespecial 28, 3), (50, .putfield 29, 3), (53, .aload_n 0, 1), (54, .new 33, 3), (57, .dup, 1), (58, .invokespecial 35, 3), (61, .putfield 36, 3), (64, .aload_n 0, 1), (65, .bipush 6, 2), (67, .anewarray 40, 3), (70, .putfield 42, 3), (73, .aload_n 0, 1), (74, .iconst 0, 1), (75, .putfield 46, 3), (78, .aload_n 0, 1), (79, .iconst 4, 1), (80, .anewarray 50, 3), (83, .putfield 52, 3), (86, .aload_n 0, 1), (87, .iconst 5, 1), (88, .newarray .int, 2), (90, .putfield 56, 3), (93, .aload_n 0, 1), (94, .iconst 5, 1), (95, .newarray .int, 2), (97, .putfield 60, 3), (100, .iconst 0, 1), (101, .istore_n 1, 1), (102, .iload_n 1, 1), (103, .bipush 6, 2), (105, .if_icmp .ge 22, 3), (108, .aload_n 0, 1), (109, .getfield 42, 3), (112, .iload_n 1, 1), (113, .new 40, 3), (116, .dup, 1), (117, .invokespecial 63, 3), (120, .aastore, 1), (121, .iinc 1 1, 3), (124, .goto (-22), 3), (127, .iconst 0, 1), (128, .istore_n 1, 1), (129, .iload_n 1, 1), (130, .ldc 64, 2), (132, .invokevirtual 66, 3), (135, .if_icmp .ge 23, 3), (138, .aload_n 0, 1), (139, .getfield 36, 3), (142, .ldc 64, 2), (144, .iload_n 1, 1), (145, .invokevirtual 72, 3), (148, .invokevirtual 76, 3), (151, .pop, 1), (152, .iinc 1 1, 3), (155, .goto (-26), 3), (158, .aload_n 0, 1), (159, .getfield 36, 3), (162, .aload_n 0, 1), (163, .getfield 42, 3), (166, .iconst 0, 1), (167, .aaload, 1), (168, .invokevirtual 80, 3), (171, .ifCond .eq 8, 3), (174, .aload_n 0, 1), (175, .iconst 1, 1), (176, .putfield 46, 3), (179, .aload_n 0, 1), (180, .getfield 36, 3), (183, .invokevirtual 84, 3), (186, .return_, 1)]
theorem tX5_init_ok : tX5_init.all (dk cX5_init) = true := by decide +kernel
theorem dX5_init (k : Nat) {pc len : Nat} {i : Instr} (hk : tX5_init[k]? = some (pc, i, len)) : decode cX5_init pc = .ok (i, len) := dt_of tX5_init_ok k hk
def tX5_man : List (Nat × Instr × Nat) := [(0, .iload_n 1, 1), (1, .ifCond .lt 27, 3), (4, .iload_n 1, 1), (5, .iconst 5, 1), (6, .if_icmp .gt 22, 3), (9, .iload_n 2, 1), (10, .sipush 239, 3), (13, .invokestatic 87, 3), (16, .ifCond .eq 12, 3), (19, .iload_n 3, 1), (20, .bipush 99, 2), (22, .invokestatic 87, 3), (25, .ifCond .ne 6, 3), (28, .bipush (-2), 2), (30, .ireturn, 1), (31, .aload_n 0, 1), (32, .getfield 10, 3), (35, .getfield 91, 3), (38, .iconst 5, 1), (39, .if_icmp .lt 6, 3), (42, .bipush (-4), 2), (44, .ireturn, 1), (45, .aload_n 0, 1), (46, .getfield 10, 3), (49, .iload_n 1, 1), (50, .iload_n 2, 1), (51, .iload_n 3, 1), (52, .invokevirtual 94, 3), (55, .ireturn, 1)]
theorem tX5_man_ok : tX5_man.all (dk cX5_man) = true := by decide +kernel
theorem dX5_man (k : Nat) {pc len : Nat} {i : Instr} (hk : tX5_man[k]? = some (pc, i, len)) : decode cX5_man pc = .ok (i, len) := dt_of tX5_man_ok k hk
def tX5_set : List (Nat × Instr × Nat) := [(0, .iload_n 1, 1), (1, .tableswitch 251 0 5 #[39, 74, 108, 154, 189, 224], 39), (40, .iload_n 2, 1), (41, .invokestatic 97, 3), (44, .ifCond .eq 28, 3), (47, .iload_n 3, 1), (48, .sipush 9999, 3), (51, .invokestatic 87, 3), (54, .ifCond .eq 18, 3), (57, .aload_n 0, 1), (58, .getfield 10, 3), (61, .getfield 100, 3), (64, .iload_n 2, 1), (65, .iload_n 3, 1), (66, .invokestatic 103, 3), (69, .goto 5, 3), (72, .bipush (-2), 2), (74, .ireturn, 1), (75, .iload_n 2, 1), (76, .invokestatic 97, 3), (79, .ifCond .eq 27, 3), (82, .iload_n 3, 1), (83, .bipush 9, 2), (85, .invokestatic 87, 3), (88, .ifCond .eq 18, 3), (91, .aload_n 0, 1), (92, .getfield 10, 3), (95, .getfield 107, 3), (98, .iload_n 2, 1), (99, .iload_n 3, 1), (100, .invokestatic 103, 3), (103, .goto 5, 3), (106, .bipush (-2), 2), (108, .ireturn, 1), (109, .aload_n 0, 1), (110, .iload_n 2, 1), (111, .invokevirtual 110, 3), (114, .ifCond .eq 38, 3), (117, .iload_n 3, 1), (118, .sipush 239, 3), (121, .invokestatic 87, 3), (124, .ifCond .eq 28, 3), (127, .aload_n 0, 1), (128, .getfield 10, 3), (131, .getfield 113, 3), (134, .iload_n 2, 1), (135, .iload_n 3, 1), (136, .aload_n 0, 1), (137, .getfield 10, 3), (140, .getfield 116, 3), (143, .invokestatic 119, 3), (146, .invokestatic 103, 3), (149, .goto 5, 3), (152, .bipush (-2), 2), (154, .ireturn, 1), (155, .aload_n 0, 1), (156, .iload_n 2, 1), (157, .invokevirtual 110, 3), (160, .ifCond .eq 27, 3), (163, .iload_n 3, 1), (164, .bipush 9, 2), (166, .invokestatic 87, 3), (169, .ifCond .eq 18, 3), (172, .aload_n 0, 1), (173, .getfield 10, 3), (176, .getfield 123, 3), (179, .iload_n 2, 1), (180, .iload_n 3, 1), (181, .invokestatic 103, 3), (184, .goto 5, 3), (187, .bipush (-2), 2), (189, .ireturn, 1), (190, .aload_n 0, 1), (191, .iload_n 2, 1), (192, .invokevirtual 110, 3), (195, .ifCond .eq 27, 3), (198, .iload_n 3, 1), (199, .bipush 9, 2), (201, .invokestatic 87, 3), (204, .ifCond .eq 18, 3), (207, .aload_n 0, 1), (208, .getfield 10, 3), (211, .getfield 126, 3), (214, .iload_n 2, 1), (215, .iload_n 3, 1), (216, .invokestatic 103, 3), (219, .goto 5, 3), (222, .bipush (-2), 2), (224, .ireturn, 1), (225, .iload_n 3, 1), (226, .bipush 12, 2), (228, .if_icmp .lt 21, 3), (231, .iload_n 3, 1), (232, .sipush 240, 3), (235, .if_icmp .gt 14, 3), (238, .aload_n 0, 1), (239, .getfield 10, 3), (242, .iload_n 3, 1), (243, .invokevirtual 129, 3), (246, .goto 5, 3), (249, .bipush (-2), 2), (251, .ireturn, 1), (252, .bipush (-2), 2), (254, .ireturn, 1)]
theorem tX5_set_ok : tX5_set.all (dk cX5_set) = true := by decide +kernel
theorem dX5_set (k : Nat) {pc len : Nat} {i : Instr} (hk : tX5_set[k]? = some (pc, i, len)) : decode cX5_set pc = .ok (i, len) := dt_of tX5_set_ok k hk
def tX5_told : List (Nat × Instr × Nat) := [(0, .iload_n 2, 1), (1, .ifCond .eq 8, 3), (4, .iload_n 2, 1), (5, .iconst 1, 1), (6, .if_icmp .ne 41, 3), (9, .iload_n 1, 1), (10, .invokestatic 97, 3), (13, .ifCond .ne 8, 3), (16, .bipush (-2), 2), (18, .goto 28, 3), (21, .iload_n 2, 1), (22, .ifCond .ne 15, 3), (25, .aload_n 0, 1), (26, .getfield 10, 3), (29, .getfield 100, 3), (32, .iload_n 1, 1), (33, .iaload, 1), (34, .goto 12, 3), (37, .aload_n 0, 1), (38, .getfield 10, 3), (41, .getfield 107, 3), (44, .iload_n 1, 1), (45, .iaload, 1), (46, .ireturn, 1), (47, .aload_n 0, 1), (48, .iload_n 1, 1), (49, .invokevirtual 110, 3), (52, .ifCond .ne 6, 3), (55, .bipush (-2), 2), (57, .ireturn, 1), (58, .iload_n 2, 1), (59, .tableswitch 95 2 7 #[37, 47, 57, 67, 77, 86], 37), (96, .aload_n 0, 1), (97, .getfield 10, 3), (100, .getfield 133, 3), (103, .iload_n 1, 1), (104, .iaload, 1), (105, .ireturn, 1), (106, .aload_n 0, 1), (107, .getfield 10, 3), (110, .getfield 113, 3), (113, .iload_n 1, 1), (114, .iaload, 1), (115, .ireturn, 1), (116, .aload_n 0, 1), (117, .getfield 10, 3), (120, .getfield 123, 3), (123, .iload_n 1, 1), (124, .iaload, 1), (125, .ireturn, 1), (126, .aload_n 0, 1), (127, .getfield 10, 3), (130, .getfield 126, 3), (133, .iload_n 1, 1), (134, .iaload, 1), (135, .ireturn, 1), (136, .aload_n 0, 1), (137, .getfield 10, 3), (140, .iload_n 1, 1), (141, .invokevirtual 136, 3), (144, .ireturn, 1), (145, .aload_n 0, 1), (146, .getfield 10, 3), (149, .iload_n 1, 1), (150, .invokevirtual 139, 3), (153, .ireturn, 1), (154, .bipush (-2), 2), (156, .ireturn, 1)]
theorem tX5_told_ok : tX5_told.all (dk cX5_told) = true := by decide +kernel
theorem dX5_told (k : Nat) {pc len : Nat} {i : Instr} (hk : tX5_told[k]? = some (pc, i, len)) : decode cX5_told pc = .ok (i, len) := dt_of tX5_told_ok k hk
def tX5_mends : List (Nat × Instr × Nat) := [(0, .aload_n 0, 1), (1, .iload_n 1, 1), (2, .invokevirtual 110, 3), (5, .ifCond .eq 17, 3), (8, .iload_n 2, 1), (9, .sipush (-240), 3), (12, .if_icmp .lt 10, 3), (15, .iload_n 2, 1), (16, .sipush 240, 3), (19, .if_icmp .le 6, 3), (22, .ldc 142, 2), (24, .ireturn, 1), (25, .aload_n 0, 1), (26, .getfield 10, 3), (29, .iload_n 1, 1), (30, .iload_n 2, 1), (31, .invokevirtual 143, 3), (34, .ireturn, 1)]
theorem tX5_mends_ok : tX5_mends.all (dk cX5_mends) = true := by decide +kernel
theorem dX5_mends (k : Nat) {pc len : Nat} {i : Instr} (hk : tX5_mends[k]? = some (pc, i, len)) : decode cX5_mends pc = .ok (i, len) := dt_of tX5_mends_ok k hk
def tX5_feed : List (Nat × Instr × Nat) := [(0, .iload_n 1, 1), (1, .sipush 255, 3), (4, .invokestatic 87, 3), (7, .ifCond .ne 6, 3), (10, .bipush (-2), 2), (12, .ireturn, 1), (13, .aload_n 0, 1), (14, .getfield 36, 3), (17, .iload_n 1, 1), (18, .invokevirtual 76, 3), (21, .ifCond .eq 13, 3), (24, .aload_n 0, 1), (25, .getfield 36, 3), (28, .getfield 146, 3), (31, .goto 5, 3), (34, .bipush (-4), 2), (36, .ireturn, 1)]
theorem tX5_feed_ok : tX5_feed.all (dk cX5_feed) = true := by decide +kernel
theorem dX5_feed (k : Nat) {pc len : Nat} {i : Instr} (hk : tX5_feed[k]? = some (pc, i, len)) : decode cX5_feed pc = .ok (i, len) := dt_of tX5_feed_ok k hk
def tX5_text : List (Nat × Instr × Nat) := [(0, .aload_n 0, 1), (1, .getfield 46, 3), (4, .bipush 6, 2), (6, .if_icmp .lt 6, 3), (9, .bipush (-4), 2), (11, .ireturn, 1), (12, .aload_n 0, 1), (13, .getfield 36, 3), (16, .aload_n 0, 1), (17, .getfield 42, 3), (20, .aload_n 0, 1), (21, .getfield 46, 3), (24, .aaload, 1), (25, .invokevirtual 80, 3), (28, .istore_n 1, 1), (29, .aload_n 0, 1), (30, .getfield 36, 3), (33, .invokevirtual 84, 3), (36, .iload_n 1, 1), (37, .ifCond .ne 14, 3), (40, .bipush (-100), 2), (42, .aload_n 0, 1), (43, .getfield 36, 3), (46, .getfield 149, 3), (49, .isub, 1), (50, .ireturn, 1), (51, .aload_n 0, 1), (52, .dup, 1), (53, .getfield 46, 3), (56, .iconst 1, 1), (57, .iadd, 1), (58, .putfield 46, 3), (61, .aload_n 0, 1), (62, .getfield 46, 3), (65, .iconst 1, 1), (66, .isub, 1), (67, .ireturn, 1)]
theorem tX5_text_ok : tX5_text.all (dk cX5_text) = true := by decide +kernel
theorem dX5_text (k : Nat) {pc len : Nat} {i : Instr} (hk : tX5_text[k]? = some (pc, i, len)) : decode cX5_text pc = .ok (i, len) := dt_of tX5_text_ok k hk
def tX5_force : List (Nat × Instr × Nat) := [(0, .iload_n 1, 1), (1, .ifCond .lt 11, 3), (4, .iload_n 1, 1), (5, .aload_n 0, 1), (6, .getfield 46, 3), (9, .if_icmp .lt 6, 3), (12, .bipush (-2), 2), (14, .ireturn, 1), (15, .aload_n 0, 1), (16, .getfield 10, 3), (19, .getfield 152, 3), (22, .istore_n 2, 1), (23, .aload_n 0, 1), (24, .getfield 10, 3), (27, .iload_n 1, 1), (28, .putfield 152, 3), (31, .iload_n 2, 1), (32, .ireturn, 1)]
theorem tX5_force_ok : tX5_force.all (dk cX5_force) = true := by decide +kernel
theorem dX5_force (k : Nat) {pc len : Nat} {i : Instr} (hk : tX5_force[k]? = some (pc, i, len)) : decode cX5_force pc = .ok (i, len) := dt_of tX5_force_ok k hk
def tX5_round : List (Nat × Instr × Nat) := [(0, .aload_n 0, 1), (1, .getfield 10, 3), (4, .getfield 155, 3), (7, .istore_n 1, 1), (8, .aload_n 0, 1), (9, .getfield 29, 3), (12, .invokevirtual 158, 3), (15, .aload_n 0, 1), (16, .getfield 29, 3), (19, .aload_n 0, 1), (20, .getfield 10, 3), (23, .aload_n 0, 1), (24, .getfield 42, 3), (27, .aload_n 0, 1), (28, .getfield 10, 3), (31, .getfield 152, 3), (34, .aaload, 1), (35, .invokevirtual 161, 3), (38, .aload_n 0, 1), (39, .getfield 10, 3), (42, .getfield 155, 3), (45, .iload_n 1, 1), (46, .isub, 1), (47, .ireturn, 1)]
theorem tX5_round_ok : tX5_round.all (dk cX5_round) = true := by decide +kernel
theorem dX5_round (k : Nat) {pc len : Nat} {i : Instr} (hk : tX5_round[k]? = some (pc, i, len)) : decode cX5_round pc = .ok (i, len) := dt_of tX5_round_ok k hk
def tX5_run : List (Nat × Instr × Nat) := [(0, .iload_n 1, 1), (1, .bipush 40, 2), (3, .invokestatic 87, 3), (6, .ifCond .eq 11, 3), (9, .iload_n 2, 1), (10, .iconst 3, 1), (11, .invokestatic 87, 3), (14, .ifCond .ne 6, 3), (17, .bipush (-2), 2), (19, .ireturn, 1), (20, .aload_n 0, 1), (21, .invokevirtual 165, 3), (24, .aload_n 0, 1), (25, .iload_n 1, 1), (26, .invokevirtual 168, 3), (29, .iload_n 2, 1), (30, .tableswitch 50 0 2 #[26, 34, 42], 26), (56, .aload_n 0, 1), (57, .getfield 16, 3), (60, .getfield 155, 3), (63, .ireturn, 1), (64, .aload_n 0, 1), (65, .getfield 29, 3), (68, .getfield 172, 3), (71, .ireturn, 1), (72, .aload_n 0, 1), (73, .getfield 29, 3), (76, .getfield 175, 3), (79, .ireturn, 1), (80, .aload_n 0, 1), (81, .getfield 16, 3), (84, .invokevirtual 178, 3), (87, .ireturn, 1)]
theorem tX5_run_ok : tX5_run.all (dk cX5_run) = true := by decide +kernel
theorem dX5_run (k : Nat) {pc len : Nat} {i : Instr} (hk : tX5_run[k]? = some (pc, i, len)) : decode cX5_run pc = .ok (i, len) := dt_of tX5_run_ok k hk
def tX5_beat : List (Nat × Instr × Nat) := [(0, .aload_n 0, 1), (1, .iload_n 1, 1), (2, .invokevirtual 110, 3), (5, .ifCond .eq 12, 3), (8, .iload_n 2, 1), (9, .bipush 40, 2), (11, .invokestatic 87, 3), (14, .ifCond .ne 6, 3), (17, .bipush (-2), 2), (19, .ireturn, 1), (20, .aload_n 0, 1), (21, .invokevirtual 165, 3), (24, .aload_n 0, 1), (25, .iload_n 2, 1), (26, .invokevirtual 168, 3), (29, .aload_n 0, 1), (30, .getfield 16, 3), (33, .getfield 113, 3), (36, .iload_n 1, 1), (37, .iaload, 1), (38, .ireturn, 1)]
theorem tX5_beat_ok : tX5_beat.all (dk cX5_beat) = true := by decide +kernel
theorem dX5_beat (k : Nat) {pc len : Nat} {i : Instr} (hk : tX5_beat[k]? = some (pc, i, len)) : decode cX5_beat pc = .ok (i, len) := dt_of tX5_beat_ok k hk
def tX5_holds : List (Nat × Instr × Nat) := [(0, .aload_n 0, 1), (1, .invokevirtual 165, 3), (4, .iconst 0, 1), (5, .istore_n 1, 1), (6, .iload_n 1, 1), (7, .bipush 40, 2), (9, .if_icmp .ge 26, 3), (12, .aload_n 0, 1), (13, .iconst 1, 1), (14, .invokevirtual 168, 3), (17, .aload_n 0, 1), (18, .getfield 29, 3), (21, .getfield 172, 3), (24, .ifCond .le 5, 3), (27, .iload_n 1, 1), (28, .ireturn, 1), (29, .iinc 1 1, 3), (32, .goto (-26), 3), (35, .bipush 40, 2), (37, .ireturn, 1)]
theorem tX5_holds_ok : tX5_holds.all (dk cX5_holds) = true := by decide +kernel
theorem dX5_holds (k : Nat) {pc len : Nat} {i : Instr} (hk : tX5_holds[k]? = some (pc, i, len)) : decode cX5_holds pc = .ok (i, len) := dt_of tX5_holds_ok k hk
def tX5_bar : List (Nat × Instr × Nat) := [(0, .iload_n 1, 1), (1, .iconst 1, 1), (2, .invokestatic 87, 3), (5, .ifCond .ne 6, 3), (8, .bipush (-2), 2), (10, .ireturn, 1), (11, .iconst (-1), 1), (12, .istore_n 2, 1), (13, .iconst (-1), 1), (14, .istore_n 3, 1), (15, .bipush 12, 2), (17, .istore 4, 2), (19, .iload 4, 2), (21, .sipush 240, 3), (24, .if_icmp .gt 60, 3), (27, .aload_n 0, 1), (28, .invokevirtual 165, 3), (31, .aload_n 0, 1), (32, .getfield 16, 3), (35, .iload 4, 2), (37, .invokevirtual 129, 3), (40, .pop, 1), (41, .aload_n 0, 1), (42, .bipush 12, 2), (44, .invokevirtual 168, 3), (47, .aload_n 0, 1), (48, .getfield 16, 3), (51, .getfield 155, 3), (54, .sipush 1000, 3), (57, .imul, 1), (58, .bipush 12, 2), (60, .iload 4, 2), (62, .imul, 1), (63, .idiv, 1), (64, .istore 5, 2), (66, .iload 5, 2), (68, .iload_n 3, 1), (69, .if_icmp .le 9, 3), (72, .iload 5, 2), (74, .istore_n 3, 1), (75, .iload 4, 2), (77, .istore_n 2, 1), (78, .iinc 4 1, 3), (81, .goto (-62), 3), (84, .iload_n 1, 1), (85, .ifCond .ne 7, 3), (88, .iload_n 2, 1), (89, .goto 4, 3), (92, .iload_n 3, 1), (93, .ireturn, 1)]
theorem tX5_bar_ok : tX5_bar.all (dk cX5_bar) = true := by decide +kernel
theorem dX5_bar (k : Nat) {pc len : Nat} {i : Instr} (hk : tX5_bar[k]? = some (pc, i, len)) : decode cX5_bar pc = .ok (i, len) := dt_of tX5_bar_ok k hk
def tX5_order : List (Nat × Instr × Nat) := [(0, .iload_n 1, 1), (1, .iconst (-1), 1), (2, .if_icmp .lt 14, 3), (5, .iload_n 1, 1), (6, .aload_n 0, 1), (7, .getfield 10, 3), (10, .getfield 91, 3), (13, .if_icmp .lt 6, 3), (16, .bipush (-2), 2), (18, .ireturn, 1), (19, .aload_n 0, 1), (20, .invokevirtual 181, 3), (23, .istore_n 2, 1), (24, .iload_n 1, 1), (25, .ifCond .ge 7, 3), (28, .iload_n 2, 1), (29, .goto 9, 3), (32, .aload_n 0, 1), (33, .getfield 60, 3), (36, .iload_n 1, 1), (37, .iaload, 1), (38, .ireturn, 1)]
theorem tX5_order_ok : tX5_order.all (dk cX5_order) = true := by decide +kernel
theorem dX5_order (k : Nat) {pc len : Nat} {i : Instr} (hk : tX5_order[k]? = some (pc, i, len)) : decode cX5_order pc = .ok (i, len) := dt_of tX5_order_ok k hk
def tX5_home : List (Nat × Instr × Nat) := [(0, .aload_n 0, 1), (1, .invokevirtual 165, 3), (4, .aload_n 0, 1), (5, .bipush 12, 2), (7, .invokevirtual 168, 3), (10, .aload_n 0, 1), (11, .getfield 16, 3), (14, .getfield 155, 3), (17, .istore_n 1, 1), (18, .iconst (-1), 1), (19, .istore_n 2, 1), (20, .iconst 0, 1), (21, .istore_n 3, 1), (22, .iload_n 3, 1), (23, .aload_n 0, 1), (24, .getfield 10, 3), (27, .getfield 91, 3), (30, .if_icmp .ge 48, 3), (33, .aload_n 0, 1), (34, .invokevirtual 165, 3), (37, .aload_n 0, 1), (38, .getfield 16, 3), (41, .iload_n 3, 1), (42, .invokevirtual 184, 3), (45, .aload_n 0, 1), (46, .bipush 12, 2), (48, .invokevirtual 168, 3), (51, .aload_n 0, 1), (52, .getfield 16, 3), (55, .getfield 155, 3), (58, .iload_n 1, 1), (59, .if_icmp .le 13, 3), (62, .aload_n 0, 1), (63, .getfield 16, 3), (66, .getfield 155, 3), (69, .istore_n 1, 1), (70, .iload_n 3, 1), (71, .istore_n 2, 1), (72, .iinc 3 1, 3), (75, .goto (-53), 3), (78, .iload_n 2, 1), (79, .ireturn, 1)]
theorem tX5_home_ok : tX5_home.all (dk cX5_home) = true := by decide +kernel
theorem dX5_home (k : Nat) {pc len : Nat} {i : Instr} (hk : tX5_home[k]? = some (pc, i, len)) : decode cX5_home pc = .ok (i, len) := dt_of tX5_home_ok k hk
def tX5_turn : List (Nat × Instr × Nat) := [(0, .aload_n 0, 1), (1, .getfield 10, 3), (4, .invokevirtual 187, 3), (7, .aload_n 0, 1), (8, .getfield 10, 3), (11, .invokevirtual 190, 3), (14, .ireturn, 1)]
theorem tX5_turn_ok : tX5_turn.all (dk cX5_turn) = true := by decide +kernel
theorem dX5_turn (k : Nat) {pc len : Nat} {i : Instr} (hk : tX5_turn[k]? = some (pc, i, len)) : decode cX5_turn pc = .ok (i, len) := dt_of tX5_turn_ok k hk
def tX5_when : List (Nat × Instr × Nat) := [(0, .aload_n 0, 1), (1, .iconst (-1), 1), (2, .invokevirtual 193, 3), (5, .istore_n 1, 1), (6, .iconst (-1), 1), (7, .istore_n 2, 1), (8, .iconst 0, 1), (9, .istore_n 3, 1), (10, .iload_n 3, 1), (11, .bipush 12, 2), (13, .if_icmp .ge 27, 3), (16, .aload_n 0, 1), (17, .iload_n 3, 1), (18, .invokevirtual 193, 3), (21, .istore 4, 2), (23, .iload 4, 2), (25, .iload_n 1, 1), (26, .if_icmp .le 8, 3), (29, .iload 4, 2), (31, .istore_n 1, 1), (32, .iload_n 3, 1), (33, .istore_n 2, 1), (34, .iinc 3 1, 3), (37, .goto (-27), 3), (40, .iload_n 2, 1), (41, .ireturn, 1)]
theorem tX5_when_ok : tX5_when.all (dk cX5_when) = true := by decide +kernel
theorem dX5_when (k : Nat) {pc len : Nat} {i : Instr} (hk : tX5_when[k]? = some (pc, i, len)) : decode cX5_when pc = .ok (i, len) := dt_of tX5_when_ok k hk
def tX5_stop : List (Nat × Instr × Nat) := [(0, .iload_n 1, 1), (1, .ldc 196, 2), (3, .invokestatic 87, 3), (6, .ifCond .ne 6, 3), (9, .bipush (-2), 2), (11, .ireturn, 1), (12, .aload_n 0, 1), (13, .invokevirtual 165, 3), (16, .iconst 0, 1), (17, .istore_n 2, 1), (18, .iload_n 2, 1), (19, .bipush 40, 2), (21, .if_icmp .ge 37, 3), (24, .aload_n 0, 1), (25, .getfield 16, 3), (28, .getfield 155, 3), (31, .istore_n 3, 1), (32, .aload_n 0, 1), (33, .iconst 1, 1), (34, .invokevirtual 168, 3), (37, .aload_n 0, 1), (38, .getfield 16, 3), (41, .getfield 155, 3), (44, .iload_n 3, 1), (45, .isub, 1), (46, .iload_n 1, 1), (47, .if_icmp .ge 5, 3), (50, .iload_n 2, 1), (51, .ireturn, 1), (52, .iinc 2 1, 3), (55, .goto (-37), 3), (58, .iconst (-1), 1), (59, .ireturn, 1)]
theorem tX5_stop_ok : tX5_stop.all (dk cX5_stop) = true := by decide +kernel
theorem dX5_stop (k : Nat) {pc len : Nat} {i : Instr} (hk : tX5_stop[k]? = some (pc, i, len)) : decode cX5_stop pc = .ok (i, len) := dt_of tX5_stop_ok k hk
def tX5_fewest : List (Nat × Instr × Nat) := [(0, .iload_n 1, 1), (1, .ldc 197, 2), (3, .invokestatic 87, 3), (6, .ifCond .ne 6, 3), (9, .bipush (-2), 2), (11, .ireturn, 1), (12, .iconst 1, 1), (13, .istore_n 2, 1), (14, .iload_n 2, 1), (15, .aload_n 0, 1), (16, .getfield 10, 3), (19, .getfield 91, 3), (22, .if_icmp .gt 40, 3), (25, .aload_n 0, 1), (26, .invokevirtual 165, 3), (29, .aload_n 0, 1), (30, .getfield 16, 3), (33, .iload_n 2, 1), (34, .putfield 91, 3), (37, .aload_n 0, 1), (38, .bipush 12, 2), (40, .invokevirtual 168, 3), (43, .aload_n 0, 1), (44, .getfield 16, 3), (47, .getfield 155, 3), (50, .iload_n 1, 1), (51, .if_icmp .lt 5, 3), (54, .iload_n 2, 1), (55, .ireturn, 1), (56, .iinc 2 1, 3), (59, .goto (-45), 3), (62, .iconst (-1), 1), (63, .ireturn, 1)]
theorem tX5_fewest_ok : tX5_fewest.all (dk cX5_fewest) = true := by decide +kernel
theorem dX5_fewest (k : Nat) {pc len : Nat} {i : Instr} (hk : tX5_fewest[k]? = some (pc, i, len)) : decode cX5_fewest pc = .ok (i, len) := dt_of tX5_fewest_ok k hk
def tX5_judge : List (Nat × Instr × Nat) := [(0, .aload_n 0, 1), (1, .iload_n 1, 1), (2, .invokevirtual 110, 3), (5, .ifCond .eq 10, 3), (8, .iload_n 2, 1), (9, .invokestatic 198, 3), (12, .ifCond .ne 6, 3), (15, .bipush (-2), 2), (17, .ireturn, 1), (18, .aload_n 0, 1), (19, .getfield 52, 3), (22, .iload_n 2, 1), (23, .aaload, 1), (24, .astore_n 3, 1), (25, .aload_n 3, 1), (26, .ifnonnull 6, 3), (29, .bipush (-11), 2), (31, .ireturn, 1), (32, .aload_n 0, 1), (33, .invokevirtual 165, 3), (36, .iconst 0, 1), (37, .istore 4, 2), (39, .iload 4, 2), (41, .aload_n 3, 1), (42, .getfield 201, 3), (45, .arraylength, 1), (46, .if_icmp .ge 36, 3), (49, .aload_n 0, 1), (50, .iconst 1, 1), (51, .invokevirtual 168, 3), (54, .aload_n 0, 1), (55, .getfield 16, 3), (58, .getfield 113, 3), (61, .iload_n 1, 1), (62, .iaload, 1), (63, .aload_n 3, 1), (64, .getfield 201, 3), (67, .iload 4, 2), (69, .iaload, 1), (70, .if_icmp .eq 6, 3), (73, .iload 4, 2), (75, .ireturn, 1), (76, .iinc 4 1, 3), (79, .goto (-40), 3), (82, .iconst (-1), 1), (83, .ireturn, 1)]
theorem tX5_judge_ok : tX5_judge.all (dk cX5_judge) = true := by decide +kernel
theorem dX5_judge (k : Nat) {pc len : Nat} {i : Instr} (hk : tX5_judge[k]? = some (pc, i, len)) : decode cX5_judge pc = .ok (i, len) := dt_of tX5_judge_ok k hk
def tX5_slow : List (Nat × Instr × Nat) := [(0, .aload_n 0, 1), (1, .iload_n 1, 1), (2, .invokevirtual 110, 3), (5, .ifCond .ne 6, 3), (8, .ldc 142, 2), (10, .ireturn, 1), (11, .aload_n 0, 1), (12, .invokevirtual 165, 3), (15, .aload_n 0, 1), (16, .bipush 12, 2), (18, .invokevirtual 168, 3), (21, .aload_n 0, 1), (22, .getfield 16, 3), (25, .invokevirtual 178, 3), (28, .istore_n 2, 1), (29, .aload_n 0, 1), (30, .invokevirtual 165, 3), (33, .aload_n 0, 1), (34, .getfield 16, 3), (37, .getfield 123, 3), (40, .iload_n 1, 1), (41, .iconst 0, 1), (42, .iastore, 1), (43, .aload_n 0, 1), (44, .bipush 12, 2), (46, .invokevirtual 168, 3), (49, .aload_n 0, 1), (50, .getfield 16, 3), (53, .invokevirtual 178, 3), (56, .iload_n 2, 1), (57, .isub, 1), (58, .ireturn, 1)]
theorem tX5_slow_ok : tX5_slow.all (dk cX5_slow) = true := by decide +kernel
theorem dX5_slow (k : Nat) {pc len : Nat} {i : Instr} (hk : tX5_slow[k]? = some (pc, i, len)) : decode cX5_slow pc = .ok (i, len) := dt_of tX5_slow_ok k hk
def tX5_drawn : List (Nat × Instr × Nat) := [(0, .iload_n 2, 1), (1, .bipush 40, 2), (3, .invokestatic 87, 3), (6, .ifCond .ne 6, 3), (9, .bipush (-2), 2), (11, .ireturn, 1), (12, .aload_n 0, 1), (13, .invokevirtual 165, 3), (16, .aload_n 0, 1), (17, .getfield 29, 3), (20, .iload_n 1, 1), (21, .invokevirtual 204, 3), (24, .aload_n 0, 1), (25, .iload_n 2, 1), (26, .invokevirtual 168, 3), (29, .aload_n 0, 1), (30, .getfield 29, 3), (33, .getfield 172, 3), (36, .ireturn, 1)]
theorem tX5_drawn_ok : tX5_drawn.all (dk cX5_drawn) = true := by decide +kernel
theorem dX5_drawn (k : Nat) {pc len : Nat} {i : Instr} (hk : tX5_drawn[k]? = some (pc, i, len)) : decode cX5_drawn pc = .ok (i, len) := dt_of tX5_drawn_ok k hk
def tX5_once : List (Nat × Instr × Nat) := [(0, .iload_n 1, 1), (1, .invokestatic 97, 3), (4, .ifCond .eq 11, 3), (7, .iload_n 2, 1), (8, .iconst 1, 1), (9, .invokestatic 87, 3), (12, .ifCond .ne 7, 3), (15, .ldc2_w 207, 3), (18, .lreturn, 1), (19, .aload_n 0, 1), (20, .invokevirtual 165, 3), (23, .aload_n 0, 1), (24, .getfield 29, 3), (27, .aload_n 0, 1), (28, .getfield 16, 3), (31, .aload_n 0, 1), (32, .getfield 42, 3), (35, .aload_n 0, 1), (36, .getfield 10, 3), (39, .getfield 152, 3), (42, .aaload, 1), (43, .iload_n 1, 1), (44, .invokevirtual 209, 3), (47, .iload_n 2, 1), (48, .ifCond .ne 16, 3), (51, .aload_n 0, 1), (52, .getfield 16, 3), (55, .getfield 100, 3), (58, .iload_n 1, 1), (59, .iaload, 1), (60, .i2l, 1), (61, .goto 11, 3), (64, .aload_n 0, 1), (65, .getfield 16, 3), (68, .getfield 155, 3), (71, .i2l, 1), (72, .lreturn, 1)]
theorem tX5_once_ok : tX5_once.all (dk cX5_once) = true := by decide +kernel
theorem dX5_once (k : Nat) {pc len : Nat} {i : Instr} (hk : tX5_once[k]? = some (pc, i, len)) : decode cX5_once pc = .ok (i, len) := dt_of tX5_once_ok k hk
def tX5_image : List (Nat × Instr × Nat) := [(0, .aload_n 0, 1), (1, .getfield 19, 3), (4, .aload_n 0, 1), (5, .getfield 10, 3), (8, .invokevirtual 213, 3), (11, .aload_n 0, 1), (12, .iconst 1, 1), (13, .putfield 22, 3), (16, .aload_n 0, 1), (17, .getfield 10, 3), (20, .getfield 217, 3), (23, .ireturn, 1)]
theorem tX5_image_ok : tX5_image.all (dk cX5_image) = true := by decide +kernel
theorem dX5_image (k : Nat) {pc len : Nat} {i : Instr} (hk : tX5_image[k]? = some (pc, i, len)) : decode cX5_image pc = .ok (i, len) := dt_of tX5_image_ok k hk
def tX5_back : List (Nat × Instr × Nat) := [(0, .aload_n 0, 1), (1, .getfield 22, 3), (4, .ifCond .ne 6, 3), (7, .bipush (-3), 2), (9, .ireturn, 1), (10, .aload_n 0, 1), (11, .getfield 10, 3), (14, .aload_n 0, 1), (15, .getfield 19, 3), (18, .invokevirtual 213, 3), (21, .aload_n 0, 1), (22, .getfield 10, 3), (25, .getfield 217, 3), (28, .ireturn, 1)]
theorem tX5_back_ok : tX5_back.all (dk cX5_back) = true := by decide +kernel
theorem dX5_back (k : Nat) {pc len : Nat} {i : Instr} (hk : tX5_back[k]? = some (pc, i, len)) : decode cX5_back pc = .ok (i, len) := dt_of tX5_back_ok k hk
def tX5_count : List (Nat × Instr × Nat) := [(0, .iload_n 1, 1), (1, .tableswitch 96 0 6 #[43, 51, 59, 67, 75, 80, 88], 43), (44, .aload_n 0, 1), (45, .getfield 10, 3), (48, .getfield 91, 3), (51, .ireturn, 1), (52, .aload_n 0, 1), (53, .getfield 10, 3), (56, .getfield 116, 3), (59, .ireturn, 1), (60, .aload_n 0, 1), (61, .getfield 10, 3), (64, .getfield 217, 3), (67, .ireturn, 1), (68, .aload_n 0, 1), (69, .getfield 10, 3), (72, .getfield 155, 3), (75, .ireturn, 1), (76, .aload_n 0, 1), (77, .getfield 46, 3), (80, .ireturn, 1), (81, .aload_n 0, 1), (82, .getfield 36, 3), (85, .getfield 146, 3), (88, .ireturn, 1), (89, .aload_n 0, 1), (90, .getfield 10, 3), (93, .getfield 152, 3), (96, .ireturn, 1), (97, .bipush (-2), 2), (99, .ireturn, 1)]
theorem tX5_count_ok : tX5_count.all (dk cX5_count) = true := by decide +kernel
theorem dX5_count (k : Nat) {pc len : Nat} {i : Instr} (hk : tX5_count[k]? = some (pc, i, len)) : decode cX5_count pc = .ok (i, len) := dt_of tX5_count_ok k hk
def tX5_sheet : List (Nat × Instr × Nat) := [(0, .iload_n 1, 1), (1, .invokestatic 198, 3), (4, .ifCond .eq 13, 3), (7, .iload_n 2, 1), (8, .iconst (-1), 1), (9, .if_icmp .lt 8, 3), (12, .iload_n 2, 1), (13, .iconst 2, 1), (14, .if_icmp .le 6, 3), (17, .bipush (-2), 2), (19, .ireturn, 1), (20, .iload_n 2, 1), (21, .iconst (-1), 1), (22, .if_icmp .ne 12, 3), (25, .aload_n 0, 1), (26, .getfield 52, 3), (29, .iload_n 1, 1), (30, .aconst_null, 1), (31, .aastore, 1), (32, .iconst 1, 1), (33, .ireturn, 1), (34, .iload_n 3, 1), (35, .bipush 40, 2), (37, .if_icmp .le 6, 3), (40, .bipush (-2), 2), (42, .ireturn, 1), (43, .iload_n 3, 1), (44, .ifCond .ge 6, 3), (47, .bipush (-14), 2), (49, .ireturn, 1), (50, .aload_n 0, 1), (51, .getfield 52, 3), (54, .iload_n 1, 1), (55, .new 50, 3), (58, .dup, 1), (59, .iload_n 2, 1), (60, .iload_n 3, 1), (61, .invokespecial 220, 3), (64, .aastore, 1), (65, .iconst 1, 1), (66, .ireturn, 1)]
theorem tX5_sheet_ok : tX5_sheet.all (dk cX5_sheet) = true := by decide +kernel
theorem dX5_sheet (k : Nat) {pc len : Nat} {i : Instr} (hk : tX5_sheet[k]? = some (pc, i, len)) : decode cX5_sheet pc = .ok (i, len) := dt_of tX5_sheet_ok k hk
def tX5_cell : List (Nat × Instr × Nat) := [(0, .iload_n 1, 1), (1, .invokestatic 198, 3), (4, .ifCond .ne 6, 3), (7, .bipush (-2), 2), (9, .ireturn, 1), (10, .aload_n 0, 1), (11, .getfield 52, 3), (14, .iload_n 1, 1), (15, .aaload, 1), (16, .astore 4, 2), (18, .aload 4, 2), (20, .ifnonnull 6, 3), (23, .bipush (-11), 2), (25, .ireturn, 1), (26, .aload 4, 2), (28, .iload_n 2, 1), (29, .iload_n 3, 1), (30, .invokevirtual 223, 3), (33, .ifCond .eq 7, 3), (36, .iconst 1, 1), (37, .goto 5, 3), (40, .bipush (-12), 2), (42, .ireturn, 1)]
theorem tX5_cell_ok : tX5_cell.all (dk cX5_cell) = true := by decide +kernel
theorem dX5_cell (k : Nat) {pc len : Nat} {i : Instr} (hk : tX5_cell[k]? = some (pc, i, len)) : decode cX5_cell pc = .ok (i, len) := dt_of tX5_cell_ok k hk
def tX5_copy : List (Nat × Instr × Nat) := [(0, .iload_n 1, 1), (1, .invokestatic 198, 3), (4, .ifCond .eq 10, 3), (7, .iload_n 3, 1), (8, .invokestatic 198, 3), (11, .ifCond .ne 6, 3), (14, .bipush (-2), 2), (16, .ireturn, 1), (17, .aload_n 0, 1), (18, .getfield 52, 3), (21, .iload_n 1, 1), (22, .aaload, 1), (23, .astore 6, 2), (25, .aload_n 0, 1), (26, .getfield 52, 3), (29, .iload_n 3, 1), (30, .aaload, 1), (31, .astore 7, 2), (33, .aload 6, 2), (35, .ifnull 8, 3), (38, .aload 7, 2), (40, .ifnonnull 6, 3), (43, .bipush (-11), 2), (45, .ireturn, 1), (46, .aload 6, 2), (48, .getfield 226, 3), (51, .aload 7, 2), (53, .getfield 226, 3), (56, .if_icmp .eq 6, 3), (59, .bipush (-13), 2), (61, .ireturn, 1), (62, .aload 6, 2), (64, .iload_n 2, 1), (65, .iload 5, 2), (67, .invokevirtual 229, 3), (70, .ifCond .eq 15, 3), (73, .aload 7, 2), (75, .iload 4, 2), (77, .iload 5, 2), (79, .invokevirtual 229, 3), (82, .ifCond .ne 6, 3), (85, .bipush (-12), 2), (87, .ireturn, 1), (88, .aload 6, 2), (90, .getfield 201, 3), (93, .iload_n 2, 1), (94, .aload 7, 2), (96, .getfield 201, 3), (99, .iload 4, 2), (101, .iload 5, 2), (103, .invokestatic 232, 3), (106, .iload 5, 2), (108, .ireturn, 1)]
theorem tX5_copy_ok : tX5_copy.all (dk cX5_copy) = true := by decide +kernel
theorem dX5_copy (k : Nat) {pc len : Nat} {i : Instr} (hk : tX5_copy[k]? = some (pc, i, len)) : decode cX5_copy pc = .ok (i, len) := dt_of tX5_copy_ok k hk
def tX5_men : List (Nat × Instr × Nat) := [(0, .iload_n 1, 1), (1, .invokestatic 198, 3), (4, .ifCond .eq 21, 3), (7, .iload_n 2, 1), (8, .ifCond .lt 17, 3), (11, .iload_n 2, 1), (12, .iconst 2, 1), (13, .if_icmp .gt 12, 3), (16, .iload 4, 2), (18, .iconst 5, 1), (19, .invokestatic 87, 3), (22, .ifCond .ne 6, 3), (25, .bipush (-2), 2), (27, .ireturn, 1), (28, .aload_n 0, 1), (29, .getfield 52, 3), (32, .iload_n 1, 1), (33, .aaload, 1), (34, .astore 5, 2), (36, .aload 5, 2), (38, .ifnull 15, 3), (41, .aload 5, 2), (43, .getfield 226, 3), (46, .iload_n 2, 1), (47, .if_icmp .eq 6, 3), (50, .bipush (-13), 2), (52, .ireturn, 1), (53, .aload 5, 2), (55, .ifnonnull 6, 3), (58, .bipush (-11), 2), (60, .ireturn, 1), (61, .iconst 0, 1), (62, .istore 6, 2), (64, .iload_n 3, 1), (65, .istore 7, 2), (67, .iconst 0, 1), (68, .istore 8, 2), (70, .iload 8, 2), (72, .iload 4, 2), (74, .if_icmp .ge 64, 3), (77, .aload 5, 2), (79, .iload 7, 2), (81, .iconst 3, 1), (82, .invokevirtual 229, 3), (85, .ifCond .ne 6, 3), (88, .bipush (-12), 2), (90, .ireturn, 1), (91, .aload_n 0, 1), (92, .aload 5, 2), (94, .getfield 201, 3), (97, .iload 7, 2), (99, .iaload, 1), (100, .aload 5, 2), (102, .getfield 201, 3), (105, .iload 7, 2), (107, .iconst 1, 1), (108, .iadd, 1), (109, .iaload, 1), (110, .aload 5, 2), (112, .getfield 201, 3), (115, .iload 7, 2), (117, .iconst 2, 1), (118, .iadd, 1), (119, .iaload, 1), (120, .invokevirtual 238, 3), (123, .ifCond .lt 6, 3), (126, .iinc 6 1, 3), (129, .iinc 7 3, 3), (132, .iinc 8 1, 3), (135, .goto (-65), 3), (138, .iload 6, 2), (140, .ireturn, 1)]
theorem tX5_men_ok : tX5_men.all (dk cX5_men) = true := by decide +kernel
theorem dX5_men (k : Nat) {pc len : Nat} {i : Instr} (hk : tX5_men[k]? = some (pc, i, len)) : decode cX5_men pc = .ok (i, len) := dt_of tX5_men_ok k hk
def tX5_taken : List (Nat × Instr × Nat) := [(0, .iload_n 2, 1), (1, .ifCond .lt 8, 3), (4, .iload_n 2, 1), (5, .iconst 5, 1), (6, .if_icmp .le 6, 3), (9, .bipush (-2), 2), (11, .ireturn, 1), (12, .aload_n 0, 1), (13, .iload_n 1, 1), (14, .invokevirtual 110, 3), (17, .ifCond .ne 6, 3), (20, .bipush (-11), 2), (22, .ireturn, 1), (23, .aload_n 0, 1), (24, .getfield 10, 3), (27, .getfield 133, 3), (30, .iload_n 1, 1), (31, .iaload, 1), (32, .iload_n 2, 1), (33, .invokestatic 241, 3), (36, .ifCond .eq 15, 3), (39, .aload_n 0, 1), (40, .getfield 10, 3), (43, .getfield 123, 3), (46, .iload_n 1, 1), (47, .iaload, 1), (48, .goto 5, 3), (51, .bipush (-13), 2), (53, .ireturn, 1)]
theorem tX5_taken_ok : tX5_taken.all (dk cX5_taken) = true := by decide +kernel
theorem dX5_taken (k : Nat) {pc len : Nat} {i : Instr} (hk : tX5_taken[k]? = some (pc, i, len)) : decode cX5_taken pc = .ok (i, len) := dt_of tX5_taken_ok k hk
def tX5_within : List (Nat × Instr × Nat) := [(0, .iload_n 0, 1), (1, .ifCond .lt 12, 3), (4, .iload_n 0, 1), (5, .iload_n 1, 1), (6, .if_icmp .gt 7, 3), (9, .iconst 1, 1), (10, .goto 4, 3), (13, .iconst 0, 1), (14, .ireturn, 1)]
theorem tX5_within_ok : tX5_within.all (dk cX5_within) = true := by decide +kernel
theorem dX5_within (k : Nat) {pc len : Nat} {i : Instr} (hk : tX5_within[k]? = some (pc, i, len)) : decode cX5_within pc = .ok (i, len) := dt_of tX5_within_ok k hk
def tX5_isCell : List (Nat × Instr × Nat) := [(0, .iload_n 0, 1), (1, .ifCond .lt 13, 3), (4, .iload_n 0, 1), (5, .bipush 12, 2), (7, .if_icmp .ge 7, 3), (10, .iconst 1, 1), (11, .goto 4, 3), (14, .iconst 0, 1), (15, .ireturn, 1)]
theorem tX5_isCell_ok : tX5_isCell.all (dk cX5_isCell) = true := by decide +kernel
theorem dX5_isCell (k : Nat) {pc len : Nat} {i : Instr} (hk : tX5_isCell[k]? = some (pc, i, len)) : decode cX5_isCell pc = .ok (i, len) := dt_of tX5_isCell_ok k hk
def tX5_isMan : List (Nat × Instr × Nat) := [(0, .iload_n 1, 1), (1, .ifCond .lt 18, 3), (4, .iload_n 1, 1), (5, .aload_n 0, 1), (6, .getfield 10, 3), (9, .getfield 91, 3), (12, .if_icmp .ge 7, 3), (15, .iconst 1, 1), (16, .goto 4, 3), (19, .iconst 0, 1), (20, .ireturn, 1)]
theorem tX5_isMan_ok : tX5_isMan.all (dk cX5_isMan) = true := by decide +kernel
theorem dX5_isMan (k : Nat) {pc len : Nat} {i : Instr} (hk : tX5_isMan[k]? = some (pc, i, len)) : decode cX5_isMan pc = .ok (i, len) := dt_of tX5_isMan_ok k hk
def tX5_isSheet : List (Nat × Instr × Nat) := [(0, .iload_n 0, 1), (1, .ifCond .lt 12, 3), (4, .iload_n 0, 1), (5, .iconst 4, 1), (6, .if_icmp .ge 7, 3), (9, .iconst 1, 1), (10, .goto 4, 3), (13, .iconst 0, 1), (14, .ireturn, 1)]
theorem tX5_isSheet_ok : tX5_isSheet.all (dk cX5_isSheet) = true := by decide +kernel
theorem dX5_isSheet (k : Nat) {pc len : Nat} {i : Instr} (hk : tX5_isSheet[k]? = some (pc, i, len)) : decode cX5_isSheet pc = .ok (i, len) := dt_of tX5_isSheet_ok k hk
def tX5_bounded : List (Nat × Instr × Nat) := [(0, .iload_n 1, 1), (1, .iload_n 2, 1), (2, .iload_n 0, 1), (3, .invokestatic 244, 3), (6, .invokestatic 249, 3), (9, .ireturn, 1)]
theorem tX5_bounded_ok : tX5_bounded.all (dk cX5_bounded) = true := by decide +kernel
theorem dX5_bounded (k : Nat) {pc len : Nat} {i : Instr} (hk : tX5_bounded[k]? = some (pc, i, len)) : decode cX5_bounded pc = .ok (i, len) := dt_of tX5_bounded_ok k hk
def tX5_exchange : List (Nat × Instr × Nat) := [(0, .aload_n 0, 1), (1, .iload_n 1, 1), (2, .iaload, 1), (3, .istore_n 3, 1), (4, .aload_n 0, 1), (5, .iload_n 1, 1), (6, .iload_n 2, 1), (7, .iastore, 1), (8, .iload_n 3, 1), (9, .ireturn, 1)]
theorem tX5_exchange_ok : tX5_exchange.all (dk cX5_exchange) = true := by decide +kernel
theorem dX5_exchange (k : Nat) {pc len : Nat} {i : Instr} (hk : tX5_exchange[k]? = some (pc, i, len)) : decode cX5_exchange pc = .ok (i, len) := dt_of tX5_exchange_ok k hk
def tX5_held : List (Nat × Instr × Nat) := [(0, .iload_n 1, 1), (1, .ifCond .gt 5, 3), (4, .iconst 0, 1), (5, .ireturn, 1), (6, .iload_n 0, 1), (7, .iload_n 1, 1), (8, .irem, 1), (9, .istore_n 2, 1), (10, .iload_n 2, 1), (11, .ifCond .ge 9, 3), (14, .iload_n 2, 1), (15, .iload_n 1, 1), (16, .iadd, 1), (17, .goto 4, 3), (20, .iload_n 2, 1), (21, .ireturn, 1)]
theorem tX5_held_ok : tX5_held.all (dk cX5_held) = true := by decide +kernel
theorem dX5_held (k : Nat) {pc len : Nat} {i : Instr} (hk : tX5_held[k]? = some (pc, i, len)) : decode cX5_held pc = .ok (i, len) := dt_of tX5_held_ok k hk
def tX5_isUnder : List (Nat × Instr × Nat) := [(0, .iload_n 0, 1), (1, .istore_n 2, 1), (2, .iconst 0, 1), (3, .istore_n 3, 1), (4, .iload_n 3, 1), (5, .getstatic 252, 3), (8, .arraylength, 1), (9, .if_icmp .ge 34, 3), (12, .iload_n 2, 1), (13, .ifCond .lt 30, 3), (16, .iload_n 2, 1), (17, .getstatic 252, 3), (20, .arraylength, 1), (21, .if_icmp .ge 22, 3), (24, .iload_n 2, 1), (25, .iload_n 1, 1), (26, .if_icmp .ne 5, 3), (29, .iconst 1, 1), (30, .ireturn, 1), (31, .getstatic 252, 3), (34, .iload_n 2, 1), (35, .iaload, 1), (36, .istore_n 2, 1), (37, .iinc 3 1, 3), (40, .goto (-36), 3), (43, .iconst 0, 1), (44, .ireturn, 1)]
theorem tX5_isUnder_ok : tX5_isUnder.all (dk cX5_isUnder) = true := by decide +kernel
theorem dX5_isUnder (k : Nat) {pc len : Nat} {i : Instr} (hk : tX5_isUnder[k]? = some (pc, i, len)) : decode cX5_isUnder pc = .ok (i, len) := dt_of tX5_isUnder_ok k hk
def tX5_beginTrial : List (Nat × Instr × Nat) := [(0, .aload_n 0, 1), (1, .getfield 16, 3), (4, .aload_n 0, 1), (5, .getfield 10, 3), (8, .invokevirtual 213, 3), (11, .aload_n 0, 1), (12, .getfield 16, 3), (15, .iconst 0, 1), (16, .putfield 155, 3), (19, .aload_n 0, 1), (20, .getfield 29, 3), (23, .invokevirtual 158, 3), (26, .return_, 1)]
theorem tX5_beginTrial_ok : tX5_beginTrial.all (dk cX5_beginTrial) = true := by decide +kernel
theorem dX5_beginTrial (k : Nat) {pc len : Nat} {i : Instr} (hk : tX5_beginTrial[k]? = some (pc, i, len)) : decode cX5_beginTrial pc = .ok (i, len) := dt_of tX5_beginTrial_ok k hk
def tX5_tryRounds : List (Nat × Instr × Nat) := [(0, .aload_n 0, 1), (1, .getfield 42, 3), (4, .aload_n 0, 1), (5, .getfield 10, 3), (8, .getfield 152, 3), (11, .aaload, 1), (12, .astore_n 2, 1), (13, .iconst 0, 1), (14, .istore_n 3, 1), (15, .iload_n 3, 1), (16, .iload_n 1, 1), (17, .if_icmp .ge 21, 3), (20, .aload_n 0, 1), (21, .getfield 29, 3), (24, .aload_n 0, 1), (25, .getfield 16, 3), (28, .aload_n 2, 1), (29, .invokevirtual 161, 3), (32, .iinc 3 1, 3), (35, .goto (-20), 3), (38, .return_, 1)]
theorem tX5_tryRounds_ok : tX5_tryRounds.all (dk cX5_tryRounds) = true := by decide +kernel
theorem dX5_tryRounds (k : Nat) {pc len : Nat} {i : Instr} (hk : tX5_tryRounds[k]? = some (pc, i, len)) : decode cX5_tryRounds pc = .ok (i, len) := dt_of tX5_tryRounds_ok k hk
def tX5_outTurnedAhead : List (Nat × Instr × Nat) := [(0, .aload_n 0, 1), (1, .invokevirtual 165, 3), (4, .iconst 0, 1), (5, .istore_n 2, 1), (6, .iload_n 2, 1), (7, .bipush 12, 2), (9, .if_icmp .ge 26, 3), (12, .iload_n 2, 1), (13, .iload_n 1, 1), (14, .if_icmp .ne 10, 3), (17, .aload_n 0, 1), (18, .getfield 16, 3), (21, .invokevirtual 187, 3), (24, .aload_n 0, 1), (25, .iconst 1, 1), (26, .invokevirtual 168, 3), (29, .iinc 2 1, 3), (32, .goto (-26), 3), (35, .aload_n 0, 1), (36, .getfield 16, 3), (39, .getfield 155, 3), (42, .ireturn, 1)]
theorem tX5_outTurnedAhead_ok : tX5_outTurnedAhead.all (dk cX5_outTurnedAhead) = true := by decide +kernel
theorem dX5_outTurnedAhead (k : Nat) {pc len : Nat} {i : Instr} (hk : tX5_outTurnedAhead[k]? = some (pc, i, len)) : decode cX5_outTurnedAhead pc = .ok (i, len) := dt_of tX5_outTurnedAhead_ok k hk
def tX5_seekOrder : List (Nat × Instr × Nat) := [(0, .aload_n 0, 1), (1, .getfield 10, 3), (4, .getfield 91, 3), (7, .istore_n 1, 1), (8, .iconst 0, 1), (9, .istore_n 2, 1), (10, .iload_n 2, 1), (11, .iload_n 1, 1), (12, .if_icmp .ge 16, 3), (15, .aload_n 0, 1), (16, .getfield 56, 3), (19, .iload_n 2, 1), (20, .iload_n 2, 1), (21, .iastore, 1), (22, .iinc 2 1, 3), (25, .goto (-15), 3), (28, .iconst 0, 1), (29, .istore_n 2, 1), (30, .iconst 0, 1), (31, .istore_n 3, 1), (32, .iconst 1, 1), (33, .istore 4, 2), (35, .iconst 0, 1), (36, .istore 5, 2), (38, .iload 5, 2), (40, .bipush 120, 2), (42, .if_icmp .ge 114, 3), (45, .iload 4, 2), (47, .ifCond .eq 109, 3), (50, .aload_n 0, 1), (51, .invokevirtual 165, 3), (54, .aload_n 0, 1), (55, .getfield 16, 3), (58, .aload_n 0, 1), (59, .getfield 10, 3), (62, .aload_n 0, 1), (63, .getfield 56, 3), (66, .invokevirtual 255, 3), (69, .aload_n 0, 1), (70, .bipush 12, 2), (72, .invokevirtual 168, 3), (75, .iload 5, 2), (77, .ifCond .eq 36, 3), (80, .aload_n 0, 1), (81, .getfield 29, 3), (84, .getfield 172, 3), (87, .iload_n 2, 1), (88, .if_icmp .lt 25, 3), (91, .aload_n 0, 1), (92, .getfield 29, 3), (95, .getfield 172, 3), (98, .iload_n 2, 1), (99, .if_icmp .ne 44, 3), (102, .aload_n 0, 1), (103, .getfield 16, 3), (106, .getfield 155, 3), (109, .iload_n 3, 1), (110, .if_icmp .le 33, 3), (113, .aload_n 0, 1), (114, .getfield 29, 3), (117, .getfield 172, 3), (120, .istore_n 2, 1), (121, .aload_n 0, 1), (122, .getfield 16, 3), (125, .getfield 155, 3), (128, .istore_n 3, 1), (129, .aload_n 0, 1), (130, .getfield 56, 3), (133, .iconst 0, 1), (134, .aload_n 0, 1), (135, .getfield 60, 3), (138, .iconst 0, 1), (139, .iload_n 1, 1), (140, .invokestatic 232, 3), (143, .aload_n 0, 1), (144, .iload_n 1, 1), (145, .invokevirtual 259, 3), (148, .istore 4, 2), (150, .iinc 5 1, 3), (153, .goto (-115), 3), (156, .iload_n 2, 1), (157, .ireturn, 1)]
theorem tX5_seekOrder_ok : tX5_seekOrder.all (dk cX5_seekOrder) = true := by decide +kernel
theorem dX5_seekOrder (k : Nat) {pc len : Nat} {i : Instr} (hk : tX5_seekOrder[k]? = some (pc, i, len)) : decode cX5_seekOrder pc = .ok (i, len) := dt_of tX5_seekOrder_ok k hk
def tX5_nextRow : List (Nat × Instr × Nat) := [(0, .iload_n 1, 1), (1, .iconst 2, 1), (2, .isub, 1), (3, .istore_n 2, 1), (4, .iload_n 2, 1), (5, .ifCond .lt 26, 3), (8, .aload_n 0, 1), (9, .getfield 56, 3), (12, .iload_n 2, 1), (13, .iaload, 1), (14, .aload_n 0, 1), (15, .getfield 56, 3), (18, .iload_n 2, 1), (19, .iconst 1, 1), (20, .iadd, 1), (21, .iaload, 1), (22, .if_icmp .le 9, 3), (25, .iinc 2 (-1), 3), (28, .goto (-24), 3), (31, .iload_n 2, 1), (32, .ifCond .ge 5, 3), (35, .iconst 0, 1), (36, .ireturn, 1), (37, .iload_n 1, 1), (38, .iconst 1, 1), (39, .isub, 1), (40, .istore_n 3, 1), (41, .iload_n 3, 1), (42, .iload_n 2, 1), (43, .if_icmp .le 24, 3), (46, .aload_n 0, 1), (47, .getfield 56, 3), (50, .iload_n 3, 1), (51, .iaload, 1), (52, .aload_n 0, 1), (53, .getfield 56, 3), (56, .iload_n 2, 1), (57, .iaload, 1), (58, .if_icmp .ge 9, 3), (61, .iinc 3 (-1), 3), (64, .goto (-23), 3), (67, .aload_n 0, 1), (68, .getfield 56, 3), (71, .iload_n 3, 1), (72, .aload_n 0, 1), (73, .getfield 56, 3), (76, .iload_n 2, 1), (77, .aload_n 0, 1), (78, .getfield 56, 3), (81, .iload_n 3, 1), (82, .iaload, 1), (83, .invokestatic 103, 3), (86, .iastore, 1), (87, .iload_n 1, 1), (88, .iconst 1, 1), (89, .isub, 1), (90, .istore 4, 2), (92, .iload_n 2, 1), (93, .iconst 1, 1), (94, .iadd, 1), (95, .istore 5, 2), (97, .iload 5, 2), (99, .iload 4, 2), (101, .if_icmp .ge 35, 3), (104, .aload_n 0, 1), (105, .getfield 56, 3), (108, .iload 4, 2), (110, .aload_n 0, 1), (111, .getfield 56, 3), (114, .iload 5, 2), (116, .aload_n 0, 1), (117, .getfield 56, 3), (120, .iload 4, 2), (122, .iaload, 1), (123, .invokestatic 103, 3), (126, .iastore, 1), (127, .iinc 4 (-1), 3), (130, .iinc 5 1, 3), (133, .goto (-36), 3), (136, .iconst 1, 1), (137, .ireturn, 1)]
theorem tX5_nextRow_ok : tX5_nextRow.all (dk cX5_nextRow) = true := by decide +kernel
theorem dX5_nextRow (k : Nat) {pc len : Nat} {i : Instr} (hk : tX5_nextRow[k]? = some (pc, i, len)) : decode cX5_nextRow pc = .ok (i, len) := dt_of tX5_nextRow_ok k hk
def tX6_in : List (Nat × Instr × Nat) := [(0, .lload_n 0, 1), (1, .lload_n 2, 1), (2, .lcmp, 1), (3, .ifCond .lt 14, 3), (6, .lload_n 0, 1), (7, .lload 4, 2), (9, .lcmp, 1), (10, .ifCond .gt 7, 3), (13, .iconst 1, 1), (14, .goto 4, 3), (17, .iconst 0, 1), (18, .ireturn, 1)]
theorem tX6_in_ok : tX6_in.all (dk cX6_in) = true := by decide +kernel
theorem dX6_in (k : Nat) {pc len : Nat} {i : Instr} (hk : tX6_in[k]? = some (pc, i, len)) : decode cX6_in pc = .ok (i, len) := dt_of tX6_in_ok k hk
def tX6_within : List (Nat × Instr × Nat) := [(0, .iload_n 0, 1), (1, .iload_n 1, 1), (2, .if_icmp .ge 7, 3), (5, .iload_n 1, 1), (6, .goto 13, 3), (9, .iload_n 0, 1), (10, .iload_n 2, 1), (11, .if_icmp .le 7, 3), (14, .iload_n 2, 1), (15, .goto 4, 3), (18, .iload_n 0, 1), (19, .ireturn, 1)]
theorem tX6_within_ok : tX6_within.all (dk cX6_within) = true := by decide +kernel
theorem dX6_within (k : Nat) {pc len : Nat} {i : Instr} (hk : tX6_within[k]? = some (pc, i, len)) : decode cX6_within pc = .ok (i, len) := dt_of tX6_within_ok k hk
def tX6_init : List (Nat × Instr × Nat) := [(0, .aload_n 0, 1), (1, .invokespecial 7, 3), (4, .aload_n 0, 1), (5, .sipush 960, 3), (8, .newarray .int, 2), (10, .putfield 13, 3), (13, .aload_n 0, 1), (14, .bipush 6, 2), (16, .newarray .int, 2), (18, .putfield 17, 3), (21, .aload_n 0, 1), (22, .sipush 160, 3), (25, .newarray .int, 2), (27, .putfield 20, 3), (30, .aload_n 0, 1), (31, .bipush 12, 2), (33, .newarray .int, 2), (35, .putfield 23, 3), (38, .aload_n 0, 1), (39, .bipush 12, 2), (41, .newarray .int, 2), (43, .putfield 26, 3), (46, .aload_n 0, 1), (47, .iconst 5, 1), (48, .newarray .int, 2), (50, .putfield 29, 3), (53, .aload_n 0, 1), (54, .iconst 5, 1), (55, .newarray .int, 2), (57, .putfield 32, 3), (60, .aload_n 0, 1), (61, .iconst 5, 1), (62, .newarray .int, 2), (64, .putfield 35, 3), (67, .aload_n 0, 1), (68, .iconst 5, 1), (69, .newarray .int, 2), (71, .putfield 38, 3), (74, .aload_n 0, 1), (75, .bipush 120, 2), (77, .putfield 41, 3), (80, .aload_n 0, 1), (81, .bipush 12, 2), (83, .newarray .int, 2), (85, .putfield 44, 3), (88, .aload_n 0, 1), (89, .bipush 12, 2), (91, .newarray .int, 2), (93, .putfield 47, 3), (96, .aload_n 0, 1), (97, .iconst 5, 1), (98, .newarray .int, 2), (100, .putfield 50, 3), (103, .aload_n 0, 1), (104, .iconst 5, 1), (105, .newarray .int, 2), (107, .putfield 53, 3), (110, .aload_n 0, 1), (111, .iconst 5, 1), (112, .newarray .int, 2), (114, .putfield 56, 3), (117, .aload_n 0, 1), (118, .iconst 5, 1), (119, .newarray .int, 2), (121, .putfield 59, 3), (124, .aload_n 0, 1), (125, .bipush 12, 2), (127, .newarray .int, 2), (129, .putfield 62, 3), (132, .aload_n 0, 1), (133, .bipush 12, 2), (135, .newarray .int, 2), (137, .putfield 65, 3), (140, .aload_n 0, 1), (141, .iconst 5, 1), (142, .newarray .int, 2), (144, .putfield 68, 3), (147, .aload_n 0, 1), (148, .iconst 5, 1), (149, .newarray .int, 2), (151, .putfield 71, 3), (154, .aload_n 0, 1), (155, .iconst 5, 1), (156, .newarray .int, 2), (158, .putfield 74, 3), (161, .aload_n 0, 1), (162, .iconst (-1), 1), (163, .putfield 77, 3), (166, .aload_n 0, 1), (167, .iconst 4, 1), (168, .newarray .boolean, 2), (170, .putfield 80, 3), (173, .aload_n 0, 1), (174, .iconst 4, 1), (175, .newarray .int, 2), (177, .putfield 84, 3), (180, .aload_n 0, 1), (181, .iconst 4, 1), (182, .newarray .int, 2), (184, .putfield 87, 3), (187, .aload_n 0, 1), (188, .sipush 160, 3), (191, .newarray .int, 2), (193, .putfield 90, 3), (196, .aload_n 0, 1), (197, .iconst 0, 1), (198, .bipush 103, 2), (200, .bipush 105, 2), (202, .bipush 118, 2), (204, .bipush 101, 2), (206, .bipush 115, 2), (208, .bipush 32, 2), (210, .bipush 102, 2), (212, .bipush 111, 2), (214, .invokevirtual 93, 3), (217, .aload_n 0, 1), (218, .bipush 8, 2), (220, .bipush 114, 2), (222, .bipush 99, 2), (224, .bipush 101, 2), (226, .bipush 32, 2), (228, .bipush 45, 2), (230, .bipush 32, 2), (232, .bipush 119, 2), (234, .bipush 101, 2), (236, .invokevirtual 93, 3), (239, .aload_n 0, 1), (240, .bipush 16, 2), (242, .bipush 116, 2), (244, .bipush 32, 2), (246, .bipush 42, 2), (248, .bipush 32, 2), (250, .bipush 51, 2), (252, .bipush 32, 2), (254, .bipush 59, 2), (256, .bipush 32, 2), (258, .invokevirtual 93, 3), (261, .aload_n 0, 1), (262, .bipush 24, 2), (264, .bipush 100, 2), (266, .bipush 114, 2), (268, .bipush 105, 2), (270, .bipush 102, 2), (272, .bipush 116, 2), (274, .bipush 115, 2), (276, .bipush 32, 2), (278, .bipush 116, 2), (280, .invokevirtual 93, 3), (283, .aload_n 0, 1), (284, .bipush 32, 2), (286, .bipush 105, 2), (288, .bipush 114, 2), (290, .bipush 101, 2), (292, .bipush 100, 2), (294, .bipush 32, 2), (296, .bipush 59, 2), (298, .bipush 32, 2), (300, .bipush 104, 2), (302, .invokevirtual 93, 3), (305, .aload_n 0, 1), (306, .bipush 40, 2), (308, .bipush 117, 2), (310, .bipush 114, 2), (312, .bipush 116, 2), (314, .bipush 115, 2), (316, .bipush 32, 2), (318, .bipush 49, 2), (320, .bipush 32, 2), (322, .bipush 59, 2), (324, .invokevirtual 93, 3), (327, .aload_n 0, 1), (328, .getfield 17, 3), (331, .iconst 0, 1), (332, .bipush 48, 2), (334, .iastore, 1), (335, .aload_n 0, 1), (336, .iconst 1, 1), (337, .putfield 97, 3), (340, .iconst 0, 1), (341, .istore_n 1, 1), (342, .iload_n 1, 1), (343, .bipush 12, 2), (345, .if_icmp .ge 25, 3), (348, .aload_n 0, 1), (349, .getfield 23, 3), (352, .iload_n 1, 1), (353, .sipush 1000, 3), (356, .iastore, 1), (357, .aload_n 0, 1), (358, .getfield 26, 3), (361, .iload_n 1, 1), (362, .iconst 2, 1), (363, .iastore, 1), (364, .iinc 1 1, 3), (367, .goto (-25), 3), (370, .return_, 1)]
theorem tX6_init_ok : tX6_init.all (dk cX6_init) = true := by decide +kernel
theorem dX6_init (k : Nat) {pc len : Nat} {i : Instr} (hk : tX6_init[k]? = some (pc, i, len)) : decode cX6_init pc = .ok (i, len) := dt_of tX6_init_ok k hk
def tX6_spell : List (Nat × Instr × Nat) := [(0, .aload_n 0, 1), (1, .getfield 13, 3), (4, .iload_n 1, 1), (5, .iload_n 2, 1), (6, .iastore, 1), (7, .aload_n 0, 1), (8, .getfield 13, 3), (11, .iload_n 1, 1), (12, .iconst 1, 1), (13, .iadd, 1), (14, .iload_n 3, 1), (15, .iastore, 1), (16, .aload_n 0, 1), (17, .getfield 13, 3), (20, .iload_n 1, 1), (21, .iconst 2, 1), (22, .iadd, 1), (23, .iload 4, 2), (25, .iastore, 1), (26, .aload_n 0, 1), (27, .getfield 13, 3), (30, .iload_n 1, 1), (31, .iconst 3, 1), (32, .iadd, 1), (33, .iload 5, 2), (35, .iastore, 1), (36, .aload_n 0, 1), (37, .getfield 13, 3), (40, .iload_n 1, 1), (41, .iconst 4, 1), (42, .iadd, 1), (43, .iload 6, 2), (45, .iastore, 1), (46, .aload_n 0, 1), (47, .getfield 13, 3), (50, .iload_n 1, 1), (51, .iconst 5, 1), (52, .iadd, 1), (53, .iload 7, 2), (55, .iastore, 1), (56, .aload_n 0, 1), (57, .getfield 13, 3), (60, .iload_n 1, 1), (61, .bipush 6, 2), (63, .iadd, 1), (64, .iload 8, 2), (66, .iastore, 1), (67, .aload_n 0, 1), (68, .getfield 13, 3), (71, .iload_n 1, 1), (72, .bipush 7, 2), (74, .iadd, 1), (75, .iload 9, 2), (77, .iastore, 1), (78, .return_, 1)]
theorem tX6_spell_ok : tX6_spell.all (dk cX6_spell) = true := by decide +kernel
theorem dX6_spell (k : Nat) {pc len : Nat} {i : Instr} (hk : tX6_spell[k]? = some (pc, i, len)) : decode cX6_spell pc = .ok (i, len) := dt_of tX6_spell_ok k hk
def tX6_isMan : List (Nat × Instr × Nat) := [(0, .iload_n 1, 1), (1, .i2l, 1), (2, .lconst 0, 1), (3, .aload_n 0, 1), (4, .getfield 100, 3), (7, .iconst 1, 1), (8, .isub, 1), (9, .i2l, 1), (10, .invokestatic 103, 3), (13, .ireturn, 1)]
theorem tX6_isMan_ok : tX6_isMan.all (dk cX6_isMan) = true := by decide +kernel
theorem dX6_isMan (k : Nat) {pc len : Nat} {i : Instr} (hk : tX6_isMan[k]? = some (pc, i, len)) : decode cX6_isMan pc = .ok (i, len) := dt_of tX6_isMan_ok k hk
def tX6_isCell : List (Nat × Instr × Nat) := [(0, .iload_n 0, 1), (1, .i2l, 1), (2, .lconst 0, 1), (3, .ldc2_w 107, 3), (6, .invokestatic 103, 3), (9, .ireturn, 1)]
theorem tX6_isCell_ok : tX6_isCell.all (dk cX6_isCell) = true := by decide +kernel
theorem dX6_isCell (k : Nat) {pc len : Nat} {i : Instr} (hk : tX6_isCell[k]? = some (pc, i, len)) : decode cX6_isCell pc = .ok (i, len) := dt_of tX6_isCell_ok k hk
def tX6_man : List (Nat × Instr × Nat) := [(0, .iload_n 1, 1), (1, .i2l, 1), (2, .lconst 0, 1), (3, .ldc2_w 109, 3), (6, .invokestatic 103, 3), (9, .ifCond .eq 27, 3), (12, .iload_n 2, 1), (13, .i2l, 1), (14, .lconst 0, 1), (15, .ldc2_w 111, 3), (18, .invokestatic 103, 3), (21, .ifCond .eq 15, 3), (24, .iload_n 3, 1), (25, .i2l, 1), (26, .lconst 0, 1), (27, .ldc2_w 113, 3), (30, .invokestatic 103, 3), (33, .ifCond .ne 6, 3), (36, .bipush (-2), 2), (38, .ireturn, 1), (39, .aload_n 0, 1), (40, .getfield 100, 3), (43, .iconst 5, 1), (44, .if_icmp .ne 6, 3), (47, .bipush (-4), 2), (49, .ireturn, 1), (50, .aload_n 0, 1), (51, .getfield 29, 3), (54, .aload_n 0, 1), (55, .getfield 100, 3), (58, .iload_n 1, 1), (59, .iastore, 1), (60, .aload_n 0, 1), (61, .getfield 32, 3), (64, .aload_n 0, 1), (65, .getfield 100, 3), (68, .iload_n 2, 1), (69, .aload_n 0, 1), (70, .getfield 41, 3), (73, .irem, 1), (74, .iastore, 1), (75, .aload_n 0, 1), (76, .getfield 35, 3), (79, .aload_n 0, 1), (80, .getfield 100, 3), (83, .iload_n 3, 1), (84, .bipush 10, 2), (86, .idiv, 1), (87, .iastore, 1), (88, .aload_n 0, 1), (89, .getfield 38, 3), (92, .aload_n 0, 1), (93, .getfield 100, 3), (96, .iload_n 3, 1), (97, .bipush 10, 2), (99, .irem, 1), (100, .iastore, 1), (101, .aload_n 0, 1), (102, .dup, 1), (103, .getfield 100, 3), (106, .iconst 1, 1), (107, .iadd, 1), (108, .putfield 100, 3), (111, .aload_n 0, 1), (112, .getfield 100, 3), (115, .iconst 1, 1), (116, .isub, 1), (117, .ireturn, 1)]
theorem tX6_man_ok : tX6_man.all (dk cX6_man) = true := by decide +kernel
theorem dX6_man (k : Nat) {pc len : Nat} {i : Instr} (hk : tX6_man[k]? = some (pc, i, len)) : decode cX6_man pc = .ok (i, len) := dt_of tX6_man_ok k hk
def tX6_bars : List (Nat × Instr × Nat) := [(0, .aload_n 0, 1), (1, .iload_n 1, 1), (2, .putfield 41, 3), (5, .iconst 0, 1), (6, .istore_n 2, 1), (7, .iload_n 2, 1), (8, .aload_n 0, 1), (9, .getfield 100, 3), (12, .if_icmp .ge 22, 3), (15, .aload_n 0, 1), (16, .getfield 32, 3), (19, .iload_n 2, 1), (20, .dup2, 1), (21, .iaload, 1), (22, .aload_n 0, 1), (23, .getfield 41, 3), (26, .irem, 1), (27, .iastore, 1), (28, .iinc 2 1, 3), (31, .goto (-24), 3), (34, .return_, 1)]
theorem tX6_bars_ok : tX6_bars.all (dk cX6_bars) = true := by decide +kernel
theorem dX6_bars (k : Nat) {pc len : Nat} {i : Instr} (hk : tX6_bars[k]? = some (pc, i, len)) : decode cX6_bars pc = .ok (i, len) := dt_of tX6_bars_ok k hk
def tX6_set : List (Nat × Instr × Nat) := [(0, .iload_n 1, 1), (1, .i2l, 1), (2, .lconst 0, 1), (3, .ldc2_w 109, 3), (6, .invokestatic 103, 3), (9, .ifCond .eq 37, 3), (12, .iload_n 1, 1), (13, .iconst 2, 1), (14, .if_icmp .ge 10, 3), (17, .iload_n 2, 1), (18, .invokestatic 115, 3), (21, .ifCond .eq 25, 3), (24, .iload_n 1, 1), (25, .i2l, 1), (26, .ldc2_w 119, 3), (29, .ldc2_w 121, 3), (32, .invokestatic 103, 3), (35, .ifCond .eq 14, 3), (38, .aload_n 0, 1), (39, .iload_n 2, 1), (40, .invokevirtual 123, 3), (43, .ifCond .ne 6, 3), (46, .bipush (-2), 2), (48, .ireturn, 1), (49, .iload_n 3, 1), (50, .i2l, 1), (51, .iload_n 1, 1), (52, .iconst 5, 1), (53, .if_icmp .ne 9, 3), (56, .ldc2_w 126, 3), (59, .goto 4, 3), (62, .lconst 0, 1), (63, .iload_n 1, 1), (64, .ifCond .ne 9, 3), (67, .ldc2_w 128, 3), (70, .goto 28, 3), (73, .iload_n 1, 1), (74, .iconst 2, 1), (75, .if_icmp .ne 9, 3), (78, .ldc2_w 111, 3), (81, .goto 17, 3), (84, .iload_n 1, 1), (85, .iconst 5, 1), (86, .if_icmp .ne 9, 3), (89, .ldc2_w 130, 3), (92, .goto 6, 3), (95, .ldc2_w 132, 3), (98, .invokestatic 103, 3), (101, .ifCond .ne 6, 3), (104, .bipush (-2), 2), (106, .ireturn, 1), (107, .iload_n 1, 1), (108, .iconst 5, 1), (109, .if_icmp .ne 10, 3), (112, .aload_n 0, 1), (113, .getfield 41, 3), (116, .goto 20, 3), (119, .aload_n 0, 1), (120, .iload_n 2, 1), (121, .iload_n 1, 1), (122, .iconst 2, 1), (123, .if_icmp .ge 7, 3), (126, .iload_n 1, 1), (127, .goto 6, 3), (130, .iload_n 1, 1), (131, .iconst 1, 1), (132, .iadd, 1), (133, .invokevirtual 134, 3), (136, .istore 4, 2), (138, .iload_n 1, 1), (139, .ifCond .ne 13, 3), (142, .aload_n 0, 1), (143, .getfield 23, 3), (146, .iload_n 2, 1), (147, .iload_n 3, 1), (148, .iastore, 1), (149, .goto 73, 3), (152, .iload_n 1, 1), (153, .iconst 1, 1), (154, .if_icmp .ne 13, 3), (157, .aload_n 0, 1), (158, .getfield 26, 3), (161, .iload_n 2, 1), (162, .iload_n 3, 1), (163, .iastore, 1), (164, .goto 58, 3), (167, .iload_n 1, 1), (168, .iconst 2, 1), (169, .if_icmp .ne 18, 3), (172, .aload_n 0, 1), (173, .getfield 32, 3), (176, .iload_n 2, 1), (177, .iload_n 3, 1), (178, .aload_n 0, 1), (179, .getfield 41, 3), (182, .irem, 1), (183, .iastore, 1), (184, .goto 38, 3), (187, .iload_n 1, 1), (188, .iconst 3, 1), (189, .if_icmp .ne 13, 3), (192, .aload_n 0, 1), (193, .getfield 35, 3), (196, .iload_n 2, 1), (197, .iload_n 3, 1), (198, .iastore, 1), (199, .goto 23, 3), (202, .iload_n 1, 1), (203, .iconst 4, 1), (204, .if_icmp .ne 13, 3), (207, .aload_n 0, 1), (208, .getfield 38, 3), (211, .iload_n 2, 1), (212, .iload_n 3, 1), (213, .iastore, 1), (214, .goto 8, 3), (217, .aload_n 0, 1), (218, .iload_n 3, 1), (219, .invokevirtual 138, 3), (222, .iload 4, 2), (224, .ireturn, 1)]
theorem tX6_set_ok : tX6_set.all (dk cX6_set) = true := by decide +kernel
theorem dX6_set (k : Nat) {pc len : Nat} {i : Instr} (hk : tX6_set[k]? = some (pc, i, len)) : decode cX6_set pc = .ok (i, len) := dt_of tX6_set_ok k hk
def tX6_strikes : List (Nat × Instr × Nat) := [(0, .aload_n 0, 1), (1, .getfield 29, 3), (4, .iload_n 1, 1), (5, .iaload, 1), (6, .istore_n 2, 1), (7, .bipush 10, 2), (9, .aload_n 0, 1), (10, .getfield 35, 3), (13, .iload_n 1, 1), (14, .iaload, 1), (15, .imul, 1), (16, .istore_n 3, 1), (17, .iload_n 3, 1), (18, .istore 4, 2), (20, .iload_n 2, 1), (21, .iconst 1, 1), (22, .if_icmp .eq 8, 3), (25, .iload_n 2, 1), (26, .iconst 4, 1), (27, .if_icmp .ne 15, 3), (30, .iload_n 3, 1), (31, .iconst 5, 1), (32, .aload_n 0, 1), (33, .getfield 38, 3), (36, .iload_n 1, 1), (37, .iaload, 1), (38, .imul, 1), (39, .iadd, 1), (40, .istore 4, 2), (42, .iload_n 2, 1), (43, .iconst 2, 1), (44, .if_icmp .eq 8, 3), (47, .iload_n 2, 1), (48, .iconst 3, 1), (49, .if_icmp .ne 11, 3), (52, .iload_n 3, 1), (53, .aload_n 0, 1), (54, .getfield 142, 3), (57, .isub, 1), (58, .istore 4, 2), (60, .iload_n 2, 1), (61, .iconst 5, 1), (62, .if_icmp .ne 13, 3), (65, .iload_n 3, 1), (66, .aload_n 0, 1), (67, .getfield 142, 3), (70, .isub, 1), (71, .iconst 2, 1), (72, .idiv, 1), (73, .istore 4, 2), (75, .iload 4, 2), (77, .ifCond .ge 7, 3), (80, .iconst 0, 1), (81, .goto 5, 3), (84, .iload 4, 2), (86, .ireturn, 1)]
theorem tX6_strikes_ok : tX6_strikes.all (dk cX6_strikes) = true := by decide +kernel
theorem dX6_strikes (k : Nat) {pc len : Nat} {i : Instr} (hk : tX6_strikes[k]? = some (pc, i, len)) : decode cX6_strikes pc = .ok (i, len) := dt_of tX6_strikes_ok k hk
def tX6_mended : List (Nat × Instr × Nat) := [(0, .aload_n 0, 1), (1, .getfield 29, 3), (4, .iload_n 1, 1), (5, .iaload, 1), (6, .istore_n 3, 1), (7, .iload_n 2, 1), (8, .iconst 2, 1), (9, .idiv, 1), (10, .istore 4, 2), (12, .iload_n 3, 1), (13, .ifCond .ne 6, 3), (16, .iload 4, 2), (18, .ireturn, 1), (19, .iload_n 3, 1), (20, .iconst 1, 1), (21, .if_icmp .eq 8, 3), (24, .iload_n 3, 1), (25, .iconst 4, 1), (26, .if_icmp .ne 22, 3), (29, .iload_n 3, 1), (30, .iconst 1, 1), (31, .if_icmp .ne 10, 3), (34, .iload 4, 2), (36, .iconst 2, 1), (37, .idiv, 1), (38, .goto 9, 3), (41, .iload_n 2, 1), (42, .iload 4, 2), (44, .iconst 2, 1), (45, .idiv, 1), (46, .isub, 1), (47, .ireturn, 1), (48, .iload_n 3, 1), (49, .iconst 2, 1), (50, .if_icmp .ne 10, 3), (53, .iload 4, 2), (55, .iconst 3, 1), (56, .idiv, 1), (57, .goto 14, 3), (60, .iload 4, 2), (62, .iconst 3, 1), (63, .idiv, 1), (64, .aload_n 0, 1), (65, .getfield 38, 3), (68, .iload_n 1, 1), (69, .iaload, 1), (70, .isub, 1), (71, .ireturn, 1)]
theorem tX6_mended_ok : tX6_mended.all (dk cX6_mended) = true := by decide +kernel
theorem dX6_mended (k : Nat) {pc len : Nat} {i : Instr} (hk : tX6_mended[k]? = some (pc, i, len)) : decode cX6_mended pc = .ok (i, len) := dt_of tX6_mended_ok k hk
def tX6_gapOf : List (Nat × Instr × Nat) := [(0, .aload_n 0, 1), (1, .getfield 100, 3), (4, .iconst 1, 1), (5, .if_icmp .ne 8, 3), (8, .aload_n 0, 1), (9, .getfield 41, 3), (12, .ireturn, 1), (13, .aload_n 0, 1), (14, .getfield 32, 3), (17, .iload_n 1, 1), (18, .iaload, 1), (19, .aload_n 0, 1), (20, .getfield 32, 3), (23, .iload_n 1, 1), (24, .ifCond .ne 12, 3), (27, .aload_n 0, 1), (28, .getfield 100, 3), (31, .iconst 1, 1), (32, .isub, 1), (33, .goto 6, 3), (36, .iload_n 1, 1), (37, .iconst 1, 1), (38, .isub, 1), (39, .iaload, 1), (40, .isub, 1), (41, .aload_n 0, 1), (42, .getfield 41, 3), (45, .irem, 1), (46, .istore_n 2, 1), (47, .iload_n 2, 1), (48, .ifCond .ge 12, 3), (51, .iload_n 2, 1), (52, .aload_n 0, 1), (53, .getfield 41, 3), (56, .iadd, 1), (57, .goto 4, 3), (60, .iload_n 2, 1), (61, .ireturn, 1)]
theorem tX6_gapOf_ok : tX6_gapOf.all (dk cX6_gapOf) = true := by decide +kernel
theorem dX6_gapOf (k : Nat) {pc len : Nat} {i : Instr} (hk : tX6_gapOf[k]? = some (pc, i, len)) : decode cX6_gapOf pc = .ok (i, len) := dt_of tX6_gapOf_ok k hk
def tX6_told : List (Nat × Instr × Nat) := [(0, .iload_n 2, 1), (1, .i2l, 1), (2, .lconst 0, 1), (3, .ldc2_w 145, 3), (6, .invokestatic 103, 3), (9, .ifCond .eq 28, 3), (12, .iload_n 2, 1), (13, .iconst 2, 1), (14, .if_icmp .ge 10, 3), (17, .iload_n 1, 1), (18, .invokestatic 115, 3), (21, .ifCond .eq 16, 3), (24, .iload_n 2, 1), (25, .iconst 2, 1), (26, .if_icmp .lt 14, 3), (29, .aload_n 0, 1), (30, .iload_n 1, 1), (31, .invokevirtual 123, 3), (34, .ifCond .ne 6, 3), (37, .bipush (-2), 2), (39, .ireturn, 1), (40, .iload_n 2, 1), (41, .iconst 4, 1), (42, .if_icmp .ge 51, 3), (45, .iload_n 2, 1), (46, .ifCond .ne 12, 3), (49, .aload_n 0, 1), (50, .getfield 23, 3), (53, .iload_n 1, 1), (54, .iaload, 1), (55, .goto 37, 3), (58, .iload_n 2, 1), (59, .iconst 1, 1), (60, .if_icmp .ne 12, 3), (63, .aload_n 0, 1), (64, .getfield 26, 3), (67, .iload_n 1, 1), (68, .iaload, 1), (69, .goto 23, 3), (72, .iload_n 2, 1), (73, .iconst 2, 1), (74, .if_icmp .ne 12, 3), (77, .aload_n 0, 1), (78, .getfield 29, 3), (81, .iload_n 1, 1), (82, .iaload, 1), (83, .goto 9, 3), (86, .aload_n 0, 1), (87, .getfield 32, 3), (90, .iload_n 1, 1), (91, .iaload, 1), (92, .ireturn, 1), (93, .iload_n 2, 1), (94, .iconst 4, 1), (95, .if_icmp .ne 12, 3), (98, .aload_n 0, 1), (99, .getfield 35, 3), (102, .iload_n 1, 1), (103, .iaload, 1), (104, .goto 36, 3), (107, .iload_n 2, 1), (108, .iconst 5, 1), (109, .if_icmp .ne 12, 3), (112, .aload_n 0, 1), (113, .getfield 38, 3), (116, .iload_n 1, 1), (117, .iaload, 1), (118, .goto 22, 3), (121, .iload_n 2, 1), (122, .bipush 6, 2), (124, .if_icmp .ne 11, 3), (127, .aload_n 0, 1), (128, .iload_n 1, 1), (129, .invokevirtual 147, 3), (132, .goto 8, 3), (135, .aload_n 0, 1), (136, .iload_n 1, 1), (137, .invokevirtual 151, 3), (140, .ireturn, 1)]
theorem tX6_told_ok : tX6_told.all (dk cX6_told) = true := by decide +kernel
theorem dX6_told (k : Nat) {pc len : Nat} {i : Instr} (hk : tX6_told[k]? = some (pc, i, len)) : decode cX6_told pc = .ok (i, len) := dt_of tX6_told_ok k hk
def tX6_mends : List (Nat × Instr × Nat) := [(0, .aload_n 0, 1), (1, .iload_n 1, 1), (2, .invokevirtual 123, 3), (5, .ifCond .eq 26, 3), (8, .iload_n 2, 1), (9, .i2l, 1), (10, .ldc2_w 154, 3), (13, .ldc2_w 130, 3), (16, .invokestatic 103, 3), (19, .ifCond .eq 12, 3), (22, .aload_n 0, 1), (23, .iload_n 1, 1), (24, .iload_n 2, 1), (25, .invokevirtual 156, 3), (28, .goto 5, 3), (31, .ldc 159, 2), (33, .ireturn, 1)]
theorem tX6_mends_ok : tX6_mends.all (dk cX6_mends) = true := by decide +kernel
theorem dX6_mends (k : Nat) {pc len : Nat} {i : Instr} (hk : tX6_mends[k]? = some (pc, i, len)) : decode cX6_mends pc = .ok (i, len) := dt_of tX6_mends_ok k hk
def tX6_feed : List (Nat × Instr × Nat) := [(0, .iload_n 1, 1), (1, .i2l, 1), (2, .lconst 0, 1), (3, .ldc2_w 160, 3), (6, .invokestatic 103, 3), (9, .ifCond .ne 6, 3), (12, .bipush (-2), 2), (14, .ireturn, 1), (15, .aload_n 0, 1), (16, .getfield 162, 3), (19, .sipush 160, 3), (22, .if_icmp .ne 6, 3), (25, .bipush (-4), 2), (27, .ireturn, 1), (28, .aload_n 0, 1), (29, .getfield 20, 3), (32, .aload_n 0, 1), (33, .getfield 162, 3), (36, .iload_n 1, 1), (37, .iastore, 1), (38, .aload_n 0, 1), (39, .dup, 1), (40, .getfield 162, 3), (43, .iconst 1, 1), (44, .iadd, 1), (45, .putfield 162, 3), (48, .aload_n 0, 1), (49, .getfield 162, 3), (52, .ireturn, 1)]
theorem tX6_feed_ok : tX6_feed.all (dk cX6_feed) = true := by decide +kernel
theorem dX6_feed (k : Nat) {pc len : Nat} {i : Instr} (hk : tX6_feed[k]? = some (pc, i, len)) : decode cX6_feed pc = .ok (i, len) := dt_of tX6_feed_ok k hk
def tX6_byteAt : List (Nat × Instr × Nat) := [(0, .iload_n 1, 1), (1, .aload_n 0, 1), (2, .getfield 165, 3), (5, .if_icmp .ge 17, 3), (8, .aload_n 0, 1), (9, .getfield 13, 3), (12, .aload_n 0, 1), (13, .getfield 168, 3), (16, .iload_n 1, 1), (17, .iadd, 1), (18, .iaload, 1), (19, .goto 4, 3), (22, .iconst (-1), 1), (23, .ireturn, 1)]
theorem tX6_byteAt_ok : tX6_byteAt.all (dk cX6_byteAt) = true := by decide +kernel
theorem dX6_byteAt (k : Nat) {pc len : Nat} {i : Instr} (hk : tX6_byteAt[k]? = some (pc, i, len)) : decode cX6_byteAt pc = .ok (i, len) := dt_of tX6_byteAt_ok k hk
def tX6_next : List (Nat × Instr × Nat) := [(0, .aload_n 0, 1), (1, .aload_n 0, 1), (2, .getfield 171, 3), (5, .invokevirtual 174, 3), (8, .bipush 32, 2), (10, .if_icmp .eq 16, 3), (13, .aload_n 0, 1), (14, .aload_n 0, 1), (15, .getfield 171, 3), (18, .invokevirtual 174, 3), (21, .bipush 10, 2), (23, .if_icmp .ne 16, 3), (26, .aload_n 0, 1), (27, .dup, 1), (28, .getfield 171, 3), (31, .iconst 1, 1), (32, .iadd, 1), (33, .putfield 171, 3), (36, .goto (-36), 3), (39, .aload_n 0, 1), (40, .aload_n 0, 1), (41, .getfield 171, 3), (44, .putfield 177, 3), (47, .aload_n 0, 1), (48, .aload_n 0, 1), (49, .getfield 171, 3), (52, .invokevirtual 174, 3), (55, .istore_n 1, 1), (56, .aload_n 0, 1), (57, .iconst 4, 1), (58, .putfield 180, 3), (61, .iload_n 1, 1), (62, .ifCond .ge 19, 3), (65, .aload_n 0, 1), (66, .iconst 0, 1), (67, .putfield 180, 3), (70, .aload_n 0, 1), (71, .aload_n 0, 1), (72, .getfield 165, 3), (75, .putfield 177, 3), (78, .goto 243, 3), (81, .iload_n 1, 1), (82, .i2l, 1), (83, .ldc2_w 183, 3), (86, .ldc2_w 185, 3), (89, .invokestatic 103, 3), (92, .ifCond .eq 42, 3), (95, .aload_n 0, 1), (96, .iconst 1, 1), (97, .putfield 180, 3), (100, .aload_n 0, 1), (101, .aload_n 0, 1), (102, .getfield 171, 3), (105, .invokevirtual 174, 3), (108, .i2l, 1), (109, .ldc2_w 183, 3), (112, .ldc2_w 185, 3), (115, .invokestatic 103, 3), (118, .ifCond .eq 203, 3), (121, .aload_n 0, 1), (122, .dup, 1), (123, .getfield 171, 3), (126, .iconst 1, 1), (127, .iadd, 1), (128, .putfield 171, 3), (131, .goto (-31), 3), (134, .iload_n 1, 1), (135, .i2l, 1), (136, .ldc2_w 187, 3), (139, .ldc2_w 189, 3), (142, .invokestatic 103, 3), (145, .ifCond .eq 107, 3), (148, .aload_n 0, 1), (149, .iconst 2, 1), (150, .putfield 180, 3), (153, .aload_n 0, 1), (154, .lconst 0, 1), (155, .putfield 191, 3), (158, .iconst 0, 1), (159, .istore_n 2, 1), (160, .aload_n 0, 1), (161, .aload_n 0, 1), (162, .getfield 171, 3), (165, .invokevirtual 174, 3), (168, .i2l, 1), (169, .ldc2_w 187, 3), (172, .ldc2_w 189, 3), (175, .invokestatic 103, 3), (178, .ifCond .eq 57, 3), (181, .aload_n 0, 1), (182, .iload_n 2, 1), (183, .iconst 4, 1), (184, .if_icmp .ge 28, 3), (187, .ldc2_w 195, 3), (190, .aload_n 0, 1), (191, .getfield 191, 3), (194, .lmul, 1), (195, .aload_n 0, 1), (196, .aload_n 0, 1), (197, .getfield 171, 3), (200, .invokevirtual 174, 3), (203, .i2l, 1), (204, .ladd, 1), (205, .ldc2_w 187, 3), (208, .lsub, 1), (209, .goto 7, 3), (212, .aload_n 0, 1), (213, .getfield 191, 3), (216, .putfield 191, 3), (219, .iinc 2 1, 3), (222, .aload_n 0, 1), (223, .dup, 1), (224, .getfield 171, 3), (227, .iconst 1, 1), (228, .iadd, 1), (229, .putfield 171, 3), (232, .goto (-72), 3), (235, .aload_n 0, 1), (236, .iload_n 2, 1), (237, .iconst 4, 1), (238, .if_icmp .le 7, 3), (241, .iconst 4, 1), (242, .goto 4, 3), (245, .iconst 2, 1), (246, .putfield 180, 3), (249, .goto 72, 3), (252, .iload_n 1, 1), (253, .bipush 40, 2), (255, .if_icmp .eq 45, 3), (258, .iload_n 1, 1), (259, .bipush 41, 2), (261, .if_icmp .eq 39, 3), (264, .iload_n 1, 1), (265, .bipush 59, 2), (267, .if_icmp .eq 33, 3), (270, .iload_n 1, 1), (271, .bipush 43, 2), (273, .if_icmp .eq 27, 3), (276, .iload_n 1, 1), (277, .bipush 45, 2), (279, .if_icmp .eq 21, 3), (282, .iload_n 1, 1), (283, .bipush 42, 2), (285, .if_icmp .eq 15, 3), (288, .iload_n 1, 1), (289, .bipush 60, 2), (291, .if_icmp .eq 9, 3), (294, .iload_n 1, 1), (295, .bipush 61, 2), (297, .if_icmp .ne 24, 3), (300, .aload_n 0, 1), (301, .iconst 3, 1), (302, .putfield 180, 3), (305, .aload_n 0, 1), (306, .iload_n 1, 1), (307, .i2l, 1), (308, .putfield 191, 3), (311, .aload_n 0, 1), (312, .dup, 1), (313, .getfield 171, 3), (316, .iconst 1, 1), (317, .iadd, 1), (318, .putfield 171, 3), (321, .return_, 1)]
theorem tX6_next_ok : tX6_next.all (dk cX6_next) = true := by decide +kernel
theorem dX6_next (k : Nat) {pc len : Nat} {i : Instr} (hk : tX6_next[k]? = some (pc, i, len)) : decode cX6_next pc = .ok (i, len) := dt_of tX6_next_ok k hk
def tX6_fail : List (Nat × Instr × Nat) := [(0, .aload_n 0, 1), (1, .getfield 197, 3), (4, .ifCond .ne 16, 3), (7, .aload_n 0, 1), (8, .iconst 1, 1), (9, .putfield 197, 3), (12, .aload_n 0, 1), (13, .aload_n 0, 1), (14, .getfield 177, 3), (17, .putfield 201, 3), (20, .return_, 1)]
theorem tX6_fail_ok : tX6_fail.all (dk cX6_fail) = true := by decide +kernel
theorem dX6_fail (k : Nat) {pc len : Nat} {i : Instr} (hk : tX6_fail[k]? = some (pc, i, len)) : decode cX6_fail pc = .ok (i, len) := dt_of tX6_fail_ok k hk
def tX6_isLetter : List (Nat × Instr × Nat) := [(0, .aload_n 0, 1), (1, .getfield 177, 3), (4, .iload_n 1, 1), (5, .iadd, 1), (6, .aload_n 0, 1), (7, .getfield 171, 3), (10, .if_icmp .ge 25, 3), (13, .aload_n 0, 1), (14, .aload_n 0, 1), (15, .getfield 177, 3), (18, .iload_n 1, 1), (19, .iadd, 1), (20, .invokevirtual 174, 3), (23, .iload_n 2, 1), (24, .if_icmp .ne 7, 3), (27, .iconst 1, 1), (28, .goto 16, 3), (31, .iconst 0, 1), (32, .goto 12, 3), (35, .iload_n 2, 1), (36, .ifCond .ne 7, 3), (39, .iconst 1, 1), (40, .goto 4, 3), (43, .iconst 0, 1), (44, .ireturn, 1)]
theorem tX6_isLetter_ok : tX6_isLetter.all (dk cX6_isLetter) = true := by decide +kernel
theorem dX6_isLetter (k : Nat) {pc len : Nat} {i : Instr} (hk : tX6_isLetter[k]? = some (pc, i, len)) : decode cX6_isLetter pc = .ok (i, len) := dt_of tX6_isLetter_ok k hk
def tX6_isWord : List (Nat × Instr × Nat) := [(0, .aload_n 0, 1), (1, .getfield 197, 3), (4, .ifCond .ne 108, 3), (7, .aload_n 0, 1), (8, .getfield 180, 3), (11, .iconst 1, 1), (12, .if_icmp .ne 100, 3), (15, .aload_n 0, 1), (16, .getfield 171, 3), (19, .aload_n 0, 1), (20, .getfield 177, 3), (23, .bipush 8, 2), (25, .iadd, 1), (26, .if_icmp .gt 86, 3), (29, .aload_n 0, 1), (30, .iconst 0, 1), (31, .iload_n 1, 1), (32, .invokevirtual 204, 3), (35, .ifCond .eq 77, 3), (38, .aload_n 0, 1), (39, .iconst 1, 1), (40, .iload_n 2, 1), (41, .invokevirtual 204, 3), (44, .ifCond .eq 68, 3), (47, .aload_n 0, 1), (48, .iconst 2, 1), (49, .iload_n 3, 1), (50, .invokevirtual 204, 3), (53, .ifCond .eq 59, 3), (56, .aload_n 0, 1), (57, .iconst 3, 1), (58, .iload 4, 2), (60, .invokevirtual 204, 3), (63, .ifCond .eq 49, 3), (66, .aload_n 0, 1), (67, .iconst 4, 1), (68, .iload 5, 2), (70, .invokevirtual 204, 3), (73, .ifCond .eq 39, 3), (76, .aload_n 0, 1), (77, .iconst 5, 1), (78, .iload 6, 2), (80, .invokevirtual 204, 3), (83, .ifCond .eq 29, 3), (86, .aload_n 0, 1), (87, .bipush 6, 2), (89, .iload 7, 2), (91, .invokevirtual 204, 3), (94, .ifCond .eq 18, 3), (97, .aload_n 0, 1), (98, .bipush 7, 2), (100, .iload 8, 2), (102, .invokevirtual 204, 3), (105, .ifCond .eq 7, 3), (108, .iconst 1, 1), (109, .goto 4, 3), (112, .iconst 0, 1), (113, .ireturn, 1)]
theorem tX6_isWord_ok : tX6_isWord.all (dk cX6_isWord) = true := by decide +kernel
theorem dX6_isWord (k : Nat) {pc len : Nat} {i : Instr} (hk : tX6_isWord[k]? = some (pc, i, len)) : decode cX6_isWord pc = .ok (i, len) := dt_of tX6_isWord_ok k hk
def tX6_isSign : List (Nat × Instr × Nat) := [(0, .aload_n 0, 1), (1, .getfield 197, 3), (4, .ifCond .ne 25, 3), (7, .aload_n 0, 1), (8, .getfield 180, 3), (11, .iconst 3, 1), (12, .if_icmp .ne 17, 3), (15, .aload_n 0, 1), (16, .getfield 191, 3), (19, .iload_n 1, 1), (20, .i2l, 1), (21, .lcmp, 1), (22, .ifCond .ne 7, 3), (25, .iconst 1, 1), (26, .goto 4, 3), (29, .iconst 0, 1), (30, .ireturn, 1)]
theorem tX6_isSign_ok : tX6_isSign.all (dk cX6_isSign) = true := by decide +kernel
theorem dX6_isSign (k : Nat) {pc len : Nat} {i : Instr} (hk : tX6_isSign[k]? = some (pc, i, len)) : decode cX6_isSign pc = .ok (i, len) := dt_of tX6_isSign_ok k hk
def tX6_opens : List (Nat × Instr × Nat) := [(0, .aload_n 0, 1), (1, .getfield 208, 3), (4, .iconst 5, 1), (5, .if_icmp .ne 9, 3), (8, .aload_n 0, 1), (9, .invokevirtual 211, 3), (12, .iconst 0, 1), (13, .ireturn, 1), (14, .aload_n 0, 1), (15, .dup, 1), (16, .getfield 208, 3), (19, .iconst 1, 1), (20, .iadd, 1), (21, .putfield 208, 3), (24, .aload_n 0, 1), (25, .invokevirtual 214, 3), (28, .iconst 1, 1), (29, .ireturn, 1)]
theorem tX6_opens_ok : tX6_opens.all (dk cX6_opens) = true := by decide +kernel
theorem dX6_opens (k : Nat) {pc len : Nat} {i : Instr} (hk : tX6_opens[k]? = some (pc, i, len)) : decode cX6_opens pc = .ok (i, len) := dt_of tX6_opens_ok k hk
def tX6_name : List (Nat × Instr × Nat) := [(0, .aload_n 0, 1), (1, .bipush 102, 2), (3, .bipush 111, 2), (5, .bipush 114, 2), (7, .bipush 99, 2), (9, .bipush 101, 2), (11, .iconst 0, 1), (12, .iconst 0, 1), (13, .iconst 0, 1), (14, .invokevirtual 217, 3), (17, .ifCond .eq 8, 3), (20, .aload_n 0, 1), (21, .getfield 221, 3), (24, .ireturn, 1), (25, .aload_n 0, 1), (26, .bipush 119, 2), (28, .bipush 101, 2), (30, .bipush 116, 2), (32, .iconst 0, 1), (33, .iconst 0, 1), (34, .iconst 0, 1), (35, .iconst 0, 1), (36, .iconst 0, 1), (37, .invokevirtual 217, 3), (40, .ifCond .eq 8, 3), (43, .aload_n 0, 1), (44, .getfield 224, 3), (47, .ireturn, 1), (48, .aload_n 0, 1), (49, .bipush 103, 2), (51, .bipush 97, 2), (53, .bipush 112, 2), (55, .iconst 0, 1), (56, .iconst 0, 1), (57, .iconst 0, 1), (58, .iconst 0, 1), (59, .iconst 0, 1), (60, .invokevirtual 217, 3), (63, .ifCond .eq 8, 3), (66, .aload_n 0, 1), (67, .getfield 227, 3), (70, .ireturn, 1), (71, .aload_n 0, 1), (72, .bipush 101, 2), (74, .bipush 97, 2), (76, .bipush 114, 2), (78, .bipush 115, 2), (80, .iconst 0, 1), (81, .iconst 0, 1), (82, .iconst 0, 1), (83, .iconst 0, 1), (84, .invokevirtual 217, 3), (87, .ifCond .eq 8, 3), (90, .aload_n 0, 1), (91, .getfield 230, 3), (94, .ireturn, 1), (95, .aload_n 0, 1), (96, .bipush 114, 2), (98, .bipush 111, 2), (100, .bipush 117, 2), (102, .bipush 110, 2), (104, .bipush 100, 2), (106, .iconst 0, 1), (107, .iconst 0, 1), (108, .iconst 0, 1), (109, .invokevirtual 217, 3), (112, .ifCond .eq 8, 3), (115, .aload_n 0, 1), (116, .getfield 233, 3), (119, .ireturn, 1), (120, .aload_n 0, 1), (121, .bipush 116, 2), (123, .bipush 105, 2), (125, .bipush 114, 2), (127, .bipush 101, 2), (129, .bipush 100, 2), (131, .iconst 0, 1), (132, .iconst 0, 1), (133, .iconst 0, 1), (134, .invokevirtual 217, 3), (137, .ifCond .eq 8, 3), (140, .aload_n 0, 1), (141, .getfield 236, 3), (144, .ireturn, 1), (145, .aload_n 0, 1), (146, .invokevirtual 211, 3), (149, .iconst 0, 1), (150, .ireturn, 1)]
theorem tX6_name_ok : tX6_name.all (dk cX6_name) = true := by decide +kernel
theorem dX6_name (k : Nat) {pc len : Nat} {i : Instr} (hk : tX6_name[k]? = some (pc, i, len)) : decode cX6_name pc = .ok (i, len) := dt_of tX6_name_ok k hk
def tX6_atom : List (Nat × Instr × Nat) := [(0, .iconst 0, 1), (1, .istore_n 1, 1), (2, .aload_n 0, 1), (3, .bipush 45, 2), (5, .invokevirtual 239, 3), (8, .ifCond .eq 29, 3), (11, .aload_n 0, 1), (12, .invokevirtual 242, 3), (15, .ifCond .eq 146, 3), (18, .aload_n 0, 1), (19, .invokevirtual 246, 3), (22, .ineg, 1), (23, .istore_n 1, 1), (24, .aload_n 0, 1), (25, .dup, 1), (26, .getfield 208, 3), (29, .iconst 1, 1), (30, .isub, 1), (31, .putfield 208, 3), (34, .goto 127, 3), (37, .aload_n 0, 1), (38, .bipush 40, 2), (40, .invokevirtual 239, 3), (43, .ifCond .eq 52, 3), (46, .aload_n 0, 1), (47, .invokevirtual 242, 3), (50, .ifCond .eq 111, 3), (53, .aload_n 0, 1), (54, .invokevirtual 250, 3), (57, .istore_n 1, 1), (58, .aload_n 0, 1), (59, .bipush 41, 2), (61, .invokevirtual 239, 3), (64, .ifCond .ne 7, 3), (67, .aload_n 0, 1), (68, .invokevirtual 211, 3), (71, .aload_n 0, 1), (72, .dup, 1), (73, .getfield 208, 3), (76, .iconst 1, 1), (77, .isub, 1), (78, .putfield 208, 3), (81, .aload_n 0, 1), (82, .getfield 197, 3), (85, .ifCond .ne 76, 3), (88, .aload_n 0, 1), (89, .invokevirtual 214, 3), (92, .goto 69, 3), (95, .aload_n 0, 1), (96, .getfield 197, 3), (99, .ifCond .ne 24, 3), (102, .aload_n 0, 1), (103, .getfield 180, 3), (106, .iconst 2, 1), (107, .if_icmp .ne 16, 3), (110, .aload_n 0, 1), (111, .getfield 191, 3), (114, .l2i, 1), (115, .istore_n 1, 1), (116, .aload_n 0, 1), (117, .invokevirtual 214, 3), (120, .goto 41, 3), (123, .aload_n 0, 1), (124, .getfield 197, 3), (127, .ifCond .ne 30, 3), (130, .aload_n 0, 1), (131, .getfield 180, 3), (134, .iconst 1, 1), (135, .if_icmp .ne 22, 3), (138, .aload_n 0, 1), (139, .invokevirtual 253, 3), (142, .istore_n 1, 1), (143, .aload_n 0, 1), (144, .getfield 197, 3), (147, .ifCond .ne 14, 3), (150, .aload_n 0, 1), (151, .invokevirtual 214, 3), (154, .goto 7, 3), (157, .aload_n 0, 1), (158, .invokevirtual 211, 3), (161, .iload_n 1, 1), (162, .ireturn, 1)]
theorem tX6_atom_ok : tX6_atom.all (dk cX6_atom) = true := by decide +kernel
theorem dX6_atom (k : Nat) {pc len : Nat} {i : Instr} (hk : tX6_atom[k]? = some (pc, i, len)) : decode cX6_atom pc = .ok (i, len) := dt_of tX6_atom_ok k hk
def tX6_term : List (Nat × Instr × Nat) := [(0, .aload_n 0, 1), (1, .invokevirtual 246, 3), (4, .istore_n 1, 1), (5, .aload_n 0, 1), (6, .bipush 42, 2), (8, .invokevirtual 239, 3), (11, .ifCond .eq 17, 3), (14, .aload_n 0, 1), (15, .invokevirtual 214, 3), (18, .iload_n 1, 1), (19, .aload_n 0, 1), (20, .invokevirtual 246, 3), (23, .imul, 1), (24, .istore_n 1, 1), (25, .goto (-20), 3), (28, .iload_n 1, 1), (29, .ireturn, 1)]
theorem tX6_term_ok : tX6_term.all (dk cX6_term) = true := by decide +kernel
theorem dX6_term (k : Nat) {pc len : Nat} {i : Instr} (hk : tX6_term[k]? = some (pc, i, len)) : decode cX6_term pc = .ok (i, len) := dt_of tX6_term_ok k hk
def tX6_added : List (Nat × Instr × Nat) := [(0, .aload_n 0, 1), (1, .invokevirtual 256, 3), (4, .istore_n 1, 1), (5, .aload_n 0, 1), (6, .bipush 43, 2), (8, .invokevirtual 239, 3), (11, .ifCond .ne 12, 3), (14, .aload_n 0, 1), (15, .bipush 45, 2), (17, .invokevirtual 239, 3), (20, .ifCond .eq 46, 3), (23, .aload_n 0, 1), (24, .getfield 191, 3), (27, .ldc2_w 259, 3), (30, .lcmp, 1), (31, .ifCond .ne 7, 3), (34, .iconst 1, 1), (35, .goto 4, 3), (38, .iconst 0, 1), (39, .istore_n 2, 1), (40, .aload_n 0, 1), (41, .invokevirtual 214, 3), (44, .aload_n 0, 1), (45, .invokevirtual 256, 3), (48, .istore_n 3, 1), (49, .iload_n 2, 1), (50, .ifCond .eq 9, 3), (53, .iload_n 1, 1), (54, .iload_n 3, 1), (55, .iadd, 1), (56, .goto 6, 3), (59, .iload_n 1, 1), (60, .iload_n 3, 1), (61, .isub, 1), (62, .istore_n 1, 1), (63, .goto (-58), 3), (66, .iload_n 1, 1), (67, .ireturn, 1)]
theorem tX6_added_ok : tX6_added.all (dk cX6_added) = true := by decide +kernel
theorem dX6_added (k : Nat) {pc len : Nat} {i : Instr} (hk : tX6_added[k]? = some (pc, i, len)) : decode cX6_added pc = .ok (i, len) := dt_of tX6_added_ok k hk
def tX6_not : List (Nat × Instr × Nat) := [(0, .aload_n 0, 1), (1, .bipush 110, 2), (3, .bipush 111, 2), (5, .bipush 116, 2), (7, .iconst 0, 1), (8, .iconst 0, 1), (9, .iconst 0, 1), (10, .iconst 0, 1), (11, .iconst 0, 1), (12, .invokevirtual 217, 3), (15, .ifCond .eq 37, 3), (18, .aload_n 0, 1), (19, .invokevirtual 242, 3), (22, .ifCond .ne 5, 3), (25, .iconst 0, 1), (26, .ireturn, 1), (27, .aload_n 0, 1), (28, .invokevirtual 261, 3), (31, .istore_n 1, 1), (32, .aload_n 0, 1), (33, .dup, 1), (34, .getfield 208, 3), (37, .iconst 1, 1), (38, .isub, 1), (39, .putfield 208, 3), (42, .iload_n 1, 1), (43, .ifCond .ne 7, 3), (46, .iconst 1, 1), (47, .goto 4, 3), (50, .iconst 0, 1), (51, .ireturn, 1), (52, .aload_n 0, 1), (53, .invokevirtual 264, 3), (56, .istore_n 1, 1), (57, .aload_n 0, 1), (58, .bipush 60, 2), (60, .invokevirtual 239, 3), (63, .ifCond .ne 14, 3), (66, .aload_n 0, 1), (67, .bipush 61, 2), (69, .invokevirtual 239, 3), (72, .ifCond .ne 5, 3), (75, .iload_n 1, 1), (76, .ireturn, 1), (77, .aload_n 0, 1), (78, .getfield 191, 3), (81, .ldc2_w 267, 3), (84, .lcmp, 1), (85, .ifCond .ne 7, 3), (88, .iconst 1, 1), (89, .goto 4, 3), (92, .iconst 0, 1), (93, .istore_n 2, 1), (94, .aload_n 0, 1), (95, .invokevirtual 214, 3), (98, .aload_n 0, 1), (99, .invokevirtual 264, 3), (102, .istore_n 3, 1), (103, .iload_n 2, 1), (104, .ifCond .eq 11, 3), (107, .iload_n 1, 1), (108, .iload_n 3, 1), (109, .if_icmp .ge 15, 3), (112, .goto 8, 3), (115, .iload_n 1, 1), (116, .iload_n 3, 1), (117, .if_icmp .ne 7, 3), (120, .iconst 1, 1), (121, .goto 4, 3), (124, .iconst 0, 1), (125, .ireturn, 1)]
theorem tX6_not_ok : tX6_not.all (dk cX6_not) = true := by decide +kernel
theorem dX6_not (k : Nat) {pc len : Nat} {i : Instr} (hk : tX6_not[k]? = some (pc, i, len)) : decode cX6_not pc = .ok (i, len) := dt_of tX6_not_ok k hk
def tX6_both : List (Nat × Instr × Nat) := [(0, .aload_n 0, 1), (1, .invokevirtual 261, 3), (4, .istore_n 1, 1), (5, .aload_n 0, 1), (6, .bipush 97, 2), (8, .bipush 110, 2), (10, .bipush 100, 2), (12, .iconst 0, 1), (13, .iconst 0, 1), (14, .iconst 0, 1), (15, .iconst 0, 1), (16, .iconst 0, 1), (17, .invokevirtual 217, 3), (20, .ifCond .eq 29, 3), (23, .aload_n 0, 1), (24, .invokevirtual 214, 3), (27, .aload_n 0, 1), (28, .invokevirtual 261, 3), (31, .istore_n 2, 1), (32, .iload_n 1, 1), (33, .ifCond .eq 11, 3), (36, .iload_n 2, 1), (37, .ifCond .eq 7, 3), (40, .iconst 1, 1), (41, .goto 4, 3), (44, .iconst 0, 1), (45, .istore_n 1, 1), (46, .goto (-41), 3), (49, .iload_n 1, 1), (50, .ireturn, 1)]
theorem tX6_both_ok : tX6_both.all (dk cX6_both) = true := by decide +kernel
theorem dX6_both (k : Nat) {pc len : Nat} {i : Instr} (hk : tX6_both[k]? = some (pc, i, len)) : decode cX6_both pc = .ok (i, len) := dt_of tX6_both_ok k hk
def tX6_either : List (Nat × Instr × Nat) := [(0, .aload_n 0, 1), (1, .invokevirtual 269, 3), (4, .istore_n 1, 1), (5, .aload_n 0, 1), (6, .bipush 111, 2), (8, .bipush 114, 2), (10, .iconst 0, 1), (11, .iconst 0, 1), (12, .iconst 0, 1), (13, .iconst 0, 1), (14, .iconst 0, 1), (15, .iconst 0, 1), (16, .invokevirtual 217, 3), (19, .ifCond .eq 29, 3), (22, .aload_n 0, 1), (23, .invokevirtual 214, 3), (26, .aload_n 0, 1), (27, .invokevirtual 269, 3), (30, .istore_n 2, 1), (31, .iload_n 1, 1), (32, .ifCond .ne 7, 3), (35, .iload_n 2, 1), (36, .ifCond .eq 7, 3), (39, .iconst 1, 1), (40, .goto 4, 3), (43, .iconst 0, 1), (44, .istore_n 1, 1), (45, .goto (-40), 3), (48, .iload_n 1, 1), (49, .ireturn, 1)]
theorem tX6_either_ok : tX6_either.all (dk cX6_either) = true := by decide +kernel
theorem dX6_either (k : Nat) {pc len : Nat} {i : Instr} (hk : tX6_either[k]? = some (pc, i, len)) : decode cX6_either pc = .ok (i, len) := dt_of tX6_either_ok k hk
def tX6_part : List (Nat × Instr × Nat) := [(0, .iload_n 1, 1), (1, .ifCond .ne 7, 3), (4, .aload_n 0, 1), (5, .invokevirtual 211, 3), (8, .aload_n 0, 1), (9, .getfield 197, 3), (12, .ifCond .ne 7, 3), (15, .aload_n 0, 1), (16, .invokevirtual 214, 3), (19, .aload_n 0, 1), (20, .getfield 197, 3), (23, .ifCond .eq 7, 3), (26, .iconst 0, 1), (27, .goto 7, 3), (30, .aload_n 0, 1), (31, .invokevirtual 250, 3), (34, .istore_n 2, 1), (35, .aload_n 0, 1), (36, .bipush 59, 2), (38, .invokevirtual 239, 3), (41, .ifCond .ne 7, 3), (44, .aload_n 0, 1), (45, .invokevirtual 211, 3), (48, .aload_n 0, 1), (49, .getfield 197, 3), (52, .ifCond .ne 7, 3), (55, .aload_n 0, 1), (56, .invokevirtual 214, 3), (59, .iload_n 2, 1), (60, .ireturn, 1)]
theorem tX6_part_ok : tX6_part.all (dk cX6_part) = true := by decide +kernel
theorem dX6_part (k : Nat) {pc len : Nat} {i : Instr} (hk : tX6_part[k]? = some (pc, i, len)) : decode cX6_part pc = .ok (i, len) := dt_of tX6_part_ok k hk
def tX6_read : List (Nat × Instr × Nat) := [(0, .aload_n 0, 1), (1, .sipush 160, 3), (4, .iload_n 1, 1), (5, .imul, 1), (6, .putfield 168, 3), (9, .aload_n 0, 1), (10, .aload_n 0, 1), (11, .getfield 17, 3), (14, .iload_n 1, 1), (15, .iaload, 1), (16, .putfield 165, 3), (19, .aload_n 0, 1), (20, .iconst 0, 1), (21, .putfield 171, 3), (24, .aload_n 0, 1), (25, .iconst 0, 1), (26, .putfield 208, 3), (29, .aload_n 0, 1), (30, .iconst 0, 1), (31, .putfield 197, 3), (34, .aload_n 0, 1), (35, .invokevirtual 214, 3), (38, .aload_n 0, 1), (39, .aload_n 0, 1), (40, .bipush 103, 2), (42, .bipush 105, 2), (44, .bipush 118, 2), (46, .bipush 101, 2), (48, .bipush 115, 2), (50, .iconst 0, 1), (51, .iconst 0, 1), (52, .iconst 0, 1), (53, .invokevirtual 217, 3), (56, .invokevirtual 272, 3), (59, .istore_n 3, 1), (60, .aload_n 0, 1), (61, .getfield 197, 3), (64, .ifCond .eq 7, 3), (67, .iconst 0, 1), (68, .goto 25, 3), (71, .aload_n 0, 1), (72, .aload_n 0, 1), (73, .bipush 100, 2), (75, .bipush 114, 2), (77, .bipush 105, 2), (79, .bipush 102, 2), (81, .bipush 116, 2), (83, .bipush 115, 2), (85, .iconst 0, 1), (86, .iconst 0, 1), (87, .invokevirtual 217, 3), (90, .invokevirtual 272, 3), (93, .istore 4, 2), (95, .aload_n 0, 1), (96, .getfield 197, 3), (99, .ifCond .eq 7, 3), (102, .iconst 0, 1), (103, .goto 24, 3), (106, .aload_n 0, 1), (107, .aload_n 0, 1), (108, .bipush 104, 2), (110, .bipush 117, 2), (112, .bipush 114, 2), (114, .bipush 116, 2), (116, .bipush 115, 2), (118, .iconst 0, 1), (119, .iconst 0, 1), (120, .iconst 0, 1), (121, .invokevirtual 217, 3), (124, .invokevirtual 272, 3), (127, .istore 5, 2), (129, .aload_n 0, 1), (130, .getfield 197, 3), (133, .ifCond .ne 14, 3), (136, .aload_n 0, 1), (137, .getfield 180, 3), (140, .ifCond .eq 7, 3), (143, .aload_n 0, 1), (144, .invokevirtual 211, 3), (147, .aload_n 0, 1), (148, .iload_n 3, 1), (149, .putfield 276, 3), (152, .aload_n 0, 1), (153, .iload 4, 2), (155, .putfield 279, 3), (158, .aload_n 0, 1), (159, .iload 5, 2), (161, .putfield 282, 3), (164, .iload_n 2, 1), (165, .ireturn, 1)]
theorem tX6_read_ok : tX6_read.all (dk cX6_read) = true := by decide +kernel
theorem dX6_read (k : Nat) {pc len : Nat} {i : Instr} (hk : tX6_read[k]? = some (pc, i, len)) : decode cX6_read pc = .ok (i, len) := dt_of tX6_read_ok k hk
def tX6_text : List (Nat × Instr × Nat) := [(0, .aload_n 0, 1), (1, .getfield 97, 3), (4, .bipush 6, 2), (6, .if_icmp .ne 6, 3), (9, .bipush (-4), 2), (11, .ireturn, 1), (12, .iconst 0, 1), (13, .istore_n 1, 1), (14, .iload_n 1, 1), (15, .aload_n 0, 1), (16, .getfield 162, 3), (19, .if_icmp .ge 30, 3), (22, .aload_n 0, 1), (23, .getfield 13, 3), (26, .sipush 160, 3), (29, .aload_n 0, 1), (30, .getfield 97, 3), (33, .imul, 1), (34, .iload_n 1, 1), (35, .iadd, 1), (36, .aload_n 0, 1), (37, .getfield 20, 3), (40, .iload_n 1, 1), (41, .iaload, 1), (42, .iastore, 1), (43, .iinc 1 1, 3), (46, .goto (-32), 3), (49, .aload_n 0, 1), (50, .getfield 17, 3), (53, .aload_n 0, 1), (54, .getfield 97, 3), (57, .aload_n 0, 1), (58, .getfield 162, 3), (61, .iastore, 1), (62, .aload_n 0, 1), (63, .iconst 0, 1), (64, .putfield 162, 3), (67, .aload_n 0, 1), (68, .aload_n 0, 1), (69, .getfield 97, 3), (72, .iconst 0, 1), (73, .invokevirtual 285, 3), (76, .istore_n 1, 1), (77, .aload_n 0, 1), (78, .getfield 197, 3), (81, .ifCond .eq 11, 3), (84, .bipush (-100), 2), (86, .aload_n 0, 1), (87, .getfield 201, 3), (90, .isub, 1), (91, .ireturn, 1), (92, .aload_n 0, 1), (93, .dup, 1), (94, .getfield 97, 3), (97, .iconst 1, 1), (98, .iadd, 1), (99, .putfield 97, 3), (102, .aload_n 0, 1), (103, .getfield 97, 3), (106, .iconst 1, 1), (107, .isub, 1), (108, .ireturn, 1)]
theorem tX6_text_ok : tX6_text.all (dk cX6_text) = true := by decide +kernel
theorem dX6_text (k : Nat) {pc len : Nat} {i : Instr} (hk : tX6_text[k]? = some (pc, i, len)) : decode cX6_text pc = .ok (i, len) := dt_of tX6_text_ok k hk
def tX6_force : List (Nat × Instr × Nat) := [(0, .iload_n 1, 1), (1, .i2l, 1), (2, .lconst 0, 1), (3, .aload_n 0, 1), (4, .getfield 97, 3), (7, .iconst 1, 1), (8, .isub, 1), (9, .i2l, 1), (10, .invokestatic 103, 3), (13, .ifCond .ne 6, 3), (16, .bipush (-2), 2), (18, .ireturn, 1), (19, .aload_n 0, 1), (20, .getfield 288, 3), (23, .istore_n 2, 1), (24, .aload_n 0, 1), (25, .iload_n 1, 1), (26, .putfield 288, 3), (29, .iload_n 2, 1), (30, .ireturn, 1)]
theorem tX6_force_ok : tX6_force.all (dk cX6_force) = true := by decide +kernel
theorem dX6_force (k : Nat) {pc len : Nat} {i : Instr} (hk : tX6_force[k]? = some (pc, i, len)) : decode cX6_force pc = .ok (i, len) := dt_of tX6_force_ok k hk
def tX6_says : List (Nat × Instr × Nat) := [(0, .aload_n 0, 1), (1, .aload_n 0, 1), (2, .iload_n 1, 1), (3, .invokevirtual 147, 3), (6, .putfield 221, 3), (9, .aload_n 0, 1), (10, .aload_n 0, 1), (11, .getfield 26, 3), (14, .iload_n 2, 1), (15, .iaload, 1), (16, .putfield 224, 3), (19, .aload_n 0, 1), (20, .iload_n 3, 1), (21, .putfield 227, 3), (24, .aload_n 0, 1), (25, .aload_n 0, 1), (26, .getfield 23, 3), (29, .iload_n 2, 1), (30, .iaload, 1), (31, .putfield 230, 3), (34, .aload_n 0, 1), (35, .aload_n 0, 1), (36, .getfield 142, 3), (39, .putfield 233, 3), (42, .aload_n 0, 1), (43, .aload_n 0, 1), (44, .getfield 38, 3), (47, .iload_n 1, 1), (48, .iaload, 1), (49, .putfield 236, 3), (52, .aload_n 0, 1), (53, .aload_n 0, 1), (54, .getfield 288, 3), (57, .iconst 0, 1), (58, .invokevirtual 285, 3), (61, .pop, 1), (62, .return_, 1)]
theorem tX6_says_ok : tX6_says.all (dk cX6_says) = true := by decide +kernel
theorem dX6_says (k : Nat) {pc len : Nat} {i : Instr} (hk : tX6_says[k]? = some (pc, i, len)) : decode cX6_says pc = .ok (i, len) := dt_of tX6_says_ok k hk
def tX6_strikesOnce : List (Nat × Instr × Nat) := [(0, .aload_n 0, 1), (1, .iload_n 1, 1), (2, .invokevirtual 151, 3), (5, .istore_n 3, 1), (6, .aload_n 0, 1), (7, .getfield 142, 3), (10, .aload_n 0, 1), (11, .getfield 100, 3), (14, .imul, 1), (15, .iload_n 1, 1), (16, .iadd, 1), (17, .bipush 12, 2), (19, .irem, 1), (20, .istore 4, 2), (22, .aload_n 0, 1), (23, .iload_n 1, 1), (24, .iload 4, 2), (26, .iload_n 3, 1), (27, .invokevirtual 291, 3), (30, .iload_n 3, 1), (31, .bipush 8, 2), (33, .if_icmp .ge 39, 3), (36, .aload_n 0, 1), (37, .dup, 1), (38, .getfield 295, 3), (41, .iconst 1, 1), (42, .iadd, 1), (43, .putfield 295, 3), (46, .aload_n 0, 1), (47, .dup, 1), (48, .getfield 298, 3), (51, .aload_n 0, 1), (52, .getfield 282, 3), (55, .ifCond .ne 7, 3), (58, .iconst 0, 1), (59, .goto 4, 3), (62, .iconst 1, 1), (63, .iload_n 1, 1), (64, .ishl, 1), (65, .ior, 1), (66, .putfield 298, 3), (69, .goto 51, 3), (72, .aload_n 0, 1), (73, .getfield 23, 3), (76, .iload 4, 2), (78, .iaload, 1), (79, .aload_n 0, 1), (80, .getfield 276, 3), (83, .iconst 0, 1), (84, .sipush 1000, 3), (87, .invokestatic 301, 3), (90, .imul, 1), (91, .sipush 1000, 3), (94, .idiv, 1), (95, .istore 5, 2), (97, .aload_n 0, 1), (98, .getfield 23, 3), (101, .iload 4, 2), (103, .dup2, 1), (104, .iaload, 1), (105, .iload 5, 2), (107, .isub, 1), (108, .iastore, 1), (109, .aload_n 0, 1), (110, .dup, 1), (111, .getfield 305, 3), (114, .iload 5, 2), (116, .iadd, 1), (117, .putfield 305, 3), (120, .aload_n 0, 1), (121, .getfield 32, 3), (124, .iload_n 1, 1), (125, .iaload, 1), (126, .aload_n 0, 1), (127, .iload_n 1, 1), (128, .iload_n 3, 1), (129, .aload_n 0, 1), (130, .getfield 41, 3), (133, .aload_n 0, 1), (134, .getfield 100, 3), (137, .idiv, 1), (138, .isub, 1), (139, .invokevirtual 156, 3), (142, .isub, 1), (143, .aload_n 0, 1), (144, .getfield 279, 3), (147, .bipush (-99), 2), (149, .bipush 99, 2), (151, .invokestatic 301, 3), (154, .iadd, 1), (155, .iload_n 2, 1), (156, .iadd, 1), (157, .aload_n 0, 1), (158, .getfield 41, 3), (161, .irem, 1), (162, .istore 5, 2), (164, .aload_n 0, 1), (165, .getfield 32, 3), (168, .iload_n 1, 1), (169, .iload 5, 2), (171, .ifCond .ge 13, 3), (174, .iload 5, 2), (176, .aload_n 0, 1), (177, .getfield 41, 3), (180, .iadd, 1), (181, .goto 5, 3), (184, .iload 5, 2), (186, .iastore, 1), (187, .return_, 1)]
theorem tX6_strikesOnce_ok : tX6_strikesOnce.all (dk cX6_strikesOnce) = true := by decide +kernel
theorem dX6_strikesOnce (k : Nat) {pc len : Nat} {i : Instr} (hk : tX6_strikesOnce[k]? = some (pc, i, len)) : decode cX6_strikesOnce pc = .ok (i, len) := dt_of tX6_strikesOnce_ok k hk
def tX6_goes : List (Nat × Instr × Nat) := [(0, .iconst 0, 1), (1, .istore_n 1, 1), (2, .iload_n 1, 1), (3, .aload_n 0, 1), (4, .getfield 100, 3), (7, .if_icmp .ge 15, 3), (10, .aload_n 0, 1), (11, .iload_n 1, 1), (12, .iconst 0, 1), (13, .invokevirtual 308, 3), (16, .iinc 1 1, 3), (19, .goto (-17), 3), (22, .aload_n 0, 1), (23, .aload_n 0, 1), (24, .getfield 142, 3), (27, .sipush 999, 3), (30, .if_icmp .ge 12, 3), (33, .aload_n 0, 1), (34, .getfield 142, 3), (37, .iconst 1, 1), (38, .iadd, 1), (39, .goto 6, 3), (42, .sipush 999, 3), (45, .putfield 142, 3), (48, .return_, 1)]
theorem tX6_goes_ok : tX6_goes.all (dk cX6_goes) = true := by decide +kernel
theorem dX6_goes (k : Nat) {pc len : Nat} {i : Instr} (hk : tX6_goes[k]? = some (pc, i, len)) : decode cX6_goes pc = .ok (i, len) := dt_of tX6_goes_ok k hk
def tX6_round : List (Nat × Instr × Nat) := [(0, .aload_n 0, 1), (1, .getfield 305, 3), (4, .istore_n 1, 1), (5, .aload_n 0, 1), (6, .invokevirtual 312, 3), (9, .aload_n 0, 1), (10, .getfield 305, 3), (13, .iload_n 1, 1), (14, .isub, 1), (15, .ireturn, 1)]
theorem tX6_round_ok : tX6_round.all (dk cX6_round) = true := by decide +kernel
theorem dX6_round (k : Nat) {pc len : Nat} {i : Instr} (hk : tX6_round[k]? = some (pc, i, len)) : decode cX6_round pc = .ok (i, len) := dt_of tX6_round_ok k hk
def tX6_laysAside : List (Nat × Instr × Nat) := [(0, .iconst 0, 1), (1, .istore_n 1, 1), (2, .iload_n 1, 1), (3, .bipush 12, 2), (5, .if_icmp .ge 33, 3), (8, .aload_n 0, 1), (9, .getfield 44, 3), (12, .iload_n 1, 1), (13, .aload_n 0, 1), (14, .getfield 23, 3), (17, .iload_n 1, 1), (18, .iaload, 1), (19, .iastore, 1), (20, .aload_n 0, 1), (21, .getfield 47, 3), (24, .iload_n 1, 1), (25, .aload_n 0, 1), (26, .getfield 26, 3), (29, .iload_n 1, 1), (30, .iaload, 1), (31, .iastore, 1), (32, .iinc 1 1, 3), (35, .goto (-33), 3), (38, .iconst 0, 1), (39, .istore_n 1, 1), (40, .iload_n 1, 1), (41, .iconst 5, 1), (42, .if_icmp .ge 57, 3), (45, .aload_n 0, 1), (46, .getfield 50, 3), (49, .iload_n 1, 1), (50, .aload_n 0, 1), (51, .getfield 29, 3), (54, .iload_n 1, 1), (55, .iaload, 1), (56, .iastore, 1), (57, .aload_n 0, 1), (58, .getfield 53, 3), (61, .iload_n 1, 1), (62, .aload_n 0, 1), (63, .getfield 32, 3), (66, .iload_n 1, 1), (67, .iaload, 1), (68, .iastore, 1), (69, .aload_n 0, 1), (70, .getfield 56, 3), (73, .iload_n 1, 1), (74, .aload_n 0, 1), (75, .getfield 35, 3), (78, .iload_n 1, 1), (79, .iaload, 1), (80, .iastore, 1), (81, .aload_n 0, 1), (82, .getfield 59, 3), (85, .iload_n 1, 1), (86, .aload_n 0, 1), (87, .getfield 38, 3), (90, .iload_n 1, 1), (91, .iaload, 1), (92, .iastore, 1), (93, .iinc 1 1, 3), (96, .goto (-56), 3), (99, .aload_n 0, 1), (100, .aload_n 0, 1), (101, .getfield 100, 3), (104, .putfield 315, 3), (107, .aload_n 0, 1), (108, .aload_n 0, 1), (109, .getfield 41, 3), (112, .putfield 318, 3), (115, .aload_n 0, 1), (116, .aload_n 0, 1), (117, .getfield 142, 3), (120, .putfield 321, 3), (123, .aload_n 0, 1), (124, .aload_n 0, 1), (125, .getfield 305, 3), (128, .putfield 324, 3), (131, .aload_n 0, 1), (132, .iconst 0, 1), (133, .putfield 295, 3), (136, .aload_n 0, 1), (137, .iconst 0, 1), (138, .putfield 298, 3), (141, .return_, 1)]
theorem tX6_laysAside_ok : tX6_laysAside.all (dk cX6_laysAside) = true := by decide +kernel
theorem dX6_laysAside (k : Nat) {pc len : Nat} {i : Instr} (hk : tX6_laysAside[k]? = some (pc, i, len)) : decode cX6_laysAside pc = .ok (i, len) := dt_of tX6_laysAside_ok k hk
def tX6_laysBack : List (Nat × Instr × Nat) := [(0, .iconst 0, 1), (1, .istore_n 1, 1), (2, .iload_n 1, 1), (3, .bipush 12, 2), (5, .if_icmp .ge 33, 3), (8, .aload_n 0, 1), (9, .getfield 23, 3), (12, .iload_n 1, 1), (13, .aload_n 0, 1), (14, .getfield 44, 3), (17, .iload_n 1, 1), (18, .iaload, 1), (19, .iastore, 1), (20, .aload_n 0, 1), (21, .getfield 26, 3), (24, .iload_n 1, 1), (25, .aload_n 0, 1), (26, .getfield 47, 3), (29, .iload_n 1, 1), (30, .iaload, 1), (31, .iastore, 1), (32, .iinc 1 1, 3), (35, .goto (-33), 3), (38, .iconst 0, 1), (39, .istore_n 1, 1), (40, .iload_n 1, 1), (41, .iconst 5, 1), (42, .if_icmp .ge 15, 3), (45, .aload_n 0, 1), (46, .iload_n 1, 1), (47, .iload_n 1, 1), (48, .invokevirtual 327, 3), (51, .iinc 1 1, 3), (54, .goto (-14), 3), (57, .aload_n 0, 1), (58, .aload_n 0, 1), (59, .getfield 315, 3), (62, .putfield 100, 3), (65, .aload_n 0, 1), (66, .aload_n 0, 1), (67, .getfield 318, 3), (70, .putfield 41, 3), (73, .aload_n 0, 1), (74, .aload_n 0, 1), (75, .getfield 321, 3), (78, .putfield 142, 3), (81, .aload_n 0, 1), (82, .aload_n 0, 1), (83, .getfield 324, 3), (86, .putfield 305, 3), (89, .aload_n 0, 1), (90, .iconst 0, 1), (91, .putfield 295, 3), (94, .aload_n 0, 1), (95, .iconst 0, 1), (96, .putfield 298, 3), (99, .return_, 1)]
theorem tX6_laysBack_ok : tX6_laysBack.all (dk cX6_laysBack) = true := by decide +kernel
theorem dX6_laysBack (k : Nat) {pc len : Nat} {i : Instr} (hk : tX6_laysBack[k]? = some (pc, i, len)) : decode cX6_laysBack pc = .ok (i, len) := dt_of tX6_laysBack_ok k hk
def tX6_comes : List (Nat × Instr × Nat) := [(0, .aload_n 0, 1), (1, .getfield 29, 3), (4, .iload_n 1, 1), (5, .aload_n 0, 1), (6, .getfield 50, 3), (9, .iload_n 2, 1), (10, .iaload, 1), (11, .iastore, 1), (12, .aload_n 0, 1), (13, .getfield 32, 3), (16, .iload_n 1, 1), (17, .aload_n 0, 1), (18, .getfield 53, 3), (21, .iload_n 2, 1), (22, .iaload, 1), (23, .iastore, 1), (24, .aload_n 0, 1), (25, .getfield 35, 3), (28, .iload_n 1, 1), (29, .aload_n 0, 1), (30, .getfield 56, 3), (33, .iload_n 2, 1), (34, .iaload, 1), (35, .iastore, 1), (36, .aload_n 0, 1), (37, .getfield 38, 3), (40, .iload_n 1, 1), (41, .aload_n 0, 1), (42, .getfield 59, 3), (45, .iload_n 2, 1), (46, .iaload, 1), (47, .iastore, 1), (48, .return_, 1)]
theorem tX6_comes_ok : tX6_comes.all (dk cX6_comes) = true := by decide +kernel
theorem dX6_comes (k : Nat) {pc len : Nat} {i : Instr} (hk : tX6_comes[k]? = some (pc, i, len)) : decode cX6_comes pc = .ok (i, len) := dt_of tX6_comes_ok k hk
def tX6_goesOn : List (Nat × Instr × Nat) := [(0, .iconst 0, 1), (1, .istore_n 2, 1), (2, .iload_n 2, 1), (3, .iload_n 1, 1), (4, .if_icmp .ge 13, 3), (7, .aload_n 0, 1), (8, .invokevirtual 312, 3), (11, .iinc 2 1, 3), (14, .goto (-12), 3), (17, .return_, 1)]
theorem tX6_goesOn_ok : tX6_goesOn.all (dk cX6_goesOn) = true := by decide +kernel
theorem dX6_goesOn (k : Nat) {pc len : Nat} {i : Instr} (hk : tX6_goesOn[k]? = some (pc, i, len)) : decode cX6_goesOn pc = .ok (i, len) := dt_of tX6_goesOn_ok k hk
def tX6_left : List (Nat × Instr × Nat) := [(0, .iconst 0, 1), (1, .istore_n 1, 1), (2, .iconst 0, 1), (3, .istore_n 2, 1), (4, .iload_n 2, 1), (5, .bipush 12, 2), (7, .if_icmp .ge 18, 3), (10, .iload_n 1, 1), (11, .aload_n 0, 1), (12, .getfield 23, 3), (15, .iload_n 2, 1), (16, .iaload, 1), (17, .iadd, 1), (18, .istore_n 1, 1), (19, .iinc 2 1, 3), (22, .goto (-18), 3), (25, .iload_n 1, 1), (26, .ireturn, 1)]
theorem tX6_left_ok : tX6_left.all (dk cX6_left) = true := by decide +kernel
theorem dX6_left (k : Nat) {pc len : Nat} {i : Instr} (hk : tX6_left[k]? = some (pc, i, len)) : decode cX6_left pc = .ok (i, len) := dt_of tX6_left_ok k hk
def tX6_run : List (Nat × Instr × Nat) := [(0, .iload_n 1, 1), (1, .i2l, 1), (2, .lconst 0, 1), (3, .ldc2_w 330, 3), (6, .invokestatic 103, 3), (9, .ifCond .eq 15, 3), (12, .iload_n 2, 1), (13, .i2l, 1), (14, .lconst 0, 1), (15, .ldc2_w 332, 3), (18, .invokestatic 103, 3), (21, .ifCond .ne 6, 3), (24, .bipush (-2), 2), (26, .ireturn, 1), (27, .aload_n 0, 1), (28, .invokevirtual 334, 3), (31, .aload_n 0, 1), (32, .iload_n 1, 1), (33, .invokevirtual 337, 3), (36, .iload_n 2, 1), (37, .ifCond .ne 15, 3), (40, .aload_n 0, 1), (41, .getfield 305, 3), (44, .aload_n 0, 1), (45, .getfield 324, 3), (48, .isub, 1), (49, .goto 31, 3), (52, .iload_n 2, 1), (53, .iconst 1, 1), (54, .if_icmp .ne 10, 3), (57, .aload_n 0, 1), (58, .getfield 295, 3), (61, .goto 19, 3), (64, .iload_n 2, 1), (65, .iconst 2, 1), (66, .if_icmp .ne 10, 3), (69, .aload_n 0, 1), (70, .getfield 298, 3), (73, .goto 7, 3), (76, .aload_n 0, 1), (77, .invokevirtual 340, 3), (80, .istore_n 3, 1), (81, .aload_n 0, 1), (82, .invokevirtual 343, 3), (85, .iload_n 3, 1), (86, .ireturn, 1)]
theorem tX6_run_ok : tX6_run.all (dk cX6_run) = true := by decide +kernel
theorem dX6_run (k : Nat) {pc len : Nat} {i : Instr} (hk : tX6_run[k]? = some (pc, i, len)) : decode cX6_run pc = .ok (i, len) := dt_of tX6_run_ok k hk
def tX6_beat : List (Nat × Instr × Nat) := [(0, .aload_n 0, 1), (1, .iload_n 1, 1), (2, .invokevirtual 123, 3), (5, .ifCond .eq 15, 3), (8, .iload_n 2, 1), (9, .i2l, 1), (10, .lconst 0, 1), (11, .ldc2_w 330, 3), (14, .invokestatic 103, 3), (17, .ifCond .ne 6, 3), (20, .bipush (-2), 2), (22, .ireturn, 1), (23, .aload_n 0, 1), (24, .invokevirtual 334, 3), (27, .aload_n 0, 1), (28, .iload_n 2, 1), (29, .invokevirtual 337, 3), (32, .aload_n 0, 1), (33, .getfield 32, 3), (36, .iload_n 1, 1), (37, .iaload, 1), (38, .istore_n 3, 1), (39, .aload_n 0, 1), (40, .invokevirtual 343, 3), (43, .iload_n 3, 1), (44, .ireturn, 1)]
theorem tX6_beat_ok : tX6_beat.all (dk cX6_beat) = true := by decide +kernel
theorem dX6_beat (k : Nat) {pc len : Nat} {i : Instr} (hk : tX6_beat[k]? = some (pc, i, len)) : decode cX6_beat pc = .ok (i, len) := dt_of tX6_beat_ok k hk
def tX6_holds : List (Nat × Instr × Nat) := [(0, .aload_n 0, 1), (1, .invokevirtual 334, 3), (4, .iconst 0, 1), (5, .istore_n 1, 1), (6, .iconst 1, 1), (7, .istore_n 2, 1), (8, .iload_n 1, 1), (9, .bipush 40, 2), (11, .if_icmp .ge 39, 3), (14, .iload_n 2, 1), (15, .ifCond .eq 35, 3), (18, .aload_n 0, 1), (19, .invokevirtual 312, 3), (22, .aload_n 0, 1), (23, .getfield 295, 3), (26, .ifCond .ne 7, 3), (29, .iconst 1, 1), (30, .goto 4, 3), (33, .iconst 0, 1), (34, .istore_n 2, 1), (35, .iload_n 1, 1), (36, .iload_n 2, 1), (37, .ifCond .eq 7, 3), (40, .iconst 1, 1), (41, .goto 4, 3), (44, .iconst 0, 1), (45, .iadd, 1), (46, .istore_n 1, 1), (47, .goto (-39), 3), (50, .aload_n 0, 1), (51, .invokevirtual 343, 3), (54, .iload_n 1, 1), (55, .ireturn, 1)]
theorem tX6_holds_ok : tX6_holds.all (dk cX6_holds) = true := by decide +kernel
theorem dX6_holds (k : Nat) {pc len : Nat} {i : Instr} (hk : tX6_holds[k]? = some (pc, i, len)) : decode cX6_holds pc = .ok (i, len) := dt_of tX6_holds_ok k hk
def tX6_bar : List (Nat × Instr × Nat) := [(0, .iload_n 1, 1), (1, .i2l, 1), (2, .lconst 0, 1), (3, .lconst 1, 1), (4, .invokestatic 103, 3), (7, .ifCond .ne 6, 3), (10, .bipush (-2), 2), (12, .ireturn, 1), (13, .aload_n 0, 1), (14, .invokevirtual 334, 3), (17, .bipush 12, 2), (19, .istore_n 2, 1), (20, .iconst (-1), 1), (21, .istore_n 3, 1), (22, .bipush 12, 2), (24, .istore 4, 2), (26, .iload 4, 2), (28, .sipush 240, 3), (31, .if_icmp .gt 61, 3), (34, .aload_n 0, 1), (35, .iload 4, 2), (37, .invokevirtual 138, 3), (40, .aload_n 0, 1), (41, .bipush 12, 2), (43, .invokevirtual 337, 3), (46, .aload_n 0, 1), (47, .getfield 305, 3), (50, .aload_n 0, 1), (51, .getfield 324, 3), (54, .isub, 1), (55, .i2l, 1), (56, .ldc2_w 346, 3), (59, .lmul, 1), (60, .bipush 12, 2), (62, .iload 4, 2), (64, .imul, 1), (65, .i2l, 1), (66, .ldiv, 1), (67, .l2i, 1), (68, .istore 5, 2), (70, .aload_n 0, 1), (71, .invokevirtual 343, 3), (74, .iload 5, 2), (76, .iload_n 3, 1), (77, .if_icmp .le 9, 3), (80, .iload 4, 2), (82, .istore_n 2, 1), (83, .iload 5, 2), (85, .istore_n 3, 1), (86, .iinc 4 1, 3), (89, .goto (-63), 3), (92, .iload_n 1, 1), (93, .ifCond .ne 7, 3), (96, .iload_n 2, 1), (97, .goto 4, 3), (100, .iload_n 3, 1), (101, .ireturn, 1)]
theorem tX6_bar_ok : tX6_bar.all (dk cX6_bar) = true := by decide +kernel
theorem dX6_bar (k : Nat) {pc len : Nat} {i : Instr} (hk : tX6_bar[k]? = some (pc, i, len)) : decode cX6_bar pc = .ok (i, len) := dt_of tX6_bar_ok k hk
def tX6_orders : List (Nat × Instr × Nat) := [(0, .iload_n 1, 1), (1, .aload_n 0, 1), (2, .getfield 100, 3), (5, .if_icmp .ne 83, 3), (8, .aload_n 0, 1), (9, .bipush 12, 2), (11, .invokevirtual 337, 3), (14, .aload_n 0, 1), (15, .getfield 295, 3), (18, .istore 4, 2), (20, .aload_n 0, 1), (21, .getfield 305, 3), (24, .aload_n 0, 1), (25, .getfield 324, 3), (28, .isub, 1), (29, .istore 5, 2), (31, .aload_n 0, 1), (32, .invokevirtual 343, 3), (35, .aload_n 0, 1), (36, .getfield 348, 3), (39, .iconst (-1), 1), (40, .if_icmp .eq 30, 3), (43, .iload 4, 2), (45, .aload_n 0, 1), (46, .getfield 351, 3), (49, .if_icmp .lt 21, 3), (52, .iload 4, 2), (54, .aload_n 0, 1), (55, .getfield 351, 3), (58, .if_icmp .ne 29, 3), (61, .iload 5, 2), (63, .aload_n 0, 1), (64, .getfield 354, 3), (67, .if_icmp .le 20, 3), (70, .aload_n 0, 1), (71, .iload_n 3, 1), (72, .putfield 348, 3), (75, .aload_n 0, 1), (76, .iload 4, 2), (78, .putfield 351, 3), (81, .aload_n 0, 1), (82, .iload 5, 2), (84, .putfield 354, 3), (87, .return_, 1), (88, .iconst 0, 1), (89, .istore 4, 2), (91, .iload 4, 2), (93, .aload_n 0, 1), (94, .getfield 100, 3), (97, .if_icmp .ge 58, 3), (100, .iload_n 2, 1), (101, .iload 4, 2), (103, .ishr, 1), (104, .iconst 1, 1), (105, .iand, 1), (106, .ifCond .ne 43, 3), (109, .bipush 10, 2), (111, .iload_n 3, 1), (112, .imul, 1), (113, .iload 4, 2), (115, .iadd, 1), (116, .istore 5, 2), (118, .iload_n 1, 1), (119, .aload_n 0, 1), (120, .getfield 100, 3), (123, .iconst 1, 1), (124, .isub, 1), (125, .if_icmp .ne 9, 3), (128, .aload_n 0, 1), (129, .iload 5, 2), (131, .invokevirtual 357, 3), (134, .aload_n 0, 1), (135, .iload_n 1, 1), (136, .iconst 1, 1), (137, .iadd, 1), (138, .iload_n 2, 1), (139, .iconst 1, 1), (140, .iload 4, 2), (142, .ishl, 1), (143, .ior, 1), (144, .iload 5, 2), (146, .invokevirtual 360, 3), (149, .iinc 4 1, 3), (152, .goto (-61), 3), (155, .return_, 1)]
theorem tX6_orders_ok : tX6_orders.all (dk cX6_orders) = true := by decide +kernel
theorem dX6_orders (k : Nat) {pc len : Nat} {i : Instr} (hk : tX6_orders[k]? = some (pc, i, len)) : decode cX6_orders pc = .ok (i, len) := dt_of tX6_orders_ok k hk
def tX6_stand : List (Nat × Instr × Nat) := [(0, .iload_n 1, 1), (1, .istore_n 2, 1), (2, .aload_n 0, 1), (3, .getfield 100, 3), (6, .iconst 1, 1), (7, .isub, 1), (8, .istore_n 3, 1), (9, .iload_n 3, 1), (10, .ifCond .lt 23, 3), (13, .aload_n 0, 1), (14, .iload_n 3, 1), (15, .iload_n 2, 1), (16, .bipush 10, 2), (18, .irem, 1), (19, .invokevirtual 327, 3), (22, .iload_n 2, 1), (23, .bipush 10, 2), (25, .idiv, 1), (26, .istore_n 2, 1), (27, .iinc 3 (-1), 3), (30, .goto (-21), 3), (33, .return_, 1)]
theorem tX6_stand_ok : tX6_stand.all (dk cX6_stand) = true := by decide +kernel
theorem dX6_stand (k : Nat) {pc len : Nat} {i : Instr} (hk : tX6_stand[k]? = some (pc, i, len)) : decode cX6_stand pc = .ok (i, len) := dt_of tX6_stand_ok k hk
def tX6_order : List (Nat × Instr × Nat) := [(0, .iload_n 1, 1), (1, .i2l, 1), (2, .ldc2_w 363, 3), (5, .aload_n 0, 1), (6, .getfield 100, 3), (9, .iconst 1, 1), (10, .isub, 1), (11, .i2l, 1), (12, .invokestatic 103, 3), (15, .ifCond .ne 6, 3), (18, .bipush (-2), 2), (20, .ireturn, 1), (21, .aload_n 0, 1), (22, .getfield 100, 3), (25, .ifCond .ne 5, 3), (28, .iconst 0, 1), (29, .ireturn, 1), (30, .aload_n 0, 1), (31, .invokevirtual 334, 3), (34, .aload_n 0, 1), (35, .iconst (-1), 1), (36, .putfield 348, 3), (39, .aload_n 0, 1), (40, .iconst 0, 1), (41, .iconst 0, 1), (42, .iconst 0, 1), (43, .invokevirtual 360, 3), (46, .iload_n 1, 1), (47, .iconst (-1), 1), (48, .if_icmp .ne 8, 3), (51, .aload_n 0, 1), (52, .getfield 351, 3), (55, .ireturn, 1), (56, .aload_n 0, 1), (57, .getfield 348, 3), (60, .istore_n 2, 1), (61, .aload_n 0, 1), (62, .getfield 100, 3), (65, .iconst 1, 1), (66, .isub, 1), (67, .istore_n 3, 1), (68, .iload_n 3, 1), (69, .iload_n 1, 1), (70, .if_icmp .le 14, 3), (73, .iload_n 2, 1), (74, .bipush 10, 2), (76, .idiv, 1), (77, .istore_n 2, 1), (78, .iinc 3 (-1), 3), (81, .goto (-13), 3), (84, .iload_n 2, 1), (85, .bipush 10, 2), (87, .irem, 1), (88, .ireturn, 1)]
theorem tX6_order_ok : tX6_order.all (dk cX6_order) = true := by decide +kernel
theorem dX6_order (k : Nat) {pc len : Nat} {i : Instr} (hk : tX6_order[k]? = some (pc, i, len)) : decode cX6_order pc = .ok (i, len) := dt_of tX6_order_ok k hk
def tX6_home : List (Nat × Instr × Nat) := [(0, .aload_n 0, 1), (1, .invokevirtual 334, 3), (4, .aload_n 0, 1), (5, .bipush 12, 2), (7, .invokevirtual 337, 3), (10, .aload_n 0, 1), (11, .getfield 305, 3), (14, .aload_n 0, 1), (15, .getfield 324, 3), (18, .isub, 1), (19, .istore_n 1, 1), (20, .aload_n 0, 1), (21, .invokevirtual 343, 3), (24, .iconst (-1), 1), (25, .istore_n 2, 1), (26, .iconst 0, 1), (27, .istore_n 3, 1), (28, .iload_n 3, 1), (29, .aload_n 0, 1), (30, .getfield 315, 3), (33, .if_icmp .ge 85, 3), (36, .iconst 0, 1), (37, .istore 4, 2), (39, .iconst 0, 1), (40, .istore 5, 2), (42, .iload 5, 2), (44, .aload_n 0, 1), (45, .getfield 315, 3), (48, .if_icmp .ge 26, 3), (51, .iload 5, 2), (53, .iload_n 3, 1), (54, .if_icmp .eq 14, 3), (57, .aload_n 0, 1), (58, .iload 4, 2), (60, .iload 5, 2), (62, .invokevirtual 327, 3), (65, .iinc 4 1, 3), (68, .iinc 5 1, 3), (71, .goto (-29), 3), (74, .aload_n 0, 1), (75, .iload 4, 2), (77, .putfield 100, 3), (80, .aload_n 0, 1), (81, .bipush 12, 2), (83, .invokevirtual 337, 3), (86, .aload_n 0, 1), (87, .getfield 305, 3), (90, .aload_n 0, 1), (91, .getfield 324, 3), (94, .isub, 1), (95, .istore 5, 2), (97, .aload_n 0, 1), (98, .invokevirtual 343, 3), (101, .iload 5, 2), (103, .iload_n 1, 1), (104, .if_icmp .le 8, 3), (107, .iload_n 3, 1), (108, .istore_n 2, 1), (109, .iload 5, 2), (111, .istore_n 1, 1), (112, .iinc 3 1, 3), (115, .goto (-87), 3), (118, .iload_n 2, 1), (119, .ireturn, 1)]
theorem tX6_home_ok : tX6_home.all (dk cX6_home) = true := by decide +kernel
theorem dX6_home (k : Nat) {pc len : Nat} {i : Instr} (hk : tX6_home[k]? = some (pc, i, len)) : decode cX6_home pc = .ok (i, len) := dt_of tX6_home_ok k hk
def tX6_turns : List (Nat × Instr × Nat) := [(0, .iconst 0, 1), (1, .istore_n 1, 1), (2, .iload_n 1, 1), (3, .bipush 6, 2), (5, .if_icmp .ge 41, 3), (8, .aload_n 0, 1), (9, .getfield 23, 3), (12, .iload_n 1, 1), (13, .iaload, 1), (14, .istore_n 2, 1), (15, .aload_n 0, 1), (16, .getfield 23, 3), (19, .iload_n 1, 1), (20, .aload_n 0, 1), (21, .getfield 23, 3), (24, .bipush 11, 2), (26, .iload_n 1, 1), (27, .isub, 1), (28, .iaload, 1), (29, .iastore, 1), (30, .aload_n 0, 1), (31, .getfield 23, 3), (34, .bipush 11, 2), (36, .iload_n 1, 1), (37, .isub, 1), (38, .iload_n 2, 1), (39, .iastore, 1), (40, .iinc 1 1, 3), (43, .goto (-41), 3), (46, .iconst 0, 1), (47, .istore_n 1, 1), (48, .iload_n 1, 1), (49, .bipush 12, 2), (51, .if_icmp .ge 36, 3), (54, .aload_n 0, 1), (55, .getfield 26, 3), (58, .iload_n 1, 1), (59, .aload_n 0, 1), (60, .getfield 26, 3), (63, .iload_n 1, 1), (64, .iaload, 1), (65, .ifCond .le 14, 3), (68, .aload_n 0, 1), (69, .getfield 26, 3), (72, .iload_n 1, 1), (73, .iaload, 1), (74, .iconst 1, 1), (75, .isub, 1), (76, .goto 4, 3), (79, .iconst 0, 1), (80, .iastore, 1), (81, .iinc 1 1, 3), (84, .goto (-36), 3), (87, .return_, 1)]
theorem tX6_turns_ok : tX6_turns.all (dk cX6_turns) = true := by decide +kernel
theorem dX6_turns (k : Nat) {pc len : Nat} {i : Instr} (hk : tX6_turns[k]? = some (pc, i, len)) : decode cX6_turns pc = .ok (i, len) := dt_of tX6_turns_ok k hk
def tX6_turn : List (Nat × Instr × Nat) := [(0, .aload_n 0, 1), (1, .invokevirtual 365, 3), (4, .iconst 0, 1), (5, .istore_n 1, 1), (6, .iconst 0, 1), (7, .istore_n 2, 1), (8, .iload_n 2, 1), (9, .bipush 12, 2), (11, .if_icmp .ge 18, 3), (14, .iload_n 1, 1), (15, .aload_n 0, 1), (16, .getfield 26, 3), (19, .iload_n 2, 1), (20, .iaload, 1), (21, .iadd, 1), (22, .istore_n 1, 1), (23, .iinc 2 1, 3), (26, .goto (-18), 3), (29, .iload_n 1, 1), (30, .ireturn, 1)]
theorem tX6_turn_ok : tX6_turn.all (dk cX6_turn) = true := by decide +kernel
theorem dX6_turn (k : Nat) {pc len : Nat} {i : Instr} (hk : tX6_turn[k]? = some (pc, i, len)) : decode cX6_turn pc = .ok (i, len) := dt_of tX6_turn_ok k hk
def tX6_when : List (Nat × Instr × Nat) := [(0, .aload_n 0, 1), (1, .invokevirtual 334, 3), (4, .aload_n 0, 1), (5, .bipush 12, 2), (7, .invokevirtual 337, 3), (10, .aload_n 0, 1), (11, .getfield 305, 3), (14, .aload_n 0, 1), (15, .getfield 324, 3), (18, .isub, 1), (19, .istore_n 1, 1), (20, .aload_n 0, 1), (21, .invokevirtual 343, 3), (24, .iconst (-1), 1), (25, .istore_n 2, 1), (26, .iconst 0, 1), (27, .istore_n 3, 1), (28, .iload_n 3, 1), (29, .bipush 12, 2), (31, .if_icmp .ge 52, 3), (34, .aload_n 0, 1), (35, .iload_n 3, 1), (36, .invokevirtual 337, 3), (39, .aload_n 0, 1), (40, .invokevirtual 365, 3), (43, .aload_n 0, 1), (44, .bipush 12, 2), (46, .iload_n 3, 1), (47, .isub, 1), (48, .invokevirtual 337, 3), (51, .aload_n 0, 1), (52, .getfield 305, 3), (55, .aload_n 0, 1), (56, .getfield 324, 3), (59, .isub, 1), (60, .istore 4, 2), (62, .aload_n 0, 1), (63, .invokevirtual 343, 3), (66, .iload 4, 2), (68, .iload_n 1, 1), (69, .if_icmp .le 8, 3), (72, .iload_n 3, 1), (73, .istore_n 2, 1), (74, .iload 4, 2), (76, .istore_n 1, 1), (77, .iinc 3 1, 3), (80, .goto (-52), 3), (83, .iload_n 2, 1), (84, .ireturn, 1)]
theorem tX6_when_ok : tX6_when.all (dk cX6_when) = true := by decide +kernel
theorem dX6_when (k : Nat) {pc len : Nat} {i : Instr} (hk : tX6_when[k]? = some (pc, i, len)) : decode cX6_when pc = .ok (i, len) := dt_of tX6_when_ok k hk
def tX6_stop : List (Nat × Instr × Nat) := [(0, .iload_n 1, 1), (1, .i2l, 1), (2, .lconst 0, 1), (3, .ldc2_w 368, 3), (6, .invokestatic 103, 3), (9, .ifCond .ne 6, 3), (12, .bipush (-2), 2), (14, .ireturn, 1), (15, .aload_n 0, 1), (16, .invokevirtual 334, 3), (19, .iconst (-1), 1), (20, .istore_n 2, 1), (21, .iconst 0, 1), (22, .istore_n 3, 1), (23, .iload_n 3, 1), (24, .bipush 40, 2), (26, .if_icmp .ge 37, 3), (29, .iload_n 2, 1), (30, .iconst (-1), 1), (31, .if_icmp .ne 32, 3), (34, .aload_n 0, 1), (35, .getfield 305, 3), (38, .istore 4, 2), (40, .aload_n 0, 1), (41, .invokevirtual 312, 3), (44, .aload_n 0, 1), (45, .getfield 305, 3), (48, .iload 4, 2), (50, .isub, 1), (51, .iload_n 1, 1), (52, .if_icmp .ge 5, 3), (55, .iload_n 3, 1), (56, .istore_n 2, 1), (57, .iinc 3 1, 3), (60, .goto (-37), 3), (63, .aload_n 0, 1), (64, .invokevirtual 343, 3), (67, .iload_n 2, 1), (68, .ireturn, 1)]
theorem tX6_stop_ok : tX6_stop.all (dk cX6_stop) = true := by decide +kernel
theorem dX6_stop (k : Nat) {pc len : Nat} {i : Instr} (hk : tX6_stop[k]? = some (pc, i, len)) : decode cX6_stop pc = .ok (i, len) := dt_of tX6_stop_ok k hk
def tX6_fewest : List (Nat × Instr × Nat) := [(0, .iload_n 1, 1), (1, .i2l, 1), (2, .lconst 0, 1), (3, .ldc2_w 370, 3), (6, .invokestatic 103, 3), (9, .ifCond .ne 6, 3), (12, .bipush (-2), 2), (14, .ireturn, 1), (15, .aload_n 0, 1), (16, .invokevirtual 334, 3), (19, .iconst (-1), 1), (20, .istore_n 2, 1), (21, .iconst 1, 1), (22, .istore_n 3, 1), (23, .iload_n 3, 1), (24, .aload_n 0, 1), (25, .getfield 315, 3), (28, .if_icmp .gt 44, 3), (31, .iload_n 2, 1), (32, .iconst (-1), 1), (33, .if_icmp .ne 39, 3), (36, .aload_n 0, 1), (37, .iload_n 3, 1), (38, .putfield 100, 3), (41, .aload_n 0, 1), (42, .bipush 12, 2), (44, .invokevirtual 337, 3), (47, .aload_n 0, 1), (48, .getfield 305, 3), (51, .aload_n 0, 1), (52, .getfield 324, 3), (55, .isub, 1), (56, .iload_n 1, 1), (57, .if_icmp .lt 5, 3), (60, .iload_n 3, 1), (61, .istore_n 2, 1), (62, .aload_n 0, 1), (63, .invokevirtual 343, 3), (66, .iinc 3 1, 3), (69, .goto (-46), 3), (72, .iload_n 2, 1), (73, .ireturn, 1)]
theorem tX6_fewest_ok : tX6_fewest.all (dk cX6_fewest) = true := by decide +kernel
theorem dX6_fewest (k : Nat) {pc len : Nat} {i : Instr} (hk : tX6_fewest[k]? = some (pc, i, len)) : decode cX6_fewest pc = .ok (i, len) := dt_of tX6_fewest_ok k hk
def tX6_judge : List (Nat × Instr × Nat) := [(0, .aload_n 0, 1), (1, .iload_n 1, 1), (2, .invokevirtual 123, 3), (5, .ifCond .eq 10, 3), (8, .iload_n 2, 1), (9, .invokestatic 372, 3), (12, .ifCond .ne 6, 3), (15, .bipush (-2), 2), (17, .ireturn, 1), (18, .aload_n 0, 1), (19, .getfield 80, 3), (22, .iload_n 2, 1), (23, .baload, 1), (24, .ifCond .ne 6, 3), (27, .bipush (-11), 2), (29, .ireturn, 1), (30, .aload_n 0, 1), (31, .invokevirtual 334, 3), (34, .iconst (-1), 1), (35, .istore_n 3, 1), (36, .iconst 0, 1), (37, .istore 4, 2), (39, .iload 4, 2), (41, .aload_n 0, 1), (42, .getfield 87, 3), (45, .iload_n 2, 1), (46, .iaload, 1), (47, .if_icmp .ge 42, 3), (50, .iload_n 3, 1), (51, .iconst (-1), 1), (52, .if_icmp .ne 37, 3), (55, .aload_n 0, 1), (56, .invokevirtual 312, 3), (59, .aload_n 0, 1), (60, .getfield 32, 3), (63, .iload_n 1, 1), (64, .iaload, 1), (65, .aload_n 0, 1), (66, .getfield 90, 3), (69, .bipush 40, 2), (71, .iload_n 2, 1), (72, .imul, 1), (73, .iload 4, 2), (75, .iadd, 1), (76, .iaload, 1), (77, .if_icmp .eq 6, 3), (80, .iload 4, 2), (82, .istore_n 3, 1), (83, .iinc 4 1, 3), (86, .goto (-47), 3), (89, .aload_n 0, 1), (90, .invokevirtual 343, 3), (93, .iload_n 3, 1), (94, .ireturn, 1)]
theorem tX6_judge_ok : tX6_judge.all (dk cX6_judge) = true := by decide +kernel
theorem dX6_judge (k : Nat) {pc len : Nat} {i : Instr} (hk : tX6_judge[k]? = some (pc, i, len)) : decode cX6_judge pc = .ok (i, len) := dt_of tX6_judge_ok k hk
def tX6_slow : List (Nat × Instr × Nat) := [(0, .aload_n 0, 1), (1, .iload_n 1, 1), (2, .invokevirtual 123, 3), (5, .ifCond .ne 6, 3), (8, .ldc 159, 2), (10, .ireturn, 1), (11, .aload_n 0, 1), (12, .invokevirtual 334, 3), (15, .aload_n 0, 1), (16, .bipush 12, 2), (18, .invokevirtual 337, 3), (21, .aload_n 0, 1), (22, .invokevirtual 340, 3), (25, .istore_n 2, 1), (26, .aload_n 0, 1), (27, .invokevirtual 343, 3), (30, .aload_n 0, 1), (31, .getfield 35, 3), (34, .iload_n 1, 1), (35, .iconst 0, 1), (36, .iastore, 1), (37, .aload_n 0, 1), (38, .bipush 12, 2), (40, .invokevirtual 337, 3), (43, .aload_n 0, 1), (44, .invokevirtual 340, 3), (47, .istore_n 3, 1), (48, .aload_n 0, 1), (49, .invokevirtual 343, 3), (52, .iload_n 3, 1), (53, .iload_n 2, 1), (54, .isub, 1), (55, .ireturn, 1)]
theorem tX6_slow_ok : tX6_slow.all (dk cX6_slow) = true := by decide +kernel
theorem dX6_slow (k : Nat) {pc len : Nat} {i : Instr} (hk : tX6_slow[k]? = some (pc, i, len)) : decode cX6_slow pc = .ok (i, len) := dt_of tX6_slow_ok k hk
def tX6_drawn : List (Nat × Instr × Nat) := [(0, .iload_n 2, 1), (1, .i2l, 1), (2, .lconst 0, 1), (3, .ldc2_w 330, 3), (6, .invokestatic 103, 3), (9, .ifCond .ne 6, 3), (12, .bipush (-2), 2), (14, .ireturn, 1), (15, .aload_n 0, 1), (16, .invokevirtual 334, 3), (19, .iload_n 1, 1), (20, .istore_n 3, 1), (21, .iconst 0, 1), (22, .istore 4, 2), (24, .iload 4, 2), (26, .iload_n 2, 1), (27, .if_icmp .ge 78, 3), (30, .iconst 0, 1), (31, .istore 5, 2), (33, .iload 5, 2), (35, .aload_n 0, 1), (36, .getfield 100, 3), (39, .if_icmp .ge 34, 3), (42, .iload_n 3, 1), (43, .ldc_w 375, 3), (46, .imul, 1), (47, .sipush 12345, 3), (50, .iadd, 1), (51, .istore_n 3, 1), (52, .aload_n 0, 1), (53, .iload 5, 2), (55, .iload_n 3, 1), (56, .bipush 9, 2), (58, .iushr, 1), (59, .bipush 7, 2), (61, .irem, 1), (62, .iconst 3, 1), (63, .isub, 1), (64, .invokevirtual 308, 3), (67, .iinc 5 1, 3), (70, .goto (-37), 3), (73, .aload_n 0, 1), (74, .aload_n 0, 1), (75, .getfield 142, 3), (78, .sipush 999, 3), (81, .if_icmp .ge 12, 3), (84, .aload_n 0, 1), (85, .getfield 142, 3), (88, .iconst 1, 1), (89, .iadd, 1), (90, .goto 6, 3), (93, .sipush 999, 3), (96, .putfield 142, 3), (99, .iinc 4 1, 3), (102, .goto (-78), 3), (105, .aload_n 0, 1), (106, .getfield 295, 3), (109, .istore 4, 2), (111, .aload_n 0, 1), (112, .invokevirtual 343, 3), (115, .iload 4, 2), (117, .ireturn, 1)]
theorem tX6_drawn_ok : tX6_drawn.all (dk cX6_drawn) = true := by decide +kernel
theorem dX6_drawn (k : Nat) {pc len : Nat} {i : Instr} (hk : tX6_drawn[k]? = some (pc, i, len)) : decode cX6_drawn pc = .ok (i, len) := dt_of tX6_drawn_ok k hk
def tX6_once : List (Nat × Instr × Nat) := [(0, .iload_n 1, 1), (1, .invokestatic 115, 3), (4, .ifCond .eq 13, 3), (7, .iload_n 2, 1), (8, .i2l, 1), (9, .lconst 0, 1), (10, .lconst 1, 1), (11, .invokestatic 103, 3), (14, .ifCond .ne 7, 3), (17, .ldc2_w 376, 3), (20, .lreturn, 1), (21, .aload_n 0, 1), (22, .getfield 23, 3), (25, .iload_n 1, 1), (26, .iaload, 1), (27, .istore_n 3, 1), (28, .iconst 0, 1), (29, .istore 4, 2), (31, .iload 4, 2), (33, .aload_n 0, 1), (34, .getfield 100, 3), (37, .if_icmp .ge 53, 3), (40, .aload_n 0, 1), (41, .iload 4, 2), (43, .iload_n 1, 1), (44, .aload_n 0, 1), (45, .iload 4, 2), (47, .invokevirtual 151, 3), (50, .invokevirtual 291, 3), (53, .aload_n 0, 1), (54, .getfield 23, 3), (57, .iload_n 1, 1), (58, .dup2, 1), (59, .iaload, 1), (60, .aload_n 0, 1), (61, .getfield 23, 3), (64, .iload_n 1, 1), (65, .iaload, 1), (66, .aload_n 0, 1), (67, .getfield 276, 3), (70, .iconst 0, 1), (71, .sipush 1000, 3), (74, .invokestatic 301, 3), (77, .imul, 1), (78, .sipush 1000, 3), (81, .idiv, 1), (82, .isub, 1), (83, .iastore, 1), (84, .iinc 4 1, 3), (87, .goto (-56), 3), (90, .aload_n 0, 1), (91, .getfield 23, 3), (94, .iload_n 1, 1), (95, .iaload, 1), (96, .istore 4, 2), (98, .aload_n 0, 1), (99, .getfield 23, 3), (102, .iload_n 1, 1), (103, .iload_n 3, 1), (104, .iastore, 1), (105, .iload_n 2, 1), (106, .ifCond .ne 9, 3), (109, .iload 4, 2), (111, .i2l, 1), (112, .goto 8, 3), (115, .iload_n 3, 1), (116, .iload 4, 2), (118, .isub, 1), (119, .i2l, 1), (120, .lreturn, 1)]
theorem tX6_once_ok : tX6_once.all (dk cX6_once) = true := by decide +kernel
theorem dX6_once (k : Nat) {pc len : Nat} {i : Instr} (hk : tX6_once[k]? = some (pc, i, len)) : decode cX6_once pc = .ok (i, len) := dt_of tX6_once_ok k hk
def tX6_image : List (Nat × Instr × Nat) := [(0, .iconst 0, 1), (1, .istore_n 1, 1), (2, .iload_n 1, 1), (3, .bipush 12, 2), (5, .if_icmp .ge 33, 3), (8, .aload_n 0, 1), (9, .getfield 62, 3), (12, .iload_n 1, 1), (13, .aload_n 0, 1), (14, .getfield 23, 3), (17, .iload_n 1, 1), (18, .iaload, 1), (19, .iastore, 1), (20, .aload_n 0, 1), (21, .getfield 65, 3), (24, .iload_n 1, 1), (25, .aload_n 0, 1), (26, .getfield 26, 3), (29, .iload_n 1, 1), (30, .iaload, 1), (31, .iastore, 1), (32, .iinc 1 1, 3), (35, .goto (-33), 3), (38, .iconst 0, 1), (39, .istore_n 1, 1), (40, .iload_n 1, 1), (41, .iconst 5, 1), (42, .if_icmp .ge 45, 3), (45, .aload_n 0, 1), (46, .getfield 68, 3), (49, .iload_n 1, 1), (50, .aload_n 0, 1), (51, .getfield 32, 3), (54, .iload_n 1, 1), (55, .iaload, 1), (56, .iastore, 1), (57, .aload_n 0, 1), (58, .getfield 71, 3), (61, .iload_n 1, 1), (62, .aload_n 0, 1), (63, .getfield 35, 3), (66, .iload_n 1, 1), (67, .iaload, 1), (68, .iastore, 1), (69, .aload_n 0, 1), (70, .getfield 74, 3), (73, .iload_n 1, 1), (74, .aload_n 0, 1), (75, .getfield 38, 3), (78, .iload_n 1, 1), (79, .iaload, 1), (80, .iastore, 1), (81, .iinc 1 1, 3), (84, .goto (-44), 3), (87, .aload_n 0, 1), (88, .aload_n 0, 1), (89, .getfield 100, 3), (92, .putfield 77, 3), (95, .aload_n 0, 1), (96, .aload_n 0, 1), (97, .getfield 41, 3), (100, .putfield 378, 3), (103, .aload_n 0, 1), (104, .aload_n 0, 1), (105, .getfield 142, 3), (108, .putfield 381, 3), (111, .aload_n 0, 1), (112, .aload_n 0, 1), (113, .getfield 305, 3), (116, .putfield 384, 3), (119, .aload_n 0, 1), (120, .aload_n 0, 1), (121, .getfield 288, 3), (124, .putfield 387, 3), (127, .aload_n 0, 1), (128, .getfield 142, 3), (131, .ireturn, 1)]
theorem tX6_image_ok : tX6_image.all (dk cX6_image) = true := by decide +kernel
theorem dX6_image (k : Nat) {pc len : Nat} {i : Instr} (hk : tX6_image[k]? = some (pc, i, len)) : decode cX6_image pc = .ok (i, len) := dt_of tX6_image_ok k hk
def tX6_back : List (Nat × Instr × Nat) := [(0, .aload_n 0, 1), (1, .getfield 77, 3), (4, .iconst (-1), 1), (5, .if_icmp .ne 6, 3), (8, .bipush (-3), 2), (10, .ireturn, 1), (11, .iconst 0, 1), (12, .istore_n 1, 1), (13, .iload_n 1, 1), (14, .bipush 12, 2), (16, .if_icmp .ge 33, 3), (19, .aload_n 0, 1), (20, .getfield 23, 3), (23, .iload_n 1, 1), (24, .aload_n 0, 1), (25, .getfield 62, 3), (28, .iload_n 1, 1), (29, .iaload, 1), (30, .iastore, 1), (31, .aload_n 0, 1), (32, .getfield 26, 3), (35, .iload_n 1, 1), (36, .aload_n 0, 1), (37, .getfield 65, 3), (40, .iload_n 1, 1), (41, .iaload, 1), (42, .iastore, 1), (43, .iinc 1 1, 3), (46, .goto (-33), 3), (49, .iconst 0, 1), (50, .istore_n 1, 1), (51, .iload_n 1, 1), (52, .aload_n 0, 1), (53, .getfield 77, 3), (56, .if_icmp .ge 45, 3), (59, .aload_n 0, 1), (60, .getfield 32, 3), (63, .iload_n 1, 1), (64, .aload_n 0, 1), (65, .getfield 68, 3), (68, .iload_n 1, 1), (69, .iaload, 1), (70, .iastore, 1), (71, .aload_n 0, 1), (72, .getfield 35, 3), (75, .iload_n 1, 1), (76, .aload_n 0, 1), (77, .getfield 71, 3), (80, .iload_n 1, 1), (81, .iaload, 1), (82, .iastore, 1), (83, .aload_n 0, 1), (84, .getfield 38, 3), (87, .iload_n 1, 1), (88, .aload_n 0, 1), (89, .getfield 74, 3), (92, .iload_n 1, 1), (93, .iaload, 1), (94, .iastore, 1), (95, .iinc 1 1, 3), (98, .goto (-47), 3), (101, .aload_n 0, 1), (102, .aload_n 0, 1), (103, .getfield 77, 3), (106, .putfield 100, 3), (109, .aload_n 0, 1), (110, .aload_n 0, 1), (111, .getfield 378, 3), (114, .putfield 41, 3), (117, .aload_n 0, 1), (118, .aload_n 0, 1), (119, .getfield 381, 3), (122, .putfield 142, 3), (125, .aload_n 0, 1), (126, .aload_n 0, 1), (127, .getfield 384, 3), (130, .putfield 305, 3), (133, .aload_n 0, 1), (134, .aload_n 0, 1), (135, .getfield 387, 3), (138, .putfield 288, 3), (141, .aload_n 0, 1), (142, .getfield 142, 3), (145, .ireturn, 1)]
theorem tX6_back_ok : tX6_back.all (dk cX6_back) = true := by decide +kernel
theorem dX6_back (k : Nat) {pc len : Nat} {i : Instr} (hk : tX6_back[k]? = some (pc, i, len)) : decode cX6_back pc = .ok (i, len) := dt_of tX6_back_ok k hk
def tX6_count : List (Nat × Instr × Nat) := [(0, .iload_n 1, 1), (1, .i2l, 1), (2, .lconst 0, 1), (3, .ldc2_w 390, 3), (6, .invokestatic 103, 3), (9, .ifCond .ne 6, 3), (12, .bipush (-2), 2), (14, .ireturn, 1), (15, .iload_n 1, 1), (16, .iconst 4, 1), (17, .if_icmp .ge 43, 3), (20, .iload_n 1, 1), (21, .ifCond .ne 10, 3), (24, .aload_n 0, 1), (25, .getfield 100, 3), (28, .goto 31, 3), (31, .iload_n 1, 1), (32, .iconst 1, 1), (33, .if_icmp .ne 10, 3), (36, .aload_n 0, 1), (37, .getfield 41, 3), (40, .goto 19, 3), (43, .iload_n 1, 1), (44, .iconst 2, 1), (45, .if_icmp .ne 10, 3), (48, .aload_n 0, 1), (49, .getfield 142, 3), (52, .goto 7, 3), (55, .aload_n 0, 1), (56, .getfield 305, 3), (59, .ireturn, 1), (60, .iload_n 1, 1), (61, .iconst 4, 1), (62, .if_icmp .ne 10, 3), (65, .aload_n 0, 1), (66, .getfield 97, 3), (69, .goto 19, 3), (72, .iload_n 1, 1), (73, .iconst 5, 1), (74, .if_icmp .ne 10, 3), (77, .aload_n 0, 1), (78, .getfield 162, 3), (81, .goto 7, 3), (84, .aload_n 0, 1), (85, .getfield 288, 3), (88, .ireturn, 1)]
theorem tX6_count_ok : tX6_count.all (dk cX6_count) = true := by decide +kernel
theorem dX6_count (k : Nat) {pc len : Nat} {i : Instr} (hk : tX6_count[k]? = some (pc, i, len)) : decode cX6_count pc = .ok (i, len) := dt_of tX6_count_ok k hk
def tX6_isSheet : List (Nat × Instr × Nat) := [(0, .iload_n 0, 1), (1, .i2l, 1), (2, .lconst 0, 1), (3, .ldc2_w 332, 3), (6, .invokestatic 103, 3), (9, .ireturn, 1)]
theorem tX6_isSheet_ok : tX6_isSheet.all (dk cX6_isSheet) = true := by decide +kernel
theorem dX6_isSheet (k : Nat) {pc len : Nat} {i : Instr} (hk : tX6_isSheet[k]? = some (pc, i, len)) : decode cX6_isSheet pc = .ok (i, len) := dt_of tX6_isSheet_ok k hk
def tX6_sheet : List (Nat × Instr × Nat) := [(0, .iload_n 1, 1), (1, .invokestatic 372, 3), (4, .ifCond .eq 27, 3), (7, .iload_n 2, 1), (8, .i2l, 1), (9, .ldc2_w 363, 3), (12, .ldc2_w 119, 3), (15, .invokestatic 103, 3), (18, .ifCond .eq 13, 3), (21, .iload_n 2, 1), (22, .ifCond .lt 12, 3), (25, .iload_n 3, 1), (26, .bipush 40, 2), (28, .if_icmp .le 6, 3), (31, .bipush (-2), 2), (33, .ireturn, 1), (34, .iload_n 2, 1), (35, .ifCond .lt 10, 3), (38, .iload_n 3, 1), (39, .ifCond .ge 6, 3), (42, .bipush (-14), 2), (44, .ireturn, 1), (45, .aload_n 0, 1), (46, .getfield 80, 3), (49, .iload_n 1, 1), (50, .iload_n 2, 1), (51, .ifCond .lt 7, 3), (54, .iconst 1, 1), (55, .goto 4, 3), (58, .iconst 0, 1), (59, .bastore, 1), (60, .aload_n 0, 1), (61, .getfield 84, 3), (64, .iload_n 1, 1), (65, .iload_n 2, 1), (66, .iastore, 1), (67, .aload_n 0, 1), (68, .getfield 87, 3), (71, .iload_n 1, 1), (72, .iload_n 3, 1), (73, .iastore, 1), (74, .iconst 0, 1), (75, .istore 4, 2), (77, .iload 4, 2), (79, .iload_n 3, 1), (80, .if_icmp .ge 26, 3), (83, .iload_n 2, 1), (84, .ifCond .lt 22, 3), (87, .aload_n 0, 1), (88, .getfield 90, 3), (91, .bipush 40, 2), (93, .iload_n 1, 1), (94, .imul, 1), (95, .iload 4, 2), (97, .iadd, 1), (98, .iconst 0, 1), (99, .iastore, 1), (100, .iinc 4 1, 3), (103, .goto (-26), 3), (106, .iconst 1, 1), (107, .ireturn, 1)]
theorem tX6_sheet_ok : tX6_sheet.all (dk cX6_sheet) = true := by decide +kernel
theorem dX6_sheet (k : Nat) {pc len : Nat} {i : Instr} (hk : tX6_sheet[k]? = some (pc, i, len)) : decode cX6_sheet pc = .ok (i, len) := dt_of tX6_sheet_ok k hk
def tX6_cell : List (Nat × Instr × Nat) := [(0, .iload_n 1, 1), (1, .invokestatic 372, 3), (4, .ifCond .ne 6, 3), (7, .bipush (-2), 2), (9, .ireturn, 1), (10, .aload_n 0, 1), (11, .getfield 80, 3), (14, .iload_n 1, 1), (15, .baload, 1), (16, .ifCond .ne 6, 3), (19, .bipush (-11), 2), (21, .ireturn, 1), (22, .iload_n 2, 1), (23, .i2l, 1), (24, .lconst 0, 1), (25, .aload_n 0, 1), (26, .getfield 87, 3), (29, .iload_n 1, 1), (30, .iaload, 1), (31, .iconst 1, 1), (32, .isub, 1), (33, .i2l, 1), (34, .invokestatic 103, 3), (37, .ifCond .ne 6, 3), (40, .bipush (-12), 2), (42, .ireturn, 1), (43, .aload_n 0, 1), (44, .getfield 90, 3), (47, .bipush 40, 2), (49, .iload_n 1, 1), (50, .imul, 1), (51, .iload_n 2, 1), (52, .iadd, 1), (53, .aload_n 0, 1), (54, .getfield 84, 3), (57, .iload_n 1, 1), (58, .iaload, 1), (59, .ifCond .ne 8, 3), (62, .iload_n 3, 1), (63, .i2b, 1), (64, .goto 19, 3), (67, .aload_n 0, 1), (68, .getfield 84, 3), (71, .iload_n 1, 1), (72, .iaload, 1), (73, .iconst 1, 1), (74, .if_icmp .ne 8, 3), (77, .iload_n 3, 1), (78, .i2s, 1), (79, .goto 4, 3), (82, .iload_n 3, 1), (83, .iastore, 1), (84, .iconst 1, 1), (85, .ireturn, 1)]
theorem tX6_cell_ok : tX6_cell.all (dk cX6_cell) = true := by decide +kernel
theorem dX6_cell (k : Nat) {pc len : Nat} {i : Instr} (hk : tX6_cell[k]? = some (pc, i, len)) : decode cX6_cell pc = .ok (i, len) := dt_of tX6_cell_ok k hk
def tX6_copy : List (Nat × Instr × Nat) := [(0, .iload_n 1, 1), (1, .invokestatic 372, 3), (4, .ifCond .eq 10, 3), (7, .iload_n 3, 1), (8, .invokestatic 372, 3), (11, .ifCond .ne 6, 3), (14, .bipush (-2), 2), (16, .ireturn, 1), (17, .aload_n 0, 1), (18, .getfield 80, 3), (21, .iload_n 1, 1), (22, .baload, 1), (23, .ifCond .eq 12, 3), (26, .aload_n 0, 1), (27, .getfield 80, 3), (30, .iload_n 3, 1), (31, .baload, 1), (32, .ifCond .ne 6, 3), (35, .bipush (-11), 2), (37, .ireturn, 1), (38, .aload_n 0, 1), (39, .getfield 84, 3), (42, .iload_n 1, 1), (43, .iaload, 1), (44, .aload_n 0, 1), (45, .getfield 84, 3), (48, .iload_n 3, 1), (49, .iaload, 1), (50, .if_icmp .eq 6, 3), (53, .bipush (-13), 2), (55, .ireturn, 1), (56, .iload 5, 2), (58, .ifCond .lt 39, 3), (61, .iload_n 2, 1), (62, .ifCond .lt 35, 3), (65, .iload 4, 2), (67, .ifCond .lt 30, 3), (70, .iload_n 2, 1), (71, .aload_n 0, 1), (72, .getfield 87, 3), (75, .iload_n 1, 1), (76, .iaload, 1), (77, .iload 5, 2), (79, .isub, 1), (80, .if_icmp .gt 17, 3), (83, .iload 4, 2), (85, .aload_n 0, 1), (86, .getfield 87, 3), (89, .iload_n 3, 1), (90, .iaload, 1), (91, .iload 5, 2), (93, .isub, 1), (94, .if_icmp .le 6, 3), (97, .bipush (-12), 2), (99, .ireturn, 1), (100, .iload_n 1, 1), (101, .iload_n 3, 1), (102, .if_icmp .ne 13, 3), (105, .iload_n 2, 1), (106, .iload 4, 2), (108, .if_icmp .ge 7, 3), (111, .iconst 1, 1), (112, .goto 4, 3), (115, .iconst 0, 1), (116, .istore 6, 2), (118, .iconst 0, 1), (119, .istore 7, 2), (121, .iload 7, 2), (123, .iload 5, 2), (125, .if_icmp .ge 57, 3), (128, .iload 6, 2), (130, .ifCond .eq 13, 3), (133, .iload 5, 2), (135, .iconst 1, 1), (136, .isub, 1), (137, .iload 7, 2), (139, .isub, 1), (140, .goto 5, 3), (143, .iload 7, 2), (145, .istore 8, 2), (147, .aload_n 0, 1), (148, .getfield 90, 3), (151, .bipush 40, 2), (153, .iload_n 3, 1), (154, .imul, 1), (155, .iload 4, 2), (157, .iadd, 1), (158, .iload 8, 2), (160, .iadd, 1), (161, .aload_n 0, 1), (162, .getfield 90, 3), (165, .bipush 40, 2), (167, .iload_n 1, 1), (168, .imul, 1), (169, .iload_n 2, 1), (170, .iadd, 1), (171, .iload 8, 2), (173, .iadd, 1), (174, .iaload, 1), (175, .iastore, 1), (176, .iinc 7 1, 3), (179, .goto (-58), 3), (182, .iload 5, 2), (184, .ireturn, 1)]
theorem tX6_copy_ok : tX6_copy.all (dk cX6_copy) = true := by decide +kernel
theorem dX6_copy (k : Nat) {pc len : Nat} {i : Instr} (hk : tX6_copy[k]? = some (pc, i, len)) : decode cX6_copy pc = .ok (i, len) := dt_of tX6_copy_ok k hk
def tX6_men : List (Nat × Instr × Nat) := [(0, .iload_n 1, 1), (1, .invokestatic 372, 3), (4, .ifCond .eq 28, 3), (7, .iload_n 2, 1), (8, .i2l, 1), (9, .lconst 0, 1), (10, .ldc2_w 119, 3), (13, .invokestatic 103, 3), (16, .ifCond .eq 16, 3), (19, .iload 4, 2), (21, .i2l, 1), (22, .lconst 0, 1), (23, .ldc2_w 109, 3), (26, .invokestatic 103, 3), (29, .ifCond .ne 6, 3), (32, .bipush (-2), 2), (34, .ireturn, 1), (35, .aload_n 0, 1), (36, .getfield 80, 3), (39, .iload_n 1, 1), (40, .baload, 1), (41, .ifCond .eq 16, 3), (44, .aload_n 0, 1), (45, .getfield 84, 3), (48, .iload_n 1, 1), (49, .iaload, 1), (50, .iload_n 2, 1), (51, .if_icmp .eq 6, 3), (54, .bipush (-13), 2), (56, .ireturn, 1), (57, .aload_n 0, 1), (58, .getfield 80, 3), (61, .iload_n 1, 1), (62, .baload, 1), (63, .ifCond .ne 6, 3), (66, .bipush (-11), 2), (68, .ireturn, 1), (69, .iconst 0, 1), (70, .istore 5, 2), (72, .iconst 0, 1), (73, .istore 6, 2), (75, .iload 6, 2), (77, .iload 4, 2), (79, .if_icmp .ge 88, 3), (82, .iload_n 3, 1), (83, .ifCond .lt 20, 3), (86, .iload_n 3, 1), (87, .aload_n 0, 1), (88, .getfield 87, 3), (91, .iload_n 1, 1), (92, .iaload, 1), (93, .iconst 3, 1), (94, .iload 6, 2), (96, .imul, 1), (97, .isub, 1), (98, .iconst 3, 1), (99, .isub, 1), (100, .if_icmp .le 6, 3), (103, .bipush (-12), 2), (105, .ireturn, 1), (106, .bipush 40, 2), (108, .iload_n 1, 1), (109, .imul, 1), (110, .iload_n 3, 1), (111, .iadd, 1), (112, .iconst 3, 1), (113, .iload 6, 2), (115, .imul, 1), (116, .iadd, 1), (117, .istore 7, 2), (119, .iload 5, 2), (121, .aload_n 0, 1), (122, .aload_n 0, 1), (123, .getfield 90, 3), (126, .iload 7, 2), (128, .iaload, 1), (129, .aload_n 0, 1), (130, .getfield 90, 3), (133, .iload 7, 2), (135, .iconst 1, 1), (136, .iadd, 1), (137, .iaload, 1), (138, .aload_n 0, 1), (139, .getfield 90, 3), (142, .iload 7, 2), (144, .iconst 2, 1), (145, .iadd, 1), (146, .iaload, 1), (147, .invokevirtual 392, 3), (150, .ifCond .lt 7, 3), (153, .iconst 1, 1), (154, .goto 4, 3), (157, .iconst 0, 1), (158, .iadd, 1), (159, .istore 5, 2), (161, .iinc 6 1, 3), (164, .goto (-89), 3), (167, .iload 5, 2), (169, .ireturn, 1)]
theorem tX6_men_ok : tX6_men.all (dk cX6_men) = true := by decide +kernel
theorem dX6_men (k : Nat) {pc len : Nat} {i : Instr} (hk : tX6_men[k]? = some (pc, i, len)) : decode cX6_men pc = .ok (i, len) := dt_of tX6_men_ok k hk
def tX6_over : List (Nat × Instr × Nat) := [(0, .iload_n 0, 1), (1, .ifCond .ne 7, 3), (4, .iconst (-1), 1), (5, .goto 36, 3), (8, .iload_n 0, 1), (9, .iconst 1, 1), (10, .if_icmp .eq 8, 3), (13, .iload_n 0, 1), (14, .iconst 2, 1), (15, .if_icmp .ne 7, 3), (18, .iconst 0, 1), (19, .goto 22, 3), (22, .iload_n 0, 1), (23, .iconst 3, 1), (24, .if_icmp .ne 7, 3), (27, .iconst 2, 1), (28, .goto 13, 3), (31, .iload_n 0, 1), (32, .iconst 4, 1), (33, .if_icmp .ne 7, 3), (36, .iconst 1, 1), (37, .goto 4, 3), (40, .iconst 3, 1), (41, .ireturn, 1)]
theorem tX6_over_ok : tX6_over.all (dk cX6_over) = true := by decide +kernel
theorem dX6_over (k : Nat) {pc len : Nat} {i : Instr} (hk : tX6_over[k]? = some (pc, i, len)) : decode cX6_over pc = .ok (i, len) := dt_of tX6_over_ok k hk
def tX6_taken : List (Nat × Instr × Nat) := [(0, .iload_n 2, 1), (1, .i2l, 1), (2, .lconst 0, 1), (3, .ldc2_w 109, 3), (6, .invokestatic 103, 3), (9, .ifCond .ne 6, 3), (12, .bipush (-2), 2), (14, .ireturn, 1), (15, .aload_n 0, 1), (16, .iload_n 1, 1), (17, .invokevirtual 123, 3), (20, .ifCond .ne 6, 3), (23, .bipush (-11), 2), (25, .ireturn, 1), (26, .aload_n 0, 1), (27, .getfield 29, 3), (30, .iload_n 1, 1), (31, .iaload, 1), (32, .istore_n 3, 1), (33, .iload_n 3, 1), (34, .iconst (-1), 1), (35, .if_icmp .eq 16, 3), (38, .iload_n 3, 1), (39, .iload_n 2, 1), (40, .if_icmp .eq 11, 3), (43, .iload_n 3, 1), (44, .invokestatic 395, 3), (47, .istore_n 3, 1), (48, .goto (-15), 3), (51, .iload_n 3, 1), (52, .iload_n 2, 1), (53, .if_icmp .ne 12, 3), (56, .aload_n 0, 1), (57, .getfield 35, 3), (60, .iload_n 1, 1), (61, .iaload, 1), (62, .goto 5, 3), (65, .bipush (-13), 2), (67, .ireturn, 1)]
theorem tX6_taken_ok : tX6_taken.all (dk cX6_taken) = true := by decide +kernel
theorem dX6_taken (k : Nat) {pc len : Nat} {i : Instr} (hk : tX6_taken[k]? = some (pc, i, len)) : decode cX6_taken pc = .ok (i, len) := dt_of tX6_taken_ok k hk
end
section
/-! THE WALK JUDGEMENT AW: a method at a pc with locals, stack and a world of cells comes to its end with 'post answer world'. All that the machine needs beside (heaps, tables' words, addresses, room) is held inside. -/
def gtbl : List Cond := lw_tbl.filter goodWord
theorem gt_in {w : Cond} (i : Nat) (h : lw_tbl[i]? = some w) (g : goodWord w = true) : w ∈ gtbl := List.mem_filter.mpr ⟨List.mem_of_getElem? h, g⟩
theorem gt_good : GoodIn gtbl gtbl := fun w h => ⟨h, good_of_word (List.mem_filter.mp h).2⟩
theorem gt_goodc {c : Cond} (h : c ∈ gtbl) : GoodIn gtbl (c :: gtbl) := fun w hw => by
  rcases List.mem_cons.mp hw with rfl | hw
  · exact ⟨h, good_of_word (List.mem_filter.mp h).2⟩
  · exact gt_good w hw
/-- the launch's numbers: classes and slots; array classes (ints, booleans, sheets, texts); string constants and their bytes; the static row -/
abbrev ag : Type := va_G × (Nat → ClassId) × (Nat → Nat) × (Nat → Nat) × Nat
abbrev ag_tys (E : ag) : List (ClassId × FieldType) := [(E.2.1 0, .int), (E.2.1 1, .boolean), (E.2.1 2, .object "FourFlails$Sheet"), (E.2.1 3, .object "FourFlails$Text")]
def ag_nS : Nat := 13
def ag_own (i : Nat) : String := ["FourFlails", "FourFlails$Reader", "FourFlails$Reader", "FourFlails$Reader", "FourFlails$Reader", "FourFlails$Reader", "FourFlails$Reader", "FourFlails$Reader", "FourFlails$Reader", "FourFlails$Reader", "FourFlails$Reader", "FourFlails$Reader", "FourFlails$Reader"].getD i ""
def ag_idx (i : Nat) : Nat := [64, 88, 90, 92, 94, 96, 98, 100, 102, 104, 106, 108, 110].getD i 0
def ag_txt (i : Nat) : String := ["gives force - wet * 3 ; drifts tired ; hurts 1 ;", "gives", "drifts", "hurts", "or", "and", "not", "force", "wet", "gap", "ears", "round", "tired"].getD i ""
def ag_len : List Nat := [48, 5, 6, 5, 2, 3, 3, 5, 3, 3, 4, 5, 5]
def ag_byt : List (List Int32) := [[103, 105, 118, 101, 115, 32, 102, 111, 114, 99, 101, 32, 45, 32, 119, 101, 116, 32, 42, 32, 51, 32, 59, 32, 100, 114, 105, 102, 116, 115, 32, 116, 105, 114, 101, 100, 32, 59, 32, 104, 117, 114, 116, 115, 32, 49, 32, 59], [103, 105, 118, 101, 115], [100, 114, 105, 102, 116, 115], [104, 117, 114, 116, 115], [111, 114], [97, 110, 100], [110, 111, 116], [102, 111, 114, 99, 101], [119, 101, 116], [103, 97, 112], [101, 97, 114, 115], [114, 111, 117, 110, 100], [116, 105, 114, 101, 100]]
def ag_above (j : Nat) : Int32 := [-1, 0, 0, 2, 1, 3].getD j 0
def ag_nest : List (String × Nat × MethodName × String) := [("FourFlails", 28, ⟨"FourFlails$Flailing", "<init>", "()V"⟩, "FourFlails"), ("FourFlails", 35, ⟨"FourFlails$Reader", "<init>", "()V"⟩, "FourFlails"), ("FourFlails$Reader", 33, ⟨"FourFlails$Text", "<init>", "()V"⟩, "FourFlails"), ("FourFlails", 63, ⟨"FourFlails$Text", "<init>", "()V"⟩, "FourFlails"), ("FourFlails$Floor", 52, ⟨"FourFlails", "held", "(II)I"⟩, "FourFlails"), ("FourFlails$Floor", 65, ⟨"FourFlails", "bounded", "(III)I"⟩, "FourFlails"), ("FourFlails$Flailing", 77, ⟨"FourFlails", "bounded", "(III)I"⟩, "FourFlails"), ("FourFlails$Flailing", 91, ⟨"FourFlails", "held", "(II)I"⟩, "FourFlails"), ("FourFlails$Floor", 69, ⟨"FourFlails", "exchange", "([III)I"⟩, "FourFlails")]
/-- what the launch holds beside the world: it never changes -/
def ac_C (E : ag) (A : Nat → Prop) (U : State) (H : Heap) : Prop :=
  va_K E.1 vwCl (ag_tys E) U ∧ vk_S ag_nS ag_len ag_byt E.2.2.1 E.2.2.2.1 A U H ∧ (∀ i : Nat, i < ag_nS → vk_R (ag_own i) (ag_idx i) (ag_txt i) (E.2.2.1 i) U) ∧
  va_T .int E.2.2.2.2 6 (fun j => .int (ag_above j)) A U H ∧ va_Z "FourFlails" "ABOVE" "[I" (.ref E.2.2.2.2) A U H ∧ va_Z "java/lang/String" "COMPACT_STRINGS" "Z" (.int 1) A U H ∧
  (∀ q : String × Nat × MethodName × String, q ∈ ag_nest → va_Nw (.methodLinkNest q.1 q.2.1 q.2.2.1 q.2.2.2) U) ∧ va_AO "FourFlails$Sheet" U ∧ va_AO "FourFlails$Text" U
theorem ac_C.go {E : ag} {A B : Nat → Prop} {s U : State} {H0 H : Heap} (h : ac_C E A s H0) (hW : s.WarmedH U.vm) (hq : ∀ a : Nat, a < H0.size → ¬ A a → H[a]? = H0[a]?) (hAB : ∀ q, B q → A q) : ac_C E B U H := by
  obtain ⟨h1, h2, h3, h4, h5, h6, h7, h8, h9⟩ := h
  exact ⟨va_K.moved hW.alike h1, vk_S.narrow (vk_S.moved hW.alike (vk_S.kept h2 hq)) hAB, fun i hi => vk_R.warm hW (h3 i hi), va_T.narrow (va_T.moved hW.alike (va_T.kept h4 hq)) hAB, va_Z.narrow (va_Z.moved hW.alike (va_Z.kept h5 hq)) hAB, va_Z.narrow (va_Z.moved hW.alike (va_Z.kept h6 hq)) hAB, fun q hq => va_Nw.warmM hW (h7 q hq), va_AO.moved hW.alike h8, va_AO.moved hW.alike h9⟩
/-- a method: its class, code, locals, answer, whether it is a constructor -/
abbrev am : Type := String × ByteArray × Nat × Option FieldType × Bool
abbrev rmd (d mc ms : Nat) : Room := { frames := d, cells := mc, slots := ms, locals := 40 * d }
/-- locals by their places -/
def ps : Nat → List (Option Value) → List (Nat × Value)
  | _, [] => []
  | i, none :: r => ps (i + 1) r
  | i, some v :: r => (i, v) :: ps (i + 1) r
theorem ps_mem : ∀ (ls : List (Option Value)) (j i : Nat) (v : Value), ls[i]? = some (some v) → (j + i, v) ∈ ps j ls := by
  intro ls
  induction ls with
  | nil => intro j i v h; simp at h
  | cons x r ih =>
    intro j i v h
    cases i with
    | zero =>
      have hx : x = some v := by simpa using h
      subst hx
      simp [ps]
    | succ i =>
      have h1 : r[i]? = some (some v) := by simpa using h
      have h2 := ih (j + 1) i v h1
      rw [show j + 1 + i = j + (i + 1) by omega] at h2
      cases x with
      | none => exact h2
      | some w => exact List.mem_cons_of_mem _ h2
theorem ps_of : ∀ (ls : List (Option Value)) (j : Nat) (q : Nat × Value), q ∈ ps j ls → ∃ i, q.1 = j + i ∧ ls[i]? = some (some q.2) := by
  intro ls
  induction ls with
  | nil => intro j q h; cases h
  | cons x r ih =>
    intro j q h
    cases x with
    | none =>
      obtain ⟨i, h1, h2⟩ := ih (j + 1) q h
      exact ⟨i + 1, by omega, by simpa using h2⟩
    | some w =>
      rcases List.mem_cons.mp h with rfl | h
      · exact ⟨0, rfl, rfl⟩
      · obtain ⟨i, h1, h2⟩ := ih (j + 1) q h
        exact ⟨i + 1, by omega, by simpa using h2⟩
theorem ps_at {la : Array Slot} {nL i : Nat} {ls : List (Option Value)} {v : Value} (h : lv_has la nL (ps 0 ls)) (hi : ls[i]? = some (some v)) : la[i]? = some (.val v) := by
  have := h.2.2 _ (ps_mem ls 0 i v hi)
  simpa using this
def noL (ls : List (Option Value)) : Bool := ls.all (fun x => match x with | some v => v.category == 1 | none => true)
theorem noL_at {ls : List (Option Value)} (h : noL ls = true) {i : Nat} {v : Value} (hi : ls[i]? = some (some v)) : v.category = 1 := by
  have := List.all_eq_true.mp h _ (List.mem_of_getElem? hi)
  simpa using this
theorem ps_set {la : Array Slot} {nL i : Nat} {ls : List (Option Value)} {v : Value} (hn : noL ls = true) (h : lv_has la nL ((i, v) :: (ps 0 ls).filter (fun q => !(q.1 == i) && !(q.1 + 1 == i && q.2.category == 2)))) : lv_has la nL (ps 0 (ls.set i (some v))) := by
  refine ⟨h.1, h.2.1, fun q hq => ?_⟩
  obtain ⟨j, h1, h2⟩ := ps_of _ 0 q hq
  rw [Nat.zero_add] at h1
  by_cases hj : j = i
  · subst hj
    have hv : q.2 = v := by
      rw [List.getElem?_set] at h2
      split at h2 <;> simp_all
    have : q = (j, v) := by rw [← h1, ← hv]
    rw [this]
    exact h.2.2 _ List.mem_cons_self
  · have h3 : ls[j]? = some (some q.2) := by
      rw [List.getElem?_set] at h2
      split at h2
      · rename_i hh; exact absurd hh.symm hj
      · exact h2
    refine h.2.2 q (List.mem_cons_of_mem _ (List.mem_filter.mpr ⟨?_, ?_⟩))
    · have := ps_mem ls 0 j q.2 h3
      rw [Nat.zero_add, ← h1] at this
      exact this
    · have hc := noL_at hn h3
      simp [h1, hj, hc]
/-- what a method leaves: its answer, the world, nothing else changed -/
def ac_Q (E : ag) (A : Nat → Prop) (post : Option Value → va_W → Prop) : Array Value → State → Outcome → State → Prop := fun _ st oc t => (∃ (v : Option Value) (ws' : va_W), oc = .returned v ∧ post v ws' ∧ va_P E.1 vwCl ws' t.heap ∧ va_D A ws') ∧ va_F A st t
def AX (E : ag) (M : am) (A : Nat → Prop) (p : Program) (s : State) (m : MethodId) (args : Array Value) (meth : Method) (c : Code) : Prop :=
  p.tables.exec = Jvm.exec ∧ c.code = M.2.1 ∧ c.maxLocals = M.2.2.1 ∧ s.vm.findClass M.1 = some m.cls ∧ (∀ w ∈ gtbl, w.before args s = true) ∧ meth.sig.returnType = M.2.2.2.1 ∧ meth.locks = false ∧ (M.2.2.2.2 = true → meth.name = "<init>") ∧ ac_C E A s s.heap ∧ (∀ q, s.heap.size ≤ q → A q)
def AW (E : ag) (M : am) (d bc bs pc : Nat) (ls : List (Option Value)) (st : List Value) (ws : va_W) (post : Option Value → va_W → Prop) : Prop :=
  ∀ (p : Program) (l : Launch) (e : Env) (s : State) (m : MethodId) (args : Array Value) (below : List Frame) (meth : Method) (c : Code) (H : Heap) (locs : List Loc) (cells slots mc ms : Nat) (A : Nat → Prop) (la : Array Slot),
    AX E M A p s m args meth c → lv_has la M.2.2.1 (ps 0 ls) → va_P E.1 vwCl ws H → va_D A ws → va_S A s.heap H locs → cells + bc ≤ mc → slots + bs ≤ ms →
    W p l e (rmd d mc ms) s m args below meth c H locs cells slots (MQ below (ac_Q E A post) args s mc ms A) (F0 m pc la st)
/-- a method's contract: with these arguments and this world it ends with 'post answer world' -/
def CT (E : ag) (y : MethodName) (cc : ByteArray) (nL : Nat) (ret : Option FieldType) (d mc ms : Nat) (av : List Value) (ws : va_W) (post : Option Value → va_W → Prop) : Prop :=
  ∀ (l : Launch) (sz : Nat), Met l y (Cond.code y cc nL ret :: gtbl) (rmd d mc ms) (va_Pc av (fun U => U.heap.size = sz ∧ va_P E.1 vwCl ws U.heap ∧ va_D (fun _ => True) ws ∧ ac_C E (va_A ws sz) U U.heap)) (ac_Q E (va_A ws sz) post) mc ms (va_A ws sz)
set_option maxRecDepth 100000 in
theorem CT.of {E : ag} {M : am} {y : MethodName} {d mc ms : Nat} {av : List Value} {ls : List (Option Value)} {ws : va_W} {post : Option Value → va_W → Prop} (hy : plainName y.cls = true) (hc : y.cls = M.1) (hi : M.2.2.2.2 = true → y.name = "<init>") (hl0 : ps 0 ls = lv_args 0 av) (hn : (lg_sl av).length ≤ M.2.2.1)
    (h : AW E M d mc ms 0 ls [] ws post) : CT E y M.2.1 M.2.2.1 M.2.2.2.1 d mc ms av ws post := by
  intro l sz
  refine Met.ofW (cc := M.2.1) (maxL := M.2.2.1) (ret := M.2.2.2.1) hy rfl ?_
  intro p e s m args below meth c s₁ B hml hv
  obtain ⟨rfl, hsz, hP, hD0, hC⟩ := hv
  have hts := atoms_spec (ws := Cond.code y M.2.1 M.2.2.1 M.2.2.2.1 :: gtbl) B.pre
  have hown : s.vm.findClass y.cls = some m.cls := findClass_of_methodNamed B.named
  subst hsz
  have hl := lv_entry av (n := M.2.2.1) hn
  rw [lg_entry_eq]
  generalize (lg_sl av ++ List.replicate (M.2.2.1 - (lg_sl av).length) Slot.unset).toArray = la at hl ⊢
  rw [← hl0] at hl
  exact h p l e s m av.toArray below meth c s.heap [] 0 0 mc ms (va_A ws s.heap.size) la
    ⟨B.exec, B.bytes, hml, hc ▸ hown, fun w hw => hts w (List.mem_cons_of_mem _ hw), B.returns, B.notSynchronized, fun h => (name_of_methodNamed B.named B.method).1.trans (hi h), hC, fun q hq => Or.inr hq⟩ hl hP hD0.self va_S.rf (by omega) (by omega)

theorem A_iconst {E : ag} {M : am} {d bc bs pc : Nat} {ls : List (Option Value)} {rest : List Value} {ws : va_W} {post : Option Value → va_W → Prop} {n : Int} (v : Int32) (hd : decode M.2.1 pc = .ok (.iconst n, 1)) (hv : Int32.ofInt n = v) (k : AW E M d bc bs (pc + 1) ls (.int v :: rest) ws post) : AW E M d bc bs (pc) ls (rest) ws post := by
  intro p l e s m args below meth c H locs cells slots mc ms A la X hl hP hD hS hbc hbs
  obtain ⟨hx, hb, hml, hown, hts, hr, hlk, hin, hC, hA⟩ := id X
  refine lv_iconst hx hb hd hv ?_
  exact k p l e s m args below meth c H locs cells slots mc ms A la X hl hP hD hS hbc hbs
theorem A_bipush {E : ag} {M : am} {d bc bs pc : Nat} {ls : List (Option Value)} {rest : List Value} {ws : va_W} {post : Option Value → va_W → Prop} {n : Int} (v : Int32) (hd : decode M.2.1 pc = .ok (.bipush n, 2)) (hv : (Int8.ofInt n).toInt32 = v) (k : AW E M d bc bs (pc + 2) ls (.int v :: rest) ws post) : AW E M d bc bs (pc) ls (rest) ws post := by
  intro p l e s m args below meth c H locs cells slots mc ms A la X hl hP hD hS hbc hbs
  obtain ⟨hx, hb, hml, hown, hts, hr, hlk, hin, hC, hA⟩ := id X
  refine lv_bipush hx hb hd hv ?_
  exact k p l e s m args below meth c H locs cells slots mc ms A la X hl hP hD hS hbc hbs
theorem A_sipush {E : ag} {M : am} {d bc bs pc : Nat} {ls : List (Option Value)} {rest : List Value} {ws : va_W} {post : Option Value → va_W → Prop} {n : Int} (v : Int32) (hd : decode M.2.1 pc = .ok (.sipush n, 3)) (hv : (Int16.ofInt n).toInt32 = v) (k : AW E M d bc bs (pc + 3) ls (.int v :: rest) ws post) : AW E M d bc bs (pc) ls (rest) ws post := by
  intro p l e s m args below meth c H locs cells slots mc ms A la X hl hP hD hS hbc hbs
  obtain ⟨hx, hb, hml, hown, hts, hr, hlk, hin, hC, hA⟩ := id X
  refine lv_sipush hx hb hd hv ?_
  exact k p l e s m args below meth c H locs cells slots mc ms A la X hl hP hD hS hbc hbs
theorem A_lconst {E : ag} {M : am} {d bc bs pc : Nat} {ls : List (Option Value)} {rest : List Value} {ws : va_W} {post : Option Value → va_W → Prop} {n : Fin 2} (v : Int64) (hd : decode M.2.1 pc = .ok (.lconst n, 1)) (hv : Int64.ofNat (n : Nat) = v) (k : AW E M d bc bs (pc + 1) ls (.long v :: rest) ws post) : AW E M d bc bs (pc) ls (rest) ws post := by
  intro p l e s m args below meth c H locs cells slots mc ms A la X hl hP hD hS hbc hbs
  obtain ⟨hx, hb, hml, hown, hts, hr, hlk, hin, hC, hA⟩ := id X
  refine lv_lconst hx hb hd hv ?_
  exact k p l e s m args below meth c H locs cells slots mc ms A la X hl hP hD hS hbc hbs
theorem A_aconst_null {E : ag} {M : am} {d bc bs pc : Nat} {ls : List (Option Value)} {rest : List Value} {ws : va_W} {post : Option Value → va_W → Prop}  (hd : decode M.2.1 pc = .ok (.aconst_null, 1))  (k : AW E M d bc bs (pc + 1) ls (.null :: rest) ws post) : AW E M d bc bs (pc) ls (rest) ws post := by
  intro p l e s m args below meth c H locs cells slots mc ms A la X hl hP hD hS hbc hbs
  obtain ⟨hx, hb, hml, hown, hts, hr, hlk, hin, hC, hA⟩ := id X
  refine lv_null hx hb hd ?_
  exact k p l e s m args below meth c H locs cells slots mc ms A la X hl hP hD hS hbc hbs
theorem A_iload_n {E : ag} {M : am} {d bc bs pc : Nat} {ls : List (Option Value)} {rest : List Value} {ws : va_W} {post : Option Value → va_W → Prop} {n : Fin 4} {x : Int32} (hd : decode M.2.1 pc = .ok (.iload_n n, 1)) (h : ls[(n : Nat)]? = some (some (.int x))) (k : AW E M d bc bs (pc + 1) ls (.int x :: rest) ws post) : AW E M d bc bs (pc) ls (rest) ws post := by
  intro p l e s m args below meth c H locs cells slots mc ms A la X hl hP hD hS hbc hbs
  obtain ⟨hx, hb, hml, hown, hts, hr, hlk, hin, hC, hA⟩ := id X
  refine lv_iload_n hx hb hd rfl (ps_at hl h) ?_
  exact k p l e s m args below meth c H locs cells slots mc ms A la X hl hP hD hS hbc hbs
theorem A_iload {E : ag} {M : am} {d bc bs pc : Nat} {ls : List (Option Value)} {rest : List Value} {ws : va_W} {post : Option Value → va_W → Prop} {i : Nat} {x : Int32} (hd : decode M.2.1 pc = .ok (.iload i, 2)) (h : ls[i]? = some (some (.int x))) (k : AW E M d bc bs (pc + 2) ls (.int x :: rest) ws post) : AW E M d bc bs (pc) ls (rest) ws post := by
  intro p l e s m args below meth c H locs cells slots mc ms A la X hl hP hD hS hbc hbs
  obtain ⟨hx, hb, hml, hown, hts, hr, hlk, hin, hC, hA⟩ := id X
  refine lv_iload hx hb hd (ps_at hl h) ?_
  exact k p l e s m args below meth c H locs cells slots mc ms A la X hl hP hD hS hbc hbs
theorem A_lload_n {E : ag} {M : am} {d bc bs pc : Nat} {ls : List (Option Value)} {rest : List Value} {ws : va_W} {post : Option Value → va_W → Prop} {n : Fin 4} {x : Int64} (hd : decode M.2.1 pc = .ok (.lload_n n, 1)) (h : ls[(n : Nat)]? = some (some (.long x))) (k : AW E M d bc bs (pc + 1) ls (.long x :: rest) ws post) : AW E M d bc bs (pc) ls (rest) ws post := by
  intro p l e s m args below meth c H locs cells slots mc ms A la X hl hP hD hS hbc hbs
  obtain ⟨hx, hb, hml, hown, hts, hr, hlk, hin, hC, hA⟩ := id X
  refine lv_lload_n hx hb hd rfl (ps_at hl h) ?_
  exact k p l e s m args below meth c H locs cells slots mc ms A la X hl hP hD hS hbc hbs
theorem A_lload {E : ag} {M : am} {d bc bs pc : Nat} {ls : List (Option Value)} {rest : List Value} {ws : va_W} {post : Option Value → va_W → Prop} {i : Nat} {x : Int64} (hd : decode M.2.1 pc = .ok (.lload i, 2)) (h : ls[i]? = some (some (.long x))) (k : AW E M d bc bs (pc + 2) ls (.long x :: rest) ws post) : AW E M d bc bs (pc) ls (rest) ws post := by
  intro p l e s m args below meth c H locs cells slots mc ms A la X hl hP hD hS hbc hbs
  obtain ⟨hx, hb, hml, hown, hts, hr, hlk, hin, hC, hA⟩ := id X
  refine lv_lload hx hb hd (ps_at hl h) ?_
  exact k p l e s m args below meth c H locs cells slots mc ms A la X hl hP hD hS hbc hbs
theorem A_aload_n {E : ag} {M : am} {d bc bs pc : Nat} {ls : List (Option Value)} {rest : List Value} {ws : va_W} {post : Option Value → va_W → Prop} {n : Fin 4} {a : Nat} (hd : decode M.2.1 pc = .ok (.aload_n n, 1)) (h : ls[(n : Nat)]? = some (some (.ref a))) (k : AW E M d bc bs (pc + 1) ls (.ref a :: rest) ws post) : AW E M d bc bs (pc) ls (rest) ws post := by
  intro p l e s m args below meth c H locs cells slots mc ms A la X hl hP hD hS hbc hbs
  obtain ⟨hx, hb, hml, hown, hts, hr, hlk, hin, hC, hA⟩ := id X
  refine lv_aload_n hx hb hd rfl (ps_at hl h) ?_
  exact k p l e s m args below meth c H locs cells slots mc ms A la X hl hP hD hS hbc hbs
theorem A_aload {E : ag} {M : am} {d bc bs pc : Nat} {ls : List (Option Value)} {rest : List Value} {ws : va_W} {post : Option Value → va_W → Prop} {i : Nat} {a : Nat} (hd : decode M.2.1 pc = .ok (.aload i, 2)) (h : ls[i]? = some (some (.ref a))) (k : AW E M d bc bs (pc + 2) ls (.ref a :: rest) ws post) : AW E M d bc bs (pc) ls (rest) ws post := by
  intro p l e s m args below meth c H locs cells slots mc ms A la X hl hP hD hS hbc hbs
  obtain ⟨hx, hb, hml, hown, hts, hr, hlk, hin, hC, hA⟩ := id X
  refine lv_aload hx hb hd (ps_at hl h) ?_
  exact k p l e s m args below meth c H locs cells slots mc ms A la X hl hP hD hS hbc hbs
theorem A_iadd {E : ag} {M : am} {d bc bs pc : Nat} {ls : List (Option Value)} {rest : List Value} {ws : va_W} {post : Option Value → va_W → Prop} {x y : Int32} (hd : decode M.2.1 pc = .ok (.iadd, 1))  (k : AW E M d bc bs (pc + 1) ls (.int (x + y) :: rest) ws post) : AW E M d bc bs (pc) ls (.int y :: .int x :: rest) ws post := by
  intro p l e s m args below meth c H locs cells slots mc ms A la X hl hP hD hS hbc hbs
  obtain ⟨hx, hb, hml, hown, hts, hr, hlk, hin, hC, hA⟩ := id X
  refine lv_iadd hx hb hd ?_
  exact k p l e s m args below meth c H locs cells slots mc ms A la X hl hP hD hS hbc hbs
theorem A_isub {E : ag} {M : am} {d bc bs pc : Nat} {ls : List (Option Value)} {rest : List Value} {ws : va_W} {post : Option Value → va_W → Prop} {x y : Int32} (hd : decode M.2.1 pc = .ok (.isub, 1))  (k : AW E M d bc bs (pc + 1) ls (.int (x - y) :: rest) ws post) : AW E M d bc bs (pc) ls (.int y :: .int x :: rest) ws post := by
  intro p l e s m args below meth c H locs cells slots mc ms A la X hl hP hD hS hbc hbs
  obtain ⟨hx, hb, hml, hown, hts, hr, hlk, hin, hC, hA⟩ := id X
  refine lv_isub hx hb hd ?_
  exact k p l e s m args below meth c H locs cells slots mc ms A la X hl hP hD hS hbc hbs
theorem A_imul {E : ag} {M : am} {d bc bs pc : Nat} {ls : List (Option Value)} {rest : List Value} {ws : va_W} {post : Option Value → va_W → Prop} {x y : Int32} (hd : decode M.2.1 pc = .ok (.imul, 1))  (k : AW E M d bc bs (pc + 1) ls (.int (x * y) :: rest) ws post) : AW E M d bc bs (pc) ls (.int y :: .int x :: rest) ws post := by
  intro p l e s m args below meth c H locs cells slots mc ms A la X hl hP hD hS hbc hbs
  obtain ⟨hx, hb, hml, hown, hts, hr, hlk, hin, hC, hA⟩ := id X
  refine lv_imul hx hb hd ?_
  exact k p l e s m args below meth c H locs cells slots mc ms A la X hl hP hD hS hbc hbs
theorem A_ladd {E : ag} {M : am} {d bc bs pc : Nat} {ls : List (Option Value)} {rest : List Value} {ws : va_W} {post : Option Value → va_W → Prop} {x y : Int64} (hd : decode M.2.1 pc = .ok (.ladd, 1))  (k : AW E M d bc bs (pc + 1) ls (.long (x + y) :: rest) ws post) : AW E M d bc bs (pc) ls (.long y :: .long x :: rest) ws post := by
  intro p l e s m args below meth c H locs cells slots mc ms A la X hl hP hD hS hbc hbs
  obtain ⟨hx, hb, hml, hown, hts, hr, hlk, hin, hC, hA⟩ := id X
  refine lv_ladd hx hb hd ?_
  exact k p l e s m args below meth c H locs cells slots mc ms A la X hl hP hD hS hbc hbs
theorem A_lsub {E : ag} {M : am} {d bc bs pc : Nat} {ls : List (Option Value)} {rest : List Value} {ws : va_W} {post : Option Value → va_W → Prop} {x y : Int64} (hd : decode M.2.1 pc = .ok (.lsub, 1))  (k : AW E M d bc bs (pc + 1) ls (.long (x - y) :: rest) ws post) : AW E M d bc bs (pc) ls (.long y :: .long x :: rest) ws post := by
  intro p l e s m args below meth c H locs cells slots mc ms A la X hl hP hD hS hbc hbs
  obtain ⟨hx, hb, hml, hown, hts, hr, hlk, hin, hC, hA⟩ := id X
  refine lv_lsub hx hb hd ?_
  exact k p l e s m args below meth c H locs cells slots mc ms A la X hl hP hD hS hbc hbs
theorem A_lmul {E : ag} {M : am} {d bc bs pc : Nat} {ls : List (Option Value)} {rest : List Value} {ws : va_W} {post : Option Value → va_W → Prop} {x y : Int64} (hd : decode M.2.1 pc = .ok (.lmul, 1))  (k : AW E M d bc bs (pc + 1) ls (.long (x * y) :: rest) ws post) : AW E M d bc bs (pc) ls (.long y :: .long x :: rest) ws post := by
  intro p l e s m args below meth c H locs cells slots mc ms A la X hl hP hD hS hbc hbs
  obtain ⟨hx, hb, hml, hown, hts, hr, hlk, hin, hC, hA⟩ := id X
  refine lv_lmul hx hb hd ?_
  exact k p l e s m args below meth c H locs cells slots mc ms A la X hl hP hD hS hbc hbs
theorem A_idiv {E : ag} {M : am} {d bc bs pc : Nat} {ls : List (Option Value)} {rest : List Value} {ws : va_W} {post : Option Value → va_W → Prop} {x y : Int32} (hd : decode M.2.1 pc = .ok (.idiv, 1)) (hne : ¬ y = 0) (k : AW E M d bc bs (pc + 1) ls (.int (x / y) :: rest) ws post) : AW E M d bc bs (pc) ls (.int y :: .int x :: rest) ws post := by
  intro p l e s m args below meth c H locs cells slots mc ms A la X hl hP hD hS hbc hbs
  obtain ⟨hx, hb, hml, hown, hts, hr, hlk, hin, hC, hA⟩ := id X
  refine lv_idiv hx hb hd hne ?_
  exact k p l e s m args below meth c H locs cells slots mc ms A la X hl hP hD hS hbc hbs
theorem A_goto {E : ag} {M : am} {d bc bs pc : Nat} {ls : List (Option Value)} {rest : List Value} {ws : va_W} {post : Option Value → va_W → Prop} {off : Int} (tgt : Nat) (hd : decode M.2.1 pc = .ok (.goto off, 3)) (ht : (pc : Int) + off = (tgt : Int)) (k : AW E M d bc bs (tgt) ls (rest) ws post) : AW E M d bc bs (pc) ls (rest) ws post := by
  intro p l e s m args below meth c H locs cells slots mc ms A la X hl hP hD hS hbc hbs
  obtain ⟨hx, hb, hml, hown, hts, hr, hlk, hin, hC, hA⟩ := id X
  refine lv_goto hx hb hd ht ?_
  exact k p l e s m args below meth c H locs cells slots mc ms A la X hl hP hD hS hbc hbs
theorem A_i2l {E : ag} {M : am} {d bc bs pc : Nat} {ls : List (Option Value)} {rest : List Value} {ws : va_W} {post : Option Value → va_W → Prop} {x : Int32} (hd : decode M.2.1 pc = .ok (.i2l, 1))  (k : AW E M d bc bs (pc + 1) ls (.long x.toInt64 :: rest) ws post) : AW E M d bc bs (pc) ls (.int x :: rest) ws post := by
  intro p l e s m args below meth c H locs cells slots mc ms A la X hl hP hD hS hbc hbs
  obtain ⟨hx, hb, hml, hown, hts, hr, hlk, hin, hC, hA⟩ := id X
  refine lv_i2l hx hb hd rfl ?_
  exact k p l e s m args below meth c H locs cells slots mc ms A la X hl hP hD hS hbc hbs
theorem A_l2i {E : ag} {M : am} {d bc bs pc : Nat} {ls : List (Option Value)} {rest : List Value} {ws : va_W} {post : Option Value → va_W → Prop} {x : Int64} (hd : decode M.2.1 pc = .ok (.l2i, 1))  (k : AW E M d bc bs (pc + 1) ls (.int x.toInt32 :: rest) ws post) : AW E M d bc bs (pc) ls (.long x :: rest) ws post := by
  intro p l e s m args below meth c H locs cells slots mc ms A la X hl hP hD hS hbc hbs
  obtain ⟨hx, hb, hml, hown, hts, hr, hlk, hin, hC, hA⟩ := id X
  refine lv_l2i hx hb hd rfl ?_
  exact k p l e s m args below meth c H locs cells slots mc ms A la X hl hP hD hS hbc hbs
theorem A_dup {E : ag} {M : am} {d bc bs pc : Nat} {ls : List (Option Value)} {rest : List Value} {ws : va_W} {post : Option Value → va_W → Prop} {va : Value} (hd : decode M.2.1 pc = .ok (.dup, 1)) (hva : va.category = 1) (k : AW E M d bc bs (pc + 1) ls (va :: va :: rest) ws post) : AW E M d bc bs (pc) ls (va :: rest) ws post := by
  intro p l e s m args below meth c H locs cells slots mc ms A la X hl hP hD hS hbc hbs
  obtain ⟨hx, hb, hml, hown, hts, hr, hlk, hin, hC, hA⟩ := id X
  refine lv_dup hx hb hd hva ?_
  exact k p l e s m args below meth c H locs cells slots mc ms A la X hl hP hD hS hbc hbs
theorem A_dup2 {E : ag} {M : am} {d bc bs pc : Nat} {ls : List (Option Value)} {rest : List Value} {ws : va_W} {post : Option Value → va_W → Prop} {va vb : Value} (hd : decode M.2.1 pc = .ok (.dup2, 1)) (hva : va.category = 1) (hvb : vb.category = 1) (k : AW E M d bc bs (pc + 1) ls (va :: vb :: va :: vb :: rest) ws post) : AW E M d bc bs (pc) ls (va :: vb :: rest) ws post := by
  intro p l e s m args below meth c H locs cells slots mc ms A la X hl hP hD hS hbc hbs
  obtain ⟨hx, hb, hml, hown, hts, hr, hlk, hin, hC, hA⟩ := id X
  refine lv_dup2_11 hx hb hd hva hvb ?_
  exact k p l e s m args below meth c H locs cells slots mc ms A la X hl hP hD hS hbc hbs
theorem A_pop {E : ag} {M : am} {d bc bs pc : Nat} {ls : List (Option Value)} {rest : List Value} {ws : va_W} {post : Option Value → va_W → Prop} {va : Value} (hd : decode M.2.1 pc = .ok (.pop, 1)) (hva : va.category = 1) (k : AW E M d bc bs (pc + 1) ls (rest) ws post) : AW E M d bc bs (pc) ls (va :: rest) ws post := by
  intro p l e s m args below meth c H locs cells slots mc ms A la X hl hP hD hS hbc hbs
  obtain ⟨hx, hb, hml, hown, hts, hr, hlk, hin, hC, hA⟩ := id X
  refine lv_pop hx hb hd hva ?_
  exact k p l e s m args below meth c H locs cells slots mc ms A la X hl hP hD hS hbc hbs
theorem A_irem {E : ag} {M : am} {d bc bs pc : Nat} {ls : List (Option Value)} {rest : List Value} {ws : va_W} {post : Option Value → va_W → Prop} {x y : Int32} (hd : decode M.2.1 pc = .ok (.irem, 1)) (hne : ¬ y = 0) (k : AW E M d bc bs (pc + 1) ls (.int (x - x / y * y) :: rest) ws post) : AW E M d bc bs (pc) ls (.int y :: .int x :: rest) ws post := by
  intro p l e s m args below meth c H locs cells slots mc ms A la X hl hP hD hS hbc hbs
  obtain ⟨hx, hb, hml, hown, hts, hr, hlk, hin, hC, hA⟩ := id X
  refine lv_irem hx hb hd hne ?_
  exact k p l e s m args below meth c H locs cells slots mc ms A la X hl hP hD hS hbc hbs
theorem A_iand {E : ag} {M : am} {d bc bs pc : Nat} {ls : List (Option Value)} {rest : List Value} {ws : va_W} {post : Option Value → va_W → Prop} {x y : Int32} (hd : decode M.2.1 pc = .ok (.iand, 1))  (k : AW E M d bc bs (pc + 1) ls (.int (x &&& y) :: rest) ws post) : AW E M d bc bs (pc) ls (.int y :: .int x :: rest) ws post := by
  intro p l e s m args below meth c H locs cells slots mc ms A la X hl hP hD hS hbc hbs
  obtain ⟨hx, hb, hml, hown, hts, hr, hlk, hin, hC, hA⟩ := id X
  refine lv_iand hx hb hd ?_
  exact k p l e s m args below meth c H locs cells slots mc ms A la X hl hP hD hS hbc hbs
theorem A_ior {E : ag} {M : am} {d bc bs pc : Nat} {ls : List (Option Value)} {rest : List Value} {ws : va_W} {post : Option Value → va_W → Prop} {x y : Int32} (hd : decode M.2.1 pc = .ok (.ior, 1))  (k : AW E M d bc bs (pc + 1) ls (.int (x ||| y) :: rest) ws post) : AW E M d bc bs (pc) ls (.int y :: .int x :: rest) ws post := by
  intro p l e s m args below meth c H locs cells slots mc ms A la X hl hP hD hS hbc hbs
  obtain ⟨hx, hb, hml, hown, hts, hr, hlk, hin, hC, hA⟩ := id X
  refine lv_ior hx hb hd ?_
  exact k p l e s m args below meth c H locs cells slots mc ms A la X hl hP hD hS hbc hbs
theorem A_ishl {E : ag} {M : am} {d bc bs pc : Nat} {ls : List (Option Value)} {rest : List Value} {ws : va_W} {post : Option Value → va_W → Prop} {x y : Int32} (hd : decode M.2.1 pc = .ok (.ishl, 1))  (k : AW E M d bc bs (pc + 1) ls (.int (x <<< (y &&& 31)) :: rest) ws post) : AW E M d bc bs (pc) ls (.int y :: .int x :: rest) ws post := by
  intro p l e s m args below meth c H locs cells slots mc ms A la X hl hP hD hS hbc hbs
  obtain ⟨hx, hb, hml, hown, hts, hr, hlk, hin, hC, hA⟩ := id X
  refine lv_ishl hx hb hd ?_
  exact k p l e s m args below meth c H locs cells slots mc ms A la X hl hP hD hS hbc hbs
theorem A_ishr {E : ag} {M : am} {d bc bs pc : Nat} {ls : List (Option Value)} {rest : List Value} {ws : va_W} {post : Option Value → va_W → Prop} {x y : Int32} (hd : decode M.2.1 pc = .ok (.ishr, 1))  (k : AW E M d bc bs (pc + 1) ls (.int (x >>> (y &&& 31)) :: rest) ws post) : AW E M d bc bs (pc) ls (.int y :: .int x :: rest) ws post := by
  intro p l e s m args below meth c H locs cells slots mc ms A la X hl hP hD hS hbc hbs
  obtain ⟨hx, hb, hml, hown, hts, hr, hlk, hin, hC, hA⟩ := id X
  refine lv_ishr hx hb hd ?_
  exact k p l e s m args below meth c H locs cells slots mc ms A la X hl hP hD hS hbc hbs
theorem A_iushr {E : ag} {M : am} {d bc bs pc : Nat} {ls : List (Option Value)} {rest : List Value} {ws : va_W} {post : Option Value → va_W → Prop} {x y : Int32} (hd : decode M.2.1 pc = .ok (.iushr, 1))  (k : AW E M d bc bs (pc + 1) ls (.int (x.toUInt32 >>> (y.toUInt32 &&& Int32.toUInt32 31)).toInt32 :: rest) ws post) : AW E M d bc bs (pc) ls (.int y :: .int x :: rest) ws post := by
  intro p l e s m args below meth c H locs cells slots mc ms A la X hl hP hD hS hbc hbs
  obtain ⟨hx, hb, hml, hown, hts, hr, hlk, hin, hC, hA⟩ := id X
  refine lv_iushr hx hb hd rfl ?_
  exact k p l e s m args below meth c H locs cells slots mc ms A la X hl hP hD hS hbc hbs
theorem A_ineg {E : ag} {M : am} {d bc bs pc : Nat} {ls : List (Option Value)} {rest : List Value} {ws : va_W} {post : Option Value → va_W → Prop} {x : Int32} (hd : decode M.2.1 pc = .ok (.ineg, 1))  (k : AW E M d bc bs (pc + 1) ls (.int (-x) :: rest) ws post) : AW E M d bc bs (pc) ls (.int x :: rest) ws post := by
  intro p l e s m args below meth c H locs cells slots mc ms A la X hl hP hD hS hbc hbs
  obtain ⟨hx, hb, hml, hown, hts, hr, hlk, hin, hC, hA⟩ := id X
  refine lv_ineg hx hb hd ?_
  exact k p l e s m args below meth c H locs cells slots mc ms A la X hl hP hD hS hbc hbs
theorem A_i2b {E : ag} {M : am} {d bc bs pc : Nat} {ls : List (Option Value)} {rest : List Value} {ws : va_W} {post : Option Value → va_W → Prop} {x : Int32} (hd : decode M.2.1 pc = .ok (.i2b, 1))  (k : AW E M d bc bs (pc + 1) ls (.int x.toInt8.toInt32 :: rest) ws post) : AW E M d bc bs (pc) ls (.int x :: rest) ws post := by
  intro p l e s m args below meth c H locs cells slots mc ms A la X hl hP hD hS hbc hbs
  obtain ⟨hx, hb, hml, hown, hts, hr, hlk, hin, hC, hA⟩ := id X
  refine lv_i2b hx hb hd rfl ?_
  exact k p l e s m args below meth c H locs cells slots mc ms A la X hl hP hD hS hbc hbs
theorem A_i2s {E : ag} {M : am} {d bc bs pc : Nat} {ls : List (Option Value)} {rest : List Value} {ws : va_W} {post : Option Value → va_W → Prop} {x : Int32} (hd : decode M.2.1 pc = .ok (.i2s, 1))  (k : AW E M d bc bs (pc + 1) ls (.int x.toInt16.toInt32 :: rest) ws post) : AW E M d bc bs (pc) ls (.int x :: rest) ws post := by
  intro p l e s m args below meth c H locs cells slots mc ms A la X hl hP hD hS hbc hbs
  obtain ⟨hx, hb, hml, hown, hts, hr, hlk, hin, hC, hA⟩ := id X
  refine lv_i2s hx hb hd rfl ?_
  exact k p l e s m args below meth c H locs cells slots mc ms A la X hl hP hD hS hbc hbs
theorem A_ldiv {E : ag} {M : am} {d bc bs pc : Nat} {ls : List (Option Value)} {rest : List Value} {ws : va_W} {post : Option Value → va_W → Prop} {x y : Int64} (hd : decode M.2.1 pc = .ok (.ldiv, 1)) (hne : ¬ y = 0) (k : AW E M d bc bs (pc + 1) ls (.long (x / y) :: rest) ws post) : AW E M d bc bs (pc) ls (.long y :: .long x :: rest) ws post := by
  intro p l e s m args below meth c H locs cells slots mc ms A la X hl hP hD hS hbc hbs
  obtain ⟨hx, hb, hml, hown, hts, hr, hlk, hin, hC, hA⟩ := id X
  refine lv_ldiv hx hb hd hne ?_
  exact k p l e s m args below meth c H locs cells slots mc ms A la X hl hP hD hS hbc hbs
theorem A_lcmp {E : ag} {M : am} {d bc bs pc : Nat} {ls : List (Option Value)} {rest : List Value} {ws : va_W} {post : Option Value → va_W → Prop} {x y : Int64} (hd : decode M.2.1 pc = .ok (.lcmp, 1))  (k : AW E M d bc bs (pc + 1) ls (.int (lg_cmp x y) :: rest) ws post) : AW E M d bc bs (pc) ls (.long y :: .long x :: rest) ws post := by
  intro p l e s m args below meth c H locs cells slots mc ms A la X hl hP hD hS hbc hbs
  obtain ⟨hx, hb, hml, hown, hts, hr, hlk, hin, hC, hA⟩ := id X
  refine W.lcmp hx hb hd ?_
  exact k p l e s m args below meth c H locs cells slots mc ms A la X hl hP hD hS hbc hbs
theorem A_ldc {E : ag} {M : am} {d bc bs pc : Nat} {ls : List (Option Value)} {rest : List Value} {ws : va_W} {post : Option Value → va_W → Prop} {v : Int32} {index : Nat} (hd : decode M.2.1 pc = .ok (.ldc index, 2)) (hw : Cond.constant M.1 index v ∈ gtbl) (k : AW E M d bc bs (pc + 2) ls (.int v :: rest) ws post) : AW E M d bc bs (pc) ls (rest) ws post := by
  intro p l e s m args below meth c H locs cells slots mc ms A la X hl hP hD hS hbc hbs
  obtain ⟨hx, hb, hml, hown, hts, hr, hlk, hin, hC, hA⟩ := id X
  refine lv_ldc hx hb hown (hts _ hw) hd ?_
  exact k p l e s m args below meth c H locs cells slots mc ms A la X hl hP hD hS hbc hbs
theorem A_ldc2 {E : ag} {M : am} {d bc bs pc : Nat} {ls : List (Option Value)} {rest : List Value} {ws : va_W} {post : Option Value → va_W → Prop} {v : Int64} {index : Nat} (hd : decode M.2.1 pc = .ok (.ldc2_w index, 3)) (hw : Cond.constantLong M.1 index v ∈ gtbl) (k : AW E M d bc bs (pc + 3) ls (.long v :: rest) ws post) : AW E M d bc bs (pc) ls (rest) ws post := by
  intro p l e s m args below meth c H locs cells slots mc ms A la X hl hP hD hS hbc hbs
  obtain ⟨hx, hb, hml, hown, hts, hr, hlk, hin, hC, hA⟩ := id X
  refine lv_ldc2 hx hb hown (hts _ hw) hd ?_
  exact k p l e s m args below meth c H locs cells slots mc ms A la X hl hP hD hS hbc hbs
theorem A_ldcS {E : ag} {M : am} {d bc bs pc : Nat} {ls : List (Option Value)} {rest : List Value} {ws : va_W} {post : Option Value → va_W → Prop} {index : Nat} (i : Nat) (hd : decode M.2.1 pc = .ok (.ldc index, 2)) (hi : i < ag_nS) (h1 : ag_own i = M.1) (h2 : ag_idx i = index) (k : AW E M d bc bs (pc + 2) ls (.ref (E.2.2.1 i) :: rest) ws post) : AW E M d bc bs (pc) ls (rest) ws post := by
  intro p l e s m args below meth c H locs cells slots mc ms A la X hl hP hD hS hbc hbs
  obtain ⟨hx, hb, hml, hown, hts, hr, hlk, hin, hC, hA⟩ := id X
  refine va_ldcS (tx := ag_txt i) hx hb hown (h1 ▸ h2 ▸ hC.2.2.1 i hi) hd ?_
  exact k p l e s m args below meth c H locs cells slots mc ms A la X hl hP hD hS hbc hbs
theorem A_ifnonnull {E : ag} {M : am} {d bc bs pc : Nat} {ls : List (Option Value)} {rest : List Value} {ws : va_W} {post : Option Value → va_W → Prop} {x : Nat} {off : Int} (tgt : Nat) (hd : decode M.2.1 pc = .ok (.ifnonnull off, 3)) (ht : (pc : Int) + off = (tgt : Int)) (k : AW E M d bc bs (tgt) ls (rest) ws post) : AW E M d bc bs (pc) ls (.ref x :: rest) ws post := by
  intro p l e s m args below meth c H locs cells slots mc ms A la X hl hP hD hS hbc hbs
  obtain ⟨hx, hb, hml, hown, hts, hr, hlk, hin, hC, hA⟩ := id X
  refine lv_ifnonnull hx hb hd ht ?_
  exact k p l e s m args below meth c H locs cells slots mc ms A la X hl hP hD hS hbc hbs
theorem A_ifnull {E : ag} {M : am} {d bc bs pc : Nat} {ls : List (Option Value)} {rest : List Value} {ws : va_W} {post : Option Value → va_W → Prop} {x : Nat} {off : Int} (hd : decode M.2.1 pc = .ok (.ifnull off, 3))  (k : AW E M d bc bs (pc + 3) ls (rest) ws post) : AW E M d bc bs (pc) ls (.ref x :: rest) ws post := by
  intro p l e s m args below meth c H locs cells slots mc ms A la X hl hP hD hS hbc hbs
  obtain ⟨hx, hb, hml, hown, hts, hr, hlk, hin, hC, hA⟩ := id X
  refine lv_ifnull hx hb hd ?_
  exact k p l e s m args below meth c H locs cells slots mc ms A la X hl hP hD hS hbc hbs
theorem A_ifnullN {E : ag} {M : am} {d bc bs pc : Nat} {ls : List (Option Value)} {rest : List Value} {ws : va_W} {post : Option Value → va_W → Prop} {off : Int} (tgt : Nat) (hd : decode M.2.1 pc = .ok (.ifnull off, 3)) (ht : (pc : Int) + off = (tgt : Int)) (k : AW E M d bc bs (tgt) ls (rest) ws post) : AW E M d bc bs (pc) ls (.null :: rest) ws post := by
  intro p l e s m args below meth c H locs cells slots mc ms A la X hl hP hD hS hbc hbs
  obtain ⟨hx, hb, hml, hown, hts, hr, hlk, hin, hC, hA⟩ := id X
  refine lv_ifnullN hx hb hd ht ?_
  exact k p l e s m args below meth c H locs cells slots mc ms A la X hl hP hD hS hbc hbs
theorem A_ifnonnullN {E : ag} {M : am} {d bc bs pc : Nat} {ls : List (Option Value)} {rest : List Value} {ws : va_W} {post : Option Value → va_W → Prop} {off : Int} (hd : decode M.2.1 pc = .ok (.ifnonnull off, 3))  (k : AW E M d bc bs (pc + 3) ls (rest) ws post) : AW E M d bc bs (pc) ls (.null :: rest) ws post := by
  intro p l e s m args below meth c H locs cells slots mc ms A la X hl hP hD hS hbc hbs
  obtain ⟨hx, hb, hml, hown, hts, hr, hlk, hin, hC, hA⟩ := id X
  refine lv_ifnonnullN hx hb hd ?_
  exact k p l e s m args below meth c H locs cells slots mc ms A la X hl hP hD hS hbc hbs
theorem A_tableIn {E : ag} {M : am} {d bc bs pc : Nat} {ls : List (Option Value)} {rest : List Value} {ws : va_W} {post : Option Value → va_W → Prop} {dflt lo hi : Int} {offs : Array Int} {len : Nat} {x : Int32} (off : Int) (tgt : Nat) (hd : decode M.2.1 pc = .ok (.tableswitch dflt lo hi offs, len)) (h1 : ¬ x.toInt < lo) (h2 : ¬ hi < x.toInt) (ho : offs[(x.toInt - lo).toNat]? = some off) (ht : (pc : Int) + off = (tgt : Int)) (k : AW E M d bc bs (tgt) ls (rest) ws post) : AW E M d bc bs (pc) ls (.int x :: rest) ws post := by
  intro p l e s m args below meth c H locs cells slots mc ms A la X hl hP hD hS hbc hbs
  obtain ⟨hx, hb, hml, hown, hts, hr, hlk, hin, hC, hA⟩ := id X
  refine lv_tableIn hx hb hd h1 h2 ho ht ?_
  exact k p l e s m args below meth c H locs cells slots mc ms A la X hl hP hD hS hbc hbs
theorem A_tableOut {E : ag} {M : am} {d bc bs pc : Nat} {ls : List (Option Value)} {rest : List Value} {ws : va_W} {post : Option Value → va_W → Prop} {dflt lo hi : Int} {offs : Array Int} {len : Nat} {x : Int32} (tgt : Nat) (hd : decode M.2.1 pc = .ok (.tableswitch dflt lo hi offs, len)) (h : x.toInt < lo ∨ hi < x.toInt) (ht : (pc : Int) + dflt = (tgt : Int)) (k : AW E M d bc bs (tgt) ls (rest) ws post) : AW E M d bc bs (pc) ls (.int x :: rest) ws post := by
  intro p l e s m args below meth c H locs cells slots mc ms A la X hl hP hD hS hbc hbs
  obtain ⟨hx, hb, hml, hown, hts, hr, hlk, hin, hC, hA⟩ := id X
  refine lv_tableOut hx hb hd h ht ?_
  exact k p l e s m args below meth c H locs cells slots mc ms A la X hl hP hD hS hbc hbs
theorem A_icmp_eq {E : ag} {M : am} {d bc bs pc : Nat} {ls : List (Option Value)} {rest : List Value} {ws : va_W} {post : Option Value → va_W → Prop} {x y : Int32} {off : Int} (tgt : Nat) (hd : decode M.2.1 pc = .ok (.if_icmp .eq off, 3)) (ht : (pc : Int) + off = (tgt : Int)) (kt : (x = y) → AW E M d bc bs (tgt) ls (rest) ws post) (kf : ¬ (x = y) → AW E M d bc bs (pc + 3) ls (rest) ws post) : AW E M d bc bs (pc) ls (.int y :: .int x :: rest) ws post := by
  intro p l e s m args below meth c H locs cells slots mc ms A la X hl hP hD hS hbc hbs
  obtain ⟨hx, hb, hml, hown, hts, hr, hlk, hin, hC, hA⟩ := id X
  exact lv_icmp_eq hx hb hd ht (fun q => kt q p l e s m args below meth c H locs cells slots mc ms A la X hl hP hD hS hbc hbs) (fun q => kf q p l e s m args below meth c H locs cells slots mc ms A la X hl hP hD hS hbc hbs)
theorem A_if_eq {E : ag} {M : am} {d bc bs pc : Nat} {ls : List (Option Value)} {rest : List Value} {ws : va_W} {post : Option Value → va_W → Prop} {x : Int32} {off : Int} (tgt : Nat) (hd : decode M.2.1 pc = .ok (.ifCond .eq off, 3)) (ht : (pc : Int) + off = (tgt : Int)) (kt : (x = 0) → AW E M d bc bs (tgt) ls (rest) ws post) (kf : ¬ (x = 0) → AW E M d bc bs (pc + 3) ls (rest) ws post) : AW E M d bc bs (pc) ls (.int x :: rest) ws post := by
  intro p l e s m args below meth c H locs cells slots mc ms A la X hl hP hD hS hbc hbs
  obtain ⟨hx, hb, hml, hown, hts, hr, hlk, hin, hC, hA⟩ := id X
  exact lv_if_eq hx hb hd ht (fun q => kt q p l e s m args below meth c H locs cells slots mc ms A la X hl hP hD hS hbc hbs) (fun q => kf q p l e s m args below meth c H locs cells slots mc ms A la X hl hP hD hS hbc hbs)
theorem A_icmp_ne {E : ag} {M : am} {d bc bs pc : Nat} {ls : List (Option Value)} {rest : List Value} {ws : va_W} {post : Option Value → va_W → Prop} {x y : Int32} {off : Int} (tgt : Nat) (hd : decode M.2.1 pc = .ok (.if_icmp .ne off, 3)) (ht : (pc : Int) + off = (tgt : Int)) (kt : (¬ x = y) → AW E M d bc bs (tgt) ls (rest) ws post) (kf : (x = y) → AW E M d bc bs (pc + 3) ls (rest) ws post) : AW E M d bc bs (pc) ls (.int y :: .int x :: rest) ws post := by
  intro p l e s m args below meth c H locs cells slots mc ms A la X hl hP hD hS hbc hbs
  obtain ⟨hx, hb, hml, hown, hts, hr, hlk, hin, hC, hA⟩ := id X
  exact lv_icmp_ne hx hb hd ht (fun q => kt q p l e s m args below meth c H locs cells slots mc ms A la X hl hP hD hS hbc hbs) (fun q => kf q p l e s m args below meth c H locs cells slots mc ms A la X hl hP hD hS hbc hbs)
theorem A_if_ne {E : ag} {M : am} {d bc bs pc : Nat} {ls : List (Option Value)} {rest : List Value} {ws : va_W} {post : Option Value → va_W → Prop} {x : Int32} {off : Int} (tgt : Nat) (hd : decode M.2.1 pc = .ok (.ifCond .ne off, 3)) (ht : (pc : Int) + off = (tgt : Int)) (kt : (¬ x = 0) → AW E M d bc bs (tgt) ls (rest) ws post) (kf : (x = 0) → AW E M d bc bs (pc + 3) ls (rest) ws post) : AW E M d bc bs (pc) ls (.int x :: rest) ws post := by
  intro p l e s m args below meth c H locs cells slots mc ms A la X hl hP hD hS hbc hbs
  obtain ⟨hx, hb, hml, hown, hts, hr, hlk, hin, hC, hA⟩ := id X
  exact lv_if_ne hx hb hd ht (fun q => kt q p l e s m args below meth c H locs cells slots mc ms A la X hl hP hD hS hbc hbs) (fun q => kf q p l e s m args below meth c H locs cells slots mc ms A la X hl hP hD hS hbc hbs)
theorem A_icmp_lt {E : ag} {M : am} {d bc bs pc : Nat} {ls : List (Option Value)} {rest : List Value} {ws : va_W} {post : Option Value → va_W → Prop} {x y : Int32} {off : Int} (tgt : Nat) (hd : decode M.2.1 pc = .ok (.if_icmp .lt off, 3)) (ht : (pc : Int) + off = (tgt : Int)) (kt : (x < y) → AW E M d bc bs (tgt) ls (rest) ws post) (kf : ¬ (x < y) → AW E M d bc bs (pc + 3) ls (rest) ws post) : AW E M d bc bs (pc) ls (.int y :: .int x :: rest) ws post := by
  intro p l e s m args below meth c H locs cells slots mc ms A la X hl hP hD hS hbc hbs
  obtain ⟨hx, hb, hml, hown, hts, hr, hlk, hin, hC, hA⟩ := id X
  exact lv_icmp_lt hx hb hd ht (fun q => kt q p l e s m args below meth c H locs cells slots mc ms A la X hl hP hD hS hbc hbs) (fun q => kf q p l e s m args below meth c H locs cells slots mc ms A la X hl hP hD hS hbc hbs)
theorem A_if_lt {E : ag} {M : am} {d bc bs pc : Nat} {ls : List (Option Value)} {rest : List Value} {ws : va_W} {post : Option Value → va_W → Prop} {x : Int32} {off : Int} (tgt : Nat) (hd : decode M.2.1 pc = .ok (.ifCond .lt off, 3)) (ht : (pc : Int) + off = (tgt : Int)) (kt : (x < 0) → AW E M d bc bs (tgt) ls (rest) ws post) (kf : ¬ (x < 0) → AW E M d bc bs (pc + 3) ls (rest) ws post) : AW E M d bc bs (pc) ls (.int x :: rest) ws post := by
  intro p l e s m args below meth c H locs cells slots mc ms A la X hl hP hD hS hbc hbs
  obtain ⟨hx, hb, hml, hown, hts, hr, hlk, hin, hC, hA⟩ := id X
  exact lv_if_lt hx hb hd ht (fun q => kt q p l e s m args below meth c H locs cells slots mc ms A la X hl hP hD hS hbc hbs) (fun q => kf q p l e s m args below meth c H locs cells slots mc ms A la X hl hP hD hS hbc hbs)
theorem A_icmp_ge {E : ag} {M : am} {d bc bs pc : Nat} {ls : List (Option Value)} {rest : List Value} {ws : va_W} {post : Option Value → va_W → Prop} {x y : Int32} {off : Int} (tgt : Nat) (hd : decode M.2.1 pc = .ok (.if_icmp .ge off, 3)) (ht : (pc : Int) + off = (tgt : Int)) (kt : (y ≤ x) → AW E M d bc bs (tgt) ls (rest) ws post) (kf : ¬ (y ≤ x) → AW E M d bc bs (pc + 3) ls (rest) ws post) : AW E M d bc bs (pc) ls (.int y :: .int x :: rest) ws post := by
  intro p l e s m args below meth c H locs cells slots mc ms A la X hl hP hD hS hbc hbs
  obtain ⟨hx, hb, hml, hown, hts, hr, hlk, hin, hC, hA⟩ := id X
  exact lv_icmp_ge hx hb hd ht (fun q => kt q p l e s m args below meth c H locs cells slots mc ms A la X hl hP hD hS hbc hbs) (fun q => kf q p l e s m args below meth c H locs cells slots mc ms A la X hl hP hD hS hbc hbs)
theorem A_if_ge {E : ag} {M : am} {d bc bs pc : Nat} {ls : List (Option Value)} {rest : List Value} {ws : va_W} {post : Option Value → va_W → Prop} {x : Int32} {off : Int} (tgt : Nat) (hd : decode M.2.1 pc = .ok (.ifCond .ge off, 3)) (ht : (pc : Int) + off = (tgt : Int)) (kt : (0 ≤ x) → AW E M d bc bs (tgt) ls (rest) ws post) (kf : ¬ (0 ≤ x) → AW E M d bc bs (pc + 3) ls (rest) ws post) : AW E M d bc bs (pc) ls (.int x :: rest) ws post := by
  intro p l e s m args below meth c H locs cells slots mc ms A la X hl hP hD hS hbc hbs
  obtain ⟨hx, hb, hml, hown, hts, hr, hlk, hin, hC, hA⟩ := id X
  exact lv_if_ge hx hb hd ht (fun q => kt q p l e s m args below meth c H locs cells slots mc ms A la X hl hP hD hS hbc hbs) (fun q => kf q p l e s m args below meth c H locs cells slots mc ms A la X hl hP hD hS hbc hbs)
theorem A_icmp_gt {E : ag} {M : am} {d bc bs pc : Nat} {ls : List (Option Value)} {rest : List Value} {ws : va_W} {post : Option Value → va_W → Prop} {x y : Int32} {off : Int} (tgt : Nat) (hd : decode M.2.1 pc = .ok (.if_icmp .gt off, 3)) (ht : (pc : Int) + off = (tgt : Int)) (kt : (y < x) → AW E M d bc bs (tgt) ls (rest) ws post) (kf : ¬ (y < x) → AW E M d bc bs (pc + 3) ls (rest) ws post) : AW E M d bc bs (pc) ls (.int y :: .int x :: rest) ws post := by
  intro p l e s m args below meth c H locs cells slots mc ms A la X hl hP hD hS hbc hbs
  obtain ⟨hx, hb, hml, hown, hts, hr, hlk, hin, hC, hA⟩ := id X
  exact lv_icmp_gt hx hb hd ht (fun q => kt q p l e s m args below meth c H locs cells slots mc ms A la X hl hP hD hS hbc hbs) (fun q => kf q p l e s m args below meth c H locs cells slots mc ms A la X hl hP hD hS hbc hbs)
theorem A_if_gt {E : ag} {M : am} {d bc bs pc : Nat} {ls : List (Option Value)} {rest : List Value} {ws : va_W} {post : Option Value → va_W → Prop} {x : Int32} {off : Int} (tgt : Nat) (hd : decode M.2.1 pc = .ok (.ifCond .gt off, 3)) (ht : (pc : Int) + off = (tgt : Int)) (kt : (0 < x) → AW E M d bc bs (tgt) ls (rest) ws post) (kf : ¬ (0 < x) → AW E M d bc bs (pc + 3) ls (rest) ws post) : AW E M d bc bs (pc) ls (.int x :: rest) ws post := by
  intro p l e s m args below meth c H locs cells slots mc ms A la X hl hP hD hS hbc hbs
  obtain ⟨hx, hb, hml, hown, hts, hr, hlk, hin, hC, hA⟩ := id X
  exact lv_if_gt hx hb hd ht (fun q => kt q p l e s m args below meth c H locs cells slots mc ms A la X hl hP hD hS hbc hbs) (fun q => kf q p l e s m args below meth c H locs cells slots mc ms A la X hl hP hD hS hbc hbs)
theorem A_icmp_le {E : ag} {M : am} {d bc bs pc : Nat} {ls : List (Option Value)} {rest : List Value} {ws : va_W} {post : Option Value → va_W → Prop} {x y : Int32} {off : Int} (tgt : Nat) (hd : decode M.2.1 pc = .ok (.if_icmp .le off, 3)) (ht : (pc : Int) + off = (tgt : Int)) (kt : (x ≤ y) → AW E M d bc bs (tgt) ls (rest) ws post) (kf : ¬ (x ≤ y) → AW E M d bc bs (pc + 3) ls (rest) ws post) : AW E M d bc bs (pc) ls (.int y :: .int x :: rest) ws post := by
  intro p l e s m args below meth c H locs cells slots mc ms A la X hl hP hD hS hbc hbs
  obtain ⟨hx, hb, hml, hown, hts, hr, hlk, hin, hC, hA⟩ := id X
  exact lv_icmp_le hx hb hd ht (fun q => kt q p l e s m args below meth c H locs cells slots mc ms A la X hl hP hD hS hbc hbs) (fun q => kf q p l e s m args below meth c H locs cells slots mc ms A la X hl hP hD hS hbc hbs)
theorem A_if_le {E : ag} {M : am} {d bc bs pc : Nat} {ls : List (Option Value)} {rest : List Value} {ws : va_W} {post : Option Value → va_W → Prop} {x : Int32} {off : Int} (tgt : Nat) (hd : decode M.2.1 pc = .ok (.ifCond .le off, 3)) (ht : (pc : Int) + off = (tgt : Int)) (kt : (x ≤ 0) → AW E M d bc bs (tgt) ls (rest) ws post) (kf : ¬ (x ≤ 0) → AW E M d bc bs (pc + 3) ls (rest) ws post) : AW E M d bc bs (pc) ls (.int x :: rest) ws post := by
  intro p l e s m args below meth c H locs cells slots mc ms A la X hl hP hD hS hbc hbs
  obtain ⟨hx, hb, hml, hown, hts, hr, hlk, hin, hC, hA⟩ := id X
  exact lv_if_le hx hb hd ht (fun q => kt q p l e s m args below meth c H locs cells slots mc ms A la X hl hP hD hS hbc hbs) (fun q => kf q p l e s m args below meth c H locs cells slots mc ms A la X hl hP hD hS hbc hbs)
theorem A_istore_n {E : ag} {M : am} {d bc bs pc : Nat} {ls : List (Option Value)} {rest : List Value} {ws : va_W} {post : Option Value → va_W → Prop} {n : Fin 4} {x : Int32} {ls2 : List (Option Value)} (hd : decode M.2.1 pc = .ok (.istore_n n, 1)) (hi : (n : Nat) < M.2.2.1) (hn : noL ls = true) (he : ls.set (n : Nat) (some (.int x)) = ls2) (k : AW E M d bc bs (pc + 1) ls2 (rest) ws post) : AW E M d bc bs (pc) ls (.int x :: rest) ws post := by
  subst he
  intro p l e s m args below meth c H locs cells slots mc ms A la X hl hP hD hS hbc hbs
  obtain ⟨hx, hb, hml, hown, hts, hr, hlk, hin, hC, hA⟩ := id X
  refine lv_istore_n hx hb hd rfl hl hi rfl (fun la2 h2 => ?_)
  exact k p l e s m args below meth c H locs cells slots mc ms A la2 X (ps_set hn h2) hP hD hS hbc hbs
theorem A_istore {E : ag} {M : am} {d bc bs pc : Nat} {ls : List (Option Value)} {rest : List Value} {ws : va_W} {post : Option Value → va_W → Prop} {i : Nat} {x : Int32} {ls2 : List (Option Value)} (hd : decode M.2.1 pc = .ok (.istore i, 2)) (hi : i < M.2.2.1) (hn : noL ls = true) (he : ls.set i (some (.int x)) = ls2) (k : AW E M d bc bs (pc + 2) ls2 (rest) ws post) : AW E M d bc bs (pc) ls (.int x :: rest) ws post := by
  subst he
  intro p l e s m args below meth c H locs cells slots mc ms A la X hl hP hD hS hbc hbs
  obtain ⟨hx, hb, hml, hown, hts, hr, hlk, hin, hC, hA⟩ := id X
  refine lv_istore hx hb hd hl hi rfl (fun la2 h2 => ?_)
  exact k p l e s m args below meth c H locs cells slots mc ms A la2 X (ps_set hn h2) hP hD hS hbc hbs
theorem A_astore_n {E : ag} {M : am} {d bc bs pc : Nat} {ls : List (Option Value)} {rest : List Value} {ws : va_W} {post : Option Value → va_W → Prop} {n : Fin 4} {x : Nat} {ls2 : List (Option Value)} (hd : decode M.2.1 pc = .ok (.astore_n n, 1)) (hi : (n : Nat) < M.2.2.1) (hn : noL ls = true) (he : ls.set (n : Nat) (some (.ref x)) = ls2) (k : AW E M d bc bs (pc + 1) ls2 (rest) ws post) : AW E M d bc bs (pc) ls (.ref x :: rest) ws post := by
  subst he
  intro p l e s m args below meth c H locs cells slots mc ms A la X hl hP hD hS hbc hbs
  obtain ⟨hx, hb, hml, hown, hts, hr, hlk, hin, hC, hA⟩ := id X
  refine lv_astore_n hx hb hd rfl hl hi rfl (fun la2 h2 => ?_)
  exact k p l e s m args below meth c H locs cells slots mc ms A la2 X (ps_set hn h2) hP hD hS hbc hbs
theorem A_astore {E : ag} {M : am} {d bc bs pc : Nat} {ls : List (Option Value)} {rest : List Value} {ws : va_W} {post : Option Value → va_W → Prop} {i : Nat} {x : Nat} {ls2 : List (Option Value)} (hd : decode M.2.1 pc = .ok (.astore i, 2)) (hi : i < M.2.2.1) (hn : noL ls = true) (he : ls.set i (some (.ref x)) = ls2) (k : AW E M d bc bs (pc + 2) ls2 (rest) ws post) : AW E M d bc bs (pc) ls (.ref x :: rest) ws post := by
  subst he
  intro p l e s m args below meth c H locs cells slots mc ms A la X hl hP hD hS hbc hbs
  obtain ⟨hx, hb, hml, hown, hts, hr, hlk, hin, hC, hA⟩ := id X
  refine lv_astore hx hb hd hl hi rfl (fun la2 h2 => ?_)
  exact k p l e s m args below meth c H locs cells slots mc ms A la2 X (ps_set hn h2) hP hD hS hbc hbs
theorem A_astoreN_n {E : ag} {M : am} {d bc bs pc : Nat} {ls : List (Option Value)} {rest : List Value} {ws : va_W} {post : Option Value → va_W → Prop} {n : Fin 4} {ls2 : List (Option Value)} (hd : decode M.2.1 pc = .ok (.astore_n n, 1)) (hi : (n : Nat) < M.2.2.1) (hn : noL ls = true) (he : ls.set (n : Nat) (some (.null)) = ls2) (k : AW E M d bc bs (pc + 1) ls2 (rest) ws post) : AW E M d bc bs (pc) ls (.null :: rest) ws post := by
  subst he
  intro p l e s m args below meth c H locs cells slots mc ms A la X hl hP hD hS hbc hbs
  obtain ⟨hx, hb, hml, hown, hts, hr, hlk, hin, hC, hA⟩ := id X
  refine lv_astore_nN hx hb hd rfl hl hi rfl (fun la2 h2 => ?_)
  exact k p l e s m args below meth c H locs cells slots mc ms A la2 X (ps_set hn h2) hP hD hS hbc hbs
theorem A_astoreN {E : ag} {M : am} {d bc bs pc : Nat} {ls : List (Option Value)} {rest : List Value} {ws : va_W} {post : Option Value → va_W → Prop} {i : Nat} {ls2 : List (Option Value)} (hd : decode M.2.1 pc = .ok (.astore i, 2)) (hi : i < M.2.2.1) (hn : noL ls = true) (he : ls.set i (some (.null)) = ls2) (k : AW E M d bc bs (pc + 2) ls2 (rest) ws post) : AW E M d bc bs (pc) ls (.null :: rest) ws post := by
  subst he
  intro p l e s m args below meth c H locs cells slots mc ms A la X hl hP hD hS hbc hbs
  obtain ⟨hx, hb, hml, hown, hts, hr, hlk, hin, hC, hA⟩ := id X
  refine lv_astoreN hx hb hd hl hi rfl (fun la2 h2 => ?_)
  exact k p l e s m args below meth c H locs cells slots mc ms A la2 X (ps_set hn h2) hP hD hS hbc hbs
theorem A_iinc {E : ag} {M : am} {d bc bs pc : Nat} {ls : List (Option Value)} {rest : List Value} {ws : va_W} {post : Option Value → va_W → Prop} {i : Nat} {n : Int} {x : Int32} {ls2 : List (Option Value)} (v : Int32) (hd : decode M.2.1 pc = .ok (.iinc i n, 3)) (hx0 : ls[i]? = some (some (.int x))) (hv : x + Int32.ofInt n = v) (hi : i < M.2.2.1) (hn : noL ls = true) (he : ls.set i (some (.int v)) = ls2) (k : AW E M d bc bs (pc + 3) ls2 (rest) ws post) : AW E M d bc bs (pc) ls (rest) ws post := by
  subst he
  intro p l e s m args below meth c H locs cells slots mc ms A la X hl hP hD hS hbc hbs
  obtain ⟨hx, hb, hml, hown, hts, hr, hlk, hin, hC, hA⟩ := id X
  obtain ⟨j, hj⟩ := List.getElem?_of_mem (ps_mem ls 0 i _ hx0)
  rw [Nat.zero_add] at hj
  refine lv_iinc hx hb hd hl hj hv hi rfl (fun la2 h2 => ?_)
  exact k p l e s m args below meth c H locs cells slots mc ms A la2 X (ps_set hn h2) hP hD hS hbc hbs
def FW (own : String) (index ci k : Nat) : Prop := ∃ (C : String) (T : u_T) (N : Nat), vwCl[ci]? = some (C, T, N) ∧ k < N ∧ (∀ w ∈ u_ws C T N, w ∈ gtbl) ∧ Cond.fieldLink own index (T k).1 (T k).2.1 (T k).2.2.1 ∈ gtbl
/-- a class's own facts, for writes -/
def FC (ci : Nat) : Prop := ∃ (C : String) (T : u_T) (N : Nat) (ty0 : Nat → FieldType), vwCl[ci]? = some (C, T, N) ∧ (∀ k, k < N → parseFieldDescriptor (T k).2.2.1 = some (ty0 k)) ∧ (∀ a, a < N → ∀ b, b < N → a ≠ b → (T a).2.1 ≠ (T b).2.1)
def FT (ci k : Nat) (ty : FieldType) (fin : Bool) (own : String) : Prop := ∃ (C : String) (T : u_T) (N : Nat), vwCl[ci]? = some (C, T, N) ∧ parseFieldDescriptor (T k).2.2.1 = some ty ∧ (T k).2.2.2 = fin ∧ (T k).1 = own
theorem A_get {E : ag} {M : am} {d bc bs pc : Nat} {ls : List (Option Value)} {rest : List Value} {ws : va_W} {post : Option Value → va_W → Prop} {q0 a ci k index : Nat} {fs : List Value} {v : Value} (hd : decode M.2.1 pc = .ok (.getfield index, 3)) (hf : FW M.1 index ci k) (he : ws[q0]? = some (a, .inr (ci, fs))) (hv : fs[k]? = some v) (kk : AW E M d bc bs (pc + 3) ls (v :: rest) ws post) : AW E M d bc bs (pc) ls (.ref a :: rest) ws post := by
  intro p l e s m args below meth c H locs cells slots mc ms A la X hl hP hD hS hbc hbs
  obtain ⟨hx, hb, hml, hown, hts, hr, hlk, hin, hC, hA⟩ := id X
  obtain ⟨C, T, N, hc, hk, hin2, hli⟩ := hf
  refine va_get hx hb hts hin2 hown hC.1 hP q0 he hc k hk (hts _ hli) (fun _ h9 => h9) hv hd ?_
  exact kk p l e s m args below meth c H locs cells slots mc ms A la X hl hP hD hS hbc hbs
theorem A_put {E : ag} {M : am} {d bc bs pc : Nat} {ls : List (Option Value)} {rest : List Value} {ws : va_W} {post : Option Value → va_W → Prop} {q0 a ci k index : Nat} {fs : List Value} {v : Value} {ty : FieldType} {ws2 : va_W} (hd : decode M.2.1 pc = .ok (.putfield index, 3)) (hf : FW M.1 index ci k) (hcl : FC ci) (hft : FT ci k ty false M.1) (he : ws[q0]? = some (a, .inr (ci, fs))) (hnr : narrow ty v = v) (hfit : fits ty v = true) (hlen : k < fs.length) (hw : ws.set q0 (a, .inr (ci, fs.set k v)) = ws2) (kk : AW E M d bc bs (pc + 3) ls (rest) ws2 post) : AW E M d bc bs (pc) ls (v :: .ref a :: rest) ws post := by
  subst hw
  intro p l e s m args below meth c H locs cells slots mc ms A la X hl hP hD hS hbc hbs
  obtain ⟨hx, hb, hml, hown, hts, hr, hlk, hin, hC, hA⟩ := id X
  obtain ⟨C, T, N, hc, hk, hin2, hli⟩ := hf
  obtain ⟨C2, T2, N2, ty0, hc2, hty, hnm⟩ := hcl
  obtain ⟨C3, T3, N3, hc3, hpt, hfin, hdecl⟩ := hft
  have e2 := Option.some.inj (hc.symm.trans hc2)
  cases e2
  have e3 := Option.some.inj (hc.symm.trans hc3)
  cases e3
  refine va_put hx hb hts hin2 ty0 hty hnm hown hC.1 hP hD hS q0 he hc k hk (hts _ hli) (fun _ h9 => h9) hfin hpt hnr hfit hlen hd (fun H1 locs1 hP1 hD1 hS1 => ?_)
  exact kk p l e s m args below meth c H1 locs1 cells slots mc ms A la X hl hP1 hD1 hS1 hbc hbs
theorem A_putF {E : ag} {M : am} {d bc bs pc : Nat} {ls : List (Option Value)} {rest : List Value} {ws : va_W} {post : Option Value → va_W → Prop} {q0 a ci k index : Nat} {fs : List Value} {v : Value} {ty : FieldType} {ws2 : va_W} (hd : decode M.2.1 pc = .ok (.putfield index, 3)) (hf : FW M.1 index ci k) (hcl : FC ci) (hft : FT ci k ty true M.1) (hini : M.2.2.2.2 = true) (he : ws[q0]? = some (a, .inr (ci, fs))) (hnr : narrow ty v = v) (hfit : fits ty v = true) (hlen : k < fs.length) (hw : ws.set q0 (a, .inr (ci, fs.set k v)) = ws2) (kk : AW E M d bc bs (pc + 3) ls (rest) ws2 post) : AW E M d bc bs (pc) ls (v :: .ref a :: rest) ws post := by
  subst hw
  intro p l e s m args below meth c H locs cells slots mc ms A la X hl hP hD hS hbc hbs
  obtain ⟨hx, hb, hml, hown, hts, hr, hlk, hin, hC, hA⟩ := id X
  obtain ⟨C, T, N, hc, hk, hin2, hli⟩ := hf
  obtain ⟨C2, T2, N2, ty0, hc2, hty, hnm⟩ := hcl
  obtain ⟨C3, T3, N3, hc3, hpt, hfin, hdecl⟩ := hft
  have e2 := Option.some.inj (hc.symm.trans hc2)
  cases e2
  have e3 := Option.some.inj (hc.symm.trans hc3)
  cases e3
  refine va_putF hx hb hts hin2 ty0 hty hnm hown hC.1 hP hD hS q0 he hc k hk (hts _ hli) (fun _ h9 => h9) hfin (hin hini) hdecl hpt hnr hfit hlen hd (fun H1 locs1 hP1 hD1 hS1 => ?_)
  exact kk p l e s m args below meth c H1 locs1 cells slots mc ms A la X hl hP1 hD1 hS1 hbc hbs
theorem A_iald {E : ag} {M : am} {d bc bs pc : Nat} {ls : List (Option Value)} {rest : List Value} {ws : va_W} {post : Option Value → va_W → Prop} {q0 a n : Nat} {f : Nat → Int32} {i : Int32} (hd : decode M.2.1 pc = .ok (.iaload, 1)) (he : ws[q0]? = some (a, .inl (E.2.1 0, n, .inl f))) (hi : vp_in i n) (kk : AW E M d bc bs (pc + 1) ls (.int (f i.toNatClampNeg) :: rest) ws post) : AW E M d bc bs (pc) ls (.int i :: .ref a :: rest) ws post := by
  intro p l e s m args below meth c H locs cells slots mc ms A la X hl hP hD hS hbc hbs
  obtain ⟨hx, hb, hml, hown, hts, hr, hlk, hin, hC, hA⟩ := id X
  exact va_iald hx hb hC.1 hP q0 0 he rfl hi hd (kk p l e s m args below meth c H locs cells slots mc ms A la X hl hP hD hS hbc hbs)
theorem A_zald {E : ag} {M : am} {d bc bs pc : Nat} {ls : List (Option Value)} {rest : List Value} {ws : va_W} {post : Option Value → va_W → Prop} {q0 a n : Nat} {f : Nat → Int32} {i : Int32} (hd : decode M.2.1 pc = .ok (.baload, 1)) (he : ws[q0]? = some (a, .inl (E.2.1 1, n, .inl f))) (hi : vp_in i n) (kk : AW E M d bc bs (pc + 1) ls (.int (f i.toNatClampNeg) :: rest) ws post) : AW E M d bc bs (pc) ls (.int i :: .ref a :: rest) ws post := by
  intro p l e s m args below meth c H locs cells slots mc ms A la X hl hP hD hS hbc hbs
  obtain ⟨hx, hb, hml, hown, hts, hr, hlk, hin, hC, hA⟩ := id X
  exact va_zald hx hb hC.1 hP q0 1 he rfl hi hd (kk p l e s m args below meth c H locs cells slots mc ms A la X hl hP hD hS hbc hbs)
theorem A_iast {E : ag} {M : am} {d bc bs pc : Nat} {ls : List (Option Value)} {rest : List Value} {ws : va_W} {post : Option Value → va_W → Prop} {q0 a n : Nat} {f : Nat → Int32} {i x : Int32} {ws2 : va_W} (hd : decode M.2.1 pc = .ok (.iastore, 1)) (he : ws[q0]? = some (a, .inl (E.2.1 0, n, .inl f))) (hi : vp_in i n) (hw : ws.set q0 (a, .inl (E.2.1 0, n, .inl (upd f i.toNatClampNeg x))) = ws2) (kk : AW E M d bc bs (pc + 1) ls (rest) ws2 post) : AW E M d bc bs (pc) ls (.int x :: .int i :: .ref a :: rest) ws post := by
  subst hw
  intro p l e s m args below meth c H locs cells slots mc ms A la X hl hP hD hS hbc hbs
  obtain ⟨hx, hb, hml, hown, hts, hr, hlk, hin, hC, hA⟩ := id X
  exact va_iast hx hb hC.1 hP hD hS q0 0 he rfl hi hd (fun H1 locs1 hP1 hD1 hS1 => kk p l e s m args below meth c H1 locs1 cells slots mc ms A la X hl hP1 hD1 hS1 hbc hbs)
theorem A_zast {E : ag} {M : am} {d bc bs pc : Nat} {ls : List (Option Value)} {rest : List Value} {ws : va_W} {post : Option Value → va_W → Prop} {q0 a n : Nat} {f : Nat → Int32} {i x : Int32} {ws2 : va_W} (hd : decode M.2.1 pc = .ok (.bastore, 1)) (he : ws[q0]? = some (a, .inl (E.2.1 1, n, .inl f))) (hi : vp_in i n) (hw : ws.set q0 (a, .inl (E.2.1 1, n, .inl (upd f i.toNatClampNeg (vp_nar .boolean x)))) = ws2) (kk : AW E M d bc bs (pc + 1) ls (rest) ws2 post) : AW E M d bc bs (pc) ls (.int x :: .int i :: .ref a :: rest) ws post := by
  subst hw
  intro p l e s m args below meth c H locs cells slots mc ms A la X hl hP hD hS hbc hbs
  obtain ⟨hx, hb, hml, hown, hts, hr, hlk, hin, hC, hA⟩ := id X
  exact va_zast hx hb hC.1 hP hD hS q0 1 he rfl hi hd (fun H1 locs1 hP1 hD1 hS1 => kk p l e s m args below meth c H1 locs1 cells slots mc ms A la X hl hP1 hD1 hS1 hbc hbs)
theorem A_alen {E : ag} {M : am} {d bc bs pc : Nat} {ls : List (Option Value)} {rest : List Value} {ws : va_W} {post : Option Value → va_W → Prop} {q0 a n : Nat} {f : Nat → Int32} (v : Int32) (hd : decode M.2.1 pc = .ok (.arraylength, 1)) (he : ws[q0]? = some (a, .inl (E.2.1 0, n, .inl f))) (hv : Int32.ofNat n = v) (kk : AW E M d bc bs (pc + 1) ls (.int v :: rest) ws post) : AW E M d bc bs (pc) ls (.ref a :: rest) ws post := by
  intro p l e s m args below meth c H locs cells slots mc ms A la X hl hP hD hS hbc hbs
  obtain ⟨hx, hb, hml, hown, hts, hr, hlk, hin, hC, hA⟩ := id X
  exact va_alen hx hb hC.1 hP q0 0 he rfl hv hd (kk p l e s m args below meth c H locs cells slots mc ms A la X hl hP hD hS hbc hbs)
theorem A_aald {E : ag} {M : am} {d bc bs pc : Nat} {ls : List (Option Value)} {rest : List Value} {ws : va_W} {post : Option Value → va_W → Prop} {q0 a n : Nat} {f : Nat → Option Nat} {i : Int32} (t : Nat) {C : String} {cA : ClassId} (hd : decode M.2.1 pc = .ok (.aaload, 1)) (he : ws[q0]? = some (a, .inl (cA, n, .inr (.inr (.inr (.inr f)))))) (ht : (ag_tys E)[t]? = some (cA, .object C)) (hi : vp_in i n) (kk : AW E M d bc bs (pc + 1) ls (va_rf (f i.toNatClampNeg) :: rest) ws post) : AW E M d bc bs (pc) ls (.int i :: .ref a :: rest) ws post := by
  intro p l e s m args below meth c H locs cells slots mc ms A la X hl hP hD hS hbc hbs
  obtain ⟨hx, hb, hml, hown, hts, hr, hlk, hin, hC, hA⟩ := id X
  exact va_aldq hx hb hC.1 hP q0 t he ht hi hd (kk p l e s m args below meth c H locs cells slots mc ms A la X hl hP hD hS hbc hbs)
theorem A_aast {E : ag} {M : am} {d bc bs pc : Nat} {ls : List (Option Value)} {rest : List Value} {ws : va_W} {post : Option Value → va_W → Prop} {q0 a n b : Nat} {f : Nat → Option Nat} {i : Int32} {vs : List Value} {r : vw_C} {ws2 : va_W} (t qk ci : Nat) {cA : ClassId} (hd : decode M.2.1 pc = .ok (.aastore, 1)) (he : ws[q0]? = some (a, .inl (cA, n, .inr (.inr (.inr (.inr f)))))) (ht : (ag_tys E)[t]? = some (cA, .object r.1)) (hv : ws[qk]? = some (b, .inr (ci, vs))) (hc : vwCl[ci]? = some r) (hi : vp_in i n) (hw : ws.set q0 (a, .inl (cA, n, .inr (.inr (.inr (.inr (va_up f i.toNatClampNeg (some b))))))) = ws2) (kk : AW E M d bc bs (pc + 1) ls (rest) ws2 post) : AW E M d bc bs (pc) ls (.ref b :: .int i :: .ref a :: rest) ws post := by
  subst hw
  intro p l e s m args below meth c H locs cells slots mc ms A la X hl hP hD hS hbc hbs
  obtain ⟨hx, hb, hml, hown, hts, hr, hlk, hin, hC, hA⟩ := id X
  exact va_astq hx hb hC.1 hP hD hS q0 t qk ci he ht hv hc hi hd (fun H1 locs1 hP1 hD1 hS1 => kk p l e s m args below meth c H1 locs1 cells slots mc ms A la X hl hP1 hD1 hS1 hbc hbs)
theorem A_aastN {E : ag} {M : am} {d bc bs pc : Nat} {ls : List (Option Value)} {rest : List Value} {ws : va_W} {post : Option Value → va_W → Prop} {q0 a n : Nat} {f : Nat → Option Nat} {i : Int32} {C : String} {ws2 : va_W} (t : Nat) {cA : ClassId} (hd : decode M.2.1 pc = .ok (.aastore, 1)) (he : ws[q0]? = some (a, .inl (cA, n, .inr (.inr (.inr (.inr f)))))) (ht : (ag_tys E)[t]? = some (cA, .object C)) (hi : vp_in i n) (hw : ws.set q0 (a, .inl (cA, n, .inr (.inr (.inr (.inr (va_up f i.toNatClampNeg none)))))) = ws2) (kk : AW E M d bc bs (pc + 1) ls (rest) ws2 post) : AW E M d bc bs (pc) ls (.null :: .int i :: .ref a :: rest) ws post := by
  subst hw
  intro p l e s m args below meth c H locs cells slots mc ms A la X hl hP hD hS hbc hbs
  obtain ⟨hx, hb, hml, hown, hts, hr, hlk, hin, hC, hA⟩ := id X
  exact va_astqN hx hb hC.1 hP hD hS q0 t he ht hi hd (fun H1 locs1 hP1 hD1 hS1 => kk p l e s m args below meth c H1 locs1 cells slots mc ms A la X hl hP1 hD1 hS1 hbc hbs)
theorem A_above {E : ag} {M : am} {d bc bs pc : Nat} {ls : List (Option Value)} {rest : List Value} {ws : va_W} {post : Option Value → va_W → Prop} {index : Nat} (hd : decode M.2.1 pc = .ok (.getstatic index, 3)) (hw : Cond.fieldLink M.1 index "FourFlails" "ABOVE" "[I" ∈ gtbl) (k : AW E M d bc bs (pc + 3) ls (.ref E.2.2.2.2 :: rest) ws post) : AW E M d bc bs (pc) ls (rest) ws post := by
  intro p l e s m args below meth c H locs cells slots mc ms A la X hl hP hD hS hbc hbs
  obtain ⟨hx, hb, hml, hown, hts, hr, hlk, hin, hC, hA⟩ := id X
  refine va_gets hx hb hC.2.2.2.2.1 hS hown (hts _ hw) (fun _ h9 => h9) hd ?_
  exact k p l e s m args below meth c H locs cells slots mc ms A la X hl hP hD hS hbc hbs
theorem A_abld {E : ag} {M : am} {d bc bs pc : Nat} {ls : List (Option Value)} {rest : List Value} {ws : va_W} {post : Option Value → va_W → Prop} {i : Int32} (hd : decode M.2.1 pc = .ok (.iaload, 1)) (hi : vp_in i 6) (k : AW E M d bc bs (pc + 1) ls (.int (ag_above i.toNatClampNeg) :: rest) ws post) : AW E M d bc bs (pc) ls (.int i :: .ref E.2.2.2.2 :: rest) ws post := by
  intro p l e s m args below meth c H locs cells slots mc ms A la X hl hP hD hS hbc hbs
  obtain ⟨hx, hb, hml, hown, hts, hr, hlk, hin, hC, hA⟩ := id X
  refine va_ti hx hb hC.2.2.2.1 hS hi rfl hd ?_
  exact k p l e s m args below meth c H locs cells slots mc ms A la X hl hP hD hS hbc hbs
theorem A_ablen {E : ag} {M : am} {d bc bs pc : Nat} {ls : List (Option Value)} {rest : List Value} {ws : va_W} {post : Option Value → va_W → Prop}  (hd : decode M.2.1 pc = .ok (.arraylength, 1))  (k : AW E M d bc bs (pc + 1) ls (.int (Int32.ofNat 6) :: rest) ws post) : AW E M d bc bs (pc) ls (.ref E.2.2.2.2 :: rest) ws post := by
  intro p l e s m args below meth c H locs cells slots mc ms A la X hl hP hD hS hbc hbs
  obtain ⟨hx, hb, hml, hown, hts, hr, hlk, hin, hC, hA⟩ := id X
  refine va_tlen hx hb hC.2.2.2.1 hS rfl hd ?_
  exact k p l e s m args below meth c H locs cells slots mc ms A la X hl hP hD hS hbc hbs
theorem A_iret {E : ag} {M : am} {d bc bs pc : Nat} {ls : List (Option Value)} {ws : va_W} {post : Option Value → va_W → Prop} {v : Int32} {ty : FieldType} (hd : decode M.2.1 pc = .ok (.ireturn, 1)) (hre : M.2.2.2.1 = some ty) (hnr : narrow ty (.int v) = .int v) (h : post (some (.int v)) ws) : AW E M d bc bs (pc) ls ([.int v]) ws post := by
  intro p l e s m args below meth c H locs cells slots mc ms A la X hl hP hD hS hbc hbs
  obtain ⟨hx, hb, hml, hown, hts, hr, hlk, hin, hC, hA⟩ := id X
  refine W.widen (k := mc) (n := ms) (by omega) (by omega) ?_
  exact W.zret hx hb (hr.trans hre) hnr (fun t ht hW => ⟨⟨_, ws, rfl, h, by rw [ht]; exact hP, hD⟩, hS.F ht⟩) hS.2.2 hd hlk
theorem A_lret {E : ag} {M : am} {d bc bs pc : Nat} {ls : List (Option Value)} {ws : va_W} {post : Option Value → va_W → Prop} {v : Int64} (hd : decode M.2.1 pc = .ok (.lreturn, 1)) (hre : M.2.2.2.1 = some .long) (h : post (some (.long v)) ws) : AW E M d bc bs (pc) ls ([.long v]) ws post := by
  intro p l e s m args below meth c H locs cells slots mc ms A la X hl hP hD hS hbc hbs
  obtain ⟨hx, hb, hml, hown, hts, hr, hlk, hin, hC, hA⟩ := id X
  refine W.widen (k := mc) (n := ms) (by omega) (by omega) ?_
  exact W.lret hx hb (hr.trans hre) (fun t ht hW => ⟨⟨_, ws, rfl, h, by rw [ht]; exact hP, hD⟩, hS.F ht⟩) hS.2.2 hd hlk
theorem A_vret {E : ag} {M : am} {d bc bs pc : Nat} {ls : List (Option Value)} {ws : va_W} {post : Option Value → va_W → Prop}  (hd : decode M.2.1 pc = .ok (.return_, 1)) (hre : M.2.2.2.1 = none) (h : post (none) ws) : AW E M d bc bs (pc) ls ([]) ws post := by
  intro p l e s m args below meth c H locs cells slots mc ms A la X hl hP hD hS hbc hbs
  obtain ⟨hx, hb, hml, hown, hts, hr, hlk, hin, hC, hA⟩ := id X
  refine W.widen (k := mc) (n := ms) (by omega) (by omega) ?_
  exact W.vret hx hb (hr.trans hre) (fun t ht hW => ⟨⟨_, ws, rfl, h, by rw [ht]; exact hP, hD⟩, hS.F ht⟩) hS.2.2 hd hlk
theorem A_aret {E : ag} {M : am} {d bc bs pc : Nat} {ls : List (Option Value)} {ws : va_W} {post : Option Value → va_W → Prop} {v : Value} {rt : FieldType} (hd : decode M.2.1 pc = .ok (.areturn, 1)) (hre : M.2.2.2.1 = some rt) (hrt : (∃ n, rt = .object n) ∨ ∃ t, rt = .array t) (hv : v = .null ∨ ∃ a, v = .ref a) (h : post (some v) ws) : AW E M d bc bs (pc) ls ([v]) ws post := by
  intro p l e s m args below meth c H locs cells slots mc ms A la X hl hP hD hS hbc hbs
  obtain ⟨hx, hb, hml, hown, hts, hr, hlk, hin, hC, hA⟩ := id X
  refine W.widen (k := mc) (n := ms) (by omega) (by omega) ?_
  exact W.aret hx hb (hr.trans hre) hrt hv (fun t ht hW => ⟨⟨_, ws, rfl, h, by rw [ht]; exact hP, hD⟩, hS.F ht⟩) hS.2.2 hd hlk
theorem AW.mono {E : ag} {M : am} {d bc bs pc : Nat} {ls : List (Option Value)} {st : List Value} {ws : va_W} {post post2 : Option Value → va_W → Prop} (h : AW E M d bc bs pc ls st ws post) (hp : ∀ v w, post v w → post2 v w) : AW E M d bc bs pc ls st ws post2 := by
  intro p l e s m args below meth c H locs cells slots mc ms A la X hl hP hD hS hbc hbs T hT XS
  obtain ⟨t, h1, o, h2, h3, ⟨⟨v, w, h4, h5, h6⟩, h7⟩, h8⟩ := h p l e s m args below meth c H locs cells slots mc ms A la X hl hP hD hS hbc hbs T hT XS
  exact ⟨t, h1, o, h2, h3, ⟨⟨v, w, h4, hp v w h5, h6⟩, h7⟩, h8⟩
end
section
/-! CALLS: a callee's world is the whole of the caller's, or some of its cells by their places; what comes back stands at the same places -/
theorem ac_C.same {E : ag} {A : Nat → Prop} {s U : State} {H : Heap} (h : ac_C E A s H) (hv : s.vm = U.vm) : ac_C E A U H := by
  obtain ⟨h1, h2, h3, h4, h5, h6, h7, h8, h9⟩ := h
  have ha : s.vm.Alike U.vm := by rw [hv]; exact Vm.Alike.refl U.vm
  exact ⟨va_K.moved ha h1, vk_S.moved ha h2, fun i hi => vk_R.same hv.symm (h3 i hi), va_T.moved ha h4, va_Z.moved ha h5, va_Z.moved ha h6, fun q hq => va_Nw.same rfl hv (h7 q hq), va_AO.moved ha h8, va_AO.moved ha h9⟩
/-- the world with a callee's cells put back at their places, new ones behind -/
def mrg : va_W → List Nat → va_W → va_W
  | ws, [], w1 => ws ++ w1
  | ws, _ :: _, [] => ws
  | ws, i :: is, x :: w1 => mrg (ws.set i x) is w1
theorem mrg_at : ∀ (is : List Nat) (ws w1 : va_W), (∀ i ∈ is, i < ws.length) → va_nd is = true → is.length ≤ w1.length → ∀ (k : Nat) (q : Nat × va_E), (mrg ws is w1)[k]? = some q →
    (∃ j : Nat, is[j]? = some k ∧ w1[j]? = some q) ∨ (k ∉ is ∧ k < ws.length ∧ ws[k]? = some q) ∨ (∃ t : Nat, k = ws.length + t ∧ w1[is.length + t]? = some q) := by
  intro is
  induction is with
  | nil =>
    intro ws w1 h1 h2 h3 k q hk
    rw [mrg] at hk
    by_cases hl : k < ws.length
    · rw [List.getElem?_append_left hl] at hk
      exact Or.inr (Or.inl ⟨by simp, hl, hk⟩)
    · rw [List.getElem?_append_right (by omega)] at hk
      exact Or.inr (Or.inr ⟨k - ws.length, by omega, by simpa using hk⟩)
  | cons i is ih =>
    intro ws w1 h1 h2 h3 k q hk
    cases w1 with
    | nil => simp at h3
    | cons x w1 =>
      rw [mrg] at hk
      have hnd : i ∉ is ∧ va_nd is = true := by
        simp only [va_nd, Bool.and_eq_true] at h2
        refine ⟨fun h => ?_, h2.2⟩
        have := h2.1
        simp_all
      have h5 := ih (ws.set i x) w1 (fun j hj => by rw [List.length_set]; exact h1 j (List.mem_cons_of_mem _ hj)) hnd.2 (by simpa using h3) k q hk
      rcases h5 with ⟨j, a1, a2⟩ | ⟨a1, a2, a3⟩ | ⟨t, a1, a2⟩
      · exact Or.inl ⟨j + 1, by simpa using a1, by simpa using a2⟩
      · rw [List.length_set] at a2
        by_cases hki : k = i
        · subst hki
          rw [List.getElem?_set] at a3
          simp only [if_true, a2] at a3
          exact Or.inl ⟨0, rfl, by simpa using a3⟩
        · rw [List.getElem?_set] at a3
          rw [if_neg (fun h => hki h.symm)] at a3
          exact Or.inr (Or.inl ⟨by simp [hki, a1], a2, a3⟩)
      · rw [List.length_set] at a1
        refine Or.inr (Or.inr ⟨t, a1, ?_⟩)
        rw [show (i :: is).length + t = (is.length + t) + 1 by simp; omega]
        simpa using a2
theorem mrg_PD {A0 : Nat → Prop} {E : ag} {ws wc w1 : va_W} {H H1 : Heap} (is : List Nat) (hP : va_P E.1 vwCl ws H) (hD : va_D A0 ws) (hC : is.map (fun i => ws[i]?) = wc.map some) (hn : va_nd is = true) (hlen : is.length ≤ w1.length)
    (hk : ∀ q : Nat, q < H.size → ¬ va_A wc H.size q → H1[q]? = H[q]?) (hF : ∀ q, va_A wc H.size q → A0 q) (hP1 : va_P E.1 vwCl w1 H1) (hD1 : va_D (va_A wc H.size) w1) : va_P E.1 vwCl (mrg ws is w1) H1 ∧ va_D A0 (mrg ws is w1) := by
  have hin : ∀ i ∈ is, i < ws.length := by
    intro i hi
    obtain ⟨j, hj⟩ := List.getElem?_of_mem hi
    have h1 : (is.map (fun i => ws[i]?))[j]? = some ws[i]? := by rw [List.getElem?_map, hj]; rfl
    rw [hC, List.getElem?_map] at h1
    cases hw : wc[j]? with
    | none => rw [hw] at h1; cases h1
    | some x =>
      rw [hw] at h1
      have h2 : some x = ws[i]? := by simpa using h1
      exact (List.getElem?_eq_some_iff.mp h2.symm).1
  have hat : ∀ (j : Nat) (x : Nat × va_E), wc[j]? = some x → ∃ i : Nat, is[j]? = some i ∧ ws[i]? = some x := by
    intro j x hx
    have h1 : (is.map (fun i => ws[i]?))[j]? = some (some x) := by rw [hC, List.getElem?_map, hx]; rfl
    rw [List.getElem?_map] at h1
    cases hi : is[j]? with
    | none => rw [hi] at h1; cases h1
    | some i => rw [hi] at h1; exact ⟨i, rfl, by simpa using h1⟩
  have hrest : ∀ (k : Nat) (q : Nat × va_E), k ∉ is → ws[k]? = some q → q.1 < H.size ∧ ¬ va_A wc H.size q.1 := by
    intro k q hk1 hq
    have hl := (hP k q hq).lt
    refine ⟨hl, fun h => ?_⟩
    rcases h with ⟨j, e, h⟩ | h
    · obtain ⟨i, h3, h4⟩ := hat j _ h
      have := hD.1 k i q (q.1, e) hq h4 rfl
      subst this
      exact hk1 (List.mem_of_getElem? h3)
    · omega
  have cases3 := mrg_at is ws w1 hin hn hlen
  have inA : ∀ (k : Nat) (q : Nat × va_E), (mrg ws is w1)[k]? = some q → (∃ j : Nat, w1[j]? = some q ∧ ((j < is.length ∧ is[j]? = some k) ∨ (is.length ≤ j ∧ k = ws.length + (j - is.length)))) ∨ (k ∉ is ∧ k < ws.length ∧ ws[k]? = some q) := by
    intro k q hq
    rcases cases3 k q hq with ⟨j, a1, a2⟩ | h | ⟨t, a1, a2⟩
    · exact Or.inl ⟨j, a2, Or.inl ⟨(List.getElem?_eq_some_iff.mp a1).1, a1⟩⟩
    · exact Or.inr h
    · exact Or.inl ⟨is.length + t, a2, Or.inr ⟨by omega, by omega⟩⟩
  refine ⟨fun k q hq => ?_, fun i j x y hx hy hxy => ?_, fun k q hq => ?_⟩
  · rcases inA k q hq with ⟨j, a1, -⟩ | ⟨a1, a2, a3⟩
    · exact hP1 j q a1
    · obtain ⟨g1, g2⟩ := hrest k q a1 a3
      exact (hP k q a3).kept (hk q.1 g1 g2)
  · rcases inA i x hx with ⟨a, a1, a2⟩ | ⟨a1, a2, a3⟩ <;> rcases inA j y hy with ⟨b, b1, b2⟩ | ⟨b1, b2, b3⟩
    · have hab := hD1.1 a b x y a1 b1 hxy
      subst hab
      rcases a2 with ⟨c1, c2⟩ | ⟨c1, c2⟩ <;> rcases b2 with ⟨d1, d2⟩ | ⟨d1, d2⟩
      · exact Option.some.inj (c2.symm.trans d2)
      · omega
      · omega
      · omega
    · exact absurd (hxy ▸ hD1.2 a x a1) (hrest j y b1 b3).2
    · exact absurd (hxy ▸ hD1.2 b y b1) (hrest i x a1 a3).2
    · exact hD.1 i j x y a3 b3 hxy
  · rcases inA k q hq with ⟨j, a1, -⟩ | ⟨a1, a2, a3⟩
    · exact hF _ (hD1.2 j q a1)
    · exact hD.2 k q a3
section CallRules
variable {p : Program} {l : Launch} {e : Env} {R : Room} {s : State} {m : MethodId} {args : Array Value} {below : List Frame} {meth : Method} {c : Code} {H : Heap} {locs : List Loc} {cells slots : Nat} {Q : State → Prop}
theorem ac_call {E : ag} {A0 A1 : Nat → Prop} {H0 : Heap} {pc mc1 ms1 : Nat} {la : Array Slot} {rest st0 : List Value} {a : Array Value} {postc : Option Value → va_W → Prop} (hr : va_Run p l e R s m args below meth c H locs cells slots mc1 ms1 (F0 m pc la st0) rest (ac_Q E A1 postc a) A1) (hS : va_S A0 H0 H locs) (hf : ∀ q, A1 q → A0 q)
    (kk : ∀ (v : Option Value) (w1 : va_W) (H1 : Heap) (locs1 : List Loc), postc v w1 → va_P E.1 vwCl w1 H1 → va_D A1 w1 → (∀ q : Nat, q < H.size → ¬ A1 q → H1[q]? = H[q]?) → va_S A0 H0 H1 locs1 → W p l e R s m args below meth c H1 locs1 (cells + mc1) (slots + ms1) Q (F0 m (pc + 3) la (v.toList ++ rest))) : W p l e R s m args below meth c H locs cells slots Q (F0 m pc la st0) := by
  intro T hT X
  obtain ⟨v, st₀, t, T', L, h0, X', hL, e1, e2, ⟨⟨v2, w1, hv, hp, hP1, hD1⟩, hz, hk⟩, st⟩ := hr T hT X
  cases hv
  rw [h0] at hz hk
  obtain ⟨t2, a1, b1⟩ := kk v w1 T'.heap (locs ++ L) hp (by rw [e1]; exact hP1) hD1 (fun q h1 h2 => by rw [e1]; exact hk q h1 h2)
    ⟨Nat.le_trans hS.1 (by rw [e1]; exact hz), fun q h1 h2 => by rw [e1, hk q (Nat.lt_of_lt_of_le h1 hS.1) (fun z => h2 (hf q z))]; exact hS.2.1 q h1 h2, fun q hq => by
      rcases List.mem_append.mp hq with h | h
      · exact hS.2.2 q h
      · exact hf _ (hL q h)⟩ T' rfl X'
  exact ⟨t2, st t2 a1, b1⟩
end CallRules
/-- what a call's row of the tables says: by kind (a method of an object, a static one, a constructor; of one's own or of a nest mate) -/
def CWb (y : MethodName) (cc : ByteArray) (nL : Nat) (ret : Option FieldType) (n : Nat) : Prop := Cond.initialized y.cls ∈ gtbl ∧ Cond.code y cc nL ret ∈ gtbl ∧ (y.cls ≠ "java/lang/invoke/MethodHandle" ∧ y.cls ≠ "java/lang/invoke/VarHandle" ∧ (parseMethodDescriptor y.desc).map (fun d => d.parameters.length) = some n)
def CWv (own : String) (index : Nat) (y : MethodName) : Prop := Cond.methodLink own index y ∈ gtbl ∧ Cond.instanceMethod y ∈ gtbl ∧ Cond.selects y.cls y y ∈ gtbl
def CWs (own : String) (index : Nat) (y : MethodName) : Prop := Cond.methodLink own index y ∈ gtbl ∧ Cond.static y ∈ gtbl
def CWi (own : String) (index : Nat) (y : MethodName) : Prop := Cond.methodLink own index y ∈ gtbl ∧ Cond.instanceMethod y ∈ gtbl ∧ y.name = "<init>"
def CWns (own : String) (index : Nat) (y : MethodName) : Prop := (∃ host, (own, index, y, host) ∈ ag_nest) ∧ Cond.static y ∈ gtbl
def CWni (own : String) (index : Nat) (y : MethodName) : Prop := (∃ host, (own, index, y, host) ∈ ag_nest) ∧ Cond.instanceMethod y ∈ gtbl ∧ y.name = "<init>"
theorem AW.world {E : ag} {M : am} {d bc bs pc : Nat} {ls : List (Option Value)} {st : List Value} {ws ws2 : va_W} {post : Option Value → va_W → Prop} (h : ws = ws2) (k : AW E M d bc bs pc ls st ws2 post) : AW E M d bc bs pc ls st ws post := h ▸ k
theorem AW.stack {E : ag} {M : am} {d bc bs pc : Nat} {ls : List (Option Value)} {st st2 : List Value} {ws : va_W} {post : Option Value → va_W → Prop} (h : st = st2) (k : AW E M d bc bs pc ls st2 ws post) : AW E M d bc bs pc ls st ws post := h ▸ k
theorem AW.loc {E : ag} {M : am} {d bc bs pc : Nat} {ls ls2 : List (Option Value)} {st : List Value} {ws : va_W} {post : Option Value → va_W → Prop} (h : ls = ls2) (k : AW E M d bc bs pc ls2 st ws post) : AW E M d bc bs pc ls st ws post := h ▸ k
set_option maxRecDepth 10000 in
theorem A_callV {E : ag} {M : am} {d bc bs pc : Nat} {ls : List (Option Value)} {st rest : List Value} {ws : va_W} {post : Option Value → va_W → Prop} {y : MethodName} {cc1 : ByteArray} {nL1 d1 mc1 ms1 index : Nat} {ret1 : Option FieldType} (n : Nat) {b : Nat} {As : List Value} {wc : va_W} {postc : Option Value → va_W → Prop} (hd : decode M.2.1 pc = .ok (.invokevirtual index, 3)) (cb : CWb y cc1 nL1 ret1 n) (cw : CWv M.1 index y) (hM : CT E y cc1 nL1 ret1 d1 mc1 ms1 (.ref b :: As) wc postc) (hst : st = As.reverse ++ .ref b :: rest) (hn : As.length = n) {q0 ci : Nat} {fs : List Value} {r : vw_C} (hrv : wc[q0]? = some (b, .inr (ci, fs))) (hrc : vwCl[ci]? = some r) (hry : r.1 = y.cls) (is : List Nat) (hCc : is.map (fun i => ws[i]?) = wc.map some) (hnd : va_nd is = true) (hroom : d1 + 1 ≤ d) (hnl : nL1 ≤ 21) (hcat : (rest.map fun v => v.category).sum ≤ 8) (hmc : mc1 ≤ bc) (hms : ms1 ≤ bs) (hlen : ∀ v w1, postc v w1 → is.length ≤ w1.length) 
    (kk : ∀ (v : Option Value) (w1 : va_W), postc v w1 → AW E M d (bc - mc1) (bs - ms1) (pc + 3) ls (v.toList ++ rest) (mrg ws is w1) post) : AW E M d bc bs pc ls st ws post := by
  subst hst
  intro p l e s m args below meth c H locs cells slots mc ms A la X hl hP hD hS hbc hbs
  obtain ⟨hx, hb, hml, hown, hts, hr, hlk, hin, hC, hA⟩ := id X
  have hlo : 8 + (nL1 + 11) + 40 * d1 ≤ 40 * d := by omega
  have hPc : va_P E.1 vwCl wc H := fun k q hk => by
    have h1 : (is.map (fun i => ws[i]?))[k]? = some (some q) := by rw [hCc, List.getElem?_map, hk]; rfl
    rw [List.getElem?_map] at h1
    cases hi : is[k]? with
    | none => rw [hi] at h1; cases h1
    | some i => rw [hi] at h1; exact hP i q (by simpa using h1)
  have hDc : va_D A wc := hD.sub is hnd hCc
  have hFc : ∀ q, va_A wc H.size q → A q := va_free hD hS hA is hCc
  have hrun := va_runV (H := H) (locs := locs) (cells := cells) (slots := slots) (R := rmd d mc ms) (below := below) (meth := meth) (e := e) (g := F0 m pc la (As.reverse ++ .ref b :: rest)) (nL := M.2.2.1) (As := As) (rest := rest) ⟨hx, hb, hml, hown, hts⟩ (hM l H.size) ⟨callB_of n hts (gt_goodc cb.2.1) rfl rfl rfl (hts _ cb.1) (hts _ cw.1) cb.2.2 ⟨hroom, hlo⟩, hts _ cw.2.1, hts _ cw.2.2⟩
    ⟨fun a U g mk q => by
      obtain ⟨q0, q1, qP, qD, qC⟩ := q
      exact ⟨q0, q1, qP, qD, ac_C.same qC rfl⟩, by rw [← hry]; exact va_recv hC.1 hPc hrc hrv, fun U hU hW => ⟨rfl, by rw [hU], by rw [hU]; exact hPc, hDc.weaken (fun _ _ _ _ => trivial), by
        rw [hU]
        exact hC.go hW (fun a h1 h2 => hS.2.1 a h1 h2) hFc⟩⟩ rfl hn hl.1 rfl (lv_room hcat) hd ⟨by show cells + mc1 ≤ mc; omega, by show slots + ms1 ≤ ms; omega⟩
  refine ac_call hrun hS hFc (fun v w1 H1 locs1 hpc hP1 hD1 hk1 hS1 => ?_)
  obtain ⟨hP2, hD2⟩ := mrg_PD is hP hD hCc hnd (hlen v w1 hpc) hk1 hFc hP1 hD1
  exact kk v w1 hpc p l e s m args below meth c H1 locs1 (cells + mc1) (slots + ms1) mc ms A la X hl hP2 hD2 hS1 (by omega) (by omega)
set_option maxRecDepth 10000 in
theorem A_callVW {E : ag} {M : am} {d bc bs pc : Nat} {ls : List (Option Value)} {st rest : List Value} {ws : va_W} {post : Option Value → va_W → Prop} {y : MethodName} {cc1 : ByteArray} {nL1 d1 mc1 ms1 index : Nat} {ret1 : Option FieldType} (n : Nat) {b : Nat} {As : List Value} {postc : Option Value → va_W → Prop} (hd : decode M.2.1 pc = .ok (.invokevirtual index, 3)) (cb : CWb y cc1 nL1 ret1 n) (cw : CWv M.1 index y) (hM : CT E y cc1 nL1 ret1 d1 mc1 ms1 (.ref b :: As) ws postc) (hst : st = As.reverse ++ .ref b :: rest) (hn : As.length = n) {q0 ci : Nat} {fs : List Value} {r : vw_C} (hrv : ws[q0]? = some (b, .inr (ci, fs))) (hrc : vwCl[ci]? = some r) (hry : r.1 = y.cls) (hroom : d1 + 1 ≤ d) (hnl : nL1 ≤ 21) (hcat : (rest.map fun v => v.category).sum ≤ 8) (hmc : mc1 ≤ bc) (hms : ms1 ≤ bs) 
    (kk : ∀ (v : Option Value) (w1 : va_W), postc v w1 → AW E M d (bc - mc1) (bs - ms1) (pc + 3) ls (v.toList ++ rest) (w1) post) : AW E M d bc bs pc ls st ws post := by
  subst hst
  intro p l e s m args below meth c H locs cells slots mc ms A la X hl hP hD hS hbc hbs
  obtain ⟨hx, hb, hml, hown, hts, hr, hlk, hin, hC, hA⟩ := id X
  have hlo : 8 + (nL1 + 11) + 40 * d1 ≤ 40 * d := by omega
  have hPc : va_P E.1 vwCl ws H := hP
  have hDc : va_D A ws := hD
  have hFc : ∀ q, va_A ws H.size q → A q := fun q h => by
    rcases h with ⟨k, e, h⟩ | h
    · exact hD.2 k (q, e) h
    · exact hA q (Nat.le_trans hS.1 h)
  have hrun := va_runV (H := H) (locs := locs) (cells := cells) (slots := slots) (R := rmd d mc ms) (below := below) (meth := meth) (e := e) (g := F0 m pc la (As.reverse ++ .ref b :: rest)) (nL := M.2.2.1) (As := As) (rest := rest) ⟨hx, hb, hml, hown, hts⟩ (hM l H.size) ⟨callB_of n hts (gt_goodc cb.2.1) rfl rfl rfl (hts _ cb.1) (hts _ cw.1) cb.2.2 ⟨hroom, hlo⟩, hts _ cw.2.1, hts _ cw.2.2⟩
    ⟨fun a U g mk q => by
      obtain ⟨q0, q1, qP, qD, qC⟩ := q
      exact ⟨q0, q1, qP, qD, ac_C.same qC rfl⟩, by rw [← hry]; exact va_recv hC.1 hPc hrc hrv, fun U hU hW => ⟨rfl, by rw [hU], by rw [hU]; exact hPc, hDc.weaken (fun _ _ _ _ => trivial), by
        rw [hU]
        exact hC.go hW (fun a h1 h2 => hS.2.1 a h1 h2) hFc⟩⟩ rfl hn hl.1 rfl (lv_room hcat) hd ⟨by show cells + mc1 ≤ mc; omega, by show slots + ms1 ≤ ms; omega⟩
  refine ac_call hrun hS hFc (fun v w1 H1 locs1 hpc hP1 hD1 hk1 hS1 => ?_)
  exact kk v w1 hpc p l e s m args below meth c H1 locs1 (cells + mc1) (slots + ms1) mc ms A la X hl hP1 (hD1.weaken (fun k q _ h => hFc q.1 h)) hS1 (by omega) (by omega)
set_option maxRecDepth 10000 in
theorem A_callS {E : ag} {M : am} {d bc bs pc : Nat} {ls : List (Option Value)} {st rest : List Value} {ws : va_W} {post : Option Value → va_W → Prop} {y : MethodName} {cc1 : ByteArray} {nL1 d1 mc1 ms1 index : Nat} {ret1 : Option FieldType} (n : Nat) {As : List Value} {wc : va_W} {postc : Option Value → va_W → Prop} (hd : decode M.2.1 pc = .ok (.invokestatic index, 3)) (cb : CWb y cc1 nL1 ret1 n) (cw : CWs M.1 index y) (hM : CT E y cc1 nL1 ret1 d1 mc1 ms1 (As) wc postc) (hst : st = As.reverse ++ rest) (hn : As.length = n) (is : List Nat) (hCc : is.map (fun i => ws[i]?) = wc.map some) (hnd : va_nd is = true) (hroom : d1 + 1 ≤ d) (hnl : nL1 ≤ 21) (hcat : (rest.map fun v => v.category).sum ≤ 8) (hmc : mc1 ≤ bc) (hms : ms1 ≤ bs) (hlen : ∀ v w1, postc v w1 → is.length ≤ w1.length) 
    (kk : ∀ (v : Option Value) (w1 : va_W), postc v w1 → AW E M d (bc - mc1) (bs - ms1) (pc + 3) ls (v.toList ++ rest) (mrg ws is w1) post) : AW E M d bc bs pc ls st ws post := by
  subst hst
  intro p l e s m args below meth c H locs cells slots mc ms A la X hl hP hD hS hbc hbs
  obtain ⟨hx, hb, hml, hown, hts, hr, hlk, hin, hC, hA⟩ := id X
  have hlo : 8 + (nL1 + 11) + 40 * d1 ≤ 40 * d := by omega
  have hPc : va_P E.1 vwCl wc H := fun k q hk => by
    have h1 : (is.map (fun i => ws[i]?))[k]? = some (some q) := by rw [hCc, List.getElem?_map, hk]; rfl
    rw [List.getElem?_map] at h1
    cases hi : is[k]? with
    | none => rw [hi] at h1; cases h1
    | some i => rw [hi] at h1; exact hP i q (by simpa using h1)
  have hDc : va_D A wc := hD.sub is hnd hCc
  have hFc : ∀ q, va_A wc H.size q → A q := va_free hD hS hA is hCc
  have hrun := va_runS (H := H) (locs := locs) (cells := cells) (slots := slots) (R := rmd d mc ms) (below := below) (meth := meth) (e := e) (g := F0 m pc la (As.reverse ++ rest)) (nL := M.2.2.1) (As := As) (rest := rest) ⟨hx, hb, hml, hown, hts⟩ (hM l H.size) ⟨callB_of n hts (gt_goodc cb.2.1) rfl rfl rfl (hts _ cb.1) (hts _ cw.1) cb.2.2 ⟨hroom, hlo⟩, hts _ cw.2⟩
    ⟨fun a U g mk q => by
      obtain ⟨q0, q1, qP, qD, qC⟩ := q
      exact ⟨q0, q1, qP, qD, ac_C.same qC rfl⟩, fun U hU hW => ⟨rfl, by rw [hU], by rw [hU]; exact hPc, hDc.weaken (fun _ _ _ _ => trivial), by
        rw [hU]
        exact hC.go hW (fun a h1 h2 => hS.2.1 a h1 h2) hFc⟩⟩ rfl hn hl.1 rfl (lv_room hcat) hd ⟨by show cells + mc1 ≤ mc; omega, by show slots + ms1 ≤ ms; omega⟩
  refine ac_call hrun hS hFc (fun v w1 H1 locs1 hpc hP1 hD1 hk1 hS1 => ?_)
  obtain ⟨hP2, hD2⟩ := mrg_PD is hP hD hCc hnd (hlen v w1 hpc) hk1 hFc hP1 hD1
  exact kk v w1 hpc p l e s m args below meth c H1 locs1 (cells + mc1) (slots + ms1) mc ms A la X hl hP2 hD2 hS1 (by omega) (by omega)
set_option maxRecDepth 10000 in
theorem A_callSW {E : ag} {M : am} {d bc bs pc : Nat} {ls : List (Option Value)} {st rest : List Value} {ws : va_W} {post : Option Value → va_W → Prop} {y : MethodName} {cc1 : ByteArray} {nL1 d1 mc1 ms1 index : Nat} {ret1 : Option FieldType} (n : Nat) {As : List Value} {postc : Option Value → va_W → Prop} (hd : decode M.2.1 pc = .ok (.invokestatic index, 3)) (cb : CWb y cc1 nL1 ret1 n) (cw : CWs M.1 index y) (hM : CT E y cc1 nL1 ret1 d1 mc1 ms1 (As) ws postc) (hst : st = As.reverse ++ rest) (hn : As.length = n) (hroom : d1 + 1 ≤ d) (hnl : nL1 ≤ 21) (hcat : (rest.map fun v => v.category).sum ≤ 8) (hmc : mc1 ≤ bc) (hms : ms1 ≤ bs) 
    (kk : ∀ (v : Option Value) (w1 : va_W), postc v w1 → AW E M d (bc - mc1) (bs - ms1) (pc + 3) ls (v.toList ++ rest) (w1) post) : AW E M d bc bs pc ls st ws post := by
  subst hst
  intro p l e s m args below meth c H locs cells slots mc ms A la X hl hP hD hS hbc hbs
  obtain ⟨hx, hb, hml, hown, hts, hr, hlk, hin, hC, hA⟩ := id X
  have hlo : 8 + (nL1 + 11) + 40 * d1 ≤ 40 * d := by omega
  have hPc : va_P E.1 vwCl ws H := hP
  have hDc : va_D A ws := hD
  have hFc : ∀ q, va_A ws H.size q → A q := fun q h => by
    rcases h with ⟨k, e, h⟩ | h
    · exact hD.2 k (q, e) h
    · exact hA q (Nat.le_trans hS.1 h)
  have hrun := va_runS (H := H) (locs := locs) (cells := cells) (slots := slots) (R := rmd d mc ms) (below := below) (meth := meth) (e := e) (g := F0 m pc la (As.reverse ++ rest)) (nL := M.2.2.1) (As := As) (rest := rest) ⟨hx, hb, hml, hown, hts⟩ (hM l H.size) ⟨callB_of n hts (gt_goodc cb.2.1) rfl rfl rfl (hts _ cb.1) (hts _ cw.1) cb.2.2 ⟨hroom, hlo⟩, hts _ cw.2⟩
    ⟨fun a U g mk q => by
      obtain ⟨q0, q1, qP, qD, qC⟩ := q
      exact ⟨q0, q1, qP, qD, ac_C.same qC rfl⟩, fun U hU hW => ⟨rfl, by rw [hU], by rw [hU]; exact hPc, hDc.weaken (fun _ _ _ _ => trivial), by
        rw [hU]
        exact hC.go hW (fun a h1 h2 => hS.2.1 a h1 h2) hFc⟩⟩ rfl hn hl.1 rfl (lv_room hcat) hd ⟨by show cells + mc1 ≤ mc; omega, by show slots + ms1 ≤ ms; omega⟩
  refine ac_call hrun hS hFc (fun v w1 H1 locs1 hpc hP1 hD1 hk1 hS1 => ?_)
  exact kk v w1 hpc p l e s m args below meth c H1 locs1 (cells + mc1) (slots + ms1) mc ms A la X hl hP1 (hD1.weaken (fun k q _ h => hFc q.1 h)) hS1 (by omega) (by omega)
set_option maxRecDepth 10000 in
theorem A_callI {E : ag} {M : am} {d bc bs pc : Nat} {ls : List (Option Value)} {st rest : List Value} {ws : va_W} {post : Option Value → va_W → Prop} {y : MethodName} {cc1 : ByteArray} {nL1 d1 mc1 ms1 index : Nat} (n : Nat) {b : Nat} {As : List Value} {wc : va_W} {postc : Option Value → va_W → Prop} (hd : decode M.2.1 pc = .ok (.invokespecial index, 3)) (cb : CWb y cc1 nL1 none n) (cw : CWi M.1 index y) (hM : CT E y cc1 nL1 none d1 mc1 ms1 (.ref b :: As) wc postc) (hst : st = As.reverse ++ .ref b :: rest) (hn : As.length = n) (is : List Nat) (hCc : is.map (fun i => ws[i]?) = wc.map some) (hnd : va_nd is = true) (hroom : d1 + 1 ≤ d) (hnl : nL1 ≤ 21) (hcat : (rest.map fun v => v.category).sum ≤ 8) (hmc : mc1 ≤ bc) (hms : ms1 ≤ bs) (hlen : ∀ v w1, postc v w1 → is.length ≤ w1.length) 
    (kk : ∀ (v : Option Value) (w1 : va_W), postc v w1 → AW E M d (bc - mc1) (bs - ms1) (pc + 3) ls (v.toList ++ rest) (mrg ws is w1) post) : AW E M d bc bs pc ls st ws post := by
  subst hst
  intro p l e s m args below meth c H locs cells slots mc ms A la X hl hP hD hS hbc hbs
  obtain ⟨hx, hb, hml, hown, hts, hr, hlk, hin, hC, hA⟩ := id X
  have hlo : 8 + (nL1 + 11) + 40 * d1 ≤ 40 * d := by omega
  have hPc : va_P E.1 vwCl wc H := fun k q hk => by
    have h1 : (is.map (fun i => ws[i]?))[k]? = some (some q) := by rw [hCc, List.getElem?_map, hk]; rfl
    rw [List.getElem?_map] at h1
    cases hi : is[k]? with
    | none => rw [hi] at h1; cases h1
    | some i => rw [hi] at h1; exact hP i q (by simpa using h1)
  have hDc : va_D A wc := hD.sub is hnd hCc
  have hFc : ∀ q, va_A wc H.size q → A q := va_free hD hS hA is hCc
  have hrun := va_runI (H := H) (locs := locs) (cells := cells) (slots := slots) (R := rmd d mc ms) (below := below) (meth := meth) (e := e) (g := F0 m pc la (As.reverse ++ .ref b :: rest)) (nL := M.2.2.1) (As := As) (rest := rest) ⟨hx, hb, hml, hown, hts⟩ (hM l H.size) ⟨callB_of n hts (gt_goodc cb.2.1) rfl rfl rfl (hts _ cb.1) (hts _ cw.1) cb.2.2 ⟨hroom, hlo⟩, cw.2.2, hts _ cw.2.1⟩
    ⟨fun a U g mk q => by
      obtain ⟨q0, q1, qP, qD, qC⟩ := q
      exact ⟨q0, q1, qP, qD, ac_C.same qC rfl⟩, fun U hU hW => ⟨rfl, by rw [hU], by rw [hU]; exact hPc, hDc.weaken (fun _ _ _ _ => trivial), by
        rw [hU]
        exact hC.go hW (fun a h1 h2 => hS.2.1 a h1 h2) hFc⟩⟩ rfl hn hl.1 rfl (lv_room hcat) hd ⟨by show cells + mc1 ≤ mc; omega, by show slots + ms1 ≤ ms; omega⟩
  refine ac_call hrun hS hFc (fun v w1 H1 locs1 hpc hP1 hD1 hk1 hS1 => ?_)
  obtain ⟨hP2, hD2⟩ := mrg_PD is hP hD hCc hnd (hlen v w1 hpc) hk1 hFc hP1 hD1
  exact kk v w1 hpc p l e s m args below meth c H1 locs1 (cells + mc1) (slots + ms1) mc ms A la X hl hP2 hD2 hS1 (by omega) (by omega)
set_option maxRecDepth 10000 in
theorem A_callIW {E : ag} {M : am} {d bc bs pc : Nat} {ls : List (Option Value)} {st rest : List Value} {ws : va_W} {post : Option Value → va_W → Prop} {y : MethodName} {cc1 : ByteArray} {nL1 d1 mc1 ms1 index : Nat} (n : Nat) {b : Nat} {As : List Value} {postc : Option Value → va_W → Prop} (hd : decode M.2.1 pc = .ok (.invokespecial index, 3)) (cb : CWb y cc1 nL1 none n) (cw : CWi M.1 index y) (hM : CT E y cc1 nL1 none d1 mc1 ms1 (.ref b :: As) ws postc) (hst : st = As.reverse ++ .ref b :: rest) (hn : As.length = n) (hroom : d1 + 1 ≤ d) (hnl : nL1 ≤ 21) (hcat : (rest.map fun v => v.category).sum ≤ 8) (hmc : mc1 ≤ bc) (hms : ms1 ≤ bs) 
    (kk : ∀ (v : Option Value) (w1 : va_W), postc v w1 → AW E M d (bc - mc1) (bs - ms1) (pc + 3) ls (v.toList ++ rest) (w1) post) : AW E M d bc bs pc ls st ws post := by
  subst hst
  intro p l e s m args below meth c H locs cells slots mc ms A la X hl hP hD hS hbc hbs
  obtain ⟨hx, hb, hml, hown, hts, hr, hlk, hin, hC, hA⟩ := id X
  have hlo : 8 + (nL1 + 11) + 40 * d1 ≤ 40 * d := by omega
  have hPc : va_P E.1 vwCl ws H := hP
  have hDc : va_D A ws := hD
  have hFc : ∀ q, va_A ws H.size q → A q := fun q h => by
    rcases h with ⟨k, e, h⟩ | h
    · exact hD.2 k (q, e) h
    · exact hA q (Nat.le_trans hS.1 h)
  have hrun := va_runI (H := H) (locs := locs) (cells := cells) (slots := slots) (R := rmd d mc ms) (below := below) (meth := meth) (e := e) (g := F0 m pc la (As.reverse ++ .ref b :: rest)) (nL := M.2.2.1) (As := As) (rest := rest) ⟨hx, hb, hml, hown, hts⟩ (hM l H.size) ⟨callB_of n hts (gt_goodc cb.2.1) rfl rfl rfl (hts _ cb.1) (hts _ cw.1) cb.2.2 ⟨hroom, hlo⟩, cw.2.2, hts _ cw.2.1⟩
    ⟨fun a U g mk q => by
      obtain ⟨q0, q1, qP, qD, qC⟩ := q
      exact ⟨q0, q1, qP, qD, ac_C.same qC rfl⟩, fun U hU hW => ⟨rfl, by rw [hU], by rw [hU]; exact hPc, hDc.weaken (fun _ _ _ _ => trivial), by
        rw [hU]
        exact hC.go hW (fun a h1 h2 => hS.2.1 a h1 h2) hFc⟩⟩ rfl hn hl.1 rfl (lv_room hcat) hd ⟨by show cells + mc1 ≤ mc; omega, by show slots + ms1 ≤ ms; omega⟩
  refine ac_call hrun hS hFc (fun v w1 H1 locs1 hpc hP1 hD1 hk1 hS1 => ?_)
  exact kk v w1 hpc p l e s m args below meth c H1 locs1 (cells + mc1) (slots + ms1) mc ms A la X hl hP1 (hD1.weaken (fun k q _ h => hFc q.1 h)) hS1 (by omega) (by omega)
set_option maxRecDepth 10000 in
theorem A_callSN {E : ag} {M : am} {d bc bs pc : Nat} {ls : List (Option Value)} {st rest : List Value} {ws : va_W} {post : Option Value → va_W → Prop} {y : MethodName} {cc1 : ByteArray} {nL1 d1 mc1 ms1 index : Nat} {ret1 : Option FieldType} (n : Nat) {As : List Value} {wc : va_W} {postc : Option Value → va_W → Prop} (hd : decode M.2.1 pc = .ok (.invokestatic index, 3)) (cb : CWb y cc1 nL1 ret1 n) (cw : CWns M.1 index y) (hM : CT E y cc1 nL1 ret1 d1 mc1 ms1 (As) wc postc) (hst : st = As.reverse ++ rest) (hn : As.length = n) (is : List Nat) (hCc : is.map (fun i => ws[i]?) = wc.map some) (hnd : va_nd is = true) (hroom : d1 + 1 ≤ d) (hnl : nL1 ≤ 21) (hcat : (rest.map fun v => v.category).sum ≤ 8) (hmc : mc1 ≤ bc) (hms : ms1 ≤ bs) (hlen : ∀ v w1, postc v w1 → is.length ≤ w1.length) 
    (kk : ∀ (v : Option Value) (w1 : va_W), postc v w1 → AW E M d (bc - mc1) (bs - ms1) (pc + 3) ls (v.toList ++ rest) (mrg ws is w1) post) : AW E M d bc bs pc ls st ws post := by
  subst hst
  intro p l e s m args below meth c H locs cells slots mc ms A la X hl hP hD hS hbc hbs
  obtain ⟨hx, hb, hml, hown, hts, hr, hlk, hin, hC, hA⟩ := id X
  have hlo : 8 + (nL1 + 11) + 40 * d1 ≤ 40 * d := by omega
  obtain ⟨⟨host, hhost⟩, cw2⟩ := id cw
  have hPc : va_P E.1 vwCl wc H := fun k q hk => by
    have h1 : (is.map (fun i => ws[i]?))[k]? = some (some q) := by rw [hCc, List.getElem?_map, hk]; rfl
    rw [List.getElem?_map] at h1
    cases hi : is[k]? with
    | none => rw [hi] at h1; cases h1
    | some i => rw [hi] at h1; exact hP i q (by simpa using h1)
  have hDc : va_D A wc := hD.sub is hnd hCc
  have hFc : ∀ q, va_A wc H.size q → A q := va_free hD hS hA is hCc
  have hrun := va_runSN (H := H) (locs := locs) (cells := cells) (slots := slots) (R := rmd d mc ms) (below := below) (meth := meth) (e := e) (g := F0 m pc la (As.reverse ++ rest)) (nL := M.2.2.1) (As := As) (rest := rest) ⟨hx, hb, hml, hown, hts⟩ (hM l H.size) ⟨va_cnB n hts (gt_goodc cb.2.1) rfl rfl rfl (hC.2.2.2.2.2.2.1 _ hhost) (hts _ cb.1) cb.2.2 ⟨hroom, hlo⟩, hts _ cw2, trivial⟩
    ⟨fun a U g mk q => by
      obtain ⟨q0, q1, qP, qD, qC⟩ := q
      exact ⟨q0, q1, qP, qD, ac_C.same qC rfl⟩, fun U hU hW => ⟨rfl, by rw [hU], by rw [hU]; exact hPc, hDc.weaken (fun _ _ _ _ => trivial), by
        rw [hU]
        exact hC.go hW (fun a h1 h2 => hS.2.1 a h1 h2) hFc⟩⟩ rfl hn hl.1 rfl (lv_room hcat) hd ⟨by show cells + mc1 ≤ mc; omega, by show slots + ms1 ≤ ms; omega⟩
  refine ac_call hrun hS hFc (fun v w1 H1 locs1 hpc hP1 hD1 hk1 hS1 => ?_)
  obtain ⟨hP2, hD2⟩ := mrg_PD is hP hD hCc hnd (hlen v w1 hpc) hk1 hFc hP1 hD1
  exact kk v w1 hpc p l e s m args below meth c H1 locs1 (cells + mc1) (slots + ms1) mc ms A la X hl hP2 hD2 hS1 (by omega) (by omega)
set_option maxRecDepth 10000 in
theorem A_callSNW {E : ag} {M : am} {d bc bs pc : Nat} {ls : List (Option Value)} {st rest : List Value} {ws : va_W} {post : Option Value → va_W → Prop} {y : MethodName} {cc1 : ByteArray} {nL1 d1 mc1 ms1 index : Nat} {ret1 : Option FieldType} (n : Nat) {As : List Value} {postc : Option Value → va_W → Prop} (hd : decode M.2.1 pc = .ok (.invokestatic index, 3)) (cb : CWb y cc1 nL1 ret1 n) (cw : CWns M.1 index y) (hM : CT E y cc1 nL1 ret1 d1 mc1 ms1 (As) ws postc) (hst : st = As.reverse ++ rest) (hn : As.length = n) (hroom : d1 + 1 ≤ d) (hnl : nL1 ≤ 21) (hcat : (rest.map fun v => v.category).sum ≤ 8) (hmc : mc1 ≤ bc) (hms : ms1 ≤ bs) 
    (kk : ∀ (v : Option Value) (w1 : va_W), postc v w1 → AW E M d (bc - mc1) (bs - ms1) (pc + 3) ls (v.toList ++ rest) (w1) post) : AW E M d bc bs pc ls st ws post := by
  subst hst
  intro p l e s m args below meth c H locs cells slots mc ms A la X hl hP hD hS hbc hbs
  obtain ⟨hx, hb, hml, hown, hts, hr, hlk, hin, hC, hA⟩ := id X
  have hlo : 8 + (nL1 + 11) + 40 * d1 ≤ 40 * d := by omega
  obtain ⟨⟨host, hhost⟩, cw2⟩ := id cw
  have hPc : va_P E.1 vwCl ws H := hP
  have hDc : va_D A ws := hD
  have hFc : ∀ q, va_A ws H.size q → A q := fun q h => by
    rcases h with ⟨k, e, h⟩ | h
    · exact hD.2 k (q, e) h
    · exact hA q (Nat.le_trans hS.1 h)
  have hrun := va_runSN (H := H) (locs := locs) (cells := cells) (slots := slots) (R := rmd d mc ms) (below := below) (meth := meth) (e := e) (g := F0 m pc la (As.reverse ++ rest)) (nL := M.2.2.1) (As := As) (rest := rest) ⟨hx, hb, hml, hown, hts⟩ (hM l H.size) ⟨va_cnB n hts (gt_goodc cb.2.1) rfl rfl rfl (hC.2.2.2.2.2.2.1 _ hhost) (hts _ cb.1) cb.2.2 ⟨hroom, hlo⟩, hts _ cw2, trivial⟩
    ⟨fun a U g mk q => by
      obtain ⟨q0, q1, qP, qD, qC⟩ := q
      exact ⟨q0, q1, qP, qD, ac_C.same qC rfl⟩, fun U hU hW => ⟨rfl, by rw [hU], by rw [hU]; exact hPc, hDc.weaken (fun _ _ _ _ => trivial), by
        rw [hU]
        exact hC.go hW (fun a h1 h2 => hS.2.1 a h1 h2) hFc⟩⟩ rfl hn hl.1 rfl (lv_room hcat) hd ⟨by show cells + mc1 ≤ mc; omega, by show slots + ms1 ≤ ms; omega⟩
  refine ac_call hrun hS hFc (fun v w1 H1 locs1 hpc hP1 hD1 hk1 hS1 => ?_)
  exact kk v w1 hpc p l e s m args below meth c H1 locs1 (cells + mc1) (slots + ms1) mc ms A la X hl hP1 (hD1.weaken (fun k q _ h => hFc q.1 h)) hS1 (by omega) (by omega)
set_option maxRecDepth 10000 in
theorem A_callIN {E : ag} {M : am} {d bc bs pc : Nat} {ls : List (Option Value)} {st rest : List Value} {ws : va_W} {post : Option Value → va_W → Prop} {y : MethodName} {cc1 : ByteArray} {nL1 d1 mc1 ms1 index : Nat} (n : Nat) {b : Nat} {As : List Value} {wc : va_W} {postc : Option Value → va_W → Prop} (hd : decode M.2.1 pc = .ok (.invokespecial index, 3)) (cb : CWb y cc1 nL1 none n) (cw : CWni M.1 index y) (hM : CT E y cc1 nL1 none d1 mc1 ms1 (.ref b :: As) wc postc) (hst : st = As.reverse ++ .ref b :: rest) (hn : As.length = n) (is : List Nat) (hCc : is.map (fun i => ws[i]?) = wc.map some) (hnd : va_nd is = true) (hroom : d1 + 1 ≤ d) (hnl : nL1 ≤ 21) (hcat : (rest.map fun v => v.category).sum ≤ 8) (hmc : mc1 ≤ bc) (hms : ms1 ≤ bs) (hlen : ∀ v w1, postc v w1 → is.length ≤ w1.length) 
    (kk : ∀ (v : Option Value) (w1 : va_W), postc v w1 → AW E M d (bc - mc1) (bs - ms1) (pc + 3) ls (v.toList ++ rest) (mrg ws is w1) post) : AW E M d bc bs pc ls st ws post := by
  subst hst
  intro p l e s m args below meth c H locs cells slots mc ms A la X hl hP hD hS hbc hbs
  obtain ⟨hx, hb, hml, hown, hts, hr, hlk, hin, hC, hA⟩ := id X
  have hlo : 8 + (nL1 + 11) + 40 * d1 ≤ 40 * d := by omega
  obtain ⟨⟨host, hhost⟩, cw2⟩ := id cw
  have hPc : va_P E.1 vwCl wc H := fun k q hk => by
    have h1 : (is.map (fun i => ws[i]?))[k]? = some (some q) := by rw [hCc, List.getElem?_map, hk]; rfl
    rw [List.getElem?_map] at h1
    cases hi : is[k]? with
    | none => rw [hi] at h1; cases h1
    | some i => rw [hi] at h1; exact hP i q (by simpa using h1)
  have hDc : va_D A wc := hD.sub is hnd hCc
  have hFc : ∀ q, va_A wc H.size q → A q := va_free hD hS hA is hCc
  have hrun := va_runIN (H := H) (locs := locs) (cells := cells) (slots := slots) (R := rmd d mc ms) (below := below) (meth := meth) (e := e) (g := F0 m pc la (As.reverse ++ .ref b :: rest)) (nL := M.2.2.1) (As := As) (rest := rest) ⟨hx, hb, hml, hown, hts⟩ (hM l H.size) ⟨va_cnB n hts (gt_goodc cb.2.1) rfl rfl rfl (hC.2.2.2.2.2.2.1 _ hhost) (hts _ cb.1) cb.2.2 ⟨hroom, hlo⟩, cw2.2, hts _ cw2.1⟩
    ⟨fun a U g mk q => by
      obtain ⟨q0, q1, qP, qD, qC⟩ := q
      exact ⟨q0, q1, qP, qD, ac_C.same qC rfl⟩, fun U hU hW => ⟨rfl, by rw [hU], by rw [hU]; exact hPc, hDc.weaken (fun _ _ _ _ => trivial), by
        rw [hU]
        exact hC.go hW (fun a h1 h2 => hS.2.1 a h1 h2) hFc⟩⟩ rfl hn hl.1 rfl (lv_room hcat) hd ⟨by show cells + mc1 ≤ mc; omega, by show slots + ms1 ≤ ms; omega⟩
  refine ac_call hrun hS hFc (fun v w1 H1 locs1 hpc hP1 hD1 hk1 hS1 => ?_)
  obtain ⟨hP2, hD2⟩ := mrg_PD is hP hD hCc hnd (hlen v w1 hpc) hk1 hFc hP1 hD1
  exact kk v w1 hpc p l e s m args below meth c H1 locs1 (cells + mc1) (slots + ms1) mc ms A la X hl hP2 hD2 hS1 (by omega) (by omega)
set_option maxRecDepth 10000 in
theorem A_callINW {E : ag} {M : am} {d bc bs pc : Nat} {ls : List (Option Value)} {st rest : List Value} {ws : va_W} {post : Option Value → va_W → Prop} {y : MethodName} {cc1 : ByteArray} {nL1 d1 mc1 ms1 index : Nat} (n : Nat) {b : Nat} {As : List Value} {postc : Option Value → va_W → Prop} (hd : decode M.2.1 pc = .ok (.invokespecial index, 3)) (cb : CWb y cc1 nL1 none n) (cw : CWni M.1 index y) (hM : CT E y cc1 nL1 none d1 mc1 ms1 (.ref b :: As) ws postc) (hst : st = As.reverse ++ .ref b :: rest) (hn : As.length = n) (hroom : d1 + 1 ≤ d) (hnl : nL1 ≤ 21) (hcat : (rest.map fun v => v.category).sum ≤ 8) (hmc : mc1 ≤ bc) (hms : ms1 ≤ bs) 
    (kk : ∀ (v : Option Value) (w1 : va_W), postc v w1 → AW E M d (bc - mc1) (bs - ms1) (pc + 3) ls (v.toList ++ rest) (w1) post) : AW E M d bc bs pc ls st ws post := by
  subst hst
  intro p l e s m args below meth c H locs cells slots mc ms A la X hl hP hD hS hbc hbs
  obtain ⟨hx, hb, hml, hown, hts, hr, hlk, hin, hC, hA⟩ := id X
  have hlo : 8 + (nL1 + 11) + 40 * d1 ≤ 40 * d := by omega
  obtain ⟨⟨host, hhost⟩, cw2⟩ := id cw
  have hPc : va_P E.1 vwCl ws H := hP
  have hDc : va_D A ws := hD
  have hFc : ∀ q, va_A ws H.size q → A q := fun q h => by
    rcases h with ⟨k, e, h⟩ | h
    · exact hD.2 k (q, e) h
    · exact hA q (Nat.le_trans hS.1 h)
  have hrun := va_runIN (H := H) (locs := locs) (cells := cells) (slots := slots) (R := rmd d mc ms) (below := below) (meth := meth) (e := e) (g := F0 m pc la (As.reverse ++ .ref b :: rest)) (nL := M.2.2.1) (As := As) (rest := rest) ⟨hx, hb, hml, hown, hts⟩ (hM l H.size) ⟨va_cnB n hts (gt_goodc cb.2.1) rfl rfl rfl (hC.2.2.2.2.2.2.1 _ hhost) (hts _ cb.1) cb.2.2 ⟨hroom, hlo⟩, cw2.2, hts _ cw2.1⟩
    ⟨fun a U g mk q => by
      obtain ⟨q0, q1, qP, qD, qC⟩ := q
      exact ⟨q0, q1, qP, qD, ac_C.same qC rfl⟩, fun U hU hW => ⟨rfl, by rw [hU], by rw [hU]; exact hPc, hDc.weaken (fun _ _ _ _ => trivial), by
        rw [hU]
        exact hC.go hW (fun a h1 h2 => hS.2.1 a h1 h2) hFc⟩⟩ rfl hn hl.1 rfl (lv_room hcat) hd ⟨by show cells + mc1 ≤ mc; omega, by show slots + ms1 ≤ ms; omega⟩
  refine ac_call hrun hS hFc (fun v w1 H1 locs1 hpc hP1 hD1 hk1 hS1 => ?_)
  exact kk v w1 hpc p l e s m args below meth c H1 locs1 (cells + mc1) (slots + ms1) mc ms A la X hl hP1 (hD1.weaken (fun k q _ h => hFc q.1 h)) hS1 (by omega) (by omega)
end
section
/-! NEW CELLS, the library's own calls -/
def NW (own : String) (index ci N : Nat) (fs : List Value) : Prop := ∃ (C : String) (T : u_T) (ty : Nat → FieldType), vwCl[ci]? = some (C, T, N) ∧ (∀ w ∈ u_ws C T N, w ∈ gtbl) ∧ (∀ k, k < N → parseFieldDescriptor (T k).2.2.1 = some (ty k)) ∧ Cond.classLink own index C ∈ gtbl ∧ Cond.instantiable C N ∈ gtbl ∧ Cond.initialized C ∈ gtbl ∧ (∀ j, j < N → defaultValue (ty j) = vp_V fs j)
theorem A_new {E : ag} {M : am} {d bc bs pc : Nat} {ls : List (Option Value)} {rest : List Value} {ws : va_W} {post : Option Value → va_W → Prop} {index ci N : Nat} {fs : List Value} (hd : decode M.2.1 pc = .ok (.new index, 3)) (hf : NW M.1 index ci N fs) (h1 : 1 ≤ bc) (h2 : N ≤ bs) (kk : ∀ q : Nat, AW E M d (bc - 1) (bs - N) (pc + 3) ls (.ref q :: rest) (ws ++ [(q, .inr (ci, fs))]) post) : AW E M d (bc) (bs) (pc) ls (rest) (ws) post := by
  intro p l e s m args below meth c H locs cells slots mc ms A la X hl hP hD hS hbc hbs
  obtain ⟨hx, hb, hml, hown, hts, hr, hlk, hin, hC, hA⟩ := id X
  obtain ⟨C, T, ty, hc, hin2, hty, w1, w2, w3, hdf⟩ := hf
  refine va_new hx hb hts hin2 ty hty hown (hts _ w1) (hts _ w2) (hts _ w3) hC.1 hP hD hS hA hc hdf (by show cells + 1 ≤ mc; omega) (by show slots + N ≤ ms; omega) hd (fun q H1 hP1 hD1 hS1 => ?_)
  exact kk q p l e s m args below meth c H1 locs (cells + 1) (slots + N) mc ms A la X hl hP1 hD1 hS1 (by omega) (by omega)
theorem A_newi {E : ag} {M : am} {d bc bs pc : Nat} {ls : List (Option Value)} {rest : List Value} {ws : va_W} {post : Option Value → va_W → Prop} {n : Int32} (N : Nat) (hd : decode M.2.1 pc = .ok (.newarray .int, 2)) (hn : ¬ n < 0) (hN : n.toNatClampNeg = N) (hby : N * 4 ≤ 536870912) (hw : Cond.arrayClass .int ∈ gtbl) (h1 : 1 ≤ bc) (h2 : N ≤ bs) (kk : ∀ q : Nat, AW E M d (bc - 1) (bs - N) (pc + 2) ls (.ref q :: rest) (ws ++ [(q, .inl (E.2.1 0, N, .inl (fun _ => 0)))]) post) : AW E M d (bc) (bs) (pc) ls (.int n :: rest) (ws) post := by
  intro p l e s m args below meth c H locs cells slots mc ms A la X hl hP hD hS hbc hbs
  obtain ⟨hx, hb, hml, hown, hts, hr, hlk, hin, hC, hA⟩ := id X
  refine va_newa (atype := .int) (ty := .int) (a0 := (N, .inl (fun _ => 0))) hx hb (hts _ hw) rfl hC.1 hP hD hS hA (fun _ => rfl) hn hN hby (by show cells + 1 ≤ mc; omega) (by show slots + N ≤ ms; omega) hd (fun q cA H1 hK1 hP1 hD1 hS1 => ?_)
  have e1 : s.vm.findClass ("[" ++ FieldType.int.toString) = some cA := (hK1.2 4 (cA, .int) rfl).2
  have e2 : s.vm.findClass ("[" ++ FieldType.int.toString) = some (E.2.1 0) := (hC.1.2 0 (E.2.1 0, .int) rfl).2
  obtain rfl : E.2.1 0 = cA := Option.some.inj (e2.symm.trans e1)
  exact kk q p l e s m args below meth c H1 locs (cells + 1) (slots + N) mc ms A la X hl hP1 hD1 hS1 (by omega) (by omega)
theorem A_newz {E : ag} {M : am} {d bc bs pc : Nat} {ls : List (Option Value)} {rest : List Value} {ws : va_W} {post : Option Value → va_W → Prop} {n : Int32} (N : Nat) (hd : decode M.2.1 pc = .ok (.newarray .boolean, 2)) (hn : ¬ n < 0) (hN : n.toNatClampNeg = N) (hby : N * 1 ≤ 536870912) (hw : Cond.arrayClass .boolean ∈ gtbl) (h1 : 1 ≤ bc) (h2 : N ≤ bs) (kk : ∀ q : Nat, AW E M d (bc - 1) (bs - N) (pc + 2) ls (.ref q :: rest) (ws ++ [(q, .inl (E.2.1 1, N, .inl (fun _ => 0)))]) post) : AW E M d (bc) (bs) (pc) ls (.int n :: rest) (ws) post := by
  intro p l e s m args below meth c H locs cells slots mc ms A la X hl hP hD hS hbc hbs
  obtain ⟨hx, hb, hml, hown, hts, hr, hlk, hin, hC, hA⟩ := id X
  refine va_newa (atype := .boolean) (ty := .boolean) (a0 := (N, .inl (fun _ => 0))) hx hb (hts _ hw) rfl hC.1 hP hD hS hA (fun _ => rfl) hn hN hby (by show cells + 1 ≤ mc; omega) (by show slots + N ≤ ms; omega) hd (fun q cA H1 hK1 hP1 hD1 hS1 => ?_)
  have e1 : s.vm.findClass ("[" ++ FieldType.boolean.toString) = some cA := (hK1.2 4 (cA, .boolean) rfl).2
  have e2 : s.vm.findClass ("[" ++ FieldType.boolean.toString) = some (E.2.1 1) := (hC.1.2 1 (E.2.1 1, .boolean) rfl).2
  obtain rfl : E.2.1 1 = cA := Option.some.inj (e2.symm.trans e1)
  exact kk q p l e s m args below meth c H1 locs (cells + 1) (slots + N) mc ms A la X hl hP1 hD1 hS1 (by omega) (by omega)

theorem A_anew2 {E : ag} {M : am} {d bc bs pc : Nat} {ls : List (Option Value)} {rest : List Value} {ws : va_W} {post : Option Value → va_W → Prop} {n : Int32} {index : Nat} (N : Nat) (hd : decode M.2.1 pc = .ok (.anewarray index, 3)) (hn : ¬ n < 0) (hN : n.toNatClampNeg = N) (hby : N * 4 ≤ 536870912) (hw : Cond.classLink M.1 index "FourFlails$Sheet" ∈ gtbl) (h1 : 1 ≤ bc) (h2 : N ≤ bs) (kk : ∀ q : Nat, AW E M d (bc - 1) (bs - N) (pc + 3) ls (.ref q :: rest) (ws ++ [(q, .inl (E.2.1 2, N, .inr (.inr (.inr (.inr (fun _ => none))))))]) post) : AW E M d (bc) (bs) (pc) ls (.int n :: rest) (ws) post := by
  intro p l e s m args below meth c H locs cells slots mc ms A la X hl hP hD hS hbc hbs
  obtain ⟨hx, hb, hml, hown, hts, hr, hlk, hin, hC, hA⟩ := id X
  refine va_newq (C := "FourFlails$Sheet") hx hb hown (hts _ hw) hC.2.2.2.2.2.2.2.1 hC.1 hP hD hS hA hn hN hby (by show cells + 1 ≤ mc; omega) (by show slots + N ≤ ms; omega) hd (fun q cA H1 hK1 hP1 hD1 hS1 => ?_)
  obtain ⟨-, -, -, -, -, e1⟩ : va_RA s cA (.object "FourFlails$Sheet") := (hK1.2 4 (cA, .object "FourFlails$Sheet") rfl).2
  obtain ⟨-, -, -, -, -, e2⟩ : va_RA s (E.2.1 2) (.object "FourFlails$Sheet") := (hC.1.2 2 (E.2.1 2, .object "FourFlails$Sheet") rfl).2
  obtain rfl : E.2.1 2 = cA := Option.some.inj (e2.symm.trans e1)
  exact kk q p l e s m args below meth c H1 locs (cells + 1) (slots + N) mc ms A la X hl hP1 hD1 hS1 (by omega) (by omega)

theorem A_anew3 {E : ag} {M : am} {d bc bs pc : Nat} {ls : List (Option Value)} {rest : List Value} {ws : va_W} {post : Option Value → va_W → Prop} {n : Int32} {index : Nat} (N : Nat) (hd : decode M.2.1 pc = .ok (.anewarray index, 3)) (hn : ¬ n < 0) (hN : n.toNatClampNeg = N) (hby : N * 4 ≤ 536870912) (hw : Cond.classLink M.1 index "FourFlails$Text" ∈ gtbl) (h1 : 1 ≤ bc) (h2 : N ≤ bs) (kk : ∀ q : Nat, AW E M d (bc - 1) (bs - N) (pc + 3) ls (.ref q :: rest) (ws ++ [(q, .inl (E.2.1 3, N, .inr (.inr (.inr (.inr (fun _ => none))))))]) post) : AW E M d (bc) (bs) (pc) ls (.int n :: rest) (ws) post := by
  intro p l e s m args below meth c H locs cells slots mc ms A la X hl hP hD hS hbc hbs
  obtain ⟨hx, hb, hml, hown, hts, hr, hlk, hin, hC, hA⟩ := id X
  refine va_newq (C := "FourFlails$Text") hx hb hown (hts _ hw) hC.2.2.2.2.2.2.2.2 hC.1 hP hD hS hA hn hN hby (by show cells + 1 ≤ mc; omega) (by show slots + N ≤ ms; omega) hd (fun q cA H1 hK1 hP1 hD1 hS1 => ?_)
  obtain ⟨-, -, -, -, -, e1⟩ : va_RA s cA (.object "FourFlails$Text") := (hK1.2 4 (cA, .object "FourFlails$Text") rfl).2
  obtain ⟨-, -, -, -, -, e2⟩ : va_RA s (E.2.1 3) (.object "FourFlails$Text") := (hC.1.2 3 (E.2.1 3, .object "FourFlails$Text") rfl).2
  obtain rfl : E.2.1 3 = cA := Option.some.inj (e2.symm.trans e1)
  exact kk q p l e s m args below meth c H1 locs (cells + 1) (slots + N) mc ms A la X hl hP1 hD1 hS1 (by omega) (by omega)

def OI (own : String) (index : Nat) : Prop := Cond.methodLink own index Lib.objectInit ∈ gtbl ∧ Cond.instanceMethod Lib.objectInit ∈ gtbl ∧ Cond.code Lib.objectInit ⟨#[0xb1]⟩ 1 none ∈ gtbl
theorem A_objInit {E : ag} {M : am} {d bc bs pc : Nat} {ls : List (Option Value)} {rest : List Value} {ws : va_W} {post : Option Value → va_W → Prop} {index a : Nat} (hd : decode M.2.1 pc = .ok (.invokespecial index, 3)) (hf : OI M.1 index) (hroom : 1 ≤ d) (hcat : (rest.map fun v => v.category).sum ≤ 8) (kk : AW E M d (bc) (bs) (pc + 3) ls (rest) (ws) post) : AW E M d (bc) (bs) (pc) ls (.ref a :: rest) (ws) post := by
  intro p l e s m args below meth c H locs cells slots mc ms A la X hl hP hD hS hbc hbs
  obtain ⟨hx, hb, hml, hown, hts, hr, hlk, hin, hC, hA⟩ := id X
  refine W.objInit hx hb hown (hts _ hf.1) (hts _ hf.2.1) (hts _ hf.2.2) rfl (by rw [hml]; exact hl.1) rfl hd hroom (by show 2 * 0 + _ + 12 ≤ 40 * d; omega) ?_
  exact kk p l e s m args below meth c H locs cells slots mc ms A la X hl hP hD hS hbc hbs
def MMw (own : String) (index : Nat) : Prop := Cond.methodLink own index Lib.Math.max.name ∈ gtbl ∧ Cond.static Lib.Math.max.name ∈ gtbl ∧ Cond.initialized "java/lang/Math" ∈ gtbl ∧ Cond.code Lib.Math.max.name Lib.Math.max.code 2 (some .int) ∈ gtbl
def MNw (own : String) (index : Nat) : Prop := Cond.methodLink own index Lib.Math.min.name ∈ gtbl ∧ Cond.static Lib.Math.min.name ∈ gtbl ∧ Cond.initialized "java/lang/Math" ∈ gtbl ∧ Cond.code Lib.Math.min.name Lib.Math.min.code 2 (some .int) ∈ gtbl
theorem A_max {E : ag} {M : am} {d bc bs pc : Nat} {ls : List (Option Value)} {rest : List Value} {ws : va_W} {post : Option Value → va_W → Prop} {index : Nat} {x y : Int32} (hd : decode M.2.1 pc = .ok (.invokestatic index, 3)) (hf : MMw M.1 index) (hroom : 1 ≤ d) (hcat : (rest.map fun v => v.category).sum ≤ 8) (kk : AW E M d (bc) (bs) (pc + 3) ls (.int (if x < y then y else x) :: rest) (ws) post) : AW E M d (bc) (bs) (pc) ls (.int y :: .int x :: rest) (ws) post := by
  intro p l e s m args below meth c H locs cells slots mc ms A la X hl hP hD hS hbc hbs
  obtain ⟨hx, hb, hml, hown, hts, hr, hlk, hin, hC, hA⟩ := id X
  refine va_mmax hx hb (hml.trans hl.1.symm) hown (hts _ hf.1) (hts _ hf.2.1) (hts _ hf.2.2.1) (hts _ hf.2.2.2) hroom (by show _ + 13 ≤ 40 * d; omega) (by show cells ≤ mc; omega) (by show slots ≤ ms; omega) hd ?_
  exact kk p l e s m args below meth c H locs cells slots mc ms A la X hl hP hD hS hbc hbs
theorem A_min {E : ag} {M : am} {d bc bs pc : Nat} {ls : List (Option Value)} {rest : List Value} {ws : va_W} {post : Option Value → va_W → Prop} {index : Nat} {x y : Int32} (hd : decode M.2.1 pc = .ok (.invokestatic index, 3)) (hf : MNw M.1 index) (hroom : 1 ≤ d) (hcat : (rest.map fun v => v.category).sum ≤ 8) (kk : AW E M d (bc) (bs) (pc + 3) ls (.int (if y < x then y else x) :: rest) (ws) post) : AW E M d (bc) (bs) (pc) ls (.int y :: .int x :: rest) (ws) post := by
  intro p l e s m args below meth c H locs cells slots mc ms A la X hl hP hD hS hbc hbs
  obtain ⟨hx, hb, hml, hown, hts, hr, hlk, hin, hC, hA⟩ := id X
  refine va_mmin hx hb (hml.trans hl.1.symm) hown (hts _ hf.1) (hts _ hf.2.1) (hts _ hf.2.2.1) (hts _ hf.2.2.2) hroom (by show _ + 13 ≤ 40 * d; omega) (by show cells ≤ mc; omega) (by show slots ≤ ms; omega) hd ?_
  exact kk p l e s m args below meth c H locs cells slots mc ms A la X hl hP hD hS hbc hbs
def ACw (own : String) (index : Nat) : Prop := Cond.methodLink own index arraycopyName ∈ gtbl ∧ Cond.native arraycopyName ∈ gtbl ∧ Cond.static arraycopyName ∈ gtbl ∧ Cond.initialized "java/lang/System" ∈ gtbl
theorem A_copy {E : ag} {M : am} {d bc bs pc : Nat} {ls : List (Option Value)} {rest : List Value} {ws : va_W} {post : Option Value → va_W → Prop} {index a a0 q0 q1 n0 n1 : Nat} {f g : Nat → Int32} {sp dp n : Int32} {ws2 : va_W} (hd : decode M.2.1 pc = .ok (.invokestatic index, 3)) (hf : ACw M.1 index) (hroom : 2 ≤ d) (hcat : (rest.map fun v => v.category).sum ≤ 8) (he0 : ws[q0]? = some (a0, .inl (E.2.1 0, n0, .inl f))) (he1 : ws[q1]? = some (a, .inl (E.2.1 0, n1, .inl g))) (h1 : ¬ sp < 0) (h2 : ¬ dp < 0) (h3 : ¬ n < 0) (h4 : sp.toNatClampNeg + n.toNatClampNeg ≤ n0) (h5 : dp.toNatClampNeg + n.toNatClampNeg ≤ n1)
    (hw : ws.set q1 (a, .inl (E.2.1 0, n1, .inl (va_cpy f g sp.toNatClampNeg dp.toNatClampNeg n.toNatClampNeg))) = ws2) (kk : AW E M d (bc) (bs) (pc + 3) ls (rest) (ws2) post) : AW E M d (bc) (bs) (pc) ls (.int n :: .int dp :: .ref a :: .int sp :: .ref a0 :: rest) (ws) post := by
  subst hw
  intro p l e s m args below meth c H locs cells slots mc ms A la X hl hP hD hS hbc hbs
  obtain ⟨hx, hb, hml, hown, hts, hr, hlk, hin, hC, hA⟩ := id X
  have hnf : nativeFrameWords "java/lang/System" "arraycopy" 5 + 11 ≤ 60 := by decide +kernel
  refine va_copyi hx hb (hml.trans hl.1.symm) hown (hts _ hf.1) (hts _ hf.2.1) (hts _ hf.2.2.1) (hts _ hf.2.2.2) hC.1 hP hD hS q0 q1 0 0 he0 he1 rfl rfl rfl h1 h2 h3 h4 h5 (fun _ _ => rfl) (by show 1 ≤ d; omega) (by show _ ≤ 40 * d; omega) hd (fun H1 locs1 hP1 hD1 hS1 => ?_)
  exact kk p l e s m args below meth c H1 locs1 cells slots mc ms A la X hl hP1 hD1 hS1 hbc hbs
theorem AW.topi {E : ag} {M : am} {d bc bs pc : Nat} {ls : List (Option Value)} {rest : List Value} {ws : va_W} {post : Option Value → va_W → Prop} {x : Int32} (k : ∀ y : Int32, y = x → AW E M d (bc) (bs) (pc) ls (.int y :: rest) (ws) post) : AW E M d (bc) (bs) (pc) ls (.int x :: rest) (ws) post := k x rfl
/-- answers by their kinds -/
def ri (f : Int32 → va_W → Prop) : Option Value → va_W → Prop := fun v w => ∃ r : Int32, v = some (.int r) ∧ f r w
def rl (f : Int64 → va_W → Prop) : Option Value → va_W → Prop := fun v w => ∃ r : Int64, v = some (.long r) ∧ f r w
def rr (f : Nat → va_W → Prop) : Option Value → va_W → Prop := fun v w => ∃ r : Nat, v = some (.ref r) ∧ f r w
def rv (f : va_W → Prop) : Option Value → va_W → Prop := fun v w => v = none ∧ f w

theorem A_ri {E : ag} {M : am} {d bc bs pc : Nat} {ls : List (Option Value)} {ws : va_W} {ty : FieldType} {v : Int32} {f : Int32 → va_W → Prop} (hd : decode M.2.1 pc = .ok (.ireturn, 1)) (hre : M.2.2.2.1 = some ty) (hnr : narrow ty (.int v) = .int v) (h : f v ws) : AW E M d bc bs pc ls [.int v] ws (ri f) := A_iret hd hre hnr ⟨v, rfl, h⟩
theorem A_rl {E : ag} {M : am} {d bc bs pc : Nat} {ls : List (Option Value)} {ws : va_W} {v : Int64} {f : Int64 → va_W → Prop} (hd : decode M.2.1 pc = .ok (.lreturn, 1)) (hre : M.2.2.2.1 = some .long) (h : f v ws) : AW E M d bc bs pc ls [.long v] ws (rl f) := A_lret hd hre ⟨v, rfl, h⟩
theorem A_rv {E : ag} {M : am} {d bc bs pc : Nat} {ls : List (Option Value)} {ws : va_W} {f : va_W → Prop} (hd : decode M.2.1 pc = .ok (.return_, 1)) (hre : M.2.2.2.1 = none) (h : f ws) : AW E M d bc bs pc ls [] ws (rv f) := A_vret hd hre ⟨rfl, h⟩
theorem A_rr {E : ag} {M : am} {d bc bs pc : Nat} {ls : List (Option Value)} {ws : va_W} {v : Nat} {rt : FieldType} {f : Nat → va_W → Prop} (hd : decode M.2.1 pc = .ok (.areturn, 1)) (hre : M.2.2.2.1 = some rt) (hrt : (∃ n, rt = .object n) ∨ ∃ t, rt = .array t) (h : f v ws) : AW E M d bc bs pc ls [.ref v] ws (rr f) := A_aret hd hre hrt (Or.inr ⟨v, rfl⟩) ⟨v, rfl, h⟩
theorem A_callVi {E : ag} {M : am} {d bc bs pc : Nat} {ls : List (Option Value)} {st rest : List Value} {ws : va_W} {post : Option Value → va_W → Prop} {y : MethodName} {cc1 : ByteArray} {nL1 d1 mc1 ms1 index : Nat} {ret1 : Option FieldType} (n : Nat) {b : Nat} {As : List Value} {wc : va_W} {f : Int32 → va_W → Prop} (hd : decode M.2.1 pc = .ok (.invokevirtual index, 3)) (cb : CWb y cc1 nL1 ret1 n) (cw : CWv M.1 index y) (hM : CT E y cc1 nL1 ret1 d1 mc1 ms1 (.ref b :: As) wc (ri f)) (hst : st = As.reverse ++ .ref b :: rest) (hn : As.length = n) {q0 ci : Nat} {fs : List Value} {r : vw_C} (hrv : wc[q0]? = some (b, .inr (ci, fs))) (hrc : vwCl[ci]? = some r) (hry : r.1 = y.cls) (is : List Nat) (hCc : is.map (fun i => ws[i]?) = wc.map some) (hnd : va_nd is = true) (hroom : d1 + 1 ≤ d) (hnl : nL1 ≤ 21) (hcat : (rest.map fun v => v.category).sum ≤ 8) (hmc : mc1 ≤ bc) (hms : ms1 ≤ bs) (hlen : ∀ r w1, f r w1 → is.length ≤ w1.length) 
    (kk : ∀ (r : Int32) (w1 : va_W), f r w1 → AW E M d (bc - mc1) (bs - ms1) (pc + 3) ls (.int r :: rest) (mrg ws is w1) post) : AW E M d bc bs pc ls st ws post := A_callV n hd cb cw hM hst hn hrv hrc hry is hCc hnd hroom hnl hcat hmc hms (fun v w1 h => by obtain ⟨r, -, h⟩ := h; exact hlen r w1 h) (fun v w1 h => by
  obtain ⟨r, rfl, h⟩ := h
  exact kk r w1 h)
theorem A_callVv {E : ag} {M : am} {d bc bs pc : Nat} {ls : List (Option Value)} {st rest : List Value} {ws : va_W} {post : Option Value → va_W → Prop} {y : MethodName} {cc1 : ByteArray} {nL1 d1 mc1 ms1 index : Nat} {ret1 : Option FieldType} (n : Nat) {b : Nat} {As : List Value} {wc : va_W} {f : va_W → Prop} (hd : decode M.2.1 pc = .ok (.invokevirtual index, 3)) (cb : CWb y cc1 nL1 ret1 n) (cw : CWv M.1 index y) (hM : CT E y cc1 nL1 ret1 d1 mc1 ms1 (.ref b :: As) wc (rv f)) (hst : st = As.reverse ++ .ref b :: rest) (hn : As.length = n) {q0 ci : Nat} {fs : List Value} {r : vw_C} (hrv : wc[q0]? = some (b, .inr (ci, fs))) (hrc : vwCl[ci]? = some r) (hry : r.1 = y.cls) (is : List Nat) (hCc : is.map (fun i => ws[i]?) = wc.map some) (hnd : va_nd is = true) (hroom : d1 + 1 ≤ d) (hnl : nL1 ≤ 21) (hcat : (rest.map fun v => v.category).sum ≤ 8) (hmc : mc1 ≤ bc) (hms : ms1 ≤ bs) (hlen : ∀ w1, f w1 → is.length ≤ w1.length) 
    (kk : ∀ (w1 : va_W), f w1 → AW E M d (bc - mc1) (bs - ms1) (pc + 3) ls rest (mrg ws is w1) post) : AW E M d bc bs pc ls st ws post := A_callV n hd cb cw hM hst hn hrv hrc hry is hCc hnd hroom hnl hcat hmc hms (fun v w1 h => hlen w1 h.2) (fun v w1 h => by
  obtain ⟨rfl, h⟩ := h
  exact kk w1 h)
theorem A_callVWi {E : ag} {M : am} {d bc bs pc : Nat} {ls : List (Option Value)} {st rest : List Value} {ws : va_W} {post : Option Value → va_W → Prop} {y : MethodName} {cc1 : ByteArray} {nL1 d1 mc1 ms1 index : Nat} {ret1 : Option FieldType} (n : Nat) {b : Nat} {As : List Value} {f : Int32 → va_W → Prop} (hd : decode M.2.1 pc = .ok (.invokevirtual index, 3)) (cb : CWb y cc1 nL1 ret1 n) (cw : CWv M.1 index y) (hM : CT E y cc1 nL1 ret1 d1 mc1 ms1 (.ref b :: As) ws (ri f)) (hst : st = As.reverse ++ .ref b :: rest) (hn : As.length = n) {q0 ci : Nat} {fs : List Value} {r : vw_C} (hrv : ws[q0]? = some (b, .inr (ci, fs))) (hrc : vwCl[ci]? = some r) (hry : r.1 = y.cls) (hroom : d1 + 1 ≤ d) (hnl : nL1 ≤ 21) (hcat : (rest.map fun v => v.category).sum ≤ 8) (hmc : mc1 ≤ bc) (hms : ms1 ≤ bs) 
    (kk : ∀ (r : Int32) (w1 : va_W), f r w1 → AW E M d (bc - mc1) (bs - ms1) (pc + 3) ls (.int r :: rest) (w1) post) : AW E M d bc bs pc ls st ws post := A_callVW n hd cb cw hM hst hn hrv hrc hry hroom hnl hcat hmc hms (fun v w1 h => by
  obtain ⟨r, rfl, h⟩ := h
  exact kk r w1 h)
theorem A_callVWv {E : ag} {M : am} {d bc bs pc : Nat} {ls : List (Option Value)} {st rest : List Value} {ws : va_W} {post : Option Value → va_W → Prop} {y : MethodName} {cc1 : ByteArray} {nL1 d1 mc1 ms1 index : Nat} {ret1 : Option FieldType} (n : Nat) {b : Nat} {As : List Value} {f : va_W → Prop} (hd : decode M.2.1 pc = .ok (.invokevirtual index, 3)) (cb : CWb y cc1 nL1 ret1 n) (cw : CWv M.1 index y) (hM : CT E y cc1 nL1 ret1 d1 mc1 ms1 (.ref b :: As) ws (rv f)) (hst : st = As.reverse ++ .ref b :: rest) (hn : As.length = n) {q0 ci : Nat} {fs : List Value} {r : vw_C} (hrv : ws[q0]? = some (b, .inr (ci, fs))) (hrc : vwCl[ci]? = some r) (hry : r.1 = y.cls) (hroom : d1 + 1 ≤ d) (hnl : nL1 ≤ 21) (hcat : (rest.map fun v => v.category).sum ≤ 8) (hmc : mc1 ≤ bc) (hms : ms1 ≤ bs) 
    (kk : ∀ (w1 : va_W), f w1 → AW E M d (bc - mc1) (bs - ms1) (pc + 3) ls rest (w1) post) : AW E M d bc bs pc ls st ws post := A_callVW n hd cb cw hM hst hn hrv hrc hry hroom hnl hcat hmc hms (fun v w1 h => by
  obtain ⟨rfl, h⟩ := h
  exact kk w1 h)
theorem A_callSi {E : ag} {M : am} {d bc bs pc : Nat} {ls : List (Option Value)} {st rest : List Value} {ws : va_W} {post : Option Value → va_W → Prop} {y : MethodName} {cc1 : ByteArray} {nL1 d1 mc1 ms1 index : Nat} {ret1 : Option FieldType} (n : Nat) {As : List Value} {wc : va_W} {f : Int32 → va_W → Prop} (hd : decode M.2.1 pc = .ok (.invokestatic index, 3)) (cb : CWb y cc1 nL1 ret1 n) (cw : CWs M.1 index y) (hM : CT E y cc1 nL1 ret1 d1 mc1 ms1 (As) wc (ri f)) (hst : st = As.reverse ++ rest) (hn : As.length = n) (is : List Nat) (hCc : is.map (fun i => ws[i]?) = wc.map some) (hnd : va_nd is = true) (hroom : d1 + 1 ≤ d) (hnl : nL1 ≤ 21) (hcat : (rest.map fun v => v.category).sum ≤ 8) (hmc : mc1 ≤ bc) (hms : ms1 ≤ bs) (hlen : ∀ r w1, f r w1 → is.length ≤ w1.length) 
    (kk : ∀ (r : Int32) (w1 : va_W), f r w1 → AW E M d (bc - mc1) (bs - ms1) (pc + 3) ls (.int r :: rest) (mrg ws is w1) post) : AW E M d bc bs pc ls st ws post := A_callS n hd cb cw hM hst hn is hCc hnd hroom hnl hcat hmc hms (fun v w1 h => by obtain ⟨r, -, h⟩ := h; exact hlen r w1 h) (fun v w1 h => by
  obtain ⟨r, rfl, h⟩ := h
  exact kk r w1 h)
theorem A_callSv {E : ag} {M : am} {d bc bs pc : Nat} {ls : List (Option Value)} {st rest : List Value} {ws : va_W} {post : Option Value → va_W → Prop} {y : MethodName} {cc1 : ByteArray} {nL1 d1 mc1 ms1 index : Nat} {ret1 : Option FieldType} (n : Nat) {As : List Value} {wc : va_W} {f : va_W → Prop} (hd : decode M.2.1 pc = .ok (.invokestatic index, 3)) (cb : CWb y cc1 nL1 ret1 n) (cw : CWs M.1 index y) (hM : CT E y cc1 nL1 ret1 d1 mc1 ms1 (As) wc (rv f)) (hst : st = As.reverse ++ rest) (hn : As.length = n) (is : List Nat) (hCc : is.map (fun i => ws[i]?) = wc.map some) (hnd : va_nd is = true) (hroom : d1 + 1 ≤ d) (hnl : nL1 ≤ 21) (hcat : (rest.map fun v => v.category).sum ≤ 8) (hmc : mc1 ≤ bc) (hms : ms1 ≤ bs) (hlen : ∀ w1, f w1 → is.length ≤ w1.length) 
    (kk : ∀ (w1 : va_W), f w1 → AW E M d (bc - mc1) (bs - ms1) (pc + 3) ls rest (mrg ws is w1) post) : AW E M d bc bs pc ls st ws post := A_callS n hd cb cw hM hst hn is hCc hnd hroom hnl hcat hmc hms (fun v w1 h => hlen w1 h.2) (fun v w1 h => by
  obtain ⟨rfl, h⟩ := h
  exact kk w1 h)
theorem A_callSr {E : ag} {M : am} {d bc bs pc : Nat} {ls : List (Option Value)} {st rest : List Value} {ws : va_W} {post : Option Value → va_W → Prop} {y : MethodName} {cc1 : ByteArray} {nL1 d1 mc1 ms1 index : Nat} {ret1 : Option FieldType} (n : Nat) {As : List Value} {wc : va_W} {f : Nat → va_W → Prop} (hd : decode M.2.1 pc = .ok (.invokestatic index, 3)) (cb : CWb y cc1 nL1 ret1 n) (cw : CWs M.1 index y) (hM : CT E y cc1 nL1 ret1 d1 mc1 ms1 (As) wc (rr f)) (hst : st = As.reverse ++ rest) (hn : As.length = n) (is : List Nat) (hCc : is.map (fun i => ws[i]?) = wc.map some) (hnd : va_nd is = true) (hroom : d1 + 1 ≤ d) (hnl : nL1 ≤ 21) (hcat : (rest.map fun v => v.category).sum ≤ 8) (hmc : mc1 ≤ bc) (hms : ms1 ≤ bs) (hlen : ∀ r w1, f r w1 → is.length ≤ w1.length) 
    (kk : ∀ (r : Nat) (w1 : va_W), f r w1 → AW E M d (bc - mc1) (bs - ms1) (pc + 3) ls (.ref r :: rest) (mrg ws is w1) post) : AW E M d bc bs pc ls st ws post := A_callS n hd cb cw hM hst hn is hCc hnd hroom hnl hcat hmc hms (fun v w1 h => by obtain ⟨r, -, h⟩ := h; exact hlen r w1 h) (fun v w1 h => by
  obtain ⟨r, rfl, h⟩ := h
  exact kk r w1 h)
theorem A_callSWi {E : ag} {M : am} {d bc bs pc : Nat} {ls : List (Option Value)} {st rest : List Value} {ws : va_W} {post : Option Value → va_W → Prop} {y : MethodName} {cc1 : ByteArray} {nL1 d1 mc1 ms1 index : Nat} {ret1 : Option FieldType} (n : Nat) {As : List Value} {f : Int32 → va_W → Prop} (hd : decode M.2.1 pc = .ok (.invokestatic index, 3)) (cb : CWb y cc1 nL1 ret1 n) (cw : CWs M.1 index y) (hM : CT E y cc1 nL1 ret1 d1 mc1 ms1 (As) ws (ri f)) (hst : st = As.reverse ++ rest) (hn : As.length = n) (hroom : d1 + 1 ≤ d) (hnl : nL1 ≤ 21) (hcat : (rest.map fun v => v.category).sum ≤ 8) (hmc : mc1 ≤ bc) (hms : ms1 ≤ bs) 
    (kk : ∀ (r : Int32) (w1 : va_W), f r w1 → AW E M d (bc - mc1) (bs - ms1) (pc + 3) ls (.int r :: rest) (w1) post) : AW E M d bc bs pc ls st ws post := A_callSW n hd cb cw hM hst hn hroom hnl hcat hmc hms (fun v w1 h => by
  obtain ⟨r, rfl, h⟩ := h
  exact kk r w1 h)
theorem A_callSWv {E : ag} {M : am} {d bc bs pc : Nat} {ls : List (Option Value)} {st rest : List Value} {ws : va_W} {post : Option Value → va_W → Prop} {y : MethodName} {cc1 : ByteArray} {nL1 d1 mc1 ms1 index : Nat} {ret1 : Option FieldType} (n : Nat) {As : List Value} {f : va_W → Prop} (hd : decode M.2.1 pc = .ok (.invokestatic index, 3)) (cb : CWb y cc1 nL1 ret1 n) (cw : CWs M.1 index y) (hM : CT E y cc1 nL1 ret1 d1 mc1 ms1 (As) ws (rv f)) (hst : st = As.reverse ++ rest) (hn : As.length = n) (hroom : d1 + 1 ≤ d) (hnl : nL1 ≤ 21) (hcat : (rest.map fun v => v.category).sum ≤ 8) (hmc : mc1 ≤ bc) (hms : ms1 ≤ bs) 
    (kk : ∀ (w1 : va_W), f w1 → AW E M d (bc - mc1) (bs - ms1) (pc + 3) ls rest (w1) post) : AW E M d bc bs pc ls st ws post := A_callSW n hd cb cw hM hst hn hroom hnl hcat hmc hms (fun v w1 h => by
  obtain ⟨rfl, h⟩ := h
  exact kk w1 h)
theorem A_callSWr {E : ag} {M : am} {d bc bs pc : Nat} {ls : List (Option Value)} {st rest : List Value} {ws : va_W} {post : Option Value → va_W → Prop} {y : MethodName} {cc1 : ByteArray} {nL1 d1 mc1 ms1 index : Nat} {ret1 : Option FieldType} (n : Nat) {As : List Value} {f : Nat → va_W → Prop} (hd : decode M.2.1 pc = .ok (.invokestatic index, 3)) (cb : CWb y cc1 nL1 ret1 n) (cw : CWs M.1 index y) (hM : CT E y cc1 nL1 ret1 d1 mc1 ms1 (As) ws (rr f)) (hst : st = As.reverse ++ rest) (hn : As.length = n) (hroom : d1 + 1 ≤ d) (hnl : nL1 ≤ 21) (hcat : (rest.map fun v => v.category).sum ≤ 8) (hmc : mc1 ≤ bc) (hms : ms1 ≤ bs) 
    (kk : ∀ (r : Nat) (w1 : va_W), f r w1 → AW E M d (bc - mc1) (bs - ms1) (pc + 3) ls (.ref r :: rest) (w1) post) : AW E M d bc bs pc ls st ws post := A_callSW n hd cb cw hM hst hn hroom hnl hcat hmc hms (fun v w1 h => by
  obtain ⟨r, rfl, h⟩ := h
  exact kk r w1 h)
theorem A_callIv {E : ag} {M : am} {d bc bs pc : Nat} {ls : List (Option Value)} {st rest : List Value} {ws : va_W} {post : Option Value → va_W → Prop} {y : MethodName} {cc1 : ByteArray} {nL1 d1 mc1 ms1 index : Nat} (n : Nat) {b : Nat} {As : List Value} {wc : va_W} {f : va_W → Prop} (hd : decode M.2.1 pc = .ok (.invokespecial index, 3)) (cb : CWb y cc1 nL1 none n) (cw : CWi M.1 index y) (hM : CT E y cc1 nL1 none d1 mc1 ms1 (.ref b :: As) wc (rv f)) (hst : st = As.reverse ++ .ref b :: rest) (hn : As.length = n) (is : List Nat) (hCc : is.map (fun i => ws[i]?) = wc.map some) (hnd : va_nd is = true) (hroom : d1 + 1 ≤ d) (hnl : nL1 ≤ 21) (hcat : (rest.map fun v => v.category).sum ≤ 8) (hmc : mc1 ≤ bc) (hms : ms1 ≤ bs) (hlen : ∀ w1, f w1 → is.length ≤ w1.length) 
    (kk : ∀ (w1 : va_W), f w1 → AW E M d (bc - mc1) (bs - ms1) (pc + 3) ls rest (mrg ws is w1) post) : AW E M d bc bs pc ls st ws post := A_callI n hd cb cw hM hst hn is hCc hnd hroom hnl hcat hmc hms (fun v w1 h => hlen w1 h.2) (fun v w1 h => by
  obtain ⟨rfl, h⟩ := h
  exact kk w1 h)
theorem A_callIWv {E : ag} {M : am} {d bc bs pc : Nat} {ls : List (Option Value)} {st rest : List Value} {ws : va_W} {post : Option Value → va_W → Prop} {y : MethodName} {cc1 : ByteArray} {nL1 d1 mc1 ms1 index : Nat} (n : Nat) {b : Nat} {As : List Value} {f : va_W → Prop} (hd : decode M.2.1 pc = .ok (.invokespecial index, 3)) (cb : CWb y cc1 nL1 none n) (cw : CWi M.1 index y) (hM : CT E y cc1 nL1 none d1 mc1 ms1 (.ref b :: As) ws (rv f)) (hst : st = As.reverse ++ .ref b :: rest) (hn : As.length = n) (hroom : d1 + 1 ≤ d) (hnl : nL1 ≤ 21) (hcat : (rest.map fun v => v.category).sum ≤ 8) (hmc : mc1 ≤ bc) (hms : ms1 ≤ bs) 
    (kk : ∀ (w1 : va_W), f w1 → AW E M d (bc - mc1) (bs - ms1) (pc + 3) ls rest (w1) post) : AW E M d bc bs pc ls st ws post := A_callIW n hd cb cw hM hst hn hroom hnl hcat hmc hms (fun v w1 h => by
  obtain ⟨rfl, h⟩ := h
  exact kk w1 h)
theorem A_callSNi {E : ag} {M : am} {d bc bs pc : Nat} {ls : List (Option Value)} {st rest : List Value} {ws : va_W} {post : Option Value → va_W → Prop} {y : MethodName} {cc1 : ByteArray} {nL1 d1 mc1 ms1 index : Nat} {ret1 : Option FieldType} (n : Nat) {As : List Value} {wc : va_W} {f : Int32 → va_W → Prop} (hd : decode M.2.1 pc = .ok (.invokestatic index, 3)) (cb : CWb y cc1 nL1 ret1 n) (cw : CWns M.1 index y) (hM : CT E y cc1 nL1 ret1 d1 mc1 ms1 (As) wc (ri f)) (hst : st = As.reverse ++ rest) (hn : As.length = n) (is : List Nat) (hCc : is.map (fun i => ws[i]?) = wc.map some) (hnd : va_nd is = true) (hroom : d1 + 1 ≤ d) (hnl : nL1 ≤ 21) (hcat : (rest.map fun v => v.category).sum ≤ 8) (hmc : mc1 ≤ bc) (hms : ms1 ≤ bs) (hlen : ∀ r w1, f r w1 → is.length ≤ w1.length) 
    (kk : ∀ (r : Int32) (w1 : va_W), f r w1 → AW E M d (bc - mc1) (bs - ms1) (pc + 3) ls (.int r :: rest) (mrg ws is w1) post) : AW E M d bc bs pc ls st ws post := A_callSN n hd cb cw hM hst hn is hCc hnd hroom hnl hcat hmc hms (fun v w1 h => by obtain ⟨r, -, h⟩ := h; exact hlen r w1 h) (fun v w1 h => by
  obtain ⟨r, rfl, h⟩ := h
  exact kk r w1 h)
theorem A_callSNv {E : ag} {M : am} {d bc bs pc : Nat} {ls : List (Option Value)} {st rest : List Value} {ws : va_W} {post : Option Value → va_W → Prop} {y : MethodName} {cc1 : ByteArray} {nL1 d1 mc1 ms1 index : Nat} {ret1 : Option FieldType} (n : Nat) {As : List Value} {wc : va_W} {f : va_W → Prop} (hd : decode M.2.1 pc = .ok (.invokestatic index, 3)) (cb : CWb y cc1 nL1 ret1 n) (cw : CWns M.1 index y) (hM : CT E y cc1 nL1 ret1 d1 mc1 ms1 (As) wc (rv f)) (hst : st = As.reverse ++ rest) (hn : As.length = n) (is : List Nat) (hCc : is.map (fun i => ws[i]?) = wc.map some) (hnd : va_nd is = true) (hroom : d1 + 1 ≤ d) (hnl : nL1 ≤ 21) (hcat : (rest.map fun v => v.category).sum ≤ 8) (hmc : mc1 ≤ bc) (hms : ms1 ≤ bs) (hlen : ∀ w1, f w1 → is.length ≤ w1.length) 
    (kk : ∀ (w1 : va_W), f w1 → AW E M d (bc - mc1) (bs - ms1) (pc + 3) ls rest (mrg ws is w1) post) : AW E M d bc bs pc ls st ws post := A_callSN n hd cb cw hM hst hn is hCc hnd hroom hnl hcat hmc hms (fun v w1 h => hlen w1 h.2) (fun v w1 h => by
  obtain ⟨rfl, h⟩ := h
  exact kk w1 h)
theorem A_callSNWi {E : ag} {M : am} {d bc bs pc : Nat} {ls : List (Option Value)} {st rest : List Value} {ws : va_W} {post : Option Value → va_W → Prop} {y : MethodName} {cc1 : ByteArray} {nL1 d1 mc1 ms1 index : Nat} {ret1 : Option FieldType} (n : Nat) {As : List Value} {f : Int32 → va_W → Prop} (hd : decode M.2.1 pc = .ok (.invokestatic index, 3)) (cb : CWb y cc1 nL1 ret1 n) (cw : CWns M.1 index y) (hM : CT E y cc1 nL1 ret1 d1 mc1 ms1 (As) ws (ri f)) (hst : st = As.reverse ++ rest) (hn : As.length = n) (hroom : d1 + 1 ≤ d) (hnl : nL1 ≤ 21) (hcat : (rest.map fun v => v.category).sum ≤ 8) (hmc : mc1 ≤ bc) (hms : ms1 ≤ bs) 
    (kk : ∀ (r : Int32) (w1 : va_W), f r w1 → AW E M d (bc - mc1) (bs - ms1) (pc + 3) ls (.int r :: rest) (w1) post) : AW E M d bc bs pc ls st ws post := A_callSNW n hd cb cw hM hst hn hroom hnl hcat hmc hms (fun v w1 h => by
  obtain ⟨r, rfl, h⟩ := h
  exact kk r w1 h)
theorem A_callSNWv {E : ag} {M : am} {d bc bs pc : Nat} {ls : List (Option Value)} {st rest : List Value} {ws : va_W} {post : Option Value → va_W → Prop} {y : MethodName} {cc1 : ByteArray} {nL1 d1 mc1 ms1 index : Nat} {ret1 : Option FieldType} (n : Nat) {As : List Value} {f : va_W → Prop} (hd : decode M.2.1 pc = .ok (.invokestatic index, 3)) (cb : CWb y cc1 nL1 ret1 n) (cw : CWns M.1 index y) (hM : CT E y cc1 nL1 ret1 d1 mc1 ms1 (As) ws (rv f)) (hst : st = As.reverse ++ rest) (hn : As.length = n) (hroom : d1 + 1 ≤ d) (hnl : nL1 ≤ 21) (hcat : (rest.map fun v => v.category).sum ≤ 8) (hmc : mc1 ≤ bc) (hms : ms1 ≤ bs) 
    (kk : ∀ (w1 : va_W), f w1 → AW E M d (bc - mc1) (bs - ms1) (pc + 3) ls rest (w1) post) : AW E M d bc bs pc ls st ws post := A_callSNW n hd cb cw hM hst hn hroom hnl hcat hmc hms (fun v w1 h => by
  obtain ⟨rfl, h⟩ := h
  exact kk w1 h)
theorem A_callINv {E : ag} {M : am} {d bc bs pc : Nat} {ls : List (Option Value)} {st rest : List Value} {ws : va_W} {post : Option Value → va_W → Prop} {y : MethodName} {cc1 : ByteArray} {nL1 d1 mc1 ms1 index : Nat} (n : Nat) {b : Nat} {As : List Value} {wc : va_W} {f : va_W → Prop} (hd : decode M.2.1 pc = .ok (.invokespecial index, 3)) (cb : CWb y cc1 nL1 none n) (cw : CWni M.1 index y) (hM : CT E y cc1 nL1 none d1 mc1 ms1 (.ref b :: As) wc (rv f)) (hst : st = As.reverse ++ .ref b :: rest) (hn : As.length = n) (is : List Nat) (hCc : is.map (fun i => ws[i]?) = wc.map some) (hnd : va_nd is = true) (hroom : d1 + 1 ≤ d) (hnl : nL1 ≤ 21) (hcat : (rest.map fun v => v.category).sum ≤ 8) (hmc : mc1 ≤ bc) (hms : ms1 ≤ bs) (hlen : ∀ w1, f w1 → is.length ≤ w1.length) 
    (kk : ∀ (w1 : va_W), f w1 → AW E M d (bc - mc1) (bs - ms1) (pc + 3) ls rest (mrg ws is w1) post) : AW E M d bc bs pc ls st ws post := A_callIN n hd cb cw hM hst hn is hCc hnd hroom hnl hcat hmc hms (fun v w1 h => hlen w1 h.2) (fun v w1 h => by
  obtain ⟨rfl, h⟩ := h
  exact kk w1 h)
theorem A_callINWv {E : ag} {M : am} {d bc bs pc : Nat} {ls : List (Option Value)} {st rest : List Value} {ws : va_W} {post : Option Value → va_W → Prop} {y : MethodName} {cc1 : ByteArray} {nL1 d1 mc1 ms1 index : Nat} (n : Nat) {b : Nat} {As : List Value} {f : va_W → Prop} (hd : decode M.2.1 pc = .ok (.invokespecial index, 3)) (cb : CWb y cc1 nL1 none n) (cw : CWni M.1 index y) (hM : CT E y cc1 nL1 none d1 mc1 ms1 (.ref b :: As) ws (rv f)) (hst : st = As.reverse ++ .ref b :: rest) (hn : As.length = n) (hroom : d1 + 1 ≤ d) (hnl : nL1 ≤ 21) (hcat : (rest.map fun v => v.category).sum ≤ 8) (hmc : mc1 ≤ bc) (hms : ms1 ≤ bs) 
    (kk : ∀ (w1 : va_W), f w1 → AW E M d (bc - mc1) (bs - ms1) (pc + 3) ls rest (w1) post) : AW E M d bc bs pc ls st ws post := A_callINW n hd cb cw hM hst hn hroom hnl hcat hmc hms (fun v w1 h => by
  obtain ⟨rfl, h⟩ := h
  exact kk w1 h)
end
section
theorem uw_of {ws : List Cond} (ps : List Nat) (hp : ws = ps.filterMap (fun i => lw_tbl[i]?)) (hg : ws.all goodWord = true) : ∀ w ∈ ws, w ∈ gtbl := fun w hw => by
  have h1 := List.all_eq_true.mp hg w hw
  rw [hp] at hw
  obtain ⟨i, -, hi⟩ := List.mem_filterMap.mp hw
  exact List.mem_filter.mpr ⟨List.mem_of_getElem? hi, h1⟩
theorem uwX0 : ∀ w ∈ u_ws RX0 TX0 6, w ∈ gtbl := uw_of [150, 152, 154, 156, 158, 160] (by decide +kernel) (by decide +kernel)
theorem fcX0 : FC 0 := ⟨RX0, TX0, 6, tyX0, rfl, tyX0_ok, nmX0⟩
theorem ftX0_0 : FT 0 0 (.array .int) true "FourFlails$Flailing" := ⟨RX0, TX0, 6, rfl, by decide +kernel, rfl, rfl⟩
theorem ftX0_1 : FT 0 1 (.array .int) true "FourFlails$Flailing" := ⟨RX0, TX0, 6, rfl, by decide +kernel, rfl, rfl⟩
theorem ftX0_2 : FT 0 2 (.boolean) false "FourFlails$Flailing" := ⟨RX0, TX0, 6, rfl, by decide +kernel, rfl, rfl⟩
theorem ftX0_3 : FT 0 3 (.int) false "FourFlails$Flailing" := ⟨RX0, TX0, 6, rfl, by decide +kernel, rfl, rfl⟩
theorem ftX0_4 : FT 0 4 (.int) false "FourFlails$Flailing" := ⟨RX0, TX0, 6, rfl, by decide +kernel, rfl, rfl⟩
theorem ftX0_5 : FT 0 5 (.int) false "FourFlails$Flailing" := ⟨RX0, TX0, 6, rfl, by decide +kernel, rfl, rfl⟩
theorem uwX1 : ∀ w ∈ u_ws RX1 TX1 11, w ∈ gtbl := uw_of [112, 114, 116, 118, 120, 122, 124, 126, 128, 130, 132] (by decide +kernel) (by decide +kernel)
theorem fcX1 : FC 1 := ⟨RX1, TX1, 11, tyX1, rfl, tyX1_ok, nmX1⟩
theorem ftX1_0 : FT 1 0 (.array .int) true "FourFlails$Floor" := ⟨RX1, TX1, 11, rfl, by decide +kernel, rfl, rfl⟩
theorem ftX1_1 : FT 1 1 (.array .int) true "FourFlails$Floor" := ⟨RX1, TX1, 11, rfl, by decide +kernel, rfl, rfl⟩
theorem ftX1_2 : FT 1 2 (.array .int) true "FourFlails$Floor" := ⟨RX1, TX1, 11, rfl, by decide +kernel, rfl, rfl⟩
theorem ftX1_3 : FT 1 3 (.array .int) true "FourFlails$Floor" := ⟨RX1, TX1, 11, rfl, by decide +kernel, rfl, rfl⟩
theorem ftX1_4 : FT 1 4 (.array .int) true "FourFlails$Floor" := ⟨RX1, TX1, 11, rfl, by decide +kernel, rfl, rfl⟩
theorem ftX1_5 : FT 1 5 (.array .int) true "FourFlails$Floor" := ⟨RX1, TX1, 11, rfl, by decide +kernel, rfl, rfl⟩
theorem ftX1_6 : FT 1 6 (.int) false "FourFlails$Floor" := ⟨RX1, TX1, 11, rfl, by decide +kernel, rfl, rfl⟩
theorem ftX1_7 : FT 1 7 (.int) false "FourFlails$Floor" := ⟨RX1, TX1, 11, rfl, by decide +kernel, rfl, rfl⟩
theorem ftX1_8 : FT 1 8 (.int) false "FourFlails$Floor" := ⟨RX1, TX1, 11, rfl, by decide +kernel, rfl, rfl⟩
theorem ftX1_9 : FT 1 9 (.int) false "FourFlails$Floor" := ⟨RX1, TX1, 11, rfl, by decide +kernel, rfl, rfl⟩
theorem ftX1_10 : FT 1 10 (.int) false "FourFlails$Floor" := ⟨RX1, TX1, 11, rfl, by decide +kernel, rfl, rfl⟩
theorem uwX2 : ∀ w ∈ u_ws RX2 TX2 7, w ∈ gtbl := uw_of [194, 196, 198, 200, 202, 204, 206] (by decide +kernel) (by decide +kernel)
theorem fcX2 : FC 2 := ⟨RX2, TX2, 7, tyX2, rfl, tyX2_ok, nmX2⟩
theorem ftX2_0 : FT 2 0 (.array .int) true "FourFlails$Reader" := ⟨RX2, TX2, 7, rfl, by decide +kernel, rfl, rfl⟩
theorem ftX2_1 : FT 2 1 (.int) false "FourFlails$Reader" := ⟨RX2, TX2, 7, rfl, by decide +kernel, rfl, rfl⟩
theorem ftX2_2 : FT 2 2 (.int) false "FourFlails$Reader" := ⟨RX2, TX2, 7, rfl, by decide +kernel, rfl, rfl⟩
theorem ftX2_3 : FT 2 3 (.int) false "FourFlails$Reader" := ⟨RX2, TX2, 7, rfl, by decide +kernel, rfl, rfl⟩
theorem ftX2_4 : FT 2 4 (.int) false "FourFlails$Reader" := ⟨RX2, TX2, 7, rfl, by decide +kernel, rfl, rfl⟩
theorem ftX2_5 : FT 2 5 (.int) false "FourFlails$Reader" := ⟨RX2, TX2, 7, rfl, by decide +kernel, rfl, rfl⟩
theorem ftX2_6 : FT 2 6 (.object "FourFlails$Text") false "FourFlails$Reader" := ⟨RX2, TX2, 7, rfl, by decide +kernel, rfl, rfl⟩
theorem uwX3 : ∀ w ∈ u_ws RX3 TX3 2, w ∈ gtbl := uw_of [670, 672] (by decide +kernel) (by decide +kernel)
theorem fcX3 : FC 3 := ⟨RX3, TX3, 2, tyX3, rfl, tyX3_ok, nmX3⟩
theorem ftX3_0 : FT 3 0 (.int) true "FourFlails$Sheet" := ⟨RX3, TX3, 2, rfl, by decide +kernel, rfl, rfl⟩
theorem ftX3_1 : FT 3 1 (.array .int) true "FourFlails$Sheet" := ⟨RX3, TX3, 2, rfl, by decide +kernel, rfl, rfl⟩
theorem uwX4 : ∀ w ∈ u_ws RX4 TX4 3, w ∈ gtbl := uw_of [178, 180, 182] (by decide +kernel) (by decide +kernel)
theorem fcX4 : FC 4 := ⟨RX4, TX4, 3, tyX4, rfl, tyX4_ok, nmX4⟩
theorem ftX4_0 : FT 4 0 (.array .int) true "FourFlails$Text" := ⟨RX4, TX4, 3, rfl, by decide +kernel, rfl, rfl⟩
theorem ftX4_1 : FT 4 1 (.array .int) true "FourFlails$Text" := ⟨RX4, TX4, 3, rfl, by decide +kernel, rfl, rfl⟩
theorem ftX4_2 : FT 4 2 (.int) false "FourFlails$Text" := ⟨RX4, TX4, 3, rfl, by decide +kernel, rfl, rfl⟩
theorem uwX5 : ∀ w ∈ u_ws RX5 TX5 11, w ∈ gtbl := uw_of [368, 370, 372, 374, 376, 378, 380, 382, 384, 386, 388] (by decide +kernel) (by decide +kernel)
theorem fcX5 : FC 5 := ⟨RX5, TX5, 11, tyX5, rfl, tyX5_ok, nmX5⟩
theorem ftX5_0 : FT 5 0 (.object "FourFlails$Floor") true "FourFlails" := ⟨RX5, TX5, 11, rfl, by decide +kernel, rfl, rfl⟩
theorem ftX5_1 : FT 5 1 (.object "FourFlails$Floor") true "FourFlails" := ⟨RX5, TX5, 11, rfl, by decide +kernel, rfl, rfl⟩
theorem ftX5_2 : FT 5 2 (.object "FourFlails$Floor") true "FourFlails" := ⟨RX5, TX5, 11, rfl, by decide +kernel, rfl, rfl⟩
theorem ftX5_3 : FT 5 3 (.boolean) false "FourFlails" := ⟨RX5, TX5, 11, rfl, by decide +kernel, rfl, rfl⟩
theorem ftX5_4 : FT 5 4 (.object "FourFlails$Flailing") true "FourFlails" := ⟨RX5, TX5, 11, rfl, by decide +kernel, rfl, rfl⟩
theorem ftX5_5 : FT 5 5 (.object "FourFlails$Reader") true "FourFlails" := ⟨RX5, TX5, 11, rfl, by decide +kernel, rfl, rfl⟩
theorem ftX5_6 : FT 5 6 (.array (.object "FourFlails$Text")) true "FourFlails" := ⟨RX5, TX5, 11, rfl, by decide +kernel, rfl, rfl⟩
theorem ftX5_7 : FT 5 7 (.int) false "FourFlails" := ⟨RX5, TX5, 11, rfl, by decide +kernel, rfl, rfl⟩
theorem ftX5_8 : FT 5 8 (.array (.object "FourFlails$Sheet")) true "FourFlails" := ⟨RX5, TX5, 11, rfl, by decide +kernel, rfl, rfl⟩
theorem ftX5_9 : FT 5 9 (.array .int) true "FourFlails" := ⟨RX5, TX5, 11, rfl, by decide +kernel, rfl, rfl⟩
theorem ftX5_10 : FT 5 10 (.array .int) true "FourFlails" := ⟨RX5, TX5, 11, rfl, by decide +kernel, rfl, rfl⟩
theorem uwX6 : ∀ w ∈ u_ws RX6 TX6 64, w ∈ gtbl := uw_of [778, 780, 782, 784, 786, 788, 790, 792, 794, 796, 798, 800, 802, 804, 806, 808, 810, 812, 814, 816, 818, 820, 822, 824, 826, 828, 830, 832, 834, 836, 838, 840, 842, 844, 846, 848, 850, 852, 854, 856, 858, 860, 862, 864, 866, 868, 870, 872, 874, 876, 878, 880, 882, 884, 886, 888, 890, 892, 894, 896, 898, 900, 902, 904] (by decide +kernel) (by decide +kernel)
theorem fcX6 : FC 6 := ⟨RX6, TX6, 64, tyX6, rfl, tyX6_ok, nmX6⟩
theorem ftX6_0 : FT 6 0 (.int) false "FourFlailsModel" := ⟨RX6, TX6, 64, rfl, by decide +kernel, rfl, rfl⟩
theorem ftX6_1 : FT 6 1 (.array .int) true "FourFlailsModel" := ⟨RX6, TX6, 64, rfl, by decide +kernel, rfl, rfl⟩
theorem ftX6_2 : FT 6 2 (.array .int) true "FourFlailsModel" := ⟨RX6, TX6, 64, rfl, by decide +kernel, rfl, rfl⟩
theorem ftX6_3 : FT 6 3 (.int) false "FourFlailsModel" := ⟨RX6, TX6, 64, rfl, by decide +kernel, rfl, rfl⟩
theorem ftX6_4 : FT 6 4 (.int) false "FourFlailsModel" := ⟨RX6, TX6, 64, rfl, by decide +kernel, rfl, rfl⟩
theorem ftX6_5 : FT 6 5 (.array .int) true "FourFlailsModel" := ⟨RX6, TX6, 64, rfl, by decide +kernel, rfl, rfl⟩
theorem ftX6_6 : FT 6 6 (.int) false "FourFlailsModel" := ⟨RX6, TX6, 64, rfl, by decide +kernel, rfl, rfl⟩
theorem ftX6_7 : FT 6 7 (.array .int) true "FourFlailsModel" := ⟨RX6, TX6, 64, rfl, by decide +kernel, rfl, rfl⟩
theorem ftX6_8 : FT 6 8 (.array .int) true "FourFlailsModel" := ⟨RX6, TX6, 64, rfl, by decide +kernel, rfl, rfl⟩
theorem ftX6_9 : FT 6 9 (.array .int) true "FourFlailsModel" := ⟨RX6, TX6, 64, rfl, by decide +kernel, rfl, rfl⟩
theorem ftX6_10 : FT 6 10 (.array .int) true "FourFlailsModel" := ⟨RX6, TX6, 64, rfl, by decide +kernel, rfl, rfl⟩
theorem ftX6_11 : FT 6 11 (.array .int) true "FourFlailsModel" := ⟨RX6, TX6, 64, rfl, by decide +kernel, rfl, rfl⟩
theorem ftX6_12 : FT 6 12 (.array .int) true "FourFlailsModel" := ⟨RX6, TX6, 64, rfl, by decide +kernel, rfl, rfl⟩
theorem ftX6_13 : FT 6 13 (.int) false "FourFlailsModel" := ⟨RX6, TX6, 64, rfl, by decide +kernel, rfl, rfl⟩
theorem ftX6_14 : FT 6 14 (.int) false "FourFlailsModel" := ⟨RX6, TX6, 64, rfl, by decide +kernel, rfl, rfl⟩
theorem ftX6_15 : FT 6 15 (.int) false "FourFlailsModel" := ⟨RX6, TX6, 64, rfl, by decide +kernel, rfl, rfl⟩
theorem ftX6_16 : FT 6 16 (.int) false "FourFlailsModel" := ⟨RX6, TX6, 64, rfl, by decide +kernel, rfl, rfl⟩
theorem ftX6_17 : FT 6 17 (.int) false "FourFlailsModel" := ⟨RX6, TX6, 64, rfl, by decide +kernel, rfl, rfl⟩
theorem ftX6_18 : FT 6 18 (.int) false "FourFlailsModel" := ⟨RX6, TX6, 64, rfl, by decide +kernel, rfl, rfl⟩
theorem ftX6_19 : FT 6 19 (.int) false "FourFlailsModel" := ⟨RX6, TX6, 64, rfl, by decide +kernel, rfl, rfl⟩
theorem ftX6_20 : FT 6 20 (.int) false "FourFlailsModel" := ⟨RX6, TX6, 64, rfl, by decide +kernel, rfl, rfl⟩
theorem ftX6_21 : FT 6 21 (.int) false "FourFlailsModel" := ⟨RX6, TX6, 64, rfl, by decide +kernel, rfl, rfl⟩
theorem ftX6_22 : FT 6 22 (.int) false "FourFlailsModel" := ⟨RX6, TX6, 64, rfl, by decide +kernel, rfl, rfl⟩
theorem ftX6_23 : FT 6 23 (.int) false "FourFlailsModel" := ⟨RX6, TX6, 64, rfl, by decide +kernel, rfl, rfl⟩
theorem ftX6_24 : FT 6 24 (.int) false "FourFlailsModel" := ⟨RX6, TX6, 64, rfl, by decide +kernel, rfl, rfl⟩
theorem ftX6_25 : FT 6 25 (.int) false "FourFlailsModel" := ⟨RX6, TX6, 64, rfl, by decide +kernel, rfl, rfl⟩
theorem ftX6_26 : FT 6 26 (.int) false "FourFlailsModel" := ⟨RX6, TX6, 64, rfl, by decide +kernel, rfl, rfl⟩
theorem ftX6_27 : FT 6 27 (.int) false "FourFlailsModel" := ⟨RX6, TX6, 64, rfl, by decide +kernel, rfl, rfl⟩
theorem ftX6_28 : FT 6 28 (.long) false "FourFlailsModel" := ⟨RX6, TX6, 64, rfl, by decide +kernel, rfl, rfl⟩
theorem ftX6_29 : FT 6 29 (.int) false "FourFlailsModel" := ⟨RX6, TX6, 64, rfl, by decide +kernel, rfl, rfl⟩
theorem ftX6_30 : FT 6 30 (.boolean) false "FourFlailsModel" := ⟨RX6, TX6, 64, rfl, by decide +kernel, rfl, rfl⟩
theorem ftX6_31 : FT 6 31 (.int) false "FourFlailsModel" := ⟨RX6, TX6, 64, rfl, by decide +kernel, rfl, rfl⟩
theorem ftX6_32 : FT 6 32 (.int) false "FourFlailsModel" := ⟨RX6, TX6, 64, rfl, by decide +kernel, rfl, rfl⟩
theorem ftX6_33 : FT 6 33 (.int) false "FourFlailsModel" := ⟨RX6, TX6, 64, rfl, by decide +kernel, rfl, rfl⟩
theorem ftX6_34 : FT 6 34 (.int) false "FourFlailsModel" := ⟨RX6, TX6, 64, rfl, by decide +kernel, rfl, rfl⟩
theorem ftX6_35 : FT 6 35 (.int) false "FourFlailsModel" := ⟨RX6, TX6, 64, rfl, by decide +kernel, rfl, rfl⟩
theorem ftX6_36 : FT 6 36 (.int) false "FourFlailsModel" := ⟨RX6, TX6, 64, rfl, by decide +kernel, rfl, rfl⟩
theorem ftX6_37 : FT 6 37 (.array .int) true "FourFlailsModel" := ⟨RX6, TX6, 64, rfl, by decide +kernel, rfl, rfl⟩
theorem ftX6_38 : FT 6 38 (.array .int) true "FourFlailsModel" := ⟨RX6, TX6, 64, rfl, by decide +kernel, rfl, rfl⟩
theorem ftX6_39 : FT 6 39 (.array .int) true "FourFlailsModel" := ⟨RX6, TX6, 64, rfl, by decide +kernel, rfl, rfl⟩
theorem ftX6_40 : FT 6 40 (.array .int) true "FourFlailsModel" := ⟨RX6, TX6, 64, rfl, by decide +kernel, rfl, rfl⟩
theorem ftX6_41 : FT 6 41 (.array .int) true "FourFlailsModel" := ⟨RX6, TX6, 64, rfl, by decide +kernel, rfl, rfl⟩
theorem ftX6_42 : FT 6 42 (.array .int) true "FourFlailsModel" := ⟨RX6, TX6, 64, rfl, by decide +kernel, rfl, rfl⟩
theorem ftX6_43 : FT 6 43 (.int) false "FourFlailsModel" := ⟨RX6, TX6, 64, rfl, by decide +kernel, rfl, rfl⟩
theorem ftX6_44 : FT 6 44 (.int) false "FourFlailsModel" := ⟨RX6, TX6, 64, rfl, by decide +kernel, rfl, rfl⟩
theorem ftX6_45 : FT 6 45 (.int) false "FourFlailsModel" := ⟨RX6, TX6, 64, rfl, by decide +kernel, rfl, rfl⟩
theorem ftX6_46 : FT 6 46 (.int) false "FourFlailsModel" := ⟨RX6, TX6, 64, rfl, by decide +kernel, rfl, rfl⟩
theorem ftX6_47 : FT 6 47 (.int) false "FourFlailsModel" := ⟨RX6, TX6, 64, rfl, by decide +kernel, rfl, rfl⟩
theorem ftX6_48 : FT 6 48 (.int) false "FourFlailsModel" := ⟨RX6, TX6, 64, rfl, by decide +kernel, rfl, rfl⟩
theorem ftX6_49 : FT 6 49 (.int) false "FourFlailsModel" := ⟨RX6, TX6, 64, rfl, by decide +kernel, rfl, rfl⟩
theorem ftX6_50 : FT 6 50 (.array .int) true "FourFlailsModel" := ⟨RX6, TX6, 64, rfl, by decide +kernel, rfl, rfl⟩
theorem ftX6_51 : FT 6 51 (.array .int) true "FourFlailsModel" := ⟨RX6, TX6, 64, rfl, by decide +kernel, rfl, rfl⟩
theorem ftX6_52 : FT 6 52 (.array .int) true "FourFlailsModel" := ⟨RX6, TX6, 64, rfl, by decide +kernel, rfl, rfl⟩
theorem ftX6_53 : FT 6 53 (.array .int) true "FourFlailsModel" := ⟨RX6, TX6, 64, rfl, by decide +kernel, rfl, rfl⟩
theorem ftX6_54 : FT 6 54 (.array .int) true "FourFlailsModel" := ⟨RX6, TX6, 64, rfl, by decide +kernel, rfl, rfl⟩
theorem ftX6_55 : FT 6 55 (.int) false "FourFlailsModel" := ⟨RX6, TX6, 64, rfl, by decide +kernel, rfl, rfl⟩
theorem ftX6_56 : FT 6 56 (.int) false "FourFlailsModel" := ⟨RX6, TX6, 64, rfl, by decide +kernel, rfl, rfl⟩
theorem ftX6_57 : FT 6 57 (.int) false "FourFlailsModel" := ⟨RX6, TX6, 64, rfl, by decide +kernel, rfl, rfl⟩
theorem ftX6_58 : FT 6 58 (.int) false "FourFlailsModel" := ⟨RX6, TX6, 64, rfl, by decide +kernel, rfl, rfl⟩
theorem ftX6_59 : FT 6 59 (.int) false "FourFlailsModel" := ⟨RX6, TX6, 64, rfl, by decide +kernel, rfl, rfl⟩
theorem ftX6_60 : FT 6 60 (.array .boolean) true "FourFlailsModel" := ⟨RX6, TX6, 64, rfl, by decide +kernel, rfl, rfl⟩
theorem ftX6_61 : FT 6 61 (.array .int) true "FourFlailsModel" := ⟨RX6, TX6, 64, rfl, by decide +kernel, rfl, rfl⟩
theorem ftX6_62 : FT 6 62 (.array .int) true "FourFlailsModel" := ⟨RX6, TX6, 64, rfl, by decide +kernel, rfl, rfl⟩
theorem ftX6_63 : FT 6 63 (.array .int) true "FourFlailsModel" := ⟨RX6, TX6, 64, rfl, by decide +kernel, rfl, rfl⟩
theorem fwX1_9 : FW "FourFlails$Floor" 9 1 0 := ⟨RX1, TX1, 11, rfl, by decide, uwX1, (gt_in 83 (by decide +kernel) (by decide +kernel))⟩
theorem fwX5_100 : FW "FourFlails" 100 1 0 := ⟨RX1, TX1, 11, rfl, by decide, uwX1, (gt_in 84 (by decide +kernel) (by decide +kernel))⟩
theorem fwX0_100 : FW "FourFlails$Flailing" 100 1 0 := ⟨RX1, TX1, 11, rfl, by decide, uwX1, (gt_in 85 (by decide +kernel) (by decide +kernel))⟩
theorem fwX1_15 : FW "FourFlails$Floor" 15 1 1 := ⟨RX1, TX1, 11, rfl, by decide, uwX1, (gt_in 86 (by decide +kernel) (by decide +kernel))⟩
theorem fwX5_107 : FW "FourFlails" 107 1 1 := ⟨RX1, TX1, 11, rfl, by decide, uwX1, (gt_in 87 (by decide +kernel) (by decide +kernel))⟩
theorem fwX0_97 : FW "FourFlails$Flailing" 97 1 1 := ⟨RX1, TX1, 11, rfl, by decide, uwX1, (gt_in 88 (by decide +kernel) (by decide +kernel))⟩
theorem fwX1_18 : FW "FourFlails$Floor" 18 1 2 := ⟨RX1, TX1, 11, rfl, by decide, uwX1, (gt_in 89 (by decide +kernel) (by decide +kernel))⟩
theorem fwX5_133 : FW "FourFlails" 133 1 2 := ⟨RX1, TX1, 11, rfl, by decide, uwX1, (gt_in 90 (by decide +kernel) (by decide +kernel))⟩
theorem fwX1_21 : FW "FourFlails$Floor" 21 1 3 := ⟨RX1, TX1, 11, rfl, by decide, uwX1, (gt_in 91 (by decide +kernel) (by decide +kernel))⟩
theorem fwX5_113 : FW "FourFlails" 113 1 3 := ⟨RX1, TX1, 11, rfl, by decide, uwX1, (gt_in 92 (by decide +kernel) (by decide +kernel))⟩
theorem fwX0_85 : FW "FourFlails$Flailing" 85 1 3 := ⟨RX1, TX1, 11, rfl, by decide, uwX1, (gt_in 93 (by decide +kernel) (by decide +kernel))⟩
theorem fwX1_24 : FW "FourFlails$Floor" 24 1 4 := ⟨RX1, TX1, 11, rfl, by decide, uwX1, (gt_in 94 (by decide +kernel) (by decide +kernel))⟩
theorem fwX5_123 : FW "FourFlails" 123 1 4 := ⟨RX1, TX1, 11, rfl, by decide, uwX1, (gt_in 95 (by decide +kernel) (by decide +kernel))⟩
theorem fwX1_27 : FW "FourFlails$Floor" 27 1 5 := ⟨RX1, TX1, 11, rfl, by decide, uwX1, (gt_in 96 (by decide +kernel) (by decide +kernel))⟩
theorem fwX5_126 : FW "FourFlails" 126 1 5 := ⟨RX1, TX1, 11, rfl, by decide, uwX1, (gt_in 97 (by decide +kernel) (by decide +kernel))⟩
theorem fwX0_103 : FW "FourFlails$Flailing" 103 1 5 := ⟨RX1, TX1, 11, rfl, by decide, uwX1, (gt_in 98 (by decide +kernel) (by decide +kernel))⟩
theorem fwX1_30 : FW "FourFlails$Floor" 30 1 6 := ⟨RX1, TX1, 11, rfl, by decide, uwX1, (gt_in 99 (by decide +kernel) (by decide +kernel))⟩
theorem fwX5_91 : FW "FourFlails" 91 1 6 := ⟨RX1, TX1, 11, rfl, by decide, uwX1, (gt_in 100 (by decide +kernel) (by decide +kernel))⟩
theorem fwX0_32 : FW "FourFlails$Flailing" 32 1 6 := ⟨RX1, TX1, 11, rfl, by decide, uwX1, (gt_in 101 (by decide +kernel) (by decide +kernel))⟩
theorem fwX1_34 : FW "FourFlails$Floor" 34 1 7 := ⟨RX1, TX1, 11, rfl, by decide, uwX1, (gt_in 102 (by decide +kernel) (by decide +kernel))⟩
theorem fwX5_116 : FW "FourFlails" 116 1 7 := ⟨RX1, TX1, 11, rfl, by decide, uwX1, (gt_in 103 (by decide +kernel) (by decide +kernel))⟩
theorem fwX0_37 : FW "FourFlails$Flailing" 37 1 7 := ⟨RX1, TX1, 11, rfl, by decide, uwX1, (gt_in 104 (by decide +kernel) (by decide +kernel))⟩
theorem fwX1_37 : FW "FourFlails$Floor" 37 1 8 := ⟨RX1, TX1, 11, rfl, by decide, uwX1, (gt_in 105 (by decide +kernel) (by decide +kernel))⟩
theorem fwX0_44 : FW "FourFlails$Flailing" 44 1 8 := ⟨RX1, TX1, 11, rfl, by decide, uwX1, (gt_in 106 (by decide +kernel) (by decide +kernel))⟩
theorem fwX5_217 : FW "FourFlails" 217 1 8 := ⟨RX1, TX1, 11, rfl, by decide, uwX1, (gt_in 107 (by decide +kernel) (by decide +kernel))⟩
theorem fwX1_40 : FW "FourFlails$Floor" 40 1 9 := ⟨RX1, TX1, 11, rfl, by decide, uwX1, (gt_in 108 (by decide +kernel) (by decide +kernel))⟩
theorem fwX5_155 : FW "FourFlails" 155 1 9 := ⟨RX1, TX1, 11, rfl, by decide, uwX1, (gt_in 109 (by decide +kernel) (by decide +kernel))⟩
theorem fwX1_43 : FW "FourFlails$Floor" 43 1 10 := ⟨RX1, TX1, 11, rfl, by decide, uwX1, (gt_in 110 (by decide +kernel) (by decide +kernel))⟩
theorem fwX5_152 : FW "FourFlails" 152 1 10 := ⟨RX1, TX1, 11, rfl, by decide, uwX1, (gt_in 111 (by decide +kernel) (by decide +kernel))⟩
theorem fwX0_9 : FW "FourFlails$Flailing" 9 0 0 := ⟨RX0, TX0, 6, rfl, by decide, uwX0, (gt_in 142 (by decide +kernel) (by decide +kernel))⟩
theorem fwX0_15 : FW "FourFlails$Flailing" 15 0 1 := ⟨RX0, TX0, 6, rfl, by decide, uwX0, (gt_in 143 (by decide +kernel) (by decide +kernel))⟩
theorem fwX0_18 : FW "FourFlails$Flailing" 18 0 2 := ⟨RX0, TX0, 6, rfl, by decide, uwX0, (gt_in 144 (by decide +kernel) (by decide +kernel))⟩
theorem fwX0_22 : FW "FourFlails$Flailing" 22 0 3 := ⟨RX0, TX0, 6, rfl, by decide, uwX0, (gt_in 145 (by decide +kernel) (by decide +kernel))⟩
theorem fwX0_26 : FW "FourFlails$Flailing" 26 0 4 := ⟨RX0, TX0, 6, rfl, by decide, uwX0, (gt_in 146 (by decide +kernel) (by decide +kernel))⟩
theorem fwX5_172 : FW "FourFlails" 172 0 4 := ⟨RX0, TX0, 6, rfl, by decide, uwX0, (gt_in 147 (by decide +kernel) (by decide +kernel))⟩
theorem fwX0_29 : FW "FourFlails$Flailing" 29 0 5 := ⟨RX0, TX0, 6, rfl, by decide, uwX0, (gt_in 148 (by decide +kernel) (by decide +kernel))⟩
theorem fwX5_175 : FW "FourFlails" 175 0 5 := ⟨RX0, TX0, 6, rfl, by decide, uwX0, (gt_in 149 (by decide +kernel) (by decide +kernel))⟩
theorem fwX4_9 : FW "FourFlails$Text" 9 4 0 := ⟨RX4, TX4, 3, rfl, by decide, uwX4, (gt_in 175 (by decide +kernel) (by decide +kernel))⟩
theorem fwX4_15 : FW "FourFlails$Text" 15 4 1 := ⟨RX4, TX4, 3, rfl, by decide, uwX4, (gt_in 176 (by decide +kernel) (by decide +kernel))⟩
theorem fwX4_18 : FW "FourFlails$Text" 18 4 2 := ⟨RX4, TX4, 3, rfl, by decide, uwX4, (gt_in 177 (by decide +kernel) (by decide +kernel))⟩
theorem fwX2_9 : FW "FourFlails$Reader" 9 2 0 := ⟨RX2, TX2, 7, rfl, by decide, uwX2, (gt_in 185 (by decide +kernel) (by decide +kernel))⟩
theorem fwX2_15 : FW "FourFlails$Reader" 15 2 1 := ⟨RX2, TX2, 7, rfl, by decide, uwX2, (gt_in 186 (by decide +kernel) (by decide +kernel))⟩
theorem fwX5_146 : FW "FourFlails" 146 2 1 := ⟨RX2, TX2, 7, rfl, by decide, uwX2, (gt_in 187 (by decide +kernel) (by decide +kernel))⟩
theorem fwX2_19 : FW "FourFlails$Reader" 19 2 2 := ⟨RX2, TX2, 7, rfl, by decide, uwX2, (gt_in 188 (by decide +kernel) (by decide +kernel))⟩
theorem fwX5_149 : FW "FourFlails" 149 2 2 := ⟨RX2, TX2, 7, rfl, by decide, uwX2, (gt_in 189 (by decide +kernel) (by decide +kernel))⟩
theorem fwX2_22 : FW "FourFlails$Reader" 22 2 3 := ⟨RX2, TX2, 7, rfl, by decide, uwX2, (gt_in 190 (by decide +kernel) (by decide +kernel))⟩
theorem fwX2_25 : FW "FourFlails$Reader" 25 2 4 := ⟨RX2, TX2, 7, rfl, by decide, uwX2, (gt_in 191 (by decide +kernel) (by decide +kernel))⟩
theorem fwX2_28 : FW "FourFlails$Reader" 28 2 5 := ⟨RX2, TX2, 7, rfl, by decide, uwX2, (gt_in 192 (by decide +kernel) (by decide +kernel))⟩
theorem fwX2_34 : FW "FourFlails$Reader" 34 2 6 := ⟨RX2, TX2, 7, rfl, by decide, uwX2, (gt_in 193 (by decide +kernel) (by decide +kernel))⟩
theorem fwX5_10 : FW "FourFlails" 10 5 0 := ⟨RX5, TX5, 11, rfl, by decide, uwX5, (gt_in 357 (by decide +kernel) (by decide +kernel))⟩
theorem fwX5_16 : FW "FourFlails" 16 5 1 := ⟨RX5, TX5, 11, rfl, by decide, uwX5, (gt_in 358 (by decide +kernel) (by decide +kernel))⟩
theorem fwX5_19 : FW "FourFlails" 19 5 2 := ⟨RX5, TX5, 11, rfl, by decide, uwX5, (gt_in 359 (by decide +kernel) (by decide +kernel))⟩
theorem fwX5_22 : FW "FourFlails" 22 5 3 := ⟨RX5, TX5, 11, rfl, by decide, uwX5, (gt_in 360 (by decide +kernel) (by decide +kernel))⟩
theorem fwX5_29 : FW "FourFlails" 29 5 4 := ⟨RX5, TX5, 11, rfl, by decide, uwX5, (gt_in 361 (by decide +kernel) (by decide +kernel))⟩
theorem fwX5_36 : FW "FourFlails" 36 5 5 := ⟨RX5, TX5, 11, rfl, by decide, uwX5, (gt_in 362 (by decide +kernel) (by decide +kernel))⟩
theorem fwX5_42 : FW "FourFlails" 42 5 6 := ⟨RX5, TX5, 11, rfl, by decide, uwX5, (gt_in 363 (by decide +kernel) (by decide +kernel))⟩
theorem fwX5_46 : FW "FourFlails" 46 5 7 := ⟨RX5, TX5, 11, rfl, by decide, uwX5, (gt_in 364 (by decide +kernel) (by decide +kernel))⟩
theorem fwX5_52 : FW "FourFlails" 52 5 8 := ⟨RX5, TX5, 11, rfl, by decide, uwX5, (gt_in 365 (by decide +kernel) (by decide +kernel))⟩
theorem fwX5_56 : FW "FourFlails" 56 5 9 := ⟨RX5, TX5, 11, rfl, by decide, uwX5, (gt_in 366 (by decide +kernel) (by decide +kernel))⟩
theorem fwX5_60 : FW "FourFlails" 60 5 10 := ⟨RX5, TX5, 11, rfl, by decide, uwX5, (gt_in 367 (by decide +kernel) (by decide +kernel))⟩
theorem fwX3_9 : FW "FourFlails$Sheet" 9 3 0 := ⟨RX3, TX3, 2, rfl, by decide, uwX3, (gt_in 666 (by decide +kernel) (by decide +kernel))⟩
theorem fwX5_226 : FW "FourFlails" 226 3 0 := ⟨RX3, TX3, 2, rfl, by decide, uwX3, (gt_in 667 (by decide +kernel) (by decide +kernel))⟩
theorem fwX3_15 : FW "FourFlails$Sheet" 15 3 1 := ⟨RX3, TX3, 2, rfl, by decide, uwX3, (gt_in 668 (by decide +kernel) (by decide +kernel))⟩
theorem fwX5_201 : FW "FourFlails" 201 3 1 := ⟨RX3, TX3, 2, rfl, by decide, uwX3, (gt_in 669 (by decide +kernel) (by decide +kernel))⟩
theorem fsX5_252 : Cond.fieldLink "FourFlails" 252 "FourFlails" "ABOVE" "[I" ∈ gtbl := (gt_in 703 (by decide +kernel) (by decide +kernel))
theorem fwX6_13 : FW "FourFlailsModel" 13 6 1 := ⟨RX6, TX6, 64, rfl, by decide, uwX6, (gt_in 715 (by decide +kernel) (by decide +kernel))⟩
theorem fwX6_17 : FW "FourFlailsModel" 17 6 2 := ⟨RX6, TX6, 64, rfl, by decide, uwX6, (gt_in 716 (by decide +kernel) (by decide +kernel))⟩
theorem fwX6_97 : FW "FourFlailsModel" 97 6 3 := ⟨RX6, TX6, 64, rfl, by decide, uwX6, (gt_in 717 (by decide +kernel) (by decide +kernel))⟩
theorem fwX6_288 : FW "FourFlailsModel" 288 6 4 := ⟨RX6, TX6, 64, rfl, by decide, uwX6, (gt_in 718 (by decide +kernel) (by decide +kernel))⟩
theorem fwX6_20 : FW "FourFlailsModel" 20 6 5 := ⟨RX6, TX6, 64, rfl, by decide, uwX6, (gt_in 719 (by decide +kernel) (by decide +kernel))⟩
theorem fwX6_162 : FW "FourFlailsModel" 162 6 6 := ⟨RX6, TX6, 64, rfl, by decide, uwX6, (gt_in 720 (by decide +kernel) (by decide +kernel))⟩
theorem fwX6_23 : FW "FourFlailsModel" 23 6 7 := ⟨RX6, TX6, 64, rfl, by decide, uwX6, (gt_in 721 (by decide +kernel) (by decide +kernel))⟩
theorem fwX6_26 : FW "FourFlailsModel" 26 6 8 := ⟨RX6, TX6, 64, rfl, by decide, uwX6, (gt_in 722 (by decide +kernel) (by decide +kernel))⟩
theorem fwX6_29 : FW "FourFlailsModel" 29 6 9 := ⟨RX6, TX6, 64, rfl, by decide, uwX6, (gt_in 723 (by decide +kernel) (by decide +kernel))⟩
theorem fwX6_32 : FW "FourFlailsModel" 32 6 10 := ⟨RX6, TX6, 64, rfl, by decide, uwX6, (gt_in 724 (by decide +kernel) (by decide +kernel))⟩
theorem fwX6_35 : FW "FourFlailsModel" 35 6 11 := ⟨RX6, TX6, 64, rfl, by decide, uwX6, (gt_in 725 (by decide +kernel) (by decide +kernel))⟩
theorem fwX6_38 : FW "FourFlailsModel" 38 6 12 := ⟨RX6, TX6, 64, rfl, by decide, uwX6, (gt_in 726 (by decide +kernel) (by decide +kernel))⟩
theorem fwX6_100 : FW "FourFlailsModel" 100 6 13 := ⟨RX6, TX6, 64, rfl, by decide, uwX6, (gt_in 727 (by decide +kernel) (by decide +kernel))⟩
theorem fwX6_41 : FW "FourFlailsModel" 41 6 14 := ⟨RX6, TX6, 64, rfl, by decide, uwX6, (gt_in 728 (by decide +kernel) (by decide +kernel))⟩
theorem fwX6_142 : FW "FourFlailsModel" 142 6 15 := ⟨RX6, TX6, 64, rfl, by decide, uwX6, (gt_in 729 (by decide +kernel) (by decide +kernel))⟩
theorem fwX6_305 : FW "FourFlailsModel" 305 6 16 := ⟨RX6, TX6, 64, rfl, by decide, uwX6, (gt_in 730 (by decide +kernel) (by decide +kernel))⟩
theorem fwX6_221 : FW "FourFlailsModel" 221 6 17 := ⟨RX6, TX6, 64, rfl, by decide, uwX6, (gt_in 731 (by decide +kernel) (by decide +kernel))⟩
theorem fwX6_224 : FW "FourFlailsModel" 224 6 18 := ⟨RX6, TX6, 64, rfl, by decide, uwX6, (gt_in 732 (by decide +kernel) (by decide +kernel))⟩
theorem fwX6_227 : FW "FourFlailsModel" 227 6 19 := ⟨RX6, TX6, 64, rfl, by decide, uwX6, (gt_in 733 (by decide +kernel) (by decide +kernel))⟩
theorem fwX6_230 : FW "FourFlailsModel" 230 6 20 := ⟨RX6, TX6, 64, rfl, by decide, uwX6, (gt_in 734 (by decide +kernel) (by decide +kernel))⟩
theorem fwX6_233 : FW "FourFlailsModel" 233 6 21 := ⟨RX6, TX6, 64, rfl, by decide, uwX6, (gt_in 735 (by decide +kernel) (by decide +kernel))⟩
theorem fwX6_236 : FW "FourFlailsModel" 236 6 22 := ⟨RX6, TX6, 64, rfl, by decide, uwX6, (gt_in 736 (by decide +kernel) (by decide +kernel))⟩
theorem fwX6_168 : FW "FourFlailsModel" 168 6 23 := ⟨RX6, TX6, 64, rfl, by decide, uwX6, (gt_in 737 (by decide +kernel) (by decide +kernel))⟩
theorem fwX6_165 : FW "FourFlailsModel" 165 6 24 := ⟨RX6, TX6, 64, rfl, by decide, uwX6, (gt_in 738 (by decide +kernel) (by decide +kernel))⟩
theorem fwX6_171 : FW "FourFlailsModel" 171 6 25 := ⟨RX6, TX6, 64, rfl, by decide, uwX6, (gt_in 739 (by decide +kernel) (by decide +kernel))⟩
theorem fwX6_180 : FW "FourFlailsModel" 180 6 26 := ⟨RX6, TX6, 64, rfl, by decide, uwX6, (gt_in 740 (by decide +kernel) (by decide +kernel))⟩
theorem fwX6_177 : FW "FourFlailsModel" 177 6 27 := ⟨RX6, TX6, 64, rfl, by decide, uwX6, (gt_in 741 (by decide +kernel) (by decide +kernel))⟩
theorem fwX6_191 : FW "FourFlailsModel" 191 6 28 := ⟨RX6, TX6, 64, rfl, by decide, uwX6, (gt_in 742 (by decide +kernel) (by decide +kernel))⟩
theorem fwX6_208 : FW "FourFlailsModel" 208 6 29 := ⟨RX6, TX6, 64, rfl, by decide, uwX6, (gt_in 743 (by decide +kernel) (by decide +kernel))⟩
theorem fwX6_197 : FW "FourFlailsModel" 197 6 30 := ⟨RX6, TX6, 64, rfl, by decide, uwX6, (gt_in 744 (by decide +kernel) (by decide +kernel))⟩
theorem fwX6_201 : FW "FourFlailsModel" 201 6 31 := ⟨RX6, TX6, 64, rfl, by decide, uwX6, (gt_in 745 (by decide +kernel) (by decide +kernel))⟩
theorem fwX6_276 : FW "FourFlailsModel" 276 6 32 := ⟨RX6, TX6, 64, rfl, by decide, uwX6, (gt_in 746 (by decide +kernel) (by decide +kernel))⟩
theorem fwX6_279 : FW "FourFlailsModel" 279 6 33 := ⟨RX6, TX6, 64, rfl, by decide, uwX6, (gt_in 747 (by decide +kernel) (by decide +kernel))⟩
theorem fwX6_282 : FW "FourFlailsModel" 282 6 34 := ⟨RX6, TX6, 64, rfl, by decide, uwX6, (gt_in 748 (by decide +kernel) (by decide +kernel))⟩
theorem fwX6_295 : FW "FourFlailsModel" 295 6 35 := ⟨RX6, TX6, 64, rfl, by decide, uwX6, (gt_in 749 (by decide +kernel) (by decide +kernel))⟩
theorem fwX6_298 : FW "FourFlailsModel" 298 6 36 := ⟨RX6, TX6, 64, rfl, by decide, uwX6, (gt_in 750 (by decide +kernel) (by decide +kernel))⟩
theorem fwX6_44 : FW "FourFlailsModel" 44 6 37 := ⟨RX6, TX6, 64, rfl, by decide, uwX6, (gt_in 751 (by decide +kernel) (by decide +kernel))⟩
theorem fwX6_47 : FW "FourFlailsModel" 47 6 38 := ⟨RX6, TX6, 64, rfl, by decide, uwX6, (gt_in 752 (by decide +kernel) (by decide +kernel))⟩
theorem fwX6_50 : FW "FourFlailsModel" 50 6 39 := ⟨RX6, TX6, 64, rfl, by decide, uwX6, (gt_in 753 (by decide +kernel) (by decide +kernel))⟩
theorem fwX6_53 : FW "FourFlailsModel" 53 6 40 := ⟨RX6, TX6, 64, rfl, by decide, uwX6, (gt_in 754 (by decide +kernel) (by decide +kernel))⟩
theorem fwX6_56 : FW "FourFlailsModel" 56 6 41 := ⟨RX6, TX6, 64, rfl, by decide, uwX6, (gt_in 755 (by decide +kernel) (by decide +kernel))⟩
theorem fwX6_59 : FW "FourFlailsModel" 59 6 42 := ⟨RX6, TX6, 64, rfl, by decide, uwX6, (gt_in 756 (by decide +kernel) (by decide +kernel))⟩
theorem fwX6_315 : FW "FourFlailsModel" 315 6 43 := ⟨RX6, TX6, 64, rfl, by decide, uwX6, (gt_in 757 (by decide +kernel) (by decide +kernel))⟩
theorem fwX6_318 : FW "FourFlailsModel" 318 6 44 := ⟨RX6, TX6, 64, rfl, by decide, uwX6, (gt_in 758 (by decide +kernel) (by decide +kernel))⟩
theorem fwX6_321 : FW "FourFlailsModel" 321 6 45 := ⟨RX6, TX6, 64, rfl, by decide, uwX6, (gt_in 759 (by decide +kernel) (by decide +kernel))⟩
theorem fwX6_324 : FW "FourFlailsModel" 324 6 46 := ⟨RX6, TX6, 64, rfl, by decide, uwX6, (gt_in 760 (by decide +kernel) (by decide +kernel))⟩
theorem fwX6_348 : FW "FourFlailsModel" 348 6 47 := ⟨RX6, TX6, 64, rfl, by decide, uwX6, (gt_in 761 (by decide +kernel) (by decide +kernel))⟩
theorem fwX6_351 : FW "FourFlailsModel" 351 6 48 := ⟨RX6, TX6, 64, rfl, by decide, uwX6, (gt_in 762 (by decide +kernel) (by decide +kernel))⟩
theorem fwX6_354 : FW "FourFlailsModel" 354 6 49 := ⟨RX6, TX6, 64, rfl, by decide, uwX6, (gt_in 763 (by decide +kernel) (by decide +kernel))⟩
theorem fwX6_62 : FW "FourFlailsModel" 62 6 50 := ⟨RX6, TX6, 64, rfl, by decide, uwX6, (gt_in 764 (by decide +kernel) (by decide +kernel))⟩
theorem fwX6_65 : FW "FourFlailsModel" 65 6 51 := ⟨RX6, TX6, 64, rfl, by decide, uwX6, (gt_in 765 (by decide +kernel) (by decide +kernel))⟩
theorem fwX6_68 : FW "FourFlailsModel" 68 6 52 := ⟨RX6, TX6, 64, rfl, by decide, uwX6, (gt_in 766 (by decide +kernel) (by decide +kernel))⟩
theorem fwX6_71 : FW "FourFlailsModel" 71 6 53 := ⟨RX6, TX6, 64, rfl, by decide, uwX6, (gt_in 767 (by decide +kernel) (by decide +kernel))⟩
theorem fwX6_74 : FW "FourFlailsModel" 74 6 54 := ⟨RX6, TX6, 64, rfl, by decide, uwX6, (gt_in 768 (by decide +kernel) (by decide +kernel))⟩
theorem fwX6_77 : FW "FourFlailsModel" 77 6 55 := ⟨RX6, TX6, 64, rfl, by decide, uwX6, (gt_in 769 (by decide +kernel) (by decide +kernel))⟩
theorem fwX6_378 : FW "FourFlailsModel" 378 6 56 := ⟨RX6, TX6, 64, rfl, by decide, uwX6, (gt_in 770 (by decide +kernel) (by decide +kernel))⟩
theorem fwX6_381 : FW "FourFlailsModel" 381 6 57 := ⟨RX6, TX6, 64, rfl, by decide, uwX6, (gt_in 771 (by decide +kernel) (by decide +kernel))⟩
theorem fwX6_384 : FW "FourFlailsModel" 384 6 58 := ⟨RX6, TX6, 64, rfl, by decide, uwX6, (gt_in 772 (by decide +kernel) (by decide +kernel))⟩
theorem fwX6_387 : FW "FourFlailsModel" 387 6 59 := ⟨RX6, TX6, 64, rfl, by decide, uwX6, (gt_in 773 (by decide +kernel) (by decide +kernel))⟩
theorem fwX6_80 : FW "FourFlailsModel" 80 6 60 := ⟨RX6, TX6, 64, rfl, by decide, uwX6, (gt_in 774 (by decide +kernel) (by decide +kernel))⟩
theorem fwX6_84 : FW "FourFlailsModel" 84 6 61 := ⟨RX6, TX6, 64, rfl, by decide, uwX6, (gt_in 775 (by decide +kernel) (by decide +kernel))⟩
theorem fwX6_87 : FW "FourFlailsModel" 87 6 62 := ⟨RX6, TX6, 64, rfl, by decide, uwX6, (gt_in 776 (by decide +kernel) (by decide +kernel))⟩
theorem fwX6_90 : FW "FourFlailsModel" 90 6 63 := ⟨RX6, TX6, 64, rfl, by decide, uwX6, (gt_in 777 (by decide +kernel) (by decide +kernel))⟩
theorem cbX0_init : CWb yX0_init cX0_init 1 (none) 0 := ⟨(gt_in 58 (by decide +kernel) (by decide +kernel)), (gt_in 140 (by decide +kernel) (by decide +kernel)), by decide +kernel⟩
abbrev mX0_init : am := (RX0, cX0_init, 1, none, true)
theorem cbX0_begin : CWb yX0_begin cX0_begin 1 (none) 0 := ⟨(gt_in 58 (by decide +kernel) (by decide +kernel)), (gt_in 468 (by decide +kernel) (by decide +kernel)), by decide +kernel⟩
abbrev mX0_begin : am := (RX0, cX0_begin, 1, none, false)
theorem cbX0_draw : CWb yX0_draw cX0_draw 2 (none) 1 := ⟨(gt_in 58 (by decide +kernel) (by decide +kernel)), (gt_in 635 (by decide +kernel) (by decide +kernel)), by decide +kernel⟩
abbrev mX0_draw : am := (RX0, cX0_draw, 2, none, false)
theorem cbX0_pass : CWb yX0_pass cX0_pass 5 (none) 2 := ⟨(gt_in 58 (by decide +kernel) (by decide +kernel)), (gt_in 472 (by decide +kernel) (by decide +kernel)), by decide +kernel⟩
abbrev mX0_pass : am := (RX0, cX0_pass, 5, none, false)
theorem cbX0_allStrike : CWb yX0_allStrike cX0_allStrike 5 (none) 3 := ⟨(gt_in 58 (by decide +kernel) (by decide +kernel)), (gt_in 644 (by decide +kernel) (by decide +kernel)), by decide +kernel⟩
abbrev mX0_allStrike : am := (RX0, cX0_allStrike, 5, none, false)
theorem cbX0_takeTurn : CWb yX0_takeTurn cX0_takeTurn 8 (none) 4 := ⟨(gt_in 58 (by decide +kernel) (by decide +kernel)), (gt_in 476 (by decide +kernel) (by decide +kernel)), by decide +kernel⟩
abbrev mX0_takeTurn : am := (RX0, cX0_takeTurn, 8, none, false)
theorem cbX0_look : CWb yX0_look cX0_look 5 (none) 4 := ⟨(gt_in 58 (by decide +kernel) (by decide +kernel)), (gt_in 485 (by decide +kernel) (by decide +kernel)), by decide +kernel⟩
abbrev mX0_look : am := (RX0, cX0_look, 5, none, false)
theorem cbX0_knock : CWb yX0_knock cX0_knock 3 (none) 2 := ⟨(gt_in 58 (by decide +kernel) (by decide +kernel)), (gt_in 509 (by decide +kernel) (by decide +kernel)), by decide +kernel⟩
abbrev mX0_knock : am := (RX0, cX0_knock, 3, none, false)
theorem cbX0_nextDrawn : CWb yX0_nextDrawn cX0_nextDrawn 1 (some .int) 0 := ⟨(gt_in 58 (by decide +kernel) (by decide +kernel)), (gt_in 514 (by decide +kernel) (by decide +kernel)), by decide +kernel⟩
abbrev mX0_nextDrawn : am := (RX0, cX0_nextDrawn, 1, some .int, false)
theorem cbX1_init : CWb yX1_init cX1_init 2 (none) 0 := ⟨(gt_in 57 (by decide +kernel) (by decide +kernel)), (gt_in 81 (by decide +kernel) (by decide +kernel)), by decide +kernel⟩
abbrev mX1_init : am := (RX1, cX1_init, 2, none, true)
theorem cbX1_takeOver : CWb yX1_takeOver cX1_takeOver 2 (none) 1 := ⟨(gt_in 57 (by decide +kernel) (by decide +kernel)), (gt_in 530 (by decide +kernel) (by decide +kernel)), by decide +kernel⟩
abbrev mX1_takeOver : am := (RX1, cX1_takeOver, 2, none, false)
theorem cbX1_add : CWb yX1_add cX1_add 5 (some .int) 3 := ⟨(gt_in 57 (by decide +kernel) (by decide +kernel)), (gt_in 402 (by decide +kernel) (by decide +kernel)), by decide +kernel⟩
abbrev mX1_add : am := (RX1, cX1_add, 5, some .int, false)
theorem cbX1_takeMan : CWb yX1_takeMan cX1_takeMan 4 (none) 3 := ⟨(gt_in 57 (by decide +kernel) (by decide +kernel)), (gt_in 572 (by decide +kernel) (by decide +kernel)), by decide +kernel⟩
abbrev mX1_takeMan : am := (RX1, cX1_takeMan, 4, none, false)
theorem cbX1_standAs : CWb yX1_standAs cX1_standAs 4 (none) 2 := ⟨(gt_in 57 (by decide +kernel) (by decide +kernel)), (gt_in 568 (by decide +kernel) (by decide +kernel)), by decide +kernel⟩
abbrev mX1_standAs : am := (RX1, cX1_standAs, 4, none, false)
theorem cbX1_leaveOut : CWb yX1_leaveOut cX1_leaveOut 3 (none) 1 := ⟨(gt_in 57 (by decide +kernel) (by decide +kernel)), (gt_in 585 (by decide +kernel) (by decide +kernel)), by decide +kernel⟩
abbrev mX1_leaveOut : am := (RX1, cX1_leaveOut, 3, none, false)
theorem cbX1_holdBy : CWb yX1_holdBy cX1_holdBy 4 (some .int) 1 := ⟨(gt_in 57 (by decide +kernel) (by decide +kernel)), (gt_in 424 (by decide +kernel) (by decide +kernel)), by decide +kernel⟩
abbrev mX1_holdBy : am := (RX1, cX1_holdBy, 4, some .int, false)
theorem cbX1_gapOf : CWb yX1_gapOf cX1_gapOf 3 (some .int) 1 := ⟨(gt_in 57 (by decide +kernel) (by decide +kernel)), (gt_in 439 (by decide +kernel) (by decide +kernel)), by decide +kernel⟩
abbrev mX1_gapOf : am := (RX1, cX1_gapOf, 3, some .int, false)
theorem cbX1_cellOf : CWb yX1_cellOf cX1_cellOf 2 (some .int) 1 := ⟨(gt_in 57 (by decide +kernel) (by decide +kernel)), (gt_in 480 (by decide +kernel) (by decide +kernel)), by decide +kernel⟩
abbrev mX1_cellOf : am := (RX1, cX1_cellOf, 2, some .int, false)
theorem cbX1_strikesOf : CWb yX1_strikesOf cX1_strikesOf 3 (some .int) 1 := ⟨(gt_in 57 (by decide +kernel) (by decide +kernel)), (gt_in 432 (by decide +kernel) (by decide +kernel)), by decide +kernel⟩
abbrev mX1_strikesOf : am := (RX1, cX1_strikesOf, 3, some .int, false)
theorem cbX1_mendsOf : CWb yX1_mendsOf cX1_mendsOf 4 (some .int) 2 := ⟨(gt_in 57 (by decide +kernel) (by decide +kernel)), (gt_in 448 (by decide +kernel) (by decide +kernel)), by decide +kernel⟩
abbrev mX1_mendsOf : am := (RX1, cX1_mendsOf, 4, some .int, false)
theorem cbX1_getOut : CWb yX1_getOut cX1_getOut 4 (none) 2 := ⟨(gt_in 57 (by decide +kernel) (by decide +kernel)), (gt_in 500 (by decide +kernel) (by decide +kernel)), by decide +kernel⟩
abbrev mX1_getOut : am := (RX1, cX1_getOut, 4, none, false)
theorem cbX1_turnStraw : CWb yX1_turnStraw cX1_turnStraw 2 (none) 0 := ⟨(gt_in 57 (by decide +kernel) (by decide +kernel)), (gt_in 593 (by decide +kernel) (by decide +kernel)), by decide +kernel⟩
abbrev mX1_turnStraw : am := (RX1, cX1_turnStraw, 2, none, false)
theorem cbX1_allEars : CWb yX1_allEars cX1_allEars 1 (some .int) 0 := ⟨(gt_in 57 (by decide +kernel) (by decide +kernel)), (gt_in 541 (by decide +kernel) (by decide +kernel)), by decide +kernel⟩
abbrev mX1_allEars : am := (RX1, cX1_allEars, 1, some .int, false)
theorem cbX1_allWet : CWb yX1_allWet cX1_allWet 1 (some .int) 0 := ⟨(gt_in 57 (by decide +kernel) (by decide +kernel)), (gt_in 598 (by decide +kernel) (by decide +kernel)), by decide +kernel⟩
abbrev mX1_allWet : am := (RX1, cX1_allWet, 1, some .int, false)
theorem cbX1_sum : CWb yX1_sum cX1_sum 6 (some .int) 1 := ⟨(gt_in 57 (by decide +kernel) (by decide +kernel)), (gt_in 544 (by decide +kernel) (by decide +kernel)), by decide +kernel⟩
abbrev mX1_sum : am := (RX1, cX1_sum, 6, some .int, false)
theorem cbX2_init : CWb yX2_init cX2_init 1 (none) 0 := ⟨(gt_in 59 (by decide +kernel) (by decide +kernel)), (gt_in 167 (by decide +kernel) (by decide +kernel)), by decide +kernel⟩
abbrev mX2_init : am := (RX2, cX2_init, 1, none, true)
theorem cbX2_add : CWb yX2_add cX2_add 2 (some .boolean) 1 := ⟨(gt_in 59 (by decide +kernel) (by decide +kernel)), (gt_in 266 (by decide +kernel) (by decide +kernel)), by decide +kernel⟩
abbrev mX2_add : am := (RX2, cX2_add, 2, some .boolean, false)
theorem cbX2_empty : CWb yX2_empty cX2_empty 1 (none) 0 := ⟨(gt_in 59 (by decide +kernel) (by decide +kernel)), (gt_in 356 (by decide +kernel) (by decide +kernel)), by decide +kernel⟩
abbrev mX2_empty : am := (RX2, cX2_empty, 1, none, false)
theorem cbX2_readInto : CWb yX2_readInto cX2_readInto 3 (some .boolean) 1 := ⟨(gt_in 59 (by decide +kernel) (by decide +kernel)), (gt_in 270 (by decide +kernel) (by decide +kernel)), by decide +kernel⟩
abbrev mX2_readInto : am := (RX2, cX2_readInto, 3, some .boolean, false)
theorem cbX2_take : CWb yX2_take cX2_take 2 (some .boolean) 1 := ⟨(gt_in 59 (by decide +kernel) (by decide +kernel)), (gt_in 320 (by decide +kernel) (by decide +kernel)), by decide +kernel⟩
abbrev mX2_take : am := (RX2, cX2_take, 2, some .boolean, false)
theorem cbX2_next : CWb yX2_next cX2_next 1 (none) 0 := ⟨(gt_in 59 (by decide +kernel) (by decide +kernel)), (gt_in 278 (by decide +kernel) (by decide +kernel)), by decide +kernel⟩
abbrev mX2_next : am := (RX2, cX2_next, 1, none, false)
theorem cbX2_numberHere : CWb yX2_numberHere cX2_numberHere 1 (some .int) 0 := ⟨(gt_in 59 (by decide +kernel) (by decide +kernel)), (gt_in 285 (by decide +kernel) (by decide +kernel)), by decide +kernel⟩
abbrev mX2_numberHere : am := (RX2, cX2_numberHere, 1, some .int, false)
theorem cbX2_wordHere : CWb yX2_wordHere cX2_wordHere 2 (some .int) 0 := ⟨(gt_in 59 (by decide +kernel) (by decide +kernel)), (gt_in 292 (by decide +kernel) (by decide +kernel)), by decide +kernel⟩
abbrev mX2_wordHere : am := (RX2, cX2_wordHere, 2, some .int, false)
theorem cbX2_isHere : CWb yX2_isHere cX2_isHere 3 (some .boolean) 1 := ⟨(gt_in 59 (by decide +kernel) (by decide +kernel)), (gt_in 311 (by decide +kernel) (by decide +kernel)), by decide +kernel⟩
abbrev mX2_isHere : am := (RX2, cX2_isHere, 3, some .boolean, false)
theorem cbX2_word : CWb yX2_word cX2_word 1 (some (.object "java/lang/String")) 1 := ⟨(gt_in 59 (by decide +kernel) (by decide +kernel)), (gt_in 295 (by decide +kernel) (by decide +kernel)), by decide +kernel⟩
abbrev mX2_word : am := (RX2, cX2_word, 1, some (.object "java/lang/String"), false)
theorem cbX2_isDigit : CWb yX2_isDigit cX2_isDigit 1 (some .boolean) 1 := ⟨(gt_in 59 (by decide +kernel) (by decide +kernel)), (gt_in 281 (by decide +kernel) (by decide +kernel)), by decide +kernel⟩
abbrev mX2_isDigit : am := (RX2, cX2_isDigit, 1, some .boolean, false)
theorem cbX2_isSmall : CWb yX2_isSmall cX2_isSmall 1 (some .boolean) 1 := ⟨(gt_in 59 (by decide +kernel) (by decide +kernel)), (gt_in 288 (by decide +kernel) (by decide +kernel)), by decide +kernel⟩
abbrev mX2_isSmall : am := (RX2, cX2_isSmall, 1, some .boolean, false)
theorem cbX2_isSign : CWb yX2_isSign cX2_isSign 1 (some .boolean) 1 := ⟨(gt_in 59 (by decide +kernel) (by decide +kernel)), (gt_in 316 (by decide +kernel) (by decide +kernel)), by decide +kernel⟩
abbrev mX2_isSign : am := (RX2, cX2_isSign, 1, some .boolean, false)
theorem cbX2_either : CWb yX2_either cX2_either 4 (some .boolean) 1 := ⟨(gt_in 59 (by decide +kernel) (by decide +kernel)), (gt_in 324 (by decide +kernel) (by decide +kernel)), by decide +kernel⟩
abbrev mX2_either : am := (RX2, cX2_either, 4, some .boolean, false)
theorem cbX2_both : CWb yX2_both cX2_both 4 (some .boolean) 1 := ⟨(gt_in 59 (by decide +kernel) (by decide +kernel)), (gt_in 328 (by decide +kernel) (by decide +kernel)), by decide +kernel⟩
abbrev mX2_both : am := (RX2, cX2_both, 4, some .boolean, false)
theorem cbX2_denied : CWb yX2_denied cX2_denied 4 (some .boolean) 1 := ⟨(gt_in 59 (by decide +kernel) (by decide +kernel)), (gt_in 332 (by decide +kernel) (by decide +kernel)), by decide +kernel⟩
abbrev mX2_denied : am := (RX2, cX2_denied, 4, some .boolean, false)
theorem cbX2_sum : CWb yX2_sum cX2_sum 5 (some .boolean) 1 := ⟨(gt_in 59 (by decide +kernel) (by decide +kernel)), (gt_in 340 (by decide +kernel) (by decide +kernel)), by decide +kernel⟩
abbrev mX2_sum : am := (RX2, cX2_sum, 5, some .boolean, false)
theorem cbX2_term : CWb yX2_term cX2_term 4 (some .boolean) 1 := ⟨(gt_in 59 (by decide +kernel) (by decide +kernel)), (gt_in 344 (by decide +kernel) (by decide +kernel)), by decide +kernel⟩
abbrev mX2_term : am := (RX2, cX2_term, 4, some .boolean, false)
theorem cbX2_one : CWb yX2_one cX2_one 3 (some .boolean) 1 := ⟨(gt_in 59 (by decide +kernel) (by decide +kernel)), (gt_in 348 (by decide +kernel) (by decide +kernel)), by decide +kernel⟩
abbrev mX2_one : am := (RX2, cX2_one, 3, some .boolean, false)
theorem cbX3_init : CWb yX3_init cX3_init 3 (none) 2 := ⟨(gt_in 68 (by decide +kernel) (by decide +kernel)), (gt_in 664 (by decide +kernel) (by decide +kernel)), by decide +kernel⟩
abbrev mX3_init : am := (RX3, cX3_init, 3, none, true)
theorem cbX3_has : CWb yX3_has cX3_has 3 (some .boolean) 2 := ⟨(gt_in 68 (by decide +kernel) (by decide +kernel)), (gt_in 690 (by decide +kernel) (by decide +kernel)), by decide +kernel⟩
abbrev mX3_has : am := (RX3, cX3_has, 3, some .boolean, false)
theorem cbX3_put : CWb yX3_put cX3_put 3 (some .boolean) 2 := ⟨(gt_in 68 (by decide +kernel) (by decide +kernel)), (gt_in 682 (by decide +kernel) (by decide +kernel)), by decide +kernel⟩
abbrev mX3_put : am := (RX3, cX3_put, 3, some .boolean, false)
theorem cbX4_init : CWb yX4_init cX4_init 1 (none) 0 := ⟨(gt_in 60 (by decide +kernel) (by decide +kernel)), (gt_in 173 (by decide +kernel) (by decide +kernel)), by decide +kernel⟩
abbrev mX4_init : am := (RX4, cX4_init, 1, none, true)
theorem cbX4_clear : CWb yX4_clear cX4_clear 1 (none) 0 := ⟨(gt_in 60 (by decide +kernel) (by decide +kernel)), (gt_in 274 (by decide +kernel) (by decide +kernel)), by decide +kernel⟩
abbrev mX4_clear : am := (RX4, cX4_clear, 1, none, false)
theorem cbX4_put : CWb yX4_put cX4_put 2 (none) 1 := ⟨(gt_in 60 (by decide +kernel) (by decide +kernel)), (gt_in 336 (by decide +kernel) (by decide +kernel)), by decide +kernel⟩
abbrev mX4_put : am := (RX4, cX4_put, 2, none, false)
theorem cbX4_endPart : CWb yX4_endPart cX4_endPart 2 (none) 1 := ⟨(gt_in 60 (by decide +kernel) (by decide +kernel)), (gt_in 352 (by decide +kernel) (by decide +kernel)), by decide +kernel⟩
abbrev mX4_endPart : am := (RX4, cX4_endPart, 2, none, false)
theorem cbX4_tells : CWb yX4_tells cX4_tells 8 (some .int) 3 := ⟨(gt_in 60 (by decide +kernel) (by decide +kernel)), (gt_in 490 (by decide +kernel) (by decide +kernel)), by decide +kernel⟩
abbrev mX4_tells : am := (RX4, cX4_tells, 8, some .int, false)
theorem cbX4_joined : CWb yX4_joined cX4_joined 3 (some .int) 3 := ⟨(gt_in 60 (by decide +kernel) (by decide +kernel)), (gt_in 496 (by decide +kernel) (by decide +kernel)), by decide +kernel⟩
abbrev mX4_joined : am := (RX4, cX4_joined, 3, some .int, false)
theorem cbX5_init : CWb yX5_init cX5_init 2 (none) 0 := ⟨(gt_in 56 (by decide +kernel) (by decide +kernel)), (gt_in 73 (by decide +kernel) (by decide +kernel)), by decide +kernel⟩
abbrev mX5_init : am := (RX5, cX5_init, 2, none, true)
theorem cbX5_man : CWb yX5_man cX5_man 4 (some .int) 3 := ⟨(gt_in 56 (by decide +kernel) (by decide +kernel)), (gt_in 395 (by decide +kernel) (by decide +kernel)), by decide +kernel⟩
abbrev mX5_man : am := (RX5, cX5_man, 4, some .int, false)
theorem cbX5_set : CWb yX5_set cX5_set 4 (some .int) 3 := ⟨(gt_in 56 (by decide +kernel) (by decide +kernel)), (gt_in 409 (by decide +kernel) (by decide +kernel)), by decide +kernel⟩
abbrev mX5_set : am := (RX5, cX5_set, 4, some .int, false)
theorem cbX5_told : CWb yX5_told cX5_told 3 (some .int) 2 := ⟨(gt_in 56 (by decide +kernel) (by decide +kernel)), (gt_in 428 (by decide +kernel) (by decide +kernel)), by decide +kernel⟩
abbrev mX5_told : am := (RX5, cX5_told, 3, some .int, false)
theorem cbX5_mends : CWb yX5_mends cX5_mends 3 (some .int) 2 := ⟨(gt_in 56 (by decide +kernel) (by decide +kernel)), (gt_in 443 (by decide +kernel) (by decide +kernel)), by decide +kernel⟩
abbrev mX5_mends : am := (RX5, cX5_mends, 3, some .int, false)
theorem cbX5_feed : CWb yX5_feed cX5_feed 2 (some .int) 1 := ⟨(gt_in 56 (by decide +kernel) (by decide +kernel)), (gt_in 452 (by decide +kernel) (by decide +kernel)), by decide +kernel⟩
abbrev mX5_feed : am := (RX5, cX5_feed, 2, some .int, false)
theorem cbX5_text : CWb yX5_text cX5_text 2 (some .int) 0 := ⟨(gt_in 56 (by decide +kernel) (by decide +kernel)), (gt_in 456 (by decide +kernel) (by decide +kernel)), by decide +kernel⟩
abbrev mX5_text : am := (RX5, cX5_text, 2, some .int, false)
theorem cbX5_force : CWb yX5_force cX5_force 3 (some .int) 1 := ⟨(gt_in 56 (by decide +kernel) (by decide +kernel)), (gt_in 460 (by decide +kernel) (by decide +kernel)), by decide +kernel⟩
abbrev mX5_force : am := (RX5, cX5_force, 3, some .int, false)
theorem cbX5_round : CWb yX5_round cX5_round 2 (some .int) 0 := ⟨(gt_in 56 (by decide +kernel) (by decide +kernel)), (gt_in 464 (by decide +kernel) (by decide +kernel)), by decide +kernel⟩
abbrev mX5_round : am := (RX5, cX5_round, 2, some .int, false)
theorem cbX5_run : CWb yX5_run cX5_run 3 (some .int) 2 := ⟨(gt_in 56 (by decide +kernel) (by decide +kernel)), (gt_in 522 (by decide +kernel) (by decide +kernel)), by decide +kernel⟩
abbrev mX5_run : am := (RX5, cX5_run, 3, some .int, false)
theorem cbX5_beat : CWb yX5_beat cX5_beat 3 (some .int) 2 := ⟨(gt_in 56 (by decide +kernel) (by decide +kernel)), (gt_in 548 (by decide +kernel) (by decide +kernel)), by decide +kernel⟩
abbrev mX5_beat : am := (RX5, cX5_beat, 3, some .int, false)
theorem cbX5_holds : CWb yX5_holds cX5_holds 2 (some .int) 0 := ⟨(gt_in 56 (by decide +kernel) (by decide +kernel)), (gt_in 552 (by decide +kernel) (by decide +kernel)), by decide +kernel⟩
abbrev mX5_holds : am := (RX5, cX5_holds, 2, some .int, false)
theorem cbX5_bar : CWb yX5_bar cX5_bar 6 (some .int) 1 := ⟨(gt_in 56 (by decide +kernel) (by decide +kernel)), (gt_in 556 (by decide +kernel) (by decide +kernel)), by decide +kernel⟩
abbrev mX5_bar : am := (RX5, cX5_bar, 6, some .int, false)
theorem cbX5_order : CWb yX5_order cX5_order 3 (some .int) 1 := ⟨(gt_in 56 (by decide +kernel) (by decide +kernel)), (gt_in 560 (by decide +kernel) (by decide +kernel)), by decide +kernel⟩
abbrev mX5_order : am := (RX5, cX5_order, 3, some .int, false)
theorem cbX5_home : CWb yX5_home cX5_home 4 (some .int) 0 := ⟨(gt_in 56 (by decide +kernel) (by decide +kernel)), (gt_in 581 (by decide +kernel) (by decide +kernel)), by decide +kernel⟩
abbrev mX5_home : am := (RX5, cX5_home, 4, some .int, false)
theorem cbX5_turn : CWb yX5_turn cX5_turn 1 (some .int) 0 := ⟨(gt_in 56 (by decide +kernel) (by decide +kernel)), (gt_in 589 (by decide +kernel) (by decide +kernel)), by decide +kernel⟩
abbrev mX5_turn : am := (RX5, cX5_turn, 1, some .int, false)
theorem cbX5_when : CWb yX5_when cX5_when 5 (some .int) 0 := ⟨(gt_in 56 (by decide +kernel) (by decide +kernel)), (gt_in 602 (by decide +kernel) (by decide +kernel)), by decide +kernel⟩
abbrev mX5_when : am := (RX5, cX5_when, 5, some .int, false)
theorem cbX5_stop : CWb yX5_stop cX5_stop 4 (some .int) 1 := ⟨(gt_in 56 (by decide +kernel) (by decide +kernel)), (gt_in 610 (by decide +kernel) (by decide +kernel)), by decide +kernel⟩
abbrev mX5_stop : am := (RX5, cX5_stop, 4, some .int, false)
theorem cbX5_fewest : CWb yX5_fewest cX5_fewest 3 (some .int) 1 := ⟨(gt_in 56 (by decide +kernel) (by decide +kernel)), (gt_in 615 (by decide +kernel) (by decide +kernel)), by decide +kernel⟩
abbrev mX5_fewest : am := (RX5, cX5_fewest, 3, some .int, false)
theorem cbX5_judge : CWb yX5_judge cX5_judge 5 (some .int) 2 := ⟨(gt_in 56 (by decide +kernel) (by decide +kernel)), (gt_in 620 (by decide +kernel) (by decide +kernel)), by decide +kernel⟩
abbrev mX5_judge : am := (RX5, cX5_judge, 5, some .int, false)
theorem cbX5_slow : CWb yX5_slow cX5_slow 3 (some .int) 1 := ⟨(gt_in 56 (by decide +kernel) (by decide +kernel)), (gt_in 627 (by decide +kernel) (by decide +kernel)), by decide +kernel⟩
abbrev mX5_slow : am := (RX5, cX5_slow, 3, some .int, false)
theorem cbX5_drawn : CWb yX5_drawn cX5_drawn 3 (some .int) 2 := ⟨(gt_in 56 (by decide +kernel) (by decide +kernel)), (gt_in 631 (by decide +kernel) (by decide +kernel)), by decide +kernel⟩
abbrev mX5_drawn : am := (RX5, cX5_drawn, 3, some .int, false)
theorem cbX5_once : CWb yX5_once cX5_once 3 (some .long) 2 := ⟨(gt_in 56 (by decide +kernel) (by decide +kernel)), (gt_in 639 (by decide +kernel) (by decide +kernel)), by decide +kernel⟩
abbrev mX5_once : am := (RX5, cX5_once, 3, some .long, false)
theorem cbX5_image : CWb yX5_image cX5_image 1 (some .int) 0 := ⟨(gt_in 56 (by decide +kernel) (by decide +kernel)), (gt_in 648 (by decide +kernel) (by decide +kernel)), by decide +kernel⟩
abbrev mX5_image : am := (RX5, cX5_image, 1, some .int, false)
theorem cbX5_back : CWb yX5_back cX5_back 1 (some .int) 0 := ⟨(gt_in 56 (by decide +kernel) (by decide +kernel)), (gt_in 652 (by decide +kernel) (by decide +kernel)), by decide +kernel⟩
abbrev mX5_back : am := (RX5, cX5_back, 1, some .int, false)
theorem cbX5_count : CWb yX5_count cX5_count 2 (some .int) 1 := ⟨(gt_in 56 (by decide +kernel) (by decide +kernel)), (gt_in 656 (by decide +kernel) (by decide +kernel)), by decide +kernel⟩
abbrev mX5_count : am := (RX5, cX5_count, 2, some .int, false)
theorem cbX5_sheet : CWb yX5_sheet cX5_sheet 4 (some .int) 3 := ⟨(gt_in 56 (by decide +kernel) (by decide +kernel)), (gt_in 660 (by decide +kernel) (by decide +kernel)), by decide +kernel⟩
abbrev mX5_sheet : am := (RX5, cX5_sheet, 4, some .int, false)
theorem cbX5_cell : CWb yX5_cell cX5_cell 5 (some .int) 3 := ⟨(gt_in 56 (by decide +kernel) (by decide +kernel)), (gt_in 678 (by decide +kernel) (by decide +kernel)), by decide +kernel⟩
abbrev mX5_cell : am := (RX5, cX5_cell, 5, some .int, false)
theorem cbX5_copy : CWb yX5_copy cX5_copy 8 (some .int) 5 := ⟨(gt_in 56 (by decide +kernel) (by decide +kernel)), (gt_in 686 (by decide +kernel) (by decide +kernel)), by decide +kernel⟩
abbrev mX5_copy : am := (RX5, cX5_copy, 8, some .int, false)
theorem cbX5_men : CWb yX5_men cX5_men 9 (some .int) 4 := ⟨(gt_in 56 (by decide +kernel) (by decide +kernel)), (gt_in 694 (by decide +kernel) (by decide +kernel)), by decide +kernel⟩
abbrev mX5_men : am := (RX5, cX5_men, 9, some .int, false)
theorem cbX5_taken : CWb yX5_taken cX5_taken 3 (some .int) 2 := ⟨(gt_in 56 (by decide +kernel) (by decide +kernel)), (gt_in 699 (by decide +kernel) (by decide +kernel)), by decide +kernel⟩
abbrev mX5_taken : am := (RX5, cX5_taken, 3, some .int, false)
theorem cbX5_within : CWb yX5_within cX5_within 2 (some .boolean) 2 := ⟨(gt_in 56 (by decide +kernel) (by decide +kernel)), (gt_in 398 (by decide +kernel) (by decide +kernel)), by decide +kernel⟩
abbrev mX5_within : am := (RX5, cX5_within, 2, some .boolean, false)
theorem cbX5_isCell : CWb yX5_isCell cX5_isCell 1 (some .boolean) 1 := ⟨(gt_in 56 (by decide +kernel) (by decide +kernel)), (gt_in 412 (by decide +kernel) (by decide +kernel)), by decide +kernel⟩
abbrev mX5_isCell : am := (RX5, cX5_isCell, 1, some .boolean, false)
theorem cbX5_isMan : CWb yX5_isMan cX5_isMan 2 (some .boolean) 1 := ⟨(gt_in 56 (by decide +kernel) (by decide +kernel)), (gt_in 419 (by decide +kernel) (by decide +kernel)), by decide +kernel⟩
abbrev mX5_isMan : am := (RX5, cX5_isMan, 2, some .boolean, false)
theorem cbX5_isSheet : CWb yX5_isSheet cX5_isSheet 1 (some .boolean) 1 := ⟨(gt_in 56 (by decide +kernel) (by decide +kernel)), (gt_in 623 (by decide +kernel) (by decide +kernel)), by decide +kernel⟩
abbrev mX5_isSheet : am := (RX5, cX5_isSheet, 1, some .boolean, false)
theorem cbX5_bounded : CWb yX5_bounded cX5_bounded 3 (some .int) 3 := ⟨(gt_in 56 (by decide +kernel) (by decide +kernel)), (gt_in 503 (by decide +kernel) (by decide +kernel)), by decide +kernel⟩
abbrev mX5_bounded : am := (RX5, cX5_bounded, 3, some .int, false)
theorem cbX5_exchange : CWb yX5_exchange cX5_exchange 4 (some .int) 3 := ⟨(gt_in 56 (by decide +kernel) (by decide +kernel)), (gt_in 415 (by decide +kernel) (by decide +kernel)), by decide +kernel⟩
abbrev mX5_exchange : am := (RX5, cX5_exchange, 4, some .int, false)
theorem cbX5_held : CWb yX5_held cX5_held 3 (some .int) 2 := ⟨(gt_in 56 (by decide +kernel) (by decide +kernel)), (gt_in 405 (by decide +kernel) (by decide +kernel)), by decide +kernel⟩
abbrev mX5_held : am := (RX5, cX5_held, 3, some .int, false)
theorem cbX5_isUnder : CWb yX5_isUnder cX5_isUnder 4 (some .boolean) 2 := ⟨(gt_in 56 (by decide +kernel) (by decide +kernel)), (gt_in 702 (by decide +kernel) (by decide +kernel)), by decide +kernel⟩
abbrev mX5_isUnder : am := (RX5, cX5_isUnder, 4, some .boolean, false)
theorem cbX5_beginTrial : CWb yX5_beginTrial cX5_beginTrial 1 (none) 0 := ⟨(gt_in 56 (by decide +kernel) (by decide +kernel)), (gt_in 526 (by decide +kernel) (by decide +kernel)), by decide +kernel⟩
abbrev mX5_beginTrial : am := (RX5, cX5_beginTrial, 1, none, false)
theorem cbX5_tryRounds : CWb yX5_tryRounds cX5_tryRounds 4 (none) 1 := ⟨(gt_in 56 (by decide +kernel) (by decide +kernel)), (gt_in 537 (by decide +kernel) (by decide +kernel)), by decide +kernel⟩
abbrev mX5_tryRounds : am := (RX5, cX5_tryRounds, 4, none, false)
theorem cbX5_outTurnedAhead : CWb yX5_outTurnedAhead cX5_outTurnedAhead 3 (some .int) 1 := ⟨(gt_in 56 (by decide +kernel) (by decide +kernel)), (gt_in 606 (by decide +kernel) (by decide +kernel)), by decide +kernel⟩
abbrev mX5_outTurnedAhead : am := (RX5, cX5_outTurnedAhead, 3, some .int, false)
theorem cbX5_seekOrder : CWb yX5_seekOrder cX5_seekOrder 6 (some .int) 0 := ⟨(gt_in 56 (by decide +kernel) (by decide +kernel)), (gt_in 564 (by decide +kernel) (by decide +kernel)), by decide +kernel⟩
abbrev mX5_seekOrder : am := (RX5, cX5_seekOrder, 6, some .int, false)
theorem cbX5_nextRow : CWb yX5_nextRow cX5_nextRow 6 (some .boolean) 1 := ⟨(gt_in 56 (by decide +kernel) (by decide +kernel)), (gt_in 577 (by decide +kernel) (by decide +kernel)), by decide +kernel⟩
abbrev mX5_nextRow : am := (RX5, cX5_nextRow, 6, some .boolean, false)
theorem cbX6_in : CWb yX6_in cX6_in 6 (some .boolean) 3 := ⟨(gt_in 65 (by decide +kernel) (by decide +kernel)), (gt_in 915 (by decide +kernel) (by decide +kernel)), by decide +kernel⟩
abbrev mX6_in : am := (RX6, cX6_in, 6, some .boolean, false)
theorem cbX6_within : CWb yX6_within cX6_within 3 (some .int) 3 := ⟨(gt_in 65 (by decide +kernel) (by decide +kernel)), (gt_in 1066 (by decide +kernel) (by decide +kernel)), by decide +kernel⟩
abbrev mX6_within : am := (RX6, cX6_within, 3, some .int, false)
theorem cbX6_init : CWb yX6_init cX6_init 2 (none) 0 := ⟨(gt_in 65 (by decide +kernel) (by decide +kernel)), (gt_in 709 (by decide +kernel) (by decide +kernel)), by decide +kernel⟩
abbrev mX6_init : am := (RX6, cX6_init, 2, none, true)
theorem cbX6_spell : CWb yX6_spell cX6_spell 10 (none) 9 := ⟨(gt_in 65 (by decide +kernel) (by decide +kernel)), (gt_in 714 (by decide +kernel) (by decide +kernel)), by decide +kernel⟩
abbrev mX6_spell : am := (RX6, cX6_spell, 10, none, false)
theorem cbX6_isMan : CWb yX6_isMan cX6_isMan 2 (some .boolean) 1 := ⟨(gt_in 65 (by decide +kernel) (by decide +kernel)), (gt_in 931 (by decide +kernel) (by decide +kernel)), by decide +kernel⟩
abbrev mX6_isMan : am := (RX6, cX6_isMan, 2, some .boolean, false)
theorem cbX6_isCell : CWb yX6_isCell cX6_isCell 1 (some .boolean) 1 := ⟨(gt_in 65 (by decide +kernel) (by decide +kernel)), (gt_in 924 (by decide +kernel) (by decide +kernel)), by decide +kernel⟩
abbrev mX6_isCell : am := (RX6, cX6_isCell, 1, some .boolean, false)
theorem cbX6_man : CWb yX6_man cX6_man 4 (some .int) 3 := ⟨(gt_in 65 (by decide +kernel) (by decide +kernel)), (gt_in 911 (by decide +kernel) (by decide +kernel)), by decide +kernel⟩
abbrev mX6_man : am := (RX6, cX6_man, 4, some .int, false)
theorem cbX6_bars : CWb yX6_bars cX6_bars 3 (none) 1 := ⟨(gt_in 65 (by decide +kernel) (by decide +kernel)), (gt_in 952 (by decide +kernel) (by decide +kernel)), by decide +kernel⟩
abbrev mX6_bars : am := (RX6, cX6_bars, 3, none, false)
theorem cbX6_set : CWb yX6_set cX6_set 5 (some .int) 3 := ⟨(gt_in 65 (by decide +kernel) (by decide +kernel)), (gt_in 921 (by decide +kernel) (by decide +kernel)), by decide +kernel⟩
abbrev mX6_set : am := (RX6, cX6_set, 5, some .int, false)
theorem cbX6_strikes : CWb yX6_strikes cX6_strikes 5 (some .int) 1 := ⟨(gt_in 65 (by decide +kernel) (by decide +kernel)), (gt_in 944 (by decide +kernel) (by decide +kernel)), by decide +kernel⟩
abbrev mX6_strikes : am := (RX6, cX6_strikes, 5, some .int, false)
theorem cbX6_mended : CWb yX6_mended cX6_mended 5 (some .int) 2 := ⟨(gt_in 65 (by decide +kernel) (by decide +kernel)), (gt_in 962 (by decide +kernel) (by decide +kernel)), by decide +kernel⟩
abbrev mX6_mended : am := (RX6, cX6_mended, 5, some .int, false)
theorem cbX6_gapOf : CWb yX6_gapOf cX6_gapOf 3 (some .int) 1 := ⟨(gt_in 65 (by decide +kernel) (by decide +kernel)), (gt_in 948 (by decide +kernel) (by decide +kernel)), by decide +kernel⟩
abbrev mX6_gapOf : am := (RX6, cX6_gapOf, 3, some .int, false)
theorem cbX6_told : CWb yX6_told cX6_told 3 (some .int) 2 := ⟨(gt_in 65 (by decide +kernel) (by decide +kernel)), (gt_in 939 (by decide +kernel) (by decide +kernel)), by decide +kernel⟩
abbrev mX6_told : am := (RX6, cX6_told, 3, some .int, false)
theorem cbX6_mends : CWb yX6_mends cX6_mends 3 (some .int) 2 := ⟨(gt_in 65 (by decide +kernel) (by decide +kernel)), (gt_in 957 (by decide +kernel) (by decide +kernel)), by decide +kernel⟩
abbrev mX6_mends : am := (RX6, cX6_mends, 3, some .int, false)
theorem cbX6_feed : CWb yX6_feed cX6_feed 2 (some .int) 1 := ⟨(gt_in 65 (by decide +kernel) (by decide +kernel)), (gt_in 967 (by decide +kernel) (by decide +kernel)), by decide +kernel⟩
abbrev mX6_feed : am := (RX6, cX6_feed, 2, some .int, false)
theorem cbX6_byteAt : CWb yX6_byteAt cX6_byteAt 2 (some .int) 1 := ⟨(gt_in 65 (by decide +kernel) (by decide +kernel)), (gt_in 984 (by decide +kernel) (by decide +kernel)), by decide +kernel⟩
abbrev mX6_byteAt : am := (RX6, cX6_byteAt, 2, some .int, false)
theorem cbX6_next : CWb yX6_next cX6_next 3 (none) 0 := ⟨(gt_in 65 (by decide +kernel) (by decide +kernel)), (gt_in 980 (by decide +kernel) (by decide +kernel)), by decide +kernel⟩
abbrev mX6_next : am := (RX6, cX6_next, 3, none, false)
theorem cbX6_fail : CWb yX6_fail cX6_fail 1 (none) 0 := ⟨(gt_in 65 (by decide +kernel) (by decide +kernel)), (gt_in 1005 (by decide +kernel) (by decide +kernel)), by decide +kernel⟩
abbrev mX6_fail : am := (RX6, cX6_fail, 1, none, false)
theorem cbX6_isLetter : CWb yX6_isLetter cX6_isLetter 3 (some .boolean) 2 := ⟨(gt_in 65 (by decide +kernel) (by decide +kernel)), (gt_in 997 (by decide +kernel) (by decide +kernel)), by decide +kernel⟩
abbrev mX6_isLetter : am := (RX6, cX6_isLetter, 3, some .boolean, false)
theorem cbX6_isWord : CWb yX6_isWord cX6_isWord 9 (some .boolean) 8 := ⟨(gt_in 65 (by decide +kernel) (by decide +kernel)), (gt_in 993 (by decide +kernel) (by decide +kernel)), by decide +kernel⟩
abbrev mX6_isWord : am := (RX6, cX6_isWord, 9, some .boolean, false)
theorem cbX6_isSign : CWb yX6_isSign cX6_isSign 2 (some .boolean) 1 := ⟨(gt_in 65 (by decide +kernel) (by decide +kernel)), (gt_in 1037 (by decide +kernel) (by decide +kernel)), by decide +kernel⟩
abbrev mX6_isSign : am := (RX6, cX6_isSign, 2, some .boolean, false)
theorem cbX6_opens : CWb yX6_opens cX6_opens 1 (some .boolean) 0 := ⟨(gt_in 65 (by decide +kernel) (by decide +kernel)), (gt_in 1021 (by decide +kernel) (by decide +kernel)), by decide +kernel⟩
abbrev mX6_opens : am := (RX6, cX6_opens, 1, some .boolean, false)
theorem cbX6_name : CWb yX6_name cX6_name 1 (some .int) 0 := ⟨(gt_in 65 (by decide +kernel) (by decide +kernel)), (gt_in 1041 (by decide +kernel) (by decide +kernel)), by decide +kernel⟩
abbrev mX6_name : am := (RX6, cX6_name, 1, some .int, false)
theorem cbX6_atom : CWb yX6_atom cX6_atom 2 (some .int) 0 := ⟨(gt_in 65 (by decide +kernel) (by decide +kernel)), (gt_in 1033 (by decide +kernel) (by decide +kernel)), by decide +kernel⟩
abbrev mX6_atom : am := (RX6, cX6_atom, 2, some .int, false)
theorem cbX6_term : CWb yX6_term cX6_term 2 (some .int) 0 := ⟨(gt_in 65 (by decide +kernel) (by decide +kernel)), (gt_in 1029 (by decide +kernel) (by decide +kernel)), by decide +kernel⟩
abbrev mX6_term : am := (RX6, cX6_term, 2, some .int, false)
theorem cbX6_added : CWb yX6_added cX6_added 4 (some .int) 0 := ⟨(gt_in 65 (by decide +kernel) (by decide +kernel)), (gt_in 1025 (by decide +kernel) (by decide +kernel)), by decide +kernel⟩
abbrev mX6_added : am := (RX6, cX6_added, 4, some .int, false)
theorem cbX6_not : CWb yX6_not cX6_not 4 (some .int) 0 := ⟨(gt_in 65 (by decide +kernel) (by decide +kernel)), (gt_in 1017 (by decide +kernel) (by decide +kernel)), by decide +kernel⟩
abbrev mX6_not : am := (RX6, cX6_not, 4, some .int, false)
theorem cbX6_both : CWb yX6_both cX6_both 3 (some .int) 0 := ⟨(gt_in 65 (by decide +kernel) (by decide +kernel)), (gt_in 1013 (by decide +kernel) (by decide +kernel)), by decide +kernel⟩
abbrev mX6_both : am := (RX6, cX6_both, 3, some .int, false)
theorem cbX6_either : CWb yX6_either cX6_either 3 (some .int) 0 := ⟨(gt_in 65 (by decide +kernel) (by decide +kernel)), (gt_in 1009 (by decide +kernel) (by decide +kernel)), by decide +kernel⟩
abbrev mX6_either : am := (RX6, cX6_either, 3, some .int, false)
theorem cbX6_part : CWb yX6_part cX6_part 3 (some .int) 1 := ⟨(gt_in 65 (by decide +kernel) (by decide +kernel)), (gt_in 1001 (by decide +kernel) (by decide +kernel)), by decide +kernel⟩
abbrev mX6_part : am := (RX6, cX6_part, 3, some .int, false)
theorem cbX6_read : CWb yX6_read cX6_read 6 (some .int) 2 := ⟨(gt_in 65 (by decide +kernel) (by decide +kernel)), (gt_in 976 (by decide +kernel) (by decide +kernel)), by decide +kernel⟩
abbrev mX6_read : am := (RX6, cX6_read, 6, some .int, false)
theorem cbX6_text : CWb yX6_text cX6_text 2 (some .int) 0 := ⟨(gt_in 65 (by decide +kernel) (by decide +kernel)), (gt_in 972 (by decide +kernel) (by decide +kernel)), by decide +kernel⟩
abbrev mX6_text : am := (RX6, cX6_text, 2, some .int, false)
theorem cbX6_force : CWb yX6_force cX6_force 3 (some .int) 1 := ⟨(gt_in 65 (by decide +kernel) (by decide +kernel)), (gt_in 1047 (by decide +kernel) (by decide +kernel)), by decide +kernel⟩
abbrev mX6_force : am := (RX6, cX6_force, 3, some .int, false)
theorem cbX6_says : CWb yX6_says cX6_says 4 (none) 3 := ⟨(gt_in 65 (by decide +kernel) (by decide +kernel)), (gt_in 1063 (by decide +kernel) (by decide +kernel)), by decide +kernel⟩
abbrev mX6_says : am := (RX6, cX6_says, 4, none, false)
theorem cbX6_strikesOnce : CWb yX6_strikesOnce cX6_strikesOnce 6 (none) 2 := ⟨(gt_in 65 (by decide +kernel) (by decide +kernel)), (gt_in 1059 (by decide +kernel) (by decide +kernel)), by decide +kernel⟩
abbrev mX6_strikesOnce : am := (RX6, cX6_strikesOnce, 6, none, false)
theorem cbX6_goes : CWb yX6_goes cX6_goes 2 (none) 0 := ⟨(gt_in 65 (by decide +kernel) (by decide +kernel)), (gt_in 1055 (by decide +kernel) (by decide +kernel)), by decide +kernel⟩
abbrev mX6_goes : am := (RX6, cX6_goes, 2, none, false)
theorem cbX6_round : CWb yX6_round cX6_round 2 (some .int) 0 := ⟨(gt_in 65 (by decide +kernel) (by decide +kernel)), (gt_in 1051 (by decide +kernel) (by decide +kernel)), by decide +kernel⟩
abbrev mX6_round : am := (RX6, cX6_round, 2, some .int, false)
theorem cbX6_laysAside : CWb yX6_laysAside cX6_laysAside 2 (none) 0 := ⟨(gt_in 65 (by decide +kernel) (by decide +kernel)), (gt_in 1076 (by decide +kernel) (by decide +kernel)), by decide +kernel⟩
abbrev mX6_laysAside : am := (RX6, cX6_laysAside, 2, none, false)
theorem cbX6_laysBack : CWb yX6_laysBack cX6_laysBack 2 (none) 0 := ⟨(gt_in 65 (by decide +kernel) (by decide +kernel)), (gt_in 1088 (by decide +kernel) (by decide +kernel)), by decide +kernel⟩
abbrev mX6_laysBack : am := (RX6, cX6_laysBack, 2, none, false)
theorem cbX6_comes : CWb yX6_comes cX6_comes 3 (none) 2 := ⟨(gt_in 65 (by decide +kernel) (by decide +kernel)), (gt_in 1092 (by decide +kernel) (by decide +kernel)), by decide +kernel⟩
abbrev mX6_comes : am := (RX6, cX6_comes, 3, none, false)
theorem cbX6_goesOn : CWb yX6_goesOn cX6_goesOn 3 (none) 1 := ⟨(gt_in 65 (by decide +kernel) (by decide +kernel)), (gt_in 1080 (by decide +kernel) (by decide +kernel)), by decide +kernel⟩
abbrev mX6_goesOn : am := (RX6, cX6_goesOn, 3, none, false)
theorem cbX6_left : CWb yX6_left cX6_left 3 (some .int) 0 := ⟨(gt_in 65 (by decide +kernel) (by decide +kernel)), (gt_in 1084 (by decide +kernel) (by decide +kernel)), by decide +kernel⟩
abbrev mX6_left : am := (RX6, cX6_left, 3, some .int, false)
theorem cbX6_run : CWb yX6_run cX6_run 4 (some .int) 2 := ⟨(gt_in 65 (by decide +kernel) (by decide +kernel)), (gt_in 1070 (by decide +kernel) (by decide +kernel)), by decide +kernel⟩
abbrev mX6_run : am := (RX6, cX6_run, 4, some .int, false)
theorem cbX6_beat : CWb yX6_beat cX6_beat 4 (some .int) 2 := ⟨(gt_in 65 (by decide +kernel) (by decide +kernel)), (gt_in 1096 (by decide +kernel) (by decide +kernel)), by decide +kernel⟩
abbrev mX6_beat : am := (RX6, cX6_beat, 4, some .int, false)
theorem cbX6_holds : CWb yX6_holds cX6_holds 3 (some .int) 0 := ⟨(gt_in 65 (by decide +kernel) (by decide +kernel)), (gt_in 1100 (by decide +kernel) (by decide +kernel)), by decide +kernel⟩
abbrev mX6_holds : am := (RX6, cX6_holds, 3, some .int, false)
theorem cbX6_bar : CWb yX6_bar cX6_bar 6 (some .int) 1 := ⟨(gt_in 65 (by decide +kernel) (by decide +kernel)), (gt_in 1104 (by decide +kernel) (by decide +kernel)), by decide +kernel⟩
abbrev mX6_bar : am := (RX6, cX6_bar, 6, some .int, false)
theorem cbX6_orders : CWb yX6_orders cX6_orders 6 (none) 3 := ⟨(gt_in 65 (by decide +kernel) (by decide +kernel)), (gt_in 1114 (by decide +kernel) (by decide +kernel)), by decide +kernel⟩
abbrev mX6_orders : am := (RX6, cX6_orders, 6, none, false)
theorem cbX6_stand : CWb yX6_stand cX6_stand 4 (none) 1 := ⟨(gt_in 65 (by decide +kernel) (by decide +kernel)), (gt_in 1118 (by decide +kernel) (by decide +kernel)), by decide +kernel⟩
abbrev mX6_stand : am := (RX6, cX6_stand, 4, none, false)
theorem cbX6_order : CWb yX6_order cX6_order 4 (some .int) 1 := ⟨(gt_in 65 (by decide +kernel) (by decide +kernel)), (gt_in 1109 (by decide +kernel) (by decide +kernel)), by decide +kernel⟩
abbrev mX6_order : am := (RX6, cX6_order, 4, some .int, false)
theorem cbX6_home : CWb yX6_home cX6_home 6 (some .int) 0 := ⟨(gt_in 65 (by decide +kernel) (by decide +kernel)), (gt_in 1122 (by decide +kernel) (by decide +kernel)), by decide +kernel⟩
abbrev mX6_home : am := (RX6, cX6_home, 6, some .int, false)
theorem cbX6_turns : CWb yX6_turns cX6_turns 3 (none) 0 := ⟨(gt_in 65 (by decide +kernel) (by decide +kernel)), (gt_in 1130 (by decide +kernel) (by decide +kernel)), by decide +kernel⟩
abbrev mX6_turns : am := (RX6, cX6_turns, 3, none, false)
theorem cbX6_turn : CWb yX6_turn cX6_turn 3 (some .int) 0 := ⟨(gt_in 65 (by decide +kernel) (by decide +kernel)), (gt_in 1126 (by decide +kernel) (by decide +kernel)), by decide +kernel⟩
abbrev mX6_turn : am := (RX6, cX6_turn, 3, some .int, false)
theorem cbX6_when : CWb yX6_when cX6_when 5 (some .int) 0 := ⟨(gt_in 65 (by decide +kernel) (by decide +kernel)), (gt_in 1134 (by decide +kernel) (by decide +kernel)), by decide +kernel⟩
abbrev mX6_when : am := (RX6, cX6_when, 5, some .int, false)
theorem cbX6_stop : CWb yX6_stop cX6_stop 5 (some .int) 1 := ⟨(gt_in 65 (by decide +kernel) (by decide +kernel)), (gt_in 1138 (by decide +kernel) (by decide +kernel)), by decide +kernel⟩
abbrev mX6_stop : am := (RX6, cX6_stop, 5, some .int, false)
theorem cbX6_fewest : CWb yX6_fewest cX6_fewest 4 (some .int) 1 := ⟨(gt_in 65 (by decide +kernel) (by decide +kernel)), (gt_in 1143 (by decide +kernel) (by decide +kernel)), by decide +kernel⟩
abbrev mX6_fewest : am := (RX6, cX6_fewest, 4, some .int, false)
theorem cbX6_judge : CWb yX6_judge cX6_judge 5 (some .int) 2 := ⟨(gt_in 65 (by decide +kernel) (by decide +kernel)), (gt_in 1148 (by decide +kernel) (by decide +kernel)), by decide +kernel⟩
abbrev mX6_judge : am := (RX6, cX6_judge, 5, some .int, false)
theorem cbX6_slow : CWb yX6_slow cX6_slow 4 (some .int) 1 := ⟨(gt_in 65 (by decide +kernel) (by decide +kernel)), (gt_in 1155 (by decide +kernel) (by decide +kernel)), by decide +kernel⟩
abbrev mX6_slow : am := (RX6, cX6_slow, 4, some .int, false)
theorem cbX6_drawn : CWb yX6_drawn cX6_drawn 6 (some .int) 2 := ⟨(gt_in 65 (by decide +kernel) (by decide +kernel)), (gt_in 1159 (by decide +kernel) (by decide +kernel)), by decide +kernel⟩
abbrev mX6_drawn : am := (RX6, cX6_drawn, 6, some .int, false)
theorem cbX6_once : CWb yX6_once cX6_once 5 (some .long) 2 := ⟨(gt_in 65 (by decide +kernel) (by decide +kernel)), (gt_in 1164 (by decide +kernel) (by decide +kernel)), by decide +kernel⟩
abbrev mX6_once : am := (RX6, cX6_once, 5, some .long, false)
theorem cbX6_image : CWb yX6_image cX6_image 2 (some .int) 0 := ⟨(gt_in 65 (by decide +kernel) (by decide +kernel)), (gt_in 1169 (by decide +kernel) (by decide +kernel)), by decide +kernel⟩
abbrev mX6_image : am := (RX6, cX6_image, 2, some .int, false)
theorem cbX6_back : CWb yX6_back cX6_back 2 (some .int) 0 := ⟨(gt_in 65 (by decide +kernel) (by decide +kernel)), (gt_in 1173 (by decide +kernel) (by decide +kernel)), by decide +kernel⟩
abbrev mX6_back : am := (RX6, cX6_back, 2, some .int, false)
theorem cbX6_count : CWb yX6_count cX6_count 2 (some .int) 1 := ⟨(gt_in 65 (by decide +kernel) (by decide +kernel)), (gt_in 1177 (by decide +kernel) (by decide +kernel)), by decide +kernel⟩
abbrev mX6_count : am := (RX6, cX6_count, 2, some .int, false)
theorem cbX6_isSheet : CWb yX6_isSheet cX6_isSheet 1 (some .boolean) 1 := ⟨(gt_in 65 (by decide +kernel) (by decide +kernel)), (gt_in 1151 (by decide +kernel) (by decide +kernel)), by decide +kernel⟩
abbrev mX6_isSheet : am := (RX6, cX6_isSheet, 1, some .boolean, false)
theorem cbX6_sheet : CWb yX6_sheet cX6_sheet 5 (some .int) 3 := ⟨(gt_in 65 (by decide +kernel) (by decide +kernel)), (gt_in 1182 (by decide +kernel) (by decide +kernel)), by decide +kernel⟩
abbrev mX6_sheet : am := (RX6, cX6_sheet, 5, some .int, false)
theorem cbX6_cell : CWb yX6_cell cX6_cell 4 (some .int) 3 := ⟨(gt_in 65 (by decide +kernel) (by decide +kernel)), (gt_in 1186 (by decide +kernel) (by decide +kernel)), by decide +kernel⟩
abbrev mX6_cell : am := (RX6, cX6_cell, 4, some .int, false)
theorem cbX6_copy : CWb yX6_copy cX6_copy 9 (some .int) 5 := ⟨(gt_in 65 (by decide +kernel) (by decide +kernel)), (gt_in 1190 (by decide +kernel) (by decide +kernel)), by decide +kernel⟩
abbrev mX6_copy : am := (RX6, cX6_copy, 9, some .int, false)
theorem cbX6_men : CWb yX6_men cX6_men 8 (some .int) 4 := ⟨(gt_in 65 (by decide +kernel) (by decide +kernel)), (gt_in 1194 (by decide +kernel) (by decide +kernel)), by decide +kernel⟩
abbrev mX6_men : am := (RX6, cX6_men, 8, some .int, false)
theorem cbX6_over : CWb yX6_over cX6_over 1 (some .int) 1 := ⟨(gt_in 65 (by decide +kernel) (by decide +kernel)), (gt_in 1202 (by decide +kernel) (by decide +kernel)), by decide +kernel⟩
abbrev mX6_over : am := (RX6, cX6_over, 1, some .int, false)
theorem cbX6_taken : CWb yX6_taken cX6_taken 4 (some .int) 2 := ⟨(gt_in 65 (by decide +kernel) (by decide +kernel)), (gt_in 1199 (by decide +kernel) (by decide +kernel)), by decide +kernel⟩
abbrev mX6_taken : am := (RX6, cX6_taken, 4, some .int, false)
theorem cwL_9 : CWi "FourFlailsLaw" 9 yX5_init := ⟨(gt_in 71 (by decide +kernel) (by decide +kernel)), (gt_in 72 (by decide +kernel) (by decide +kernel)), rfl⟩
theorem oiX5_1 : OI "FourFlails" 1 := ⟨(gt_in 74 (by decide +kernel) (by decide +kernel)), (gt_in 75 (by decide +kernel) (by decide +kernel)), (gt_in 76 (by decide +kernel) (by decide +kernel))⟩
theorem cwX5_9 : CWi "FourFlails" 9 yX1_init := ⟨(gt_in 79 (by decide +kernel) (by decide +kernel)), (gt_in 80 (by decide +kernel) (by decide +kernel)), rfl⟩
theorem oiX1_3 : OI "FourFlails$Floor" 3 := ⟨(gt_in 82 (by decide +kernel) (by decide +kernel)), (gt_in 75 (by decide +kernel) (by decide +kernel)), (gt_in 76 (by decide +kernel) (by decide +kernel))⟩
theorem cwX5_28 : CWni "FourFlails" 28 yX0_init := ⟨⟨"FourFlails", by decide +kernel⟩, (gt_in 139 (by decide +kernel) (by decide +kernel)), rfl⟩
theorem oiX0_3 : OI "FourFlails$Flailing" 3 := ⟨(gt_in 141 (by decide +kernel) (by decide +kernel)), (gt_in 75 (by decide +kernel) (by decide +kernel)), (gt_in 76 (by decide +kernel) (by decide +kernel))⟩
theorem cwX5_35 : CWni "FourFlails" 35 yX2_init := ⟨⟨"FourFlails", by decide +kernel⟩, (gt_in 166 (by decide +kernel) (by decide +kernel)), rfl⟩
theorem oiX2_3 : OI "FourFlails$Reader" 3 := ⟨(gt_in 168 (by decide +kernel) (by decide +kernel)), (gt_in 75 (by decide +kernel) (by decide +kernel)), (gt_in 76 (by decide +kernel) (by decide +kernel))⟩
theorem cwX2_33 : CWni "FourFlails$Reader" 33 yX4_init := ⟨⟨"FourFlails", by decide +kernel⟩, (gt_in 172 (by decide +kernel) (by decide +kernel)), rfl⟩
theorem oiX4_3 : OI "FourFlails$Text" 3 := ⟨(gt_in 174 (by decide +kernel) (by decide +kernel)), (gt_in 75 (by decide +kernel) (by decide +kernel)), (gt_in 76 (by decide +kernel) (by decide +kernel))⟩
theorem cwX5_63 : CWni "FourFlails" 63 yX4_init := ⟨⟨"FourFlails", by decide +kernel⟩, (gt_in 172 (by decide +kernel) (by decide +kernel)), rfl⟩
theorem cwX5_76 : CWv "FourFlails" 76 yX2_add := ⟨(gt_in 263 (by decide +kernel) (by decide +kernel)), (gt_in 264 (by decide +kernel) (by decide +kernel)), (gt_in 265 (by decide +kernel) (by decide +kernel))⟩
theorem cwX5_80 : CWv "FourFlails" 80 yX2_readInto := ⟨(gt_in 267 (by decide +kernel) (by decide +kernel)), (gt_in 268 (by decide +kernel) (by decide +kernel)), (gt_in 269 (by decide +kernel) (by decide +kernel))⟩
theorem cwX2_38 : CWv "FourFlails$Reader" 38 yX4_clear := ⟨(gt_in 271 (by decide +kernel) (by decide +kernel)), (gt_in 272 (by decide +kernel) (by decide +kernel)), (gt_in 273 (by decide +kernel) (by decide +kernel))⟩
theorem cwX2_41 : CWv "FourFlails$Reader" 41 yX2_next := ⟨(gt_in 275 (by decide +kernel) (by decide +kernel)), (gt_in 277 (by decide +kernel) (by decide +kernel)), (gt_in 0 (by decide +kernel) (by decide +kernel))⟩
theorem cwX2_55 : CWs "FourFlails$Reader" 55 yX2_isDigit := ⟨(gt_in 279 (by decide +kernel) (by decide +kernel)), (gt_in 280 (by decide +kernel) (by decide +kernel))⟩
theorem cwX2_58 : CWv "FourFlails$Reader" 58 yX2_numberHere := ⟨(gt_in 282 (by decide +kernel) (by decide +kernel)), (gt_in 284 (by decide +kernel) (by decide +kernel)), (gt_in 1 (by decide +kernel) (by decide +kernel))⟩
theorem cwX2_62 : CWs "FourFlails$Reader" 62 yX2_isSmall := ⟨(gt_in 286 (by decide +kernel) (by decide +kernel)), (gt_in 287 (by decide +kernel) (by decide +kernel))⟩
theorem cwX2_65 : CWv "FourFlails$Reader" 65 yX2_wordHere := ⟨(gt_in 289 (by decide +kernel) (by decide +kernel)), (gt_in 291 (by decide +kernel) (by decide +kernel)), (gt_in 2 (by decide +kernel) (by decide +kernel))⟩
theorem cwX2_71 : CWs "FourFlails$Reader" 71 yX2_word := ⟨(gt_in 293 (by decide +kernel) (by decide +kernel)), (gt_in 294 (by decide +kernel) (by decide +kernel))⟩
theorem cwX2_75 : CWv "FourFlails$Reader" 75 yX2_isHere := ⟨(gt_in 308 (by decide +kernel) (by decide +kernel)), (gt_in 310 (by decide +kernel) (by decide +kernel)), (gt_in 3 (by decide +kernel) (by decide +kernel))⟩
theorem cwX2_68 : CWs "FourFlails$Reader" 68 yX2_isSign := ⟨(gt_in 314 (by decide +kernel) (by decide +kernel)), (gt_in 315 (by decide +kernel) (by decide +kernel))⟩
theorem cwX2_44 : CWv "FourFlails$Reader" 44 yX2_take := ⟨(gt_in 317 (by decide +kernel) (by decide +kernel)), (gt_in 319 (by decide +kernel) (by decide +kernel)), (gt_in 4 (by decide +kernel) (by decide +kernel))⟩
theorem cwX2_48 : CWv "FourFlails$Reader" 48 yX2_either := ⟨(gt_in 321 (by decide +kernel) (by decide +kernel)), (gt_in 323 (by decide +kernel) (by decide +kernel)), (gt_in 5 (by decide +kernel) (by decide +kernel))⟩
theorem cwX2_112 : CWv "FourFlails$Reader" 112 yX2_both := ⟨(gt_in 325 (by decide +kernel) (by decide +kernel)), (gt_in 327 (by decide +kernel) (by decide +kernel)), (gt_in 6 (by decide +kernel) (by decide +kernel))⟩
theorem cwX2_118 : CWv "FourFlails$Reader" 118 yX2_denied := ⟨(gt_in 329 (by decide +kernel) (by decide +kernel)), (gt_in 331 (by decide +kernel) (by decide +kernel)), (gt_in 7 (by decide +kernel) (by decide +kernel))⟩
theorem cwX2_115 : CWv "FourFlails$Reader" 115 yX4_put := ⟨(gt_in 333 (by decide +kernel) (by decide +kernel)), (gt_in 334 (by decide +kernel) (by decide +kernel)), (gt_in 335 (by decide +kernel) (by decide +kernel))⟩
theorem cwX2_121 : CWv "FourFlails$Reader" 121 yX2_sum := ⟨(gt_in 337 (by decide +kernel) (by decide +kernel)), (gt_in 339 (by decide +kernel) (by decide +kernel)), (gt_in 8 (by decide +kernel) (by decide +kernel))⟩
theorem cwX2_124 : CWv "FourFlails$Reader" 124 yX2_term := ⟨(gt_in 341 (by decide +kernel) (by decide +kernel)), (gt_in 343 (by decide +kernel) (by decide +kernel)), (gt_in 9 (by decide +kernel) (by decide +kernel))⟩
theorem cwX2_127 : CWv "FourFlails$Reader" 127 yX2_one := ⟨(gt_in 345 (by decide +kernel) (by decide +kernel)), (gt_in 347 (by decide +kernel) (by decide +kernel)), (gt_in 10 (by decide +kernel) (by decide +kernel))⟩
theorem cwX2_51 : CWv "FourFlails$Reader" 51 yX4_endPart := ⟨(gt_in 349 (by decide +kernel) (by decide +kernel)), (gt_in 350 (by decide +kernel) (by decide +kernel)), (gt_in 351 (by decide +kernel) (by decide +kernel))⟩
theorem cwX5_84 : CWv "FourFlails" 84 yX2_empty := ⟨(gt_in 353 (by decide +kernel) (by decide +kernel)), (gt_in 354 (by decide +kernel) (by decide +kernel)), (gt_in 355 (by decide +kernel) (by decide +kernel))⟩
theorem cwL_13 : CWv "FourFlailsLaw" 13 yX5_man := ⟨(gt_in 392 (by decide +kernel) (by decide +kernel)), (gt_in 393 (by decide +kernel) (by decide +kernel)), (gt_in 394 (by decide +kernel) (by decide +kernel))⟩
theorem cwX5_87 : CWs "FourFlails" 87 yX5_within := ⟨(gt_in 396 (by decide +kernel) (by decide +kernel)), (gt_in 397 (by decide +kernel) (by decide +kernel))⟩
theorem cwX5_94 : CWv "FourFlails" 94 yX1_add := ⟨(gt_in 399 (by decide +kernel) (by decide +kernel)), (gt_in 400 (by decide +kernel) (by decide +kernel)), (gt_in 401 (by decide +kernel) (by decide +kernel))⟩
theorem cwX1_52 : CWns "FourFlails$Floor" 52 yX5_held := ⟨⟨"FourFlails", by decide +kernel⟩, (gt_in 404 (by decide +kernel) (by decide +kernel))⟩
theorem cwL_18 : CWv "FourFlailsLaw" 18 yX5_set := ⟨(gt_in 406 (by decide +kernel) (by decide +kernel)), (gt_in 407 (by decide +kernel) (by decide +kernel)), (gt_in 408 (by decide +kernel) (by decide +kernel))⟩
theorem cwX5_97 : CWs "FourFlails" 97 yX5_isCell := ⟨(gt_in 410 (by decide +kernel) (by decide +kernel)), (gt_in 411 (by decide +kernel) (by decide +kernel))⟩
theorem cwX5_103 : CWs "FourFlails" 103 yX5_exchange := ⟨(gt_in 413 (by decide +kernel) (by decide +kernel)), (gt_in 414 (by decide +kernel) (by decide +kernel))⟩
theorem cwX5_110 : CWv "FourFlails" 110 yX5_isMan := ⟨(gt_in 416 (by decide +kernel) (by decide +kernel)), (gt_in 418 (by decide +kernel) (by decide +kernel)), (gt_in 11 (by decide +kernel) (by decide +kernel))⟩
theorem cwX5_119 : CWs "FourFlails" 119 yX5_held := ⟨(gt_in 420 (by decide +kernel) (by decide +kernel)), (gt_in 404 (by decide +kernel) (by decide +kernel))⟩
theorem cwX5_129 : CWv "FourFlails" 129 yX1_holdBy := ⟨(gt_in 421 (by decide +kernel) (by decide +kernel)), (gt_in 422 (by decide +kernel) (by decide +kernel)), (gt_in 423 (by decide +kernel) (by decide +kernel))⟩
theorem cwL_22 : CWv "FourFlailsLaw" 22 yX5_told := ⟨(gt_in 425 (by decide +kernel) (by decide +kernel)), (gt_in 426 (by decide +kernel) (by decide +kernel)), (gt_in 427 (by decide +kernel) (by decide +kernel))⟩
theorem cwX5_136 : CWv "FourFlails" 136 yX1_strikesOf := ⟨(gt_in 429 (by decide +kernel) (by decide +kernel)), (gt_in 430 (by decide +kernel) (by decide +kernel)), (gt_in 431 (by decide +kernel) (by decide +kernel))⟩
theorem mmX1_60 : MMw "FourFlails$Floor" 60 := ⟨(gt_in 433 (by decide +kernel) (by decide +kernel)), (gt_in 434 (by decide +kernel) (by decide +kernel)), (gt_in 66 (by decide +kernel) (by decide +kernel)), (gt_in 435 (by decide +kernel) (by decide +kernel))⟩
theorem cwX5_139 : CWv "FourFlails" 139 yX1_gapOf := ⟨(gt_in 436 (by decide +kernel) (by decide +kernel)), (gt_in 437 (by decide +kernel) (by decide +kernel)), (gt_in 438 (by decide +kernel) (by decide +kernel))⟩
theorem cwL_27 : CWv "FourFlailsLaw" 27 yX5_mends := ⟨(gt_in 440 (by decide +kernel) (by decide +kernel)), (gt_in 441 (by decide +kernel) (by decide +kernel)), (gt_in 442 (by decide +kernel) (by decide +kernel))⟩
theorem cwX5_143 : CWv "FourFlails" 143 yX1_mendsOf := ⟨(gt_in 445 (by decide +kernel) (by decide +kernel)), (gt_in 446 (by decide +kernel) (by decide +kernel)), (gt_in 447 (by decide +kernel) (by decide +kernel))⟩
theorem cwL_31 : CWv "FourFlailsLaw" 31 yX5_feed := ⟨(gt_in 449 (by decide +kernel) (by decide +kernel)), (gt_in 450 (by decide +kernel) (by decide +kernel)), (gt_in 451 (by decide +kernel) (by decide +kernel))⟩
theorem cwL_36 : CWv "FourFlailsLaw" 36 yX5_text := ⟨(gt_in 453 (by decide +kernel) (by decide +kernel)), (gt_in 454 (by decide +kernel) (by decide +kernel)), (gt_in 455 (by decide +kernel) (by decide +kernel))⟩
theorem cwL_41 : CWv "FourFlailsLaw" 41 yX5_force := ⟨(gt_in 457 (by decide +kernel) (by decide +kernel)), (gt_in 458 (by decide +kernel) (by decide +kernel)), (gt_in 459 (by decide +kernel) (by decide +kernel))⟩
theorem cwL_45 : CWv "FourFlailsLaw" 45 yX5_round := ⟨(gt_in 461 (by decide +kernel) (by decide +kernel)), (gt_in 462 (by decide +kernel) (by decide +kernel)), (gt_in 463 (by decide +kernel) (by decide +kernel))⟩
theorem cwX5_158 : CWv "FourFlails" 158 yX0_begin := ⟨(gt_in 465 (by decide +kernel) (by decide +kernel)), (gt_in 466 (by decide +kernel) (by decide +kernel)), (gt_in 467 (by decide +kernel) (by decide +kernel))⟩
theorem cwX5_161 : CWv "FourFlails" 161 yX0_pass := ⟨(gt_in 469 (by decide +kernel) (by decide +kernel)), (gt_in 470 (by decide +kernel) (by decide +kernel)), (gt_in 471 (by decide +kernel) (by decide +kernel))⟩
theorem cwX0_40 : CWv "FourFlails$Flailing" 40 yX0_takeTurn := ⟨(gt_in 473 (by decide +kernel) (by decide +kernel)), (gt_in 475 (by decide +kernel) (by decide +kernel)), (gt_in 12 (by decide +kernel) (by decide +kernel))⟩
theorem cwX0_71 : CWv "FourFlails$Flailing" 71 yX1_cellOf := ⟨(gt_in 477 (by decide +kernel) (by decide +kernel)), (gt_in 478 (by decide +kernel) (by decide +kernel)), (gt_in 479 (by decide +kernel) (by decide +kernel))⟩
theorem cwX0_53 : CWv "FourFlails$Flailing" 53 yX1_gapOf := ⟨(gt_in 481 (by decide +kernel) (by decide +kernel)), (gt_in 437 (by decide +kernel) (by decide +kernel)), (gt_in 438 (by decide +kernel) (by decide +kernel))⟩
theorem cwX0_57 : CWv "FourFlails$Flailing" 57 yX0_look := ⟨(gt_in 482 (by decide +kernel) (by decide +kernel)), (gt_in 484 (by decide +kernel) (by decide +kernel)), (gt_in 13 (by decide +kernel) (by decide +kernel))⟩
theorem cwX0_94 : CWv "FourFlails$Flailing" 94 yX1_strikesOf := ⟨(gt_in 486 (by decide +kernel) (by decide +kernel)), (gt_in 430 (by decide +kernel) (by decide +kernel)), (gt_in 431 (by decide +kernel) (by decide +kernel))⟩
theorem cwX0_61 : CWv "FourFlails$Flailing" 61 yX4_tells := ⟨(gt_in 487 (by decide +kernel) (by decide +kernel)), (gt_in 488 (by decide +kernel) (by decide +kernel)), (gt_in 489 (by decide +kernel) (by decide +kernel))⟩
theorem mmX4_22 : MNw "FourFlails$Text" 22 := ⟨(gt_in 491 (by decide +kernel) (by decide +kernel)), (gt_in 492 (by decide +kernel) (by decide +kernel)), (gt_in 66 (by decide +kernel) (by decide +kernel)), (gt_in 493 (by decide +kernel) (by decide +kernel))⟩
theorem cwX4_28 : CWs "FourFlails$Text" 28 yX4_joined := ⟨(gt_in 494 (by decide +kernel) (by decide +kernel)), (gt_in 495 (by decide +kernel) (by decide +kernel))⟩
theorem cwX0_67 : CWv "FourFlails$Flailing" 67 yX1_getOut := ⟨(gt_in 497 (by decide +kernel) (by decide +kernel)), (gt_in 498 (by decide +kernel) (by decide +kernel)), (gt_in 499 (by decide +kernel) (by decide +kernel))⟩
theorem cwX1_65 : CWns "FourFlails$Floor" 65 yX5_bounded := ⟨⟨"FourFlails", by decide +kernel⟩, (gt_in 502 (by decide +kernel) (by decide +kernel))⟩
theorem mmX5_244 : MNw "FourFlails" 244 := ⟨(gt_in 504 (by decide +kernel) (by decide +kernel)), (gt_in 492 (by decide +kernel) (by decide +kernel)), (gt_in 66 (by decide +kernel) (by decide +kernel)), (gt_in 493 (by decide +kernel) (by decide +kernel))⟩
theorem mmX5_249 : MMw "FourFlails" 249 := ⟨(gt_in 505 (by decide +kernel) (by decide +kernel)), (gt_in 434 (by decide +kernel) (by decide +kernel)), (gt_in 66 (by decide +kernel) (by decide +kernel)), (gt_in 435 (by decide +kernel) (by decide +kernel))⟩
theorem cwX0_74 : CWv "FourFlails$Flailing" 74 yX0_knock := ⟨(gt_in 506 (by decide +kernel) (by decide +kernel)), (gt_in 508 (by decide +kernel) (by decide +kernel)), (gt_in 14 (by decide +kernel) (by decide +kernel))⟩
theorem cwX0_77 : CWns "FourFlails$Flailing" 77 yX5_bounded := ⟨⟨"FourFlails", by decide +kernel⟩, (gt_in 502 (by decide +kernel) (by decide +kernel))⟩
theorem cwX0_81 : CWv "FourFlails$Flailing" 81 yX0_nextDrawn := ⟨(gt_in 511 (by decide +kernel) (by decide +kernel)), (gt_in 513 (by decide +kernel) (by decide +kernel)), (gt_in 15 (by decide +kernel) (by decide +kernel))⟩
theorem cwX0_88 : CWv "FourFlails$Flailing" 88 yX1_mendsOf := ⟨(gt_in 516 (by decide +kernel) (by decide +kernel)), (gt_in 446 (by decide +kernel) (by decide +kernel)), (gt_in 447 (by decide +kernel) (by decide +kernel))⟩
theorem cwX0_91 : CWns "FourFlails$Flailing" 91 yX5_held := ⟨⟨"FourFlails", by decide +kernel⟩, (gt_in 404 (by decide +kernel) (by decide +kernel))⟩
theorem mmX0_47 : MNw "FourFlails$Flailing" 47 := ⟨(gt_in 518 (by decide +kernel) (by decide +kernel)), (gt_in 492 (by decide +kernel) (by decide +kernel)), (gt_in 66 (by decide +kernel) (by decide +kernel)), (gt_in 493 (by decide +kernel) (by decide +kernel))⟩
theorem cwL_49 : CWv "FourFlailsLaw" 49 yX5_run := ⟨(gt_in 519 (by decide +kernel) (by decide +kernel)), (gt_in 520 (by decide +kernel) (by decide +kernel)), (gt_in 521 (by decide +kernel) (by decide +kernel))⟩
theorem cwX5_165 : CWv "FourFlails" 165 yX5_beginTrial := ⟨(gt_in 523 (by decide +kernel) (by decide +kernel)), (gt_in 525 (by decide +kernel) (by decide +kernel)), (gt_in 16 (by decide +kernel) (by decide +kernel))⟩
theorem cwX5_213 : CWv "FourFlails" 213 yX1_takeOver := ⟨(gt_in 527 (by decide +kernel) (by decide +kernel)), (gt_in 528 (by decide +kernel) (by decide +kernel)), (gt_in 529 (by decide +kernel) (by decide +kernel))⟩
theorem acX1_46 : ACw "FourFlails$Floor" 46 := ⟨(gt_in 531 (by decide +kernel) (by decide +kernel)), (gt_in 533 (by decide +kernel) (by decide +kernel)), (gt_in 532 (by decide +kernel) (by decide +kernel)), (gt_in 67 (by decide +kernel) (by decide +kernel))⟩
theorem cwX5_168 : CWv "FourFlails" 168 yX5_tryRounds := ⟨(gt_in 534 (by decide +kernel) (by decide +kernel)), (gt_in 536 (by decide +kernel) (by decide +kernel)), (gt_in 17 (by decide +kernel) (by decide +kernel))⟩
theorem cwX5_178 : CWv "FourFlails" 178 yX1_allEars := ⟨(gt_in 538 (by decide +kernel) (by decide +kernel)), (gt_in 539 (by decide +kernel) (by decide +kernel)), (gt_in 540 (by decide +kernel) (by decide +kernel))⟩
theorem cwX1_73 : CWs "FourFlails$Floor" 73 yX1_sum := ⟨(gt_in 542 (by decide +kernel) (by decide +kernel)), (gt_in 543 (by decide +kernel) (by decide +kernel))⟩
theorem cwL_53 : CWv "FourFlailsLaw" 53 yX5_beat := ⟨(gt_in 545 (by decide +kernel) (by decide +kernel)), (gt_in 546 (by decide +kernel) (by decide +kernel)), (gt_in 547 (by decide +kernel) (by decide +kernel))⟩
theorem cwL_57 : CWv "FourFlailsLaw" 57 yX5_holds := ⟨(gt_in 549 (by decide +kernel) (by decide +kernel)), (gt_in 550 (by decide +kernel) (by decide +kernel)), (gt_in 551 (by decide +kernel) (by decide +kernel))⟩
theorem cwL_61 : CWv "FourFlailsLaw" 61 yX5_bar := ⟨(gt_in 553 (by decide +kernel) (by decide +kernel)), (gt_in 554 (by decide +kernel) (by decide +kernel)), (gt_in 555 (by decide +kernel) (by decide +kernel))⟩
theorem cwL_65 : CWv "FourFlailsLaw" 65 yX5_order := ⟨(gt_in 557 (by decide +kernel) (by decide +kernel)), (gt_in 558 (by decide +kernel) (by decide +kernel)), (gt_in 559 (by decide +kernel) (by decide +kernel))⟩
theorem cwX5_181 : CWv "FourFlails" 181 yX5_seekOrder := ⟨(gt_in 561 (by decide +kernel) (by decide +kernel)), (gt_in 563 (by decide +kernel) (by decide +kernel)), (gt_in 18 (by decide +kernel) (by decide +kernel))⟩
theorem cwX5_255 : CWv "FourFlails" 255 yX1_standAs := ⟨(gt_in 565 (by decide +kernel) (by decide +kernel)), (gt_in 566 (by decide +kernel) (by decide +kernel)), (gt_in 567 (by decide +kernel) (by decide +kernel))⟩
theorem cwX1_56 : CWv "FourFlails$Floor" 56 yX1_takeMan := ⟨(gt_in 569 (by decide +kernel) (by decide +kernel)), (gt_in 571 (by decide +kernel) (by decide +kernel)), (gt_in 19 (by decide +kernel) (by decide +kernel))⟩
theorem acX5_232 : ACw "FourFlails" 232 := ⟨(gt_in 573 (by decide +kernel) (by decide +kernel)), (gt_in 533 (by decide +kernel) (by decide +kernel)), (gt_in 532 (by decide +kernel) (by decide +kernel)), (gt_in 67 (by decide +kernel) (by decide +kernel))⟩
theorem cwX5_259 : CWv "FourFlails" 259 yX5_nextRow := ⟨(gt_in 574 (by decide +kernel) (by decide +kernel)), (gt_in 576 (by decide +kernel) (by decide +kernel)), (gt_in 20 (by decide +kernel) (by decide +kernel))⟩
theorem cwL_69 : CWv "FourFlailsLaw" 69 yX5_home := ⟨(gt_in 578 (by decide +kernel) (by decide +kernel)), (gt_in 579 (by decide +kernel) (by decide +kernel)), (gt_in 580 (by decide +kernel) (by decide +kernel))⟩
theorem cwX5_184 : CWv "FourFlails" 184 yX1_leaveOut := ⟨(gt_in 582 (by decide +kernel) (by decide +kernel)), (gt_in 583 (by decide +kernel) (by decide +kernel)), (gt_in 584 (by decide +kernel) (by decide +kernel))⟩
theorem cwL_73 : CWv "FourFlailsLaw" 73 yX5_turn := ⟨(gt_in 586 (by decide +kernel) (by decide +kernel)), (gt_in 587 (by decide +kernel) (by decide +kernel)), (gt_in 588 (by decide +kernel) (by decide +kernel))⟩
theorem cwX5_187 : CWv "FourFlails" 187 yX1_turnStraw := ⟨(gt_in 590 (by decide +kernel) (by decide +kernel)), (gt_in 591 (by decide +kernel) (by decide +kernel)), (gt_in 592 (by decide +kernel) (by decide +kernel))⟩
theorem cwX1_69 : CWns "FourFlails$Floor" 69 yX5_exchange := ⟨⟨"FourFlails", by decide +kernel⟩, (gt_in 414 (by decide +kernel) (by decide +kernel))⟩
theorem cwX5_190 : CWv "FourFlails" 190 yX1_allWet := ⟨(gt_in 595 (by decide +kernel) (by decide +kernel)), (gt_in 596 (by decide +kernel) (by decide +kernel)), (gt_in 597 (by decide +kernel) (by decide +kernel))⟩
theorem cwL_77 : CWv "FourFlailsLaw" 77 yX5_when := ⟨(gt_in 599 (by decide +kernel) (by decide +kernel)), (gt_in 600 (by decide +kernel) (by decide +kernel)), (gt_in 601 (by decide +kernel) (by decide +kernel))⟩
theorem cwX5_193 : CWv "FourFlails" 193 yX5_outTurnedAhead := ⟨(gt_in 603 (by decide +kernel) (by decide +kernel)), (gt_in 605 (by decide +kernel) (by decide +kernel)), (gt_in 21 (by decide +kernel) (by decide +kernel))⟩
theorem cwL_81 : CWv "FourFlailsLaw" 81 yX5_stop := ⟨(gt_in 607 (by decide +kernel) (by decide +kernel)), (gt_in 608 (by decide +kernel) (by decide +kernel)), (gt_in 609 (by decide +kernel) (by decide +kernel))⟩
theorem cwL_85 : CWv "FourFlailsLaw" 85 yX5_fewest := ⟨(gt_in 612 (by decide +kernel) (by decide +kernel)), (gt_in 613 (by decide +kernel) (by decide +kernel)), (gt_in 614 (by decide +kernel) (by decide +kernel))⟩
theorem cwL_89 : CWv "FourFlailsLaw" 89 yX5_judge := ⟨(gt_in 617 (by decide +kernel) (by decide +kernel)), (gt_in 618 (by decide +kernel) (by decide +kernel)), (gt_in 619 (by decide +kernel) (by decide +kernel))⟩
theorem cwX5_198 : CWs "FourFlails" 198 yX5_isSheet := ⟨(gt_in 621 (by decide +kernel) (by decide +kernel)), (gt_in 622 (by decide +kernel) (by decide +kernel))⟩
theorem cwL_93 : CWv "FourFlailsLaw" 93 yX5_slow := ⟨(gt_in 624 (by decide +kernel) (by decide +kernel)), (gt_in 625 (by decide +kernel) (by decide +kernel)), (gt_in 626 (by decide +kernel) (by decide +kernel))⟩
theorem cwL_97 : CWv "FourFlailsLaw" 97 yX5_drawn := ⟨(gt_in 628 (by decide +kernel) (by decide +kernel)), (gt_in 629 (by decide +kernel) (by decide +kernel)), (gt_in 630 (by decide +kernel) (by decide +kernel))⟩
theorem cwX5_204 : CWv "FourFlails" 204 yX0_draw := ⟨(gt_in 632 (by decide +kernel) (by decide +kernel)), (gt_in 633 (by decide +kernel) (by decide +kernel)), (gt_in 634 (by decide +kernel) (by decide +kernel))⟩
theorem cwL_101 : CWv "FourFlailsLaw" 101 yX5_once := ⟨(gt_in 636 (by decide +kernel) (by decide +kernel)), (gt_in 637 (by decide +kernel) (by decide +kernel)), (gt_in 638 (by decide +kernel) (by decide +kernel))⟩
theorem cwX5_209 : CWv "FourFlails" 209 yX0_allStrike := ⟨(gt_in 641 (by decide +kernel) (by decide +kernel)), (gt_in 642 (by decide +kernel) (by decide +kernel)), (gt_in 643 (by decide +kernel) (by decide +kernel))⟩
theorem cwL_106 : CWv "FourFlailsLaw" 106 yX5_image := ⟨(gt_in 645 (by decide +kernel) (by decide +kernel)), (gt_in 646 (by decide +kernel) (by decide +kernel)), (gt_in 647 (by decide +kernel) (by decide +kernel))⟩
theorem cwL_110 : CWv "FourFlailsLaw" 110 yX5_back := ⟨(gt_in 649 (by decide +kernel) (by decide +kernel)), (gt_in 650 (by decide +kernel) (by decide +kernel)), (gt_in 651 (by decide +kernel) (by decide +kernel))⟩
theorem cwL_114 : CWv "FourFlailsLaw" 114 yX5_count := ⟨(gt_in 653 (by decide +kernel) (by decide +kernel)), (gt_in 654 (by decide +kernel) (by decide +kernel)), (gt_in 655 (by decide +kernel) (by decide +kernel))⟩
theorem cwL_118 : CWv "FourFlailsLaw" 118 yX5_sheet := ⟨(gt_in 657 (by decide +kernel) (by decide +kernel)), (gt_in 658 (by decide +kernel) (by decide +kernel)), (gt_in 659 (by decide +kernel) (by decide +kernel))⟩
theorem cwX5_220 : CWi "FourFlails" 220 yX3_init := ⟨(gt_in 662 (by decide +kernel) (by decide +kernel)), (gt_in 663 (by decide +kernel) (by decide +kernel)), rfl⟩
theorem oiX3_3 : OI "FourFlails$Sheet" 3 := ⟨(gt_in 665 (by decide +kernel) (by decide +kernel)), (gt_in 75 (by decide +kernel) (by decide +kernel)), (gt_in 76 (by decide +kernel) (by decide +kernel))⟩
theorem cwL_122 : CWv "FourFlailsLaw" 122 yX5_cell := ⟨(gt_in 675 (by decide +kernel) (by decide +kernel)), (gt_in 676 (by decide +kernel) (by decide +kernel)), (gt_in 677 (by decide +kernel) (by decide +kernel))⟩
theorem cwX5_223 : CWv "FourFlails" 223 yX3_put := ⟨(gt_in 679 (by decide +kernel) (by decide +kernel)), (gt_in 680 (by decide +kernel) (by decide +kernel)), (gt_in 681 (by decide +kernel) (by decide +kernel))⟩
theorem cwL_126 : CWv "FourFlailsLaw" 126 yX5_copy := ⟨(gt_in 683 (by decide +kernel) (by decide +kernel)), (gt_in 684 (by decide +kernel) (by decide +kernel)), (gt_in 685 (by decide +kernel) (by decide +kernel))⟩
theorem cwX5_229 : CWv "FourFlails" 229 yX3_has := ⟨(gt_in 687 (by decide +kernel) (by decide +kernel)), (gt_in 688 (by decide +kernel) (by decide +kernel)), (gt_in 689 (by decide +kernel) (by decide +kernel))⟩
theorem cwL_131 : CWv "FourFlailsLaw" 131 yX5_men := ⟨(gt_in 691 (by decide +kernel) (by decide +kernel)), (gt_in 692 (by decide +kernel) (by decide +kernel)), (gt_in 693 (by decide +kernel) (by decide +kernel))⟩
theorem cwX5_238 : CWv "FourFlails" 238 yX5_man := ⟨(gt_in 695 (by decide +kernel) (by decide +kernel)), (gt_in 393 (by decide +kernel) (by decide +kernel)), (gt_in 394 (by decide +kernel) (by decide +kernel))⟩
theorem cwL_136 : CWv "FourFlailsLaw" 136 yX5_taken := ⟨(gt_in 696 (by decide +kernel) (by decide +kernel)), (gt_in 697 (by decide +kernel) (by decide +kernel)), (gt_in 698 (by decide +kernel) (by decide +kernel))⟩
theorem cwX5_241 : CWs "FourFlails" 241 yX5_isUnder := ⟨(gt_in 700 (by decide +kernel) (by decide +kernel)), (gt_in 701 (by decide +kernel) (by decide +kernel))⟩
theorem cwL_12 : CWi "FourFlailsLaw" 12 yX6_init := ⟨(gt_in 707 (by decide +kernel) (by decide +kernel)), (gt_in 708 (by decide +kernel) (by decide +kernel)), rfl⟩
theorem oiX6_7 : OI "FourFlailsModel" 7 := ⟨(gt_in 710 (by decide +kernel) (by decide +kernel)), (gt_in 75 (by decide +kernel) (by decide +kernel)), (gt_in 76 (by decide +kernel) (by decide +kernel))⟩
theorem cwX6_93 : CWv "FourFlailsModel" 93 yX6_spell := ⟨(gt_in 711 (by decide +kernel) (by decide +kernel)), (gt_in 713 (by decide +kernel) (by decide +kernel)), (gt_in 22 (by decide +kernel) (by decide +kernel))⟩
theorem cwL_17 : CWv "FourFlailsLaw" 17 yX6_man := ⟨(gt_in 908 (by decide +kernel) (by decide +kernel)), (gt_in 909 (by decide +kernel) (by decide +kernel)), (gt_in 910 (by decide +kernel) (by decide +kernel))⟩
theorem cwX6_103 : CWs "FourFlailsModel" 103 yX6_in := ⟨(gt_in 913 (by decide +kernel) (by decide +kernel)), (gt_in 914 (by decide +kernel) (by decide +kernel))⟩
theorem cwL_21 : CWv "FourFlailsLaw" 21 yX6_set := ⟨(gt_in 918 (by decide +kernel) (by decide +kernel)), (gt_in 919 (by decide +kernel) (by decide +kernel)), (gt_in 920 (by decide +kernel) (by decide +kernel))⟩
theorem cwX6_115 : CWs "FourFlailsModel" 115 yX6_isCell := ⟨(gt_in 922 (by decide +kernel) (by decide +kernel)), (gt_in 923 (by decide +kernel) (by decide +kernel))⟩
theorem cwX6_123 : CWv "FourFlailsModel" 123 yX6_isMan := ⟨(gt_in 928 (by decide +kernel) (by decide +kernel)), (gt_in 930 (by decide +kernel) (by decide +kernel)), (gt_in 23 (by decide +kernel) (by decide +kernel))⟩
theorem cwX6_134 : CWv "FourFlailsModel" 134 yX6_told := ⟨(gt_in 936 (by decide +kernel) (by decide +kernel)), (gt_in 937 (by decide +kernel) (by decide +kernel)), (gt_in 938 (by decide +kernel) (by decide +kernel))⟩
theorem cwX6_147 : CWv "FourFlailsModel" 147 yX6_strikes := ⟨(gt_in 941 (by decide +kernel) (by decide +kernel)), (gt_in 943 (by decide +kernel) (by decide +kernel)), (gt_in 24 (by decide +kernel) (by decide +kernel))⟩
theorem cwX6_151 : CWv "FourFlailsModel" 151 yX6_gapOf := ⟨(gt_in 945 (by decide +kernel) (by decide +kernel)), (gt_in 947 (by decide +kernel) (by decide +kernel)), (gt_in 25 (by decide +kernel) (by decide +kernel))⟩
theorem cwX6_138 : CWv "FourFlailsModel" 138 yX6_bars := ⟨(gt_in 949 (by decide +kernel) (by decide +kernel)), (gt_in 951 (by decide +kernel) (by decide +kernel)), (gt_in 26 (by decide +kernel) (by decide +kernel))⟩
theorem cwL_26 : CWv "FourFlailsLaw" 26 yX6_told := ⟨(gt_in 953 (by decide +kernel) (by decide +kernel)), (gt_in 937 (by decide +kernel) (by decide +kernel)), (gt_in 938 (by decide +kernel) (by decide +kernel))⟩
theorem cwL_30 : CWv "FourFlailsLaw" 30 yX6_mends := ⟨(gt_in 954 (by decide +kernel) (by decide +kernel)), (gt_in 955 (by decide +kernel) (by decide +kernel)), (gt_in 956 (by decide +kernel) (by decide +kernel))⟩
theorem cwX6_156 : CWv "FourFlailsModel" 156 yX6_mended := ⟨(gt_in 959 (by decide +kernel) (by decide +kernel)), (gt_in 961 (by decide +kernel) (by decide +kernel)), (gt_in 27 (by decide +kernel) (by decide +kernel))⟩
theorem cwL_35 : CWv "FourFlailsLaw" 35 yX6_feed := ⟨(gt_in 964 (by decide +kernel) (by decide +kernel)), (gt_in 965 (by decide +kernel) (by decide +kernel)), (gt_in 966 (by decide +kernel) (by decide +kernel))⟩
theorem cwL_40 : CWv "FourFlailsLaw" 40 yX6_text := ⟨(gt_in 969 (by decide +kernel) (by decide +kernel)), (gt_in 970 (by decide +kernel) (by decide +kernel)), (gt_in 971 (by decide +kernel) (by decide +kernel))⟩
theorem cwX6_285 : CWv "FourFlailsModel" 285 yX6_read := ⟨(gt_in 973 (by decide +kernel) (by decide +kernel)), (gt_in 975 (by decide +kernel) (by decide +kernel)), (gt_in 28 (by decide +kernel) (by decide +kernel))⟩
theorem cwX6_214 : CWv "FourFlailsModel" 214 yX6_next := ⟨(gt_in 977 (by decide +kernel) (by decide +kernel)), (gt_in 979 (by decide +kernel) (by decide +kernel)), (gt_in 29 (by decide +kernel) (by decide +kernel))⟩
theorem cwX6_174 : CWv "FourFlailsModel" 174 yX6_byteAt := ⟨(gt_in 981 (by decide +kernel) (by decide +kernel)), (gt_in 983 (by decide +kernel) (by decide +kernel)), (gt_in 30 (by decide +kernel) (by decide +kernel))⟩
theorem cwX6_217 : CWv "FourFlailsModel" 217 yX6_isWord := ⟨(gt_in 990 (by decide +kernel) (by decide +kernel)), (gt_in 992 (by decide +kernel) (by decide +kernel)), (gt_in 31 (by decide +kernel) (by decide +kernel))⟩
theorem cwX6_204 : CWv "FourFlailsModel" 204 yX6_isLetter := ⟨(gt_in 994 (by decide +kernel) (by decide +kernel)), (gt_in 996 (by decide +kernel) (by decide +kernel)), (gt_in 32 (by decide +kernel) (by decide +kernel))⟩
theorem cwX6_272 : CWv "FourFlailsModel" 272 yX6_part := ⟨(gt_in 998 (by decide +kernel) (by decide +kernel)), (gt_in 1000 (by decide +kernel) (by decide +kernel)), (gt_in 33 (by decide +kernel) (by decide +kernel))⟩
theorem cwX6_211 : CWv "FourFlailsModel" 211 yX6_fail := ⟨(gt_in 1002 (by decide +kernel) (by decide +kernel)), (gt_in 1004 (by decide +kernel) (by decide +kernel)), (gt_in 34 (by decide +kernel) (by decide +kernel))⟩
theorem cwX6_250 : CWv "FourFlailsModel" 250 yX6_either := ⟨(gt_in 1006 (by decide +kernel) (by decide +kernel)), (gt_in 1008 (by decide +kernel) (by decide +kernel)), (gt_in 35 (by decide +kernel) (by decide +kernel))⟩
theorem cwX6_269 : CWv "FourFlailsModel" 269 yX6_both := ⟨(gt_in 1010 (by decide +kernel) (by decide +kernel)), (gt_in 1012 (by decide +kernel) (by decide +kernel)), (gt_in 36 (by decide +kernel) (by decide +kernel))⟩
theorem cwX6_261 : CWv "FourFlailsModel" 261 yX6_not := ⟨(gt_in 1014 (by decide +kernel) (by decide +kernel)), (gt_in 1016 (by decide +kernel) (by decide +kernel)), (gt_in 37 (by decide +kernel) (by decide +kernel))⟩
theorem cwX6_242 : CWv "FourFlailsModel" 242 yX6_opens := ⟨(gt_in 1018 (by decide +kernel) (by decide +kernel)), (gt_in 1020 (by decide +kernel) (by decide +kernel)), (gt_in 38 (by decide +kernel) (by decide +kernel))⟩
theorem cwX6_264 : CWv "FourFlailsModel" 264 yX6_added := ⟨(gt_in 1022 (by decide +kernel) (by decide +kernel)), (gt_in 1024 (by decide +kernel) (by decide +kernel)), (gt_in 39 (by decide +kernel) (by decide +kernel))⟩
theorem cwX6_256 : CWv "FourFlailsModel" 256 yX6_term := ⟨(gt_in 1026 (by decide +kernel) (by decide +kernel)), (gt_in 1028 (by decide +kernel) (by decide +kernel)), (gt_in 40 (by decide +kernel) (by decide +kernel))⟩
theorem cwX6_246 : CWv "FourFlailsModel" 246 yX6_atom := ⟨(gt_in 1030 (by decide +kernel) (by decide +kernel)), (gt_in 1032 (by decide +kernel) (by decide +kernel)), (gt_in 41 (by decide +kernel) (by decide +kernel))⟩
theorem cwX6_239 : CWv "FourFlailsModel" 239 yX6_isSign := ⟨(gt_in 1034 (by decide +kernel) (by decide +kernel)), (gt_in 1036 (by decide +kernel) (by decide +kernel)), (gt_in 42 (by decide +kernel) (by decide +kernel))⟩
theorem cwX6_253 : CWv "FourFlailsModel" 253 yX6_name := ⟨(gt_in 1038 (by decide +kernel) (by decide +kernel)), (gt_in 1040 (by decide +kernel) (by decide +kernel)), (gt_in 43 (by decide +kernel) (by decide +kernel))⟩
theorem cwL_44 : CWv "FourFlailsLaw" 44 yX6_force := ⟨(gt_in 1044 (by decide +kernel) (by decide +kernel)), (gt_in 1045 (by decide +kernel) (by decide +kernel)), (gt_in 1046 (by decide +kernel) (by decide +kernel))⟩
theorem cwL_48 : CWv "FourFlailsLaw" 48 yX6_round := ⟨(gt_in 1048 (by decide +kernel) (by decide +kernel)), (gt_in 1049 (by decide +kernel) (by decide +kernel)), (gt_in 1050 (by decide +kernel) (by decide +kernel))⟩
theorem cwX6_312 : CWv "FourFlailsModel" 312 yX6_goes := ⟨(gt_in 1052 (by decide +kernel) (by decide +kernel)), (gt_in 1054 (by decide +kernel) (by decide +kernel)), (gt_in 44 (by decide +kernel) (by decide +kernel))⟩
theorem cwX6_308 : CWv "FourFlailsModel" 308 yX6_strikesOnce := ⟨(gt_in 1056 (by decide +kernel) (by decide +kernel)), (gt_in 1058 (by decide +kernel) (by decide +kernel)), (gt_in 45 (by decide +kernel) (by decide +kernel))⟩
theorem cwX6_291 : CWv "FourFlailsModel" 291 yX6_says := ⟨(gt_in 1060 (by decide +kernel) (by decide +kernel)), (gt_in 1062 (by decide +kernel) (by decide +kernel)), (gt_in 46 (by decide +kernel) (by decide +kernel))⟩
theorem cwX6_301 : CWs "FourFlailsModel" 301 yX6_within := ⟨(gt_in 1064 (by decide +kernel) (by decide +kernel)), (gt_in 1065 (by decide +kernel) (by decide +kernel))⟩
theorem cwL_52 : CWv "FourFlailsLaw" 52 yX6_run := ⟨(gt_in 1067 (by decide +kernel) (by decide +kernel)), (gt_in 1068 (by decide +kernel) (by decide +kernel)), (gt_in 1069 (by decide +kernel) (by decide +kernel))⟩
theorem cwX6_334 : CWv "FourFlailsModel" 334 yX6_laysAside := ⟨(gt_in 1073 (by decide +kernel) (by decide +kernel)), (gt_in 1075 (by decide +kernel) (by decide +kernel)), (gt_in 47 (by decide +kernel) (by decide +kernel))⟩
theorem cwX6_337 : CWv "FourFlailsModel" 337 yX6_goesOn := ⟨(gt_in 1077 (by decide +kernel) (by decide +kernel)), (gt_in 1079 (by decide +kernel) (by decide +kernel)), (gt_in 48 (by decide +kernel) (by decide +kernel))⟩
theorem cwX6_340 : CWv "FourFlailsModel" 340 yX6_left := ⟨(gt_in 1081 (by decide +kernel) (by decide +kernel)), (gt_in 1083 (by decide +kernel) (by decide +kernel)), (gt_in 49 (by decide +kernel) (by decide +kernel))⟩
theorem cwX6_343 : CWv "FourFlailsModel" 343 yX6_laysBack := ⟨(gt_in 1085 (by decide +kernel) (by decide +kernel)), (gt_in 1087 (by decide +kernel) (by decide +kernel)), (gt_in 50 (by decide +kernel) (by decide +kernel))⟩
theorem cwX6_327 : CWv "FourFlailsModel" 327 yX6_comes := ⟨(gt_in 1089 (by decide +kernel) (by decide +kernel)), (gt_in 1091 (by decide +kernel) (by decide +kernel)), (gt_in 51 (by decide +kernel) (by decide +kernel))⟩
theorem cwL_56 : CWv "FourFlailsLaw" 56 yX6_beat := ⟨(gt_in 1093 (by decide +kernel) (by decide +kernel)), (gt_in 1094 (by decide +kernel) (by decide +kernel)), (gt_in 1095 (by decide +kernel) (by decide +kernel))⟩
theorem cwL_60 : CWv "FourFlailsLaw" 60 yX6_holds := ⟨(gt_in 1097 (by decide +kernel) (by decide +kernel)), (gt_in 1098 (by decide +kernel) (by decide +kernel)), (gt_in 1099 (by decide +kernel) (by decide +kernel))⟩
theorem cwL_64 : CWv "FourFlailsLaw" 64 yX6_bar := ⟨(gt_in 1101 (by decide +kernel) (by decide +kernel)), (gt_in 1102 (by decide +kernel) (by decide +kernel)), (gt_in 1103 (by decide +kernel) (by decide +kernel))⟩
theorem cwL_68 : CWv "FourFlailsLaw" 68 yX6_order := ⟨(gt_in 1106 (by decide +kernel) (by decide +kernel)), (gt_in 1107 (by decide +kernel) (by decide +kernel)), (gt_in 1108 (by decide +kernel) (by decide +kernel))⟩
theorem cwX6_360 : CWv "FourFlailsModel" 360 yX6_orders := ⟨(gt_in 1111 (by decide +kernel) (by decide +kernel)), (gt_in 1113 (by decide +kernel) (by decide +kernel)), (gt_in 52 (by decide +kernel) (by decide +kernel))⟩
theorem cwX6_357 : CWv "FourFlailsModel" 357 yX6_stand := ⟨(gt_in 1115 (by decide +kernel) (by decide +kernel)), (gt_in 1117 (by decide +kernel) (by decide +kernel)), (gt_in 53 (by decide +kernel) (by decide +kernel))⟩
theorem cwL_72 : CWv "FourFlailsLaw" 72 yX6_home := ⟨(gt_in 1119 (by decide +kernel) (by decide +kernel)), (gt_in 1120 (by decide +kernel) (by decide +kernel)), (gt_in 1121 (by decide +kernel) (by decide +kernel))⟩
theorem cwL_76 : CWv "FourFlailsLaw" 76 yX6_turn := ⟨(gt_in 1123 (by decide +kernel) (by decide +kernel)), (gt_in 1124 (by decide +kernel) (by decide +kernel)), (gt_in 1125 (by decide +kernel) (by decide +kernel))⟩
theorem cwX6_365 : CWv "FourFlailsModel" 365 yX6_turns := ⟨(gt_in 1127 (by decide +kernel) (by decide +kernel)), (gt_in 1129 (by decide +kernel) (by decide +kernel)), (gt_in 54 (by decide +kernel) (by decide +kernel))⟩
theorem cwL_80 : CWv "FourFlailsLaw" 80 yX6_when := ⟨(gt_in 1131 (by decide +kernel) (by decide +kernel)), (gt_in 1132 (by decide +kernel) (by decide +kernel)), (gt_in 1133 (by decide +kernel) (by decide +kernel))⟩
theorem cwL_84 : CWv "FourFlailsLaw" 84 yX6_stop := ⟨(gt_in 1135 (by decide +kernel) (by decide +kernel)), (gt_in 1136 (by decide +kernel) (by decide +kernel)), (gt_in 1137 (by decide +kernel) (by decide +kernel))⟩
theorem cwL_88 : CWv "FourFlailsLaw" 88 yX6_fewest := ⟨(gt_in 1140 (by decide +kernel) (by decide +kernel)), (gt_in 1141 (by decide +kernel) (by decide +kernel)), (gt_in 1142 (by decide +kernel) (by decide +kernel))⟩
theorem cwL_92 : CWv "FourFlailsLaw" 92 yX6_judge := ⟨(gt_in 1145 (by decide +kernel) (by decide +kernel)), (gt_in 1146 (by decide +kernel) (by decide +kernel)), (gt_in 1147 (by decide +kernel) (by decide +kernel))⟩
theorem cwX6_372 : CWs "FourFlailsModel" 372 yX6_isSheet := ⟨(gt_in 1149 (by decide +kernel) (by decide +kernel)), (gt_in 1150 (by decide +kernel) (by decide +kernel))⟩
theorem cwL_96 : CWv "FourFlailsLaw" 96 yX6_slow := ⟨(gt_in 1152 (by decide +kernel) (by decide +kernel)), (gt_in 1153 (by decide +kernel) (by decide +kernel)), (gt_in 1154 (by decide +kernel) (by decide +kernel))⟩
theorem cwL_100 : CWv "FourFlailsLaw" 100 yX6_drawn := ⟨(gt_in 1156 (by decide +kernel) (by decide +kernel)), (gt_in 1157 (by decide +kernel) (by decide +kernel)), (gt_in 1158 (by decide +kernel) (by decide +kernel))⟩
theorem cwL_105 : CWv "FourFlailsLaw" 105 yX6_once := ⟨(gt_in 1161 (by decide +kernel) (by decide +kernel)), (gt_in 1162 (by decide +kernel) (by decide +kernel)), (gt_in 1163 (by decide +kernel) (by decide +kernel))⟩
theorem cwL_109 : CWv "FourFlailsLaw" 109 yX6_image := ⟨(gt_in 1166 (by decide +kernel) (by decide +kernel)), (gt_in 1167 (by decide +kernel) (by decide +kernel)), (gt_in 1168 (by decide +kernel) (by decide +kernel))⟩
theorem cwL_113 : CWv "FourFlailsLaw" 113 yX6_back := ⟨(gt_in 1170 (by decide +kernel) (by decide +kernel)), (gt_in 1171 (by decide +kernel) (by decide +kernel)), (gt_in 1172 (by decide +kernel) (by decide +kernel))⟩
theorem cwL_117 : CWv "FourFlailsLaw" 117 yX6_count := ⟨(gt_in 1174 (by decide +kernel) (by decide +kernel)), (gt_in 1175 (by decide +kernel) (by decide +kernel)), (gt_in 1176 (by decide +kernel) (by decide +kernel))⟩
theorem cwL_121 : CWv "FourFlailsLaw" 121 yX6_sheet := ⟨(gt_in 1179 (by decide +kernel) (by decide +kernel)), (gt_in 1180 (by decide +kernel) (by decide +kernel)), (gt_in 1181 (by decide +kernel) (by decide +kernel))⟩
theorem cwL_125 : CWv "FourFlailsLaw" 125 yX6_cell := ⟨(gt_in 1183 (by decide +kernel) (by decide +kernel)), (gt_in 1184 (by decide +kernel) (by decide +kernel)), (gt_in 1185 (by decide +kernel) (by decide +kernel))⟩
theorem cwL_130 : CWv "FourFlailsLaw" 130 yX6_copy := ⟨(gt_in 1187 (by decide +kernel) (by decide +kernel)), (gt_in 1188 (by decide +kernel) (by decide +kernel)), (gt_in 1189 (by decide +kernel) (by decide +kernel))⟩
theorem cwL_135 : CWv "FourFlailsLaw" 135 yX6_men := ⟨(gt_in 1191 (by decide +kernel) (by decide +kernel)), (gt_in 1192 (by decide +kernel) (by decide +kernel)), (gt_in 1193 (by decide +kernel) (by decide +kernel))⟩
theorem cwX6_392 : CWv "FourFlailsModel" 392 yX6_man := ⟨(gt_in 1195 (by decide +kernel) (by decide +kernel)), (gt_in 909 (by decide +kernel) (by decide +kernel)), (gt_in 910 (by decide +kernel) (by decide +kernel))⟩
theorem cwL_139 : CWv "FourFlailsLaw" 139 yX6_taken := ⟨(gt_in 1196 (by decide +kernel) (by decide +kernel)), (gt_in 1197 (by decide +kernel) (by decide +kernel)), (gt_in 1198 (by decide +kernel) (by decide +kernel))⟩
theorem cwX6_395 : CWs "FourFlailsModel" 395 yX6_over := ⟨(gt_in 1200 (by decide +kernel) (by decide +kernel)), (gt_in 1201 (by decide +kernel) (by decide +kernel))⟩
theorem klL_7 : Cond.classLink "FourFlailsLaw" 7 "FourFlails" ∈ gtbl := (gt_in 69 (by decide +kernel) (by decide +kernel))
theorem nwL_7 : NW "FourFlailsLaw" 7 5 11 [.null, .null, .null, .int 0, .null, .null, .null, .int 0, .null, .null, .null] := ⟨RX5, TX5, tyX5, rfl, uwX5, tyX5_ok, klL_7, (gt_in 70 (by decide +kernel) (by decide +kernel)), (gt_in 56 (by decide +kernel) (by decide +kernel)), by decide +kernel⟩
theorem klX5_7 : Cond.classLink "FourFlails" 7 "FourFlails$Floor" ∈ gtbl := (gt_in 77 (by decide +kernel) (by decide +kernel))
theorem nwX5_7 : NW "FourFlails" 7 1 11 [.null, .null, .null, .null, .null, .null, .int 0, .int 0, .int 0, .int 0, .int 0] := ⟨RX1, TX1, tyX1, rfl, uwX1, tyX1_ok, klX5_7, (gt_in 78 (by decide +kernel) (by decide +kernel)), (gt_in 57 (by decide +kernel) (by decide +kernel)), by decide +kernel⟩
theorem klX5_26 : Cond.classLink "FourFlails" 26 "FourFlails$Flailing" ∈ gtbl := (gt_in 136 (by decide +kernel) (by decide +kernel))
theorem nwX5_26 : NW "FourFlails" 26 0 6 [.null, .null, .int 0, .int 0, .int 0, .int 0] := ⟨RX0, TX0, tyX0, rfl, uwX0, tyX0_ok, klX5_26, (gt_in 137 (by decide +kernel) (by decide +kernel)), (gt_in 58 (by decide +kernel) (by decide +kernel)), by decide +kernel⟩
theorem klX5_33 : Cond.classLink "FourFlails" 33 "FourFlails$Reader" ∈ gtbl := (gt_in 163 (by decide +kernel) (by decide +kernel))
theorem nwX5_33 : NW "FourFlails" 33 2 7 [.null, .int 0, .int 0, .int 0, .int 0, .int 0, .null] := ⟨RX2, TX2, tyX2, rfl, uwX2, tyX2_ok, klX5_33, (gt_in 164 (by decide +kernel) (by decide +kernel)), (gt_in 59 (by decide +kernel) (by decide +kernel)), by decide +kernel⟩
theorem klX2_31 : Cond.classLink "FourFlails$Reader" 31 "FourFlails$Text" ∈ gtbl := (gt_in 169 (by decide +kernel) (by decide +kernel))
theorem nwX2_31 : NW "FourFlails$Reader" 31 4 3 [.null, .null, .int 0] := ⟨RX4, TX4, tyX4, rfl, uwX4, tyX4_ok, klX2_31, (gt_in 170 (by decide +kernel) (by decide +kernel)), (gt_in 60 (by decide +kernel) (by decide +kernel)), by decide +kernel⟩
theorem klX5_40 : Cond.classLink "FourFlails" 40 "FourFlails$Text" ∈ gtbl := (gt_in 209 (by decide +kernel) (by decide +kernel))
theorem nwX5_40 : NW "FourFlails" 40 4 3 [.null, .null, .int 0] := ⟨RX4, TX4, tyX4, rfl, uwX4, tyX4_ok, klX5_40, (gt_in 170 (by decide +kernel) (by decide +kernel)), (gt_in 60 (by decide +kernel) (by decide +kernel)), by decide +kernel⟩
theorem klX5_50 : Cond.classLink "FourFlails" 50 "FourFlails$Sheet" ∈ gtbl := (gt_in 211 (by decide +kernel) (by decide +kernel))
theorem nwX5_50 : NW "FourFlails" 50 3 2 [.int 0, .null] := ⟨RX3, TX3, tyX3, rfl, uwX3, tyX3_ok, klX5_50, (gt_in 661 (by decide +kernel) (by decide +kernel)), (gt_in 68 (by decide +kernel) (by decide +kernel)), by decide +kernel⟩
theorem kcX5_142 : Cond.constant "FourFlails" 142 (-100000 : Int32) ∈ gtbl := (gt_in 444 (by decide +kernel) (by decide +kernel))
theorem kcX0_106 : Cond.constant "FourFlails$Flailing" 106 (1103515245 : Int32) ∈ gtbl := (gt_in 515 (by decide +kernel) (by decide +kernel))
theorem kcX5_196 : Cond.constant "FourFlails" 196 (99999 : Int32) ∈ gtbl := (gt_in 611 (by decide +kernel) (by decide +kernel))
theorem kcX5_197 : Cond.constant "FourFlails" 197 (999999 : Int32) ∈ gtbl := (gt_in 616 (by decide +kernel) (by decide +kernel))
theorem kcX5_207 : Cond.constantLong "FourFlails" 207 (-4611686018427387904 : Int64) ∈ gtbl := (gt_in 640 (by decide +kernel) (by decide +kernel))
theorem klL_10 : Cond.classLink "FourFlailsLaw" 10 "FourFlailsModel" ∈ gtbl := (gt_in 705 (by decide +kernel) (by decide +kernel))
theorem nwL_10 : NW "FourFlailsLaw" 10 6 64 [.int 0, .null, .null, .int 0, .int 0, .null, .int 0, .null, .null, .null, .null, .null, .null, .int 0, .int 0, .int 0, .int 0, .int 0, .int 0, .int 0, .int 0, .int 0, .int 0, .int 0, .int 0, .int 0, .int 0, .int 0, .long 0, .int 0, .int 0, .int 0, .int 0, .int 0, .int 0, .int 0, .int 0, .null, .null, .null, .null, .null, .null, .int 0, .int 0, .int 0, .int 0, .int 0, .int 0, .int 0, .null, .null, .null, .null, .null, .int 0, .int 0, .int 0, .int 0, .int 0, .null, .null, .null, .null] := ⟨RX6, TX6, tyX6, rfl, uwX6, tyX6_ok, klL_10, (gt_in 706 (by decide +kernel) (by decide +kernel)), (gt_in 65 (by decide +kernel) (by decide +kernel)), by decide +kernel⟩
theorem kcX6_109 : Cond.constantLong "FourFlailsModel" 109 (5 : Int64) ∈ gtbl := (gt_in 912 (by decide +kernel) (by decide +kernel))
theorem kcX6_111 : Cond.constantLong "FourFlailsModel" 111 (239 : Int64) ∈ gtbl := (gt_in 916 (by decide +kernel) (by decide +kernel))
theorem kcX6_113 : Cond.constantLong "FourFlailsModel" 113 (99 : Int64) ∈ gtbl := (gt_in 917 (by decide +kernel) (by decide +kernel))
theorem kcX6_107 : Cond.constantLong "FourFlailsModel" 107 (11 : Int64) ∈ gtbl := (gt_in 925 (by decide +kernel) (by decide +kernel))
theorem kcX6_119 : Cond.constantLong "FourFlailsModel" 119 (2 : Int64) ∈ gtbl := (gt_in 926 (by decide +kernel) (by decide +kernel))
theorem kcX6_121 : Cond.constantLong "FourFlailsModel" 121 (4 : Int64) ∈ gtbl := (gt_in 927 (by decide +kernel) (by decide +kernel))
theorem kcX6_126 : Cond.constantLong "FourFlailsModel" 126 (12 : Int64) ∈ gtbl := (gt_in 932 (by decide +kernel) (by decide +kernel))
theorem kcX6_128 : Cond.constantLong "FourFlailsModel" 128 (9999 : Int64) ∈ gtbl := (gt_in 933 (by decide +kernel) (by decide +kernel))
theorem kcX6_130 : Cond.constantLong "FourFlailsModel" 130 (240 : Int64) ∈ gtbl := (gt_in 934 (by decide +kernel) (by decide +kernel))
theorem kcX6_132 : Cond.constantLong "FourFlailsModel" 132 (9 : Int64) ∈ gtbl := (gt_in 935 (by decide +kernel) (by decide +kernel))
theorem kcX6_145 : Cond.constantLong "FourFlailsModel" 145 (7 : Int64) ∈ gtbl := (gt_in 940 (by decide +kernel) (by decide +kernel))
theorem kcX6_154 : Cond.constantLong "FourFlailsModel" 154 (-240 : Int64) ∈ gtbl := (gt_in 958 (by decide +kernel) (by decide +kernel))
theorem kcX6_159 : Cond.constant "FourFlailsModel" 159 (-100000 : Int32) ∈ gtbl := (gt_in 963 (by decide +kernel) (by decide +kernel))
theorem kcX6_160 : Cond.constantLong "FourFlailsModel" 160 (255 : Int64) ∈ gtbl := (gt_in 968 (by decide +kernel) (by decide +kernel))
theorem kcX6_183 : Cond.constantLong "FourFlailsModel" 183 (97 : Int64) ∈ gtbl := (gt_in 985 (by decide +kernel) (by decide +kernel))
theorem kcX6_185 : Cond.constantLong "FourFlailsModel" 185 (122 : Int64) ∈ gtbl := (gt_in 986 (by decide +kernel) (by decide +kernel))
theorem kcX6_187 : Cond.constantLong "FourFlailsModel" 187 (48 : Int64) ∈ gtbl := (gt_in 987 (by decide +kernel) (by decide +kernel))
theorem kcX6_189 : Cond.constantLong "FourFlailsModel" 189 (57 : Int64) ∈ gtbl := (gt_in 988 (by decide +kernel) (by decide +kernel))
theorem kcX6_195 : Cond.constantLong "FourFlailsModel" 195 (10 : Int64) ∈ gtbl := (gt_in 989 (by decide +kernel) (by decide +kernel))
theorem kcX6_259 : Cond.constantLong "FourFlailsModel" 259 (43 : Int64) ∈ gtbl := (gt_in 1042 (by decide +kernel) (by decide +kernel))
theorem kcX6_267 : Cond.constantLong "FourFlailsModel" 267 (60 : Int64) ∈ gtbl := (gt_in 1043 (by decide +kernel) (by decide +kernel))
theorem kcX6_330 : Cond.constantLong "FourFlailsModel" 330 (40 : Int64) ∈ gtbl := (gt_in 1071 (by decide +kernel) (by decide +kernel))
theorem kcX6_332 : Cond.constantLong "FourFlailsModel" 332 (3 : Int64) ∈ gtbl := (gt_in 1072 (by decide +kernel) (by decide +kernel))
theorem kcX6_346 : Cond.constantLong "FourFlailsModel" 346 (1000 : Int64) ∈ gtbl := (gt_in 1105 (by decide +kernel) (by decide +kernel))
theorem kcX6_363 : Cond.constantLong "FourFlailsModel" 363 (-1 : Int64) ∈ gtbl := (gt_in 1110 (by decide +kernel) (by decide +kernel))
theorem kcX6_368 : Cond.constantLong "FourFlailsModel" 368 (99999 : Int64) ∈ gtbl := (gt_in 1139 (by decide +kernel) (by decide +kernel))
theorem kcX6_370 : Cond.constantLong "FourFlailsModel" 370 (999999 : Int64) ∈ gtbl := (gt_in 1144 (by decide +kernel) (by decide +kernel))
theorem kcX6_375 : Cond.constant "FourFlailsModel" 375 (1103515245 : Int32) ∈ gtbl := (gt_in 1160 (by decide +kernel) (by decide +kernel))
theorem kcX6_376 : Cond.constantLong "FourFlailsModel" 376 (-4611686018427387904 : Int64) ∈ gtbl := (gt_in 1165 (by decide +kernel) (by decide +kernel))
theorem kcX6_390 : Cond.constantLong "FourFlailsModel" 390 (6 : Int64) ∈ gtbl := (gt_in 1178 (by decide +kernel) (by decide +kernel))
theorem kaI : Cond.arrayClass .int ∈ gtbl := (gt_in 135 (by decide +kernel) (by decide +kernel))
theorem kaZ : Cond.arrayClass .boolean ∈ gtbl := (gt_in 907 (by decide +kernel) (by decide +kernel))
end
section
/-! THE REFERENCE AS A WORLD: one object (its ints g by field, tokenWorth tw), 24 rows (a by place) -/
def MF (q : Nat → Nat) (g : Nat → Int32) (tw : Int64) : List Value := [.int (g 0), .ref (q 1), .ref (q 2), .int (g 3), .int (g 4), .ref (q 3), .int (g 6), .ref (q 4), .ref (q 5), .ref (q 6), .ref (q 7), .ref (q 8), .ref (q 9), .int (g 13), .int (g 14), .int (g 15), .int (g 16), .int (g 17), .int (g 18), .int (g 19), .int (g 20), .int (g 21), .int (g 22), .int (g 23), .int (g 24), .int (g 25), .int (g 26), .int (g 27), .long tw, .int (g 29), .int (g 30), .int (g 31), .int (g 32), .int (g 33), .int (g 34), .int (g 35), .int (g 36), .ref (q 10), .ref (q 11), .ref (q 12), .ref (q 13), .ref (q 14), .ref (q 15), .int (g 43), .int (g 44), .int (g 45), .int (g 46), .int (g 47), .int (g 48), .int (g 49), .ref (q 16), .ref (q 17), .ref (q 18), .ref (q 19), .ref (q 20), .int (g 55), .int (g 56), .int (g 57), .int (g 58), .int (g 59), .ref (q 21), .ref (q 22), .ref (q 23), .ref (q 24)]
def MW (E : ag) (q : Nat → Nat) (g : Nat → Int32) (tw : Int64) (a : Nat → Nat → Int32) : va_W := [(q 0, .inr (6, MF q g tw)), (q 1, .inl (E.2.1 0, 960, .inl (a 1))), (q 2, .inl (E.2.1 0, 6, .inl (a 2))), (q 3, .inl (E.2.1 0, 160, .inl (a 3))), (q 4, .inl (E.2.1 0, 12, .inl (a 4))), (q 5, .inl (E.2.1 0, 12, .inl (a 5))), (q 6, .inl (E.2.1 0, 5, .inl (a 6))), (q 7, .inl (E.2.1 0, 5, .inl (a 7))), (q 8, .inl (E.2.1 0, 5, .inl (a 8))), (q 9, .inl (E.2.1 0, 5, .inl (a 9))), (q 10, .inl (E.2.1 0, 12, .inl (a 10))), (q 11, .inl (E.2.1 0, 12, .inl (a 11))), (q 12, .inl (E.2.1 0, 5, .inl (a 12))), (q 13, .inl (E.2.1 0, 5, .inl (a 13))), (q 14, .inl (E.2.1 0, 5, .inl (a 14))), (q 15, .inl (E.2.1 0, 5, .inl (a 15))), (q 16, .inl (E.2.1 0, 12, .inl (a 16))), (q 17, .inl (E.2.1 0, 12, .inl (a 17))), (q 18, .inl (E.2.1 0, 5, .inl (a 18))), (q 19, .inl (E.2.1 0, 5, .inl (a 19))), (q 20, .inl (E.2.1 0, 5, .inl (a 20))), (q 21, .inl (E.2.1 1, 4, .inl (a 21))), (q 22, .inl (E.2.1 0, 4, .inl (a 22))), (q 23, .inl (E.2.1 0, 4, .inl (a 23))), (q 24, .inl (E.2.1 0, 160, .inl (a 24)))]
theorem MW_0 {E : ag} {q : Nat → Nat} {g : Nat → Int32} {tw : Int64} {a : Nat → Nat → Int32} : (MW E q g tw a)[0]? = some (q 0, .inr (6, MF q g tw)) := rfl
theorem MW_1 {E : ag} {q : Nat → Nat} {g : Nat → Int32} {tw : Int64} {a : Nat → Nat → Int32} : (MW E q g tw a)[1]? = some (q 1, .inl (E.2.1 0, 960, .inl (a 1))) := rfl
theorem MS_1 {E : ag} {q : Nat → Nat} {g : Nat → Int32} {tw : Int64} {a : Nat → Nat → Int32} (f : Nat → Int32) : (MW E q g tw a).set 1 (q 1, .inl (E.2.1 0, 960, .inl f)) = MW E q g tw (va_up a 1 f) := rfl
theorem MW_2 {E : ag} {q : Nat → Nat} {g : Nat → Int32} {tw : Int64} {a : Nat → Nat → Int32} : (MW E q g tw a)[2]? = some (q 2, .inl (E.2.1 0, 6, .inl (a 2))) := rfl
theorem MS_2 {E : ag} {q : Nat → Nat} {g : Nat → Int32} {tw : Int64} {a : Nat → Nat → Int32} (f : Nat → Int32) : (MW E q g tw a).set 2 (q 2, .inl (E.2.1 0, 6, .inl f)) = MW E q g tw (va_up a 2 f) := rfl
theorem MW_3 {E : ag} {q : Nat → Nat} {g : Nat → Int32} {tw : Int64} {a : Nat → Nat → Int32} : (MW E q g tw a)[3]? = some (q 3, .inl (E.2.1 0, 160, .inl (a 3))) := rfl
theorem MS_3 {E : ag} {q : Nat → Nat} {g : Nat → Int32} {tw : Int64} {a : Nat → Nat → Int32} (f : Nat → Int32) : (MW E q g tw a).set 3 (q 3, .inl (E.2.1 0, 160, .inl f)) = MW E q g tw (va_up a 3 f) := rfl
theorem MW_4 {E : ag} {q : Nat → Nat} {g : Nat → Int32} {tw : Int64} {a : Nat → Nat → Int32} : (MW E q g tw a)[4]? = some (q 4, .inl (E.2.1 0, 12, .inl (a 4))) := rfl
theorem MS_4 {E : ag} {q : Nat → Nat} {g : Nat → Int32} {tw : Int64} {a : Nat → Nat → Int32} (f : Nat → Int32) : (MW E q g tw a).set 4 (q 4, .inl (E.2.1 0, 12, .inl f)) = MW E q g tw (va_up a 4 f) := rfl
theorem MW_5 {E : ag} {q : Nat → Nat} {g : Nat → Int32} {tw : Int64} {a : Nat → Nat → Int32} : (MW E q g tw a)[5]? = some (q 5, .inl (E.2.1 0, 12, .inl (a 5))) := rfl
theorem MS_5 {E : ag} {q : Nat → Nat} {g : Nat → Int32} {tw : Int64} {a : Nat → Nat → Int32} (f : Nat → Int32) : (MW E q g tw a).set 5 (q 5, .inl (E.2.1 0, 12, .inl f)) = MW E q g tw (va_up a 5 f) := rfl
theorem MW_6 {E : ag} {q : Nat → Nat} {g : Nat → Int32} {tw : Int64} {a : Nat → Nat → Int32} : (MW E q g tw a)[6]? = some (q 6, .inl (E.2.1 0, 5, .inl (a 6))) := rfl
theorem MS_6 {E : ag} {q : Nat → Nat} {g : Nat → Int32} {tw : Int64} {a : Nat → Nat → Int32} (f : Nat → Int32) : (MW E q g tw a).set 6 (q 6, .inl (E.2.1 0, 5, .inl f)) = MW E q g tw (va_up a 6 f) := rfl
theorem MW_7 {E : ag} {q : Nat → Nat} {g : Nat → Int32} {tw : Int64} {a : Nat → Nat → Int32} : (MW E q g tw a)[7]? = some (q 7, .inl (E.2.1 0, 5, .inl (a 7))) := rfl
theorem MS_7 {E : ag} {q : Nat → Nat} {g : Nat → Int32} {tw : Int64} {a : Nat → Nat → Int32} (f : Nat → Int32) : (MW E q g tw a).set 7 (q 7, .inl (E.2.1 0, 5, .inl f)) = MW E q g tw (va_up a 7 f) := rfl
theorem MW_8 {E : ag} {q : Nat → Nat} {g : Nat → Int32} {tw : Int64} {a : Nat → Nat → Int32} : (MW E q g tw a)[8]? = some (q 8, .inl (E.2.1 0, 5, .inl (a 8))) := rfl
theorem MS_8 {E : ag} {q : Nat → Nat} {g : Nat → Int32} {tw : Int64} {a : Nat → Nat → Int32} (f : Nat → Int32) : (MW E q g tw a).set 8 (q 8, .inl (E.2.1 0, 5, .inl f)) = MW E q g tw (va_up a 8 f) := rfl
theorem MW_9 {E : ag} {q : Nat → Nat} {g : Nat → Int32} {tw : Int64} {a : Nat → Nat → Int32} : (MW E q g tw a)[9]? = some (q 9, .inl (E.2.1 0, 5, .inl (a 9))) := rfl
theorem MS_9 {E : ag} {q : Nat → Nat} {g : Nat → Int32} {tw : Int64} {a : Nat → Nat → Int32} (f : Nat → Int32) : (MW E q g tw a).set 9 (q 9, .inl (E.2.1 0, 5, .inl f)) = MW E q g tw (va_up a 9 f) := rfl
theorem MW_10 {E : ag} {q : Nat → Nat} {g : Nat → Int32} {tw : Int64} {a : Nat → Nat → Int32} : (MW E q g tw a)[10]? = some (q 10, .inl (E.2.1 0, 12, .inl (a 10))) := rfl
theorem MS_10 {E : ag} {q : Nat → Nat} {g : Nat → Int32} {tw : Int64} {a : Nat → Nat → Int32} (f : Nat → Int32) : (MW E q g tw a).set 10 (q 10, .inl (E.2.1 0, 12, .inl f)) = MW E q g tw (va_up a 10 f) := rfl
theorem MW_11 {E : ag} {q : Nat → Nat} {g : Nat → Int32} {tw : Int64} {a : Nat → Nat → Int32} : (MW E q g tw a)[11]? = some (q 11, .inl (E.2.1 0, 12, .inl (a 11))) := rfl
theorem MS_11 {E : ag} {q : Nat → Nat} {g : Nat → Int32} {tw : Int64} {a : Nat → Nat → Int32} (f : Nat → Int32) : (MW E q g tw a).set 11 (q 11, .inl (E.2.1 0, 12, .inl f)) = MW E q g tw (va_up a 11 f) := rfl
theorem MW_12 {E : ag} {q : Nat → Nat} {g : Nat → Int32} {tw : Int64} {a : Nat → Nat → Int32} : (MW E q g tw a)[12]? = some (q 12, .inl (E.2.1 0, 5, .inl (a 12))) := rfl
theorem MS_12 {E : ag} {q : Nat → Nat} {g : Nat → Int32} {tw : Int64} {a : Nat → Nat → Int32} (f : Nat → Int32) : (MW E q g tw a).set 12 (q 12, .inl (E.2.1 0, 5, .inl f)) = MW E q g tw (va_up a 12 f) := rfl
theorem MW_13 {E : ag} {q : Nat → Nat} {g : Nat → Int32} {tw : Int64} {a : Nat → Nat → Int32} : (MW E q g tw a)[13]? = some (q 13, .inl (E.2.1 0, 5, .inl (a 13))) := rfl
theorem MS_13 {E : ag} {q : Nat → Nat} {g : Nat → Int32} {tw : Int64} {a : Nat → Nat → Int32} (f : Nat → Int32) : (MW E q g tw a).set 13 (q 13, .inl (E.2.1 0, 5, .inl f)) = MW E q g tw (va_up a 13 f) := rfl
theorem MW_14 {E : ag} {q : Nat → Nat} {g : Nat → Int32} {tw : Int64} {a : Nat → Nat → Int32} : (MW E q g tw a)[14]? = some (q 14, .inl (E.2.1 0, 5, .inl (a 14))) := rfl
theorem MS_14 {E : ag} {q : Nat → Nat} {g : Nat → Int32} {tw : Int64} {a : Nat → Nat → Int32} (f : Nat → Int32) : (MW E q g tw a).set 14 (q 14, .inl (E.2.1 0, 5, .inl f)) = MW E q g tw (va_up a 14 f) := rfl
theorem MW_15 {E : ag} {q : Nat → Nat} {g : Nat → Int32} {tw : Int64} {a : Nat → Nat → Int32} : (MW E q g tw a)[15]? = some (q 15, .inl (E.2.1 0, 5, .inl (a 15))) := rfl
theorem MS_15 {E : ag} {q : Nat → Nat} {g : Nat → Int32} {tw : Int64} {a : Nat → Nat → Int32} (f : Nat → Int32) : (MW E q g tw a).set 15 (q 15, .inl (E.2.1 0, 5, .inl f)) = MW E q g tw (va_up a 15 f) := rfl
theorem MW_16 {E : ag} {q : Nat → Nat} {g : Nat → Int32} {tw : Int64} {a : Nat → Nat → Int32} : (MW E q g tw a)[16]? = some (q 16, .inl (E.2.1 0, 12, .inl (a 16))) := rfl
theorem MS_16 {E : ag} {q : Nat → Nat} {g : Nat → Int32} {tw : Int64} {a : Nat → Nat → Int32} (f : Nat → Int32) : (MW E q g tw a).set 16 (q 16, .inl (E.2.1 0, 12, .inl f)) = MW E q g tw (va_up a 16 f) := rfl
theorem MW_17 {E : ag} {q : Nat → Nat} {g : Nat → Int32} {tw : Int64} {a : Nat → Nat → Int32} : (MW E q g tw a)[17]? = some (q 17, .inl (E.2.1 0, 12, .inl (a 17))) := rfl
theorem MS_17 {E : ag} {q : Nat → Nat} {g : Nat → Int32} {tw : Int64} {a : Nat → Nat → Int32} (f : Nat → Int32) : (MW E q g tw a).set 17 (q 17, .inl (E.2.1 0, 12, .inl f)) = MW E q g tw (va_up a 17 f) := rfl
theorem MW_18 {E : ag} {q : Nat → Nat} {g : Nat → Int32} {tw : Int64} {a : Nat → Nat → Int32} : (MW E q g tw a)[18]? = some (q 18, .inl (E.2.1 0, 5, .inl (a 18))) := rfl
theorem MS_18 {E : ag} {q : Nat → Nat} {g : Nat → Int32} {tw : Int64} {a : Nat → Nat → Int32} (f : Nat → Int32) : (MW E q g tw a).set 18 (q 18, .inl (E.2.1 0, 5, .inl f)) = MW E q g tw (va_up a 18 f) := rfl
theorem MW_19 {E : ag} {q : Nat → Nat} {g : Nat → Int32} {tw : Int64} {a : Nat → Nat → Int32} : (MW E q g tw a)[19]? = some (q 19, .inl (E.2.1 0, 5, .inl (a 19))) := rfl
theorem MS_19 {E : ag} {q : Nat → Nat} {g : Nat → Int32} {tw : Int64} {a : Nat → Nat → Int32} (f : Nat → Int32) : (MW E q g tw a).set 19 (q 19, .inl (E.2.1 0, 5, .inl f)) = MW E q g tw (va_up a 19 f) := rfl
theorem MW_20 {E : ag} {q : Nat → Nat} {g : Nat → Int32} {tw : Int64} {a : Nat → Nat → Int32} : (MW E q g tw a)[20]? = some (q 20, .inl (E.2.1 0, 5, .inl (a 20))) := rfl
theorem MS_20 {E : ag} {q : Nat → Nat} {g : Nat → Int32} {tw : Int64} {a : Nat → Nat → Int32} (f : Nat → Int32) : (MW E q g tw a).set 20 (q 20, .inl (E.2.1 0, 5, .inl f)) = MW E q g tw (va_up a 20 f) := rfl
theorem MW_21 {E : ag} {q : Nat → Nat} {g : Nat → Int32} {tw : Int64} {a : Nat → Nat → Int32} : (MW E q g tw a)[21]? = some (q 21, .inl (E.2.1 1, 4, .inl (a 21))) := rfl
theorem MS_21 {E : ag} {q : Nat → Nat} {g : Nat → Int32} {tw : Int64} {a : Nat → Nat → Int32} (f : Nat → Int32) : (MW E q g tw a).set 21 (q 21, .inl (E.2.1 1, 4, .inl f)) = MW E q g tw (va_up a 21 f) := rfl
theorem MW_22 {E : ag} {q : Nat → Nat} {g : Nat → Int32} {tw : Int64} {a : Nat → Nat → Int32} : (MW E q g tw a)[22]? = some (q 22, .inl (E.2.1 0, 4, .inl (a 22))) := rfl
theorem MS_22 {E : ag} {q : Nat → Nat} {g : Nat → Int32} {tw : Int64} {a : Nat → Nat → Int32} (f : Nat → Int32) : (MW E q g tw a).set 22 (q 22, .inl (E.2.1 0, 4, .inl f)) = MW E q g tw (va_up a 22 f) := rfl
theorem MW_23 {E : ag} {q : Nat → Nat} {g : Nat → Int32} {tw : Int64} {a : Nat → Nat → Int32} : (MW E q g tw a)[23]? = some (q 23, .inl (E.2.1 0, 4, .inl (a 23))) := rfl
theorem MS_23 {E : ag} {q : Nat → Nat} {g : Nat → Int32} {tw : Int64} {a : Nat → Nat → Int32} (f : Nat → Int32) : (MW E q g tw a).set 23 (q 23, .inl (E.2.1 0, 4, .inl f)) = MW E q g tw (va_up a 23 f) := rfl
theorem MW_24 {E : ag} {q : Nat → Nat} {g : Nat → Int32} {tw : Int64} {a : Nat → Nat → Int32} : (MW E q g tw a)[24]? = some (q 24, .inl (E.2.1 0, 160, .inl (a 24))) := rfl
theorem MS_24 {E : ag} {q : Nat → Nat} {g : Nat → Int32} {tw : Int64} {a : Nat → Nat → Int32} (f : Nat → Int32) : (MW E q g tw a).set 24 (q 24, .inl (E.2.1 0, 160, .inl f)) = MW E q g tw (va_up a 24 f) := rfl
theorem MF_0 {q : Nat → Nat} {g : Nat → Int32} {tw : Int64} : (MF q g tw)[0]? = some (.int (g 0)) := rfl
theorem MP_0 {E : ag} {q : Nat → Nat} {g : Nat → Int32} {tw : Int64} {a : Nat → Nat → Int32} (v : Int32) : (MW E q g tw a).set 0 (q 0, .inr (6, (MF q g tw).set 0 (.int v))) = MW E q (upd g 0 v) tw a := rfl
theorem MF_1 {q : Nat → Nat} {g : Nat → Int32} {tw : Int64} : (MF q g tw)[1]? = some (.ref (q 1)) := rfl
theorem MF_2 {q : Nat → Nat} {g : Nat → Int32} {tw : Int64} : (MF q g tw)[2]? = some (.ref (q 2)) := rfl
theorem MF_3 {q : Nat → Nat} {g : Nat → Int32} {tw : Int64} : (MF q g tw)[3]? = some (.int (g 3)) := rfl
theorem MP_3 {E : ag} {q : Nat → Nat} {g : Nat → Int32} {tw : Int64} {a : Nat → Nat → Int32} (v : Int32) : (MW E q g tw a).set 0 (q 0, .inr (6, (MF q g tw).set 3 (.int v))) = MW E q (upd g 3 v) tw a := rfl
theorem MF_4 {q : Nat → Nat} {g : Nat → Int32} {tw : Int64} : (MF q g tw)[4]? = some (.int (g 4)) := rfl
theorem MP_4 {E : ag} {q : Nat → Nat} {g : Nat → Int32} {tw : Int64} {a : Nat → Nat → Int32} (v : Int32) : (MW E q g tw a).set 0 (q 0, .inr (6, (MF q g tw).set 4 (.int v))) = MW E q (upd g 4 v) tw a := rfl
theorem MF_5 {q : Nat → Nat} {g : Nat → Int32} {tw : Int64} : (MF q g tw)[5]? = some (.ref (q 3)) := rfl
theorem MF_6 {q : Nat → Nat} {g : Nat → Int32} {tw : Int64} : (MF q g tw)[6]? = some (.int (g 6)) := rfl
theorem MP_6 {E : ag} {q : Nat → Nat} {g : Nat → Int32} {tw : Int64} {a : Nat → Nat → Int32} (v : Int32) : (MW E q g tw a).set 0 (q 0, .inr (6, (MF q g tw).set 6 (.int v))) = MW E q (upd g 6 v) tw a := rfl
theorem MF_7 {q : Nat → Nat} {g : Nat → Int32} {tw : Int64} : (MF q g tw)[7]? = some (.ref (q 4)) := rfl
theorem MF_8 {q : Nat → Nat} {g : Nat → Int32} {tw : Int64} : (MF q g tw)[8]? = some (.ref (q 5)) := rfl
theorem MF_9 {q : Nat → Nat} {g : Nat → Int32} {tw : Int64} : (MF q g tw)[9]? = some (.ref (q 6)) := rfl
theorem MF_10 {q : Nat → Nat} {g : Nat → Int32} {tw : Int64} : (MF q g tw)[10]? = some (.ref (q 7)) := rfl
theorem MF_11 {q : Nat → Nat} {g : Nat → Int32} {tw : Int64} : (MF q g tw)[11]? = some (.ref (q 8)) := rfl
theorem MF_12 {q : Nat → Nat} {g : Nat → Int32} {tw : Int64} : (MF q g tw)[12]? = some (.ref (q 9)) := rfl
theorem MF_13 {q : Nat → Nat} {g : Nat → Int32} {tw : Int64} : (MF q g tw)[13]? = some (.int (g 13)) := rfl
theorem MP_13 {E : ag} {q : Nat → Nat} {g : Nat → Int32} {tw : Int64} {a : Nat → Nat → Int32} (v : Int32) : (MW E q g tw a).set 0 (q 0, .inr (6, (MF q g tw).set 13 (.int v))) = MW E q (upd g 13 v) tw a := rfl
theorem MF_14 {q : Nat → Nat} {g : Nat → Int32} {tw : Int64} : (MF q g tw)[14]? = some (.int (g 14)) := rfl
theorem MP_14 {E : ag} {q : Nat → Nat} {g : Nat → Int32} {tw : Int64} {a : Nat → Nat → Int32} (v : Int32) : (MW E q g tw a).set 0 (q 0, .inr (6, (MF q g tw).set 14 (.int v))) = MW E q (upd g 14 v) tw a := rfl
theorem MF_15 {q : Nat → Nat} {g : Nat → Int32} {tw : Int64} : (MF q g tw)[15]? = some (.int (g 15)) := rfl
theorem MP_15 {E : ag} {q : Nat → Nat} {g : Nat → Int32} {tw : Int64} {a : Nat → Nat → Int32} (v : Int32) : (MW E q g tw a).set 0 (q 0, .inr (6, (MF q g tw).set 15 (.int v))) = MW E q (upd g 15 v) tw a := rfl
theorem MF_16 {q : Nat → Nat} {g : Nat → Int32} {tw : Int64} : (MF q g tw)[16]? = some (.int (g 16)) := rfl
theorem MP_16 {E : ag} {q : Nat → Nat} {g : Nat → Int32} {tw : Int64} {a : Nat → Nat → Int32} (v : Int32) : (MW E q g tw a).set 0 (q 0, .inr (6, (MF q g tw).set 16 (.int v))) = MW E q (upd g 16 v) tw a := rfl
theorem MF_17 {q : Nat → Nat} {g : Nat → Int32} {tw : Int64} : (MF q g tw)[17]? = some (.int (g 17)) := rfl
theorem MP_17 {E : ag} {q : Nat → Nat} {g : Nat → Int32} {tw : Int64} {a : Nat → Nat → Int32} (v : Int32) : (MW E q g tw a).set 0 (q 0, .inr (6, (MF q g tw).set 17 (.int v))) = MW E q (upd g 17 v) tw a := rfl
theorem MF_18 {q : Nat → Nat} {g : Nat → Int32} {tw : Int64} : (MF q g tw)[18]? = some (.int (g 18)) := rfl
theorem MP_18 {E : ag} {q : Nat → Nat} {g : Nat → Int32} {tw : Int64} {a : Nat → Nat → Int32} (v : Int32) : (MW E q g tw a).set 0 (q 0, .inr (6, (MF q g tw).set 18 (.int v))) = MW E q (upd g 18 v) tw a := rfl
theorem MF_19 {q : Nat → Nat} {g : Nat → Int32} {tw : Int64} : (MF q g tw)[19]? = some (.int (g 19)) := rfl
theorem MP_19 {E : ag} {q : Nat → Nat} {g : Nat → Int32} {tw : Int64} {a : Nat → Nat → Int32} (v : Int32) : (MW E q g tw a).set 0 (q 0, .inr (6, (MF q g tw).set 19 (.int v))) = MW E q (upd g 19 v) tw a := rfl
theorem MF_20 {q : Nat → Nat} {g : Nat → Int32} {tw : Int64} : (MF q g tw)[20]? = some (.int (g 20)) := rfl
theorem MP_20 {E : ag} {q : Nat → Nat} {g : Nat → Int32} {tw : Int64} {a : Nat → Nat → Int32} (v : Int32) : (MW E q g tw a).set 0 (q 0, .inr (6, (MF q g tw).set 20 (.int v))) = MW E q (upd g 20 v) tw a := rfl
theorem MF_21 {q : Nat → Nat} {g : Nat → Int32} {tw : Int64} : (MF q g tw)[21]? = some (.int (g 21)) := rfl
theorem MP_21 {E : ag} {q : Nat → Nat} {g : Nat → Int32} {tw : Int64} {a : Nat → Nat → Int32} (v : Int32) : (MW E q g tw a).set 0 (q 0, .inr (6, (MF q g tw).set 21 (.int v))) = MW E q (upd g 21 v) tw a := rfl
theorem MF_22 {q : Nat → Nat} {g : Nat → Int32} {tw : Int64} : (MF q g tw)[22]? = some (.int (g 22)) := rfl
theorem MP_22 {E : ag} {q : Nat → Nat} {g : Nat → Int32} {tw : Int64} {a : Nat → Nat → Int32} (v : Int32) : (MW E q g tw a).set 0 (q 0, .inr (6, (MF q g tw).set 22 (.int v))) = MW E q (upd g 22 v) tw a := rfl
theorem MF_23 {q : Nat → Nat} {g : Nat → Int32} {tw : Int64} : (MF q g tw)[23]? = some (.int (g 23)) := rfl
theorem MP_23 {E : ag} {q : Nat → Nat} {g : Nat → Int32} {tw : Int64} {a : Nat → Nat → Int32} (v : Int32) : (MW E q g tw a).set 0 (q 0, .inr (6, (MF q g tw).set 23 (.int v))) = MW E q (upd g 23 v) tw a := rfl
theorem MF_24 {q : Nat → Nat} {g : Nat → Int32} {tw : Int64} : (MF q g tw)[24]? = some (.int (g 24)) := rfl
theorem MP_24 {E : ag} {q : Nat → Nat} {g : Nat → Int32} {tw : Int64} {a : Nat → Nat → Int32} (v : Int32) : (MW E q g tw a).set 0 (q 0, .inr (6, (MF q g tw).set 24 (.int v))) = MW E q (upd g 24 v) tw a := rfl
theorem MF_25 {q : Nat → Nat} {g : Nat → Int32} {tw : Int64} : (MF q g tw)[25]? = some (.int (g 25)) := rfl
theorem MP_25 {E : ag} {q : Nat → Nat} {g : Nat → Int32} {tw : Int64} {a : Nat → Nat → Int32} (v : Int32) : (MW E q g tw a).set 0 (q 0, .inr (6, (MF q g tw).set 25 (.int v))) = MW E q (upd g 25 v) tw a := rfl
theorem MF_26 {q : Nat → Nat} {g : Nat → Int32} {tw : Int64} : (MF q g tw)[26]? = some (.int (g 26)) := rfl
theorem MP_26 {E : ag} {q : Nat → Nat} {g : Nat → Int32} {tw : Int64} {a : Nat → Nat → Int32} (v : Int32) : (MW E q g tw a).set 0 (q 0, .inr (6, (MF q g tw).set 26 (.int v))) = MW E q (upd g 26 v) tw a := rfl
theorem MF_27 {q : Nat → Nat} {g : Nat → Int32} {tw : Int64} : (MF q g tw)[27]? = some (.int (g 27)) := rfl
theorem MP_27 {E : ag} {q : Nat → Nat} {g : Nat → Int32} {tw : Int64} {a : Nat → Nat → Int32} (v : Int32) : (MW E q g tw a).set 0 (q 0, .inr (6, (MF q g tw).set 27 (.int v))) = MW E q (upd g 27 v) tw a := rfl
theorem MF_28 {q : Nat → Nat} {g : Nat → Int32} {tw : Int64} : (MF q g tw)[28]? = some (.long tw) := rfl
theorem MP_28 {E : ag} {q : Nat → Nat} {g : Nat → Int32} {tw : Int64} {a : Nat → Nat → Int32} (v : Int64) : (MW E q g tw a).set 0 (q 0, .inr (6, (MF q g tw).set 28 (.long v))) = MW E q g v a := rfl
theorem MF_29 {q : Nat → Nat} {g : Nat → Int32} {tw : Int64} : (MF q g tw)[29]? = some (.int (g 29)) := rfl
theorem MP_29 {E : ag} {q : Nat → Nat} {g : Nat → Int32} {tw : Int64} {a : Nat → Nat → Int32} (v : Int32) : (MW E q g tw a).set 0 (q 0, .inr (6, (MF q g tw).set 29 (.int v))) = MW E q (upd g 29 v) tw a := rfl
theorem MF_30 {q : Nat → Nat} {g : Nat → Int32} {tw : Int64} : (MF q g tw)[30]? = some (.int (g 30)) := rfl
theorem MP_30 {E : ag} {q : Nat → Nat} {g : Nat → Int32} {tw : Int64} {a : Nat → Nat → Int32} (v : Int32) : (MW E q g tw a).set 0 (q 0, .inr (6, (MF q g tw).set 30 (.int v))) = MW E q (upd g 30 v) tw a := rfl
theorem MF_31 {q : Nat → Nat} {g : Nat → Int32} {tw : Int64} : (MF q g tw)[31]? = some (.int (g 31)) := rfl
theorem MP_31 {E : ag} {q : Nat → Nat} {g : Nat → Int32} {tw : Int64} {a : Nat → Nat → Int32} (v : Int32) : (MW E q g tw a).set 0 (q 0, .inr (6, (MF q g tw).set 31 (.int v))) = MW E q (upd g 31 v) tw a := rfl
theorem MF_32 {q : Nat → Nat} {g : Nat → Int32} {tw : Int64} : (MF q g tw)[32]? = some (.int (g 32)) := rfl
theorem MP_32 {E : ag} {q : Nat → Nat} {g : Nat → Int32} {tw : Int64} {a : Nat → Nat → Int32} (v : Int32) : (MW E q g tw a).set 0 (q 0, .inr (6, (MF q g tw).set 32 (.int v))) = MW E q (upd g 32 v) tw a := rfl
theorem MF_33 {q : Nat → Nat} {g : Nat → Int32} {tw : Int64} : (MF q g tw)[33]? = some (.int (g 33)) := rfl
theorem MP_33 {E : ag} {q : Nat → Nat} {g : Nat → Int32} {tw : Int64} {a : Nat → Nat → Int32} (v : Int32) : (MW E q g tw a).set 0 (q 0, .inr (6, (MF q g tw).set 33 (.int v))) = MW E q (upd g 33 v) tw a := rfl
theorem MF_34 {q : Nat → Nat} {g : Nat → Int32} {tw : Int64} : (MF q g tw)[34]? = some (.int (g 34)) := rfl
theorem MP_34 {E : ag} {q : Nat → Nat} {g : Nat → Int32} {tw : Int64} {a : Nat → Nat → Int32} (v : Int32) : (MW E q g tw a).set 0 (q 0, .inr (6, (MF q g tw).set 34 (.int v))) = MW E q (upd g 34 v) tw a := rfl
theorem MF_35 {q : Nat → Nat} {g : Nat → Int32} {tw : Int64} : (MF q g tw)[35]? = some (.int (g 35)) := rfl
theorem MP_35 {E : ag} {q : Nat → Nat} {g : Nat → Int32} {tw : Int64} {a : Nat → Nat → Int32} (v : Int32) : (MW E q g tw a).set 0 (q 0, .inr (6, (MF q g tw).set 35 (.int v))) = MW E q (upd g 35 v) tw a := rfl
theorem MF_36 {q : Nat → Nat} {g : Nat → Int32} {tw : Int64} : (MF q g tw)[36]? = some (.int (g 36)) := rfl
theorem MP_36 {E : ag} {q : Nat → Nat} {g : Nat → Int32} {tw : Int64} {a : Nat → Nat → Int32} (v : Int32) : (MW E q g tw a).set 0 (q 0, .inr (6, (MF q g tw).set 36 (.int v))) = MW E q (upd g 36 v) tw a := rfl
theorem MF_37 {q : Nat → Nat} {g : Nat → Int32} {tw : Int64} : (MF q g tw)[37]? = some (.ref (q 10)) := rfl
theorem MF_38 {q : Nat → Nat} {g : Nat → Int32} {tw : Int64} : (MF q g tw)[38]? = some (.ref (q 11)) := rfl
theorem MF_39 {q : Nat → Nat} {g : Nat → Int32} {tw : Int64} : (MF q g tw)[39]? = some (.ref (q 12)) := rfl
theorem MF_40 {q : Nat → Nat} {g : Nat → Int32} {tw : Int64} : (MF q g tw)[40]? = some (.ref (q 13)) := rfl
theorem MF_41 {q : Nat → Nat} {g : Nat → Int32} {tw : Int64} : (MF q g tw)[41]? = some (.ref (q 14)) := rfl
theorem MF_42 {q : Nat → Nat} {g : Nat → Int32} {tw : Int64} : (MF q g tw)[42]? = some (.ref (q 15)) := rfl
theorem MF_43 {q : Nat → Nat} {g : Nat → Int32} {tw : Int64} : (MF q g tw)[43]? = some (.int (g 43)) := rfl
theorem MP_43 {E : ag} {q : Nat → Nat} {g : Nat → Int32} {tw : Int64} {a : Nat → Nat → Int32} (v : Int32) : (MW E q g tw a).set 0 (q 0, .inr (6, (MF q g tw).set 43 (.int v))) = MW E q (upd g 43 v) tw a := rfl
theorem MF_44 {q : Nat → Nat} {g : Nat → Int32} {tw : Int64} : (MF q g tw)[44]? = some (.int (g 44)) := rfl
theorem MP_44 {E : ag} {q : Nat → Nat} {g : Nat → Int32} {tw : Int64} {a : Nat → Nat → Int32} (v : Int32) : (MW E q g tw a).set 0 (q 0, .inr (6, (MF q g tw).set 44 (.int v))) = MW E q (upd g 44 v) tw a := rfl
theorem MF_45 {q : Nat → Nat} {g : Nat → Int32} {tw : Int64} : (MF q g tw)[45]? = some (.int (g 45)) := rfl
theorem MP_45 {E : ag} {q : Nat → Nat} {g : Nat → Int32} {tw : Int64} {a : Nat → Nat → Int32} (v : Int32) : (MW E q g tw a).set 0 (q 0, .inr (6, (MF q g tw).set 45 (.int v))) = MW E q (upd g 45 v) tw a := rfl
theorem MF_46 {q : Nat → Nat} {g : Nat → Int32} {tw : Int64} : (MF q g tw)[46]? = some (.int (g 46)) := rfl
theorem MP_46 {E : ag} {q : Nat → Nat} {g : Nat → Int32} {tw : Int64} {a : Nat → Nat → Int32} (v : Int32) : (MW E q g tw a).set 0 (q 0, .inr (6, (MF q g tw).set 46 (.int v))) = MW E q (upd g 46 v) tw a := rfl
theorem MF_47 {q : Nat → Nat} {g : Nat → Int32} {tw : Int64} : (MF q g tw)[47]? = some (.int (g 47)) := rfl
theorem MP_47 {E : ag} {q : Nat → Nat} {g : Nat → Int32} {tw : Int64} {a : Nat → Nat → Int32} (v : Int32) : (MW E q g tw a).set 0 (q 0, .inr (6, (MF q g tw).set 47 (.int v))) = MW E q (upd g 47 v) tw a := rfl
theorem MF_48 {q : Nat → Nat} {g : Nat → Int32} {tw : Int64} : (MF q g tw)[48]? = some (.int (g 48)) := rfl
theorem MP_48 {E : ag} {q : Nat → Nat} {g : Nat → Int32} {tw : Int64} {a : Nat → Nat → Int32} (v : Int32) : (MW E q g tw a).set 0 (q 0, .inr (6, (MF q g tw).set 48 (.int v))) = MW E q (upd g 48 v) tw a := rfl
theorem MF_49 {q : Nat → Nat} {g : Nat → Int32} {tw : Int64} : (MF q g tw)[49]? = some (.int (g 49)) := rfl
theorem MP_49 {E : ag} {q : Nat → Nat} {g : Nat → Int32} {tw : Int64} {a : Nat → Nat → Int32} (v : Int32) : (MW E q g tw a).set 0 (q 0, .inr (6, (MF q g tw).set 49 (.int v))) = MW E q (upd g 49 v) tw a := rfl
theorem MF_50 {q : Nat → Nat} {g : Nat → Int32} {tw : Int64} : (MF q g tw)[50]? = some (.ref (q 16)) := rfl
theorem MF_51 {q : Nat → Nat} {g : Nat → Int32} {tw : Int64} : (MF q g tw)[51]? = some (.ref (q 17)) := rfl
theorem MF_52 {q : Nat → Nat} {g : Nat → Int32} {tw : Int64} : (MF q g tw)[52]? = some (.ref (q 18)) := rfl
theorem MF_53 {q : Nat → Nat} {g : Nat → Int32} {tw : Int64} : (MF q g tw)[53]? = some (.ref (q 19)) := rfl
theorem MF_54 {q : Nat → Nat} {g : Nat → Int32} {tw : Int64} : (MF q g tw)[54]? = some (.ref (q 20)) := rfl
theorem MF_55 {q : Nat → Nat} {g : Nat → Int32} {tw : Int64} : (MF q g tw)[55]? = some (.int (g 55)) := rfl
theorem MP_55 {E : ag} {q : Nat → Nat} {g : Nat → Int32} {tw : Int64} {a : Nat → Nat → Int32} (v : Int32) : (MW E q g tw a).set 0 (q 0, .inr (6, (MF q g tw).set 55 (.int v))) = MW E q (upd g 55 v) tw a := rfl
theorem MF_56 {q : Nat → Nat} {g : Nat → Int32} {tw : Int64} : (MF q g tw)[56]? = some (.int (g 56)) := rfl
theorem MP_56 {E : ag} {q : Nat → Nat} {g : Nat → Int32} {tw : Int64} {a : Nat → Nat → Int32} (v : Int32) : (MW E q g tw a).set 0 (q 0, .inr (6, (MF q g tw).set 56 (.int v))) = MW E q (upd g 56 v) tw a := rfl
theorem MF_57 {q : Nat → Nat} {g : Nat → Int32} {tw : Int64} : (MF q g tw)[57]? = some (.int (g 57)) := rfl
theorem MP_57 {E : ag} {q : Nat → Nat} {g : Nat → Int32} {tw : Int64} {a : Nat → Nat → Int32} (v : Int32) : (MW E q g tw a).set 0 (q 0, .inr (6, (MF q g tw).set 57 (.int v))) = MW E q (upd g 57 v) tw a := rfl
theorem MF_58 {q : Nat → Nat} {g : Nat → Int32} {tw : Int64} : (MF q g tw)[58]? = some (.int (g 58)) := rfl
theorem MP_58 {E : ag} {q : Nat → Nat} {g : Nat → Int32} {tw : Int64} {a : Nat → Nat → Int32} (v : Int32) : (MW E q g tw a).set 0 (q 0, .inr (6, (MF q g tw).set 58 (.int v))) = MW E q (upd g 58 v) tw a := rfl
theorem MF_59 {q : Nat → Nat} {g : Nat → Int32} {tw : Int64} : (MF q g tw)[59]? = some (.int (g 59)) := rfl
theorem MP_59 {E : ag} {q : Nat → Nat} {g : Nat → Int32} {tw : Int64} {a : Nat → Nat → Int32} (v : Int32) : (MW E q g tw a).set 0 (q 0, .inr (6, (MF q g tw).set 59 (.int v))) = MW E q (upd g 59 v) tw a := rfl
theorem MF_60 {q : Nat → Nat} {g : Nat → Int32} {tw : Int64} : (MF q g tw)[60]? = some (.ref (q 21)) := rfl
theorem MF_61 {q : Nat → Nat} {g : Nat → Int32} {tw : Int64} : (MF q g tw)[61]? = some (.ref (q 22)) := rfl
theorem MF_62 {q : Nat → Nat} {g : Nat → Int32} {tw : Int64} : (MF q g tw)[62]? = some (.ref (q 23)) := rfl
theorem MF_63 {q : Nat → Nat} {g : Nat → Int32} {tw : Int64} : (MF q g tw)[63]? = some (.ref (q 24)) := rfl
theorem ML_0 {q : Nat → Nat} {g : Nat → Int32} {tw : Int64} {k : Nat} (h : k < 64 := by decide) : k < (MF q g tw).length := h
theorem AW.pcq {E : ag} {M : am} {d bc bs pc : Nat} {pc2 : Nat} {ls : List (Option Value)} {st : List Value} {ws : va_W} {post : Option Value → va_W → Prop} (h : pc = pc2) (k : AW E M d bc bs pc2 ls st ws post) : AW E M d bc bs pc ls st ws post := h ▸ k
end
section
/-! PLAIN METHODS OF THE REFERENCE -/
def inI (v l h : Int32) : Int32 := if l ≤ v ∧ v ≤ h then 1 else 0
theorem inI_no {v l h : Int32} (q : inI v l h = 0) : ¬ (l ≤ v ∧ v ≤ h) := fun z => by simp [inI, z] at q
theorem inI_yes {v l h : Int32} (q : ¬ inI v l h = 0) : l.toInt ≤ v.toInt ∧ v.toInt ≤ h.toInt := by
  by_cases z : l ≤ v ∧ v ≤ h
  · exact ⟨Int32.le_iff_toInt_le.mp z.1, Int32.le_iff_toInt_le.mp z.2⟩
  · exact absurd (by simp [inI, z]) q
theorem inI_of {v l h : Int32} (a : l ≤ v) (b : v ≤ h) : inI v l h = 1 := by simp [inI, a, b]
theorem inI_lo {v l h : Int32} (a : ¬ l ≤ v) : inI v l h = 0 := by simp [inI, a]
theorem inI_hi {v l h : Int32} (b : ¬ v ≤ h) : inI v l h = 0 := by simp [inI, b]
theorem wide_le (a b : Int32) : a.toInt64 ≤ b.toInt64 ↔ a ≤ b := by rw [Int64.le_iff_toInt_le, Int32.le_iff_toInt_le, Int32.toInt_toInt64, Int32.toInt_toInt64]
theorem cmp_neg (x y : Int64) : lg_cmp x y < 0 ↔ x < y := by
  unfold lg_cmp
  simp only [GT.gt, Int64.lt_iff_toInt_lt, ← Int64.toInt_inj]
  split
  · exact ⟨fun z => absurd z (by decide), fun z => by omega⟩
  · split
    · exact ⟨fun z => absurd z (by decide), fun z => by omega⟩
    · exact ⟨fun _ => by omega, fun _ => by decide⟩
theorem cmp_pos (x y : Int64) : 0 < lg_cmp x y ↔ y < x := by
  unfold lg_cmp
  simp only [GT.gt, Int64.lt_iff_toInt_lt, ← Int64.toInt_inj]
  split
  · rename_i h
    exact ⟨fun _ => h, fun _ => by decide⟩
  · split
    · exact ⟨fun z => absurd z (by decide), fun z => by omega⟩
    · exact ⟨fun z => absurd z (by decide), fun z => by omega⟩
theorem cmp_z (x y : Int64) : lg_cmp x y = 0 ↔ x = y := by
  unfold lg_cmp
  simp only [GT.gt, Int64.lt_iff_toInt_lt, ← Int64.toInt_inj]
  split
  · exact ⟨fun z => absurd z (by decide), fun z => by omega⟩
  · split
    · rename_i h
      exact ⟨fun _ => h, fun _ => rfl⟩
    · exact ⟨fun z => absurd z (by decide), fun z => by omega⟩
theorem inI_nar {v l h : Int32} : narrow .boolean (.int (inI v l h)) = .int (inI v l h) := by unfold inI; split <;> decide
theorem nnar0 : narrow .boolean (.int 0) = .int 0 := by decide
theorem nnar1 : narrow .boolean (.int 1) = .int 1 := by decide
def wiI (v l h : Int32) : Int32 := if v < l then l else if h < v then h else v

set_option maxRecDepth 100000 in
set_option maxHeartbeats 4000000 in
theorem m_in (E : ag) (ws : va_W) (v l h : Int32) (V L H : Int64) (hv : V = v.toInt64) (hl : L = l.toInt64) (hh : H = h.toInt64) : CT E yX6_in cX6_in 6 mX6_in.2.2.2.1 1 0 0 [.long V, .long L, .long H] (ws) (ri (fun r w => r = inI v l h ∧ w = ws)) := by
  refine CT.of (M := mX6_in) (ls := [some (.long V), none, some (.long L), none, some (.long H), none]) (by decide) rfl (by decide) rfl (Nat.le_of_ble_eq_true rfl) ?_
  refine A_lload_n (dX6_in 0 rfl) rfl ?_
  refine A_lload_n (dX6_in 1 rfl) rfl ?_
  refine A_lcmp (dX6_in 2 rfl) ?_
  refine A_if_lt 17 (dX6_in 3 rfl) (by decide) (fun h3 => ?_) (fun h3 => ?_)
  · refine A_iconst (0) (dX6_in 10 rfl) (by decide +kernel) ?_
    refine A_ri (dX6_in 11 rfl) rfl rfl ?_
    refine ⟨?_, rfl⟩
    subst hv hl hh
    simp only [cmp_neg, cmp_pos, Int64.lt_iff_toInt_lt, Int32.toInt_toInt64] at *
    simp only [inI, Int32.le_iff_toInt_le]
    split <;> first | rfl | omega
  · refine A_lload_n (dX6_in 4 rfl) rfl ?_
    refine A_lload (dX6_in 5 rfl) rfl ?_
    refine A_lcmp (dX6_in 6 rfl) ?_
    refine A_if_gt 17 (dX6_in 7 rfl) (by decide) (fun h10 => ?_) (fun h10 => ?_)
    · refine A_iconst (0) (dX6_in 10 rfl) (by decide +kernel) ?_
      refine A_ri (dX6_in 11 rfl) rfl rfl ?_
      refine ⟨?_, rfl⟩
      subst hv hl hh
      simp only [cmp_neg, cmp_pos, Int64.lt_iff_toInt_lt, Int32.toInt_toInt64] at *
      simp only [inI, Int32.le_iff_toInt_le]
      split <;> first | rfl | omega
    · refine A_iconst (1) (dX6_in 8 rfl) (by decide +kernel) ?_
      refine A_goto 18 (dX6_in 9 rfl) (by decide) ?_
      refine A_ri (dX6_in 11 rfl) rfl rfl ?_
      refine ⟨?_, rfl⟩
      subst hv hl hh
      simp only [cmp_neg, cmp_pos, Int64.lt_iff_toInt_lt, Int32.toInt_toInt64] at *
      simp only [inI, Int32.le_iff_toInt_le]
      split <;> first | rfl | omega

set_option maxRecDepth 100000 in
set_option maxHeartbeats 4000000 in
theorem m_within (E : ag) (ws : va_W) (v l h : Int32) : CT E yX6_within cX6_within 3 mX6_within.2.2.2.1 1 0 0 [.int v, .int l, .int h] (ws) (ri (fun r w => r = wiI v l h ∧ w = ws)) := by
  refine CT.of (M := mX6_within) (ls := [some (.int v), some (.int l), some (.int h)]) (by decide) rfl (by decide) rfl (Nat.le_of_ble_eq_true rfl) ?_
  refine A_iload_n (dX6_within 0 rfl) rfl ?_
  refine A_iload_n (dX6_within 1 rfl) rfl ?_
  refine A_icmp_ge 9 (dX6_within 2 rfl) (by decide) (fun h2 => ?_) (fun h2 => ?_)
  · refine A_iload_n (dX6_within 5 rfl) rfl ?_
    refine A_iload_n (dX6_within 6 rfl) rfl ?_
    refine A_icmp_le 18 (dX6_within 7 rfl) (by decide) (fun h11 => ?_) (fun h11 => ?_)
    · refine A_iload_n (dX6_within 10 rfl) rfl ?_
      refine A_ri (dX6_within 11 rfl) rfl rfl ?_
      refine ⟨?_, rfl⟩
      simp only [Int32.lt_iff_toInt_lt, Int32.le_iff_toInt_le] at *
      simp only [wiI, Int32.lt_iff_toInt_lt]
      repeat (first | rfl | omega | split)
    · refine A_iload_n (dX6_within 8 rfl) rfl ?_
      refine A_goto 19 (dX6_within 9 rfl) (by decide) ?_
      refine A_ri (dX6_within 11 rfl) rfl rfl ?_
      refine ⟨?_, rfl⟩
      simp only [Int32.lt_iff_toInt_lt, Int32.le_iff_toInt_le] at *
      simp only [wiI, Int32.lt_iff_toInt_lt]
      repeat (first | rfl | omega | split)
  · refine A_iload_n (dX6_within 3 rfl) rfl ?_
    refine A_goto 19 (dX6_within 4 rfl) (by decide) ?_
    refine A_ri (dX6_within 11 rfl) rfl rfl ?_
    refine ⟨?_, rfl⟩
    simp only [Int32.lt_iff_toInt_lt, Int32.le_iff_toInt_le] at *
    simp only [wiI, Int32.lt_iff_toInt_lt]
    repeat (first | rfl | omega | split)

set_option maxRecDepth 100000 in
set_option maxHeartbeats 4000000 in
theorem m_isMan (E : ag) (q : Nat → Nat) (g : Nat → Int32) (tw : Int64) (a : Nat → Nat → Int32) (i : Int32) : CT E yX6_isMan cX6_isMan 2 mX6_isMan.2.2.2.1 2 0 0 [.ref (q 0), .int i] (MW E q g tw a) (ri (fun r w => r = inI i 0 (g 13 - 1) ∧ w = MW E q g tw a)) := by
  refine CT.of (M := mX6_isMan) (ls := [some (.ref (q 0)), some (.int i)]) (by decide) rfl (by decide) rfl (Nat.le_of_ble_eq_true rfl) ?_
  refine A_iload_n (dX6_isMan 0 rfl) rfl ?_
  refine A_i2l (dX6_isMan 1 rfl) ?_
  refine A_lconst (0) (dX6_isMan 2 rfl) (by decide +kernel) ?_
  refine A_aload_n (dX6_isMan 3 rfl) rfl ?_
  refine A_get (dX6_isMan 4 rfl) fwX6_100 MW_0 MF_13 ?_
  refine A_iconst (1) (dX6_isMan 5 rfl) (by decide +kernel) ?_
  refine A_isub (dX6_isMan 6 rfl) ?_
  refine A_i2l (dX6_isMan 7 rfl) ?_
  refine AW.pcq (pc2 := 10) rfl ?_
  refine A_callSWi 3 (dX6_isMan 8 rfl) cbX6_in cwX6_103 (m_in E _ i 0 (g 13 - 1) _ _ _ rfl (by decide) rfl) rfl rfl (Nat.le_of_ble_eq_true rfl) (Nat.le_of_ble_eq_true rfl) (Nat.le_of_ble_eq_true rfl) (Nat.le_of_ble_eq_true rfl) (Nat.le_of_ble_eq_true rfl) ?_
  rintro r10 w1 ⟨rfl, rfl⟩
  refine AW.pcq (pc2 := 13) rfl ?_
  refine A_ri (dX6_isMan 9 rfl) rfl inI_nar ?_
  exact ⟨rfl, rfl⟩

/-- Java's remainder, and a remainder that is 0 or more -/
def mo (x b : Int32) : Int32 := if x - x / b * b < 0 then x - x / b * b + b else x - x / b * b
def p_str (k f n r : Int32) : Int32 := if (if k = 5 then (10 * f - r) / 2 else if k = 2 ∨ k = 3 then 10 * f - r else if k = 1 ∨ k = 4 then 10 * f + 5 * n else 10 * f) < 0 then 0 else (if k = 5 then (10 * f - r) / 2 else if k = 2 ∨ k = 3 then 10 * f - r else if k = 1 ∨ k = 4 then 10 * f + 5 * n else 10 * f)
def p_mnd (k n e : Int32) : Int32 := if k = 0 then e / 2 else if k = 1 then e / 2 / 2 else if k = 4 then e - e / 2 / 2 else if k = 2 then e / 2 / 3 else e / 2 / 3 - n
def p_gap (men bar : Int32) (beats : Nat → Int32) (i : Int32) : Int32 := if men = 1 then bar else mo (beats i.toNatClampNeg - beats (if i = 0 then men - 1 else i - 1).toNatClampNeg) bar
theorem nlt_ge {x : Int32} (h : 0 ≤ x) : ¬ x < 0 := fun z => absurd (Int32.lt_iff_toInt_lt.mp z) (by have := Int32.le_iff_toInt_le.mp h; omega)
theorem lt_nge {x : Int32} (h : ¬ 0 ≤ x) : x < 0 := Int32.not_le.mp h

set_option maxRecDepth 100000 in
set_option maxHeartbeats 4000000 in
theorem m_isCell (E : ag) (ws : va_W) (i : Int32) : CT E yX6_isCell cX6_isCell 1 mX6_isCell.2.2.2.1 2 0 0 [.int i] (ws) (ri (fun r w => r = inI i 0 11 ∧ w = ws)) := by
  refine CT.of (M := mX6_isCell) (ls := [some (.int i)]) (by decide) rfl (by decide) rfl (Nat.le_of_ble_eq_true rfl) ?_
  refine A_iload_n (dX6_isCell 0 rfl) rfl ?_
  refine A_i2l (dX6_isCell 1 rfl) ?_
  refine A_lconst (0) (dX6_isCell 2 rfl) (by decide +kernel) ?_
  refine A_ldc2 (dX6_isCell 3 rfl) kcX6_107 ?_
  refine A_callSWi 3 (dX6_isCell 4 rfl) cbX6_in cwX6_103 (m_in E _ i 0 11 _ _ _ rfl (by decide) (by decide)) rfl rfl (Nat.le_of_ble_eq_true rfl) (Nat.le_of_ble_eq_true rfl) (Nat.le_of_ble_eq_true rfl) (Nat.le_of_ble_eq_true rfl) (Nat.le_of_ble_eq_true rfl) ?_
  rintro r6 w1 ⟨rfl, rfl⟩
  refine AW.pcq (pc2 := 9) rfl ?_
  refine A_ri (dX6_isCell 5 rfl) rfl inI_nar ?_
  exact ⟨rfl, rfl⟩

set_option maxRecDepth 100000 in
set_option maxHeartbeats 4000000 in
theorem m_isSheet (E : ag) (ws : va_W) (i : Int32) : CT E yX6_isSheet cX6_isSheet 1 mX6_isSheet.2.2.2.1 2 0 0 [.int i] (ws) (ri (fun r w => r = inI i 0 3 ∧ w = ws)) := by
  refine CT.of (M := mX6_isSheet) (ls := [some (.int i)]) (by decide) rfl (by decide) rfl (Nat.le_of_ble_eq_true rfl) ?_
  refine A_iload_n (dX6_isSheet 0 rfl) rfl ?_
  refine A_i2l (dX6_isSheet 1 rfl) ?_
  refine A_lconst (0) (dX6_isSheet 2 rfl) (by decide +kernel) ?_
  refine A_ldc2 (dX6_isSheet 3 rfl) kcX6_332 ?_
  refine A_callSWi 3 (dX6_isSheet 4 rfl) cbX6_in cwX6_103 (m_in E _ i 0 3 _ _ _ rfl (by decide) (by decide)) rfl rfl (Nat.le_of_ble_eq_true rfl) (Nat.le_of_ble_eq_true rfl) (Nat.le_of_ble_eq_true rfl) (Nat.le_of_ble_eq_true rfl) (Nat.le_of_ble_eq_true rfl) ?_
  rintro r6 w1 ⟨rfl, rfl⟩
  refine AW.pcq (pc2 := 9) rfl ?_
  refine A_ri (dX6_isSheet 5 rfl) rfl inI_nar ?_
  exact ⟨rfl, rfl⟩

set_option maxRecDepth 100000 in
set_option maxHeartbeats 4000000 in
theorem m_strikes (E : ag) (q : Nat → Nat) (g : Nat → Int32) (tw : Int64) (a : Nat → Nat → Int32) (i : Int32) (hi : vp_in i 5) : CT E yX6_strikes cX6_strikes 5 mX6_strikes.2.2.2.1 1 0 0 [.ref (q 0), .int i] (MW E q g tw a) (ri (fun r w => r = p_str (a 6 i.toNatClampNeg) (a 8 i.toNatClampNeg) (a 9 i.toNatClampNeg) (g 15) ∧ w = MW E q g tw a)) := by
  refine CT.of (M := mX6_strikes) (ls := [some (.ref (q 0)), some (.int i), none, none, none]) (by decide) rfl (by decide) rfl (Nat.le_of_ble_eq_true rfl) ?_
  refine A_aload_n (dX6_strikes 0 rfl) rfl ?_
  refine A_get (dX6_strikes 1 rfl) fwX6_29 MW_0 MF_9 ?_
  refine A_iload_n (dX6_strikes 2 rfl) rfl ?_
  refine A_iald (dX6_strikes 3 rfl) MW_6 (by assumption) ?_
  refine A_istore_n (ls2 := [_, _, _, _, _]) (dX6_strikes 4 rfl) (by decide) rfl rfl ?_
  refine A_bipush (10) (dX6_strikes 5 rfl) (by decide +kernel) ?_
  refine A_aload_n (dX6_strikes 6 rfl) rfl ?_
  refine A_get (dX6_strikes 7 rfl) fwX6_35 MW_0 MF_11 ?_
  refine AW.pcq (pc2 := 13) rfl ?_
  refine A_iload_n (dX6_strikes 8 rfl) rfl ?_
  refine A_iald (dX6_strikes 9 rfl) MW_8 (by assumption) ?_
  refine A_imul (dX6_strikes 10 rfl) ?_
  refine A_istore_n (ls2 := [_, _, _, _, _]) (dX6_strikes 11 rfl) (by decide) rfl rfl ?_
  refine A_iload_n (dX6_strikes 12 rfl) rfl ?_
  refine A_istore (ls2 := [_, _, _, _, _]) (dX6_strikes 13 rfl) (by decide) rfl rfl ?_
  refine A_iload_n (dX6_strikes 14 rfl) rfl ?_
  refine A_iconst (1) (dX6_strikes 15 rfl) (by decide +kernel) ?_
  refine AW.pcq (pc2 := 22) rfl ?_
  refine A_icmp_eq 30 (dX6_strikes 16 rfl) (by decide) (fun h22 => ?_) (fun h22 => ?_)
  · refine A_iload_n (dX6_strikes 20 rfl) rfl ?_
    refine A_iconst (5) (dX6_strikes 21 rfl) (by decide +kernel) ?_
    refine A_aload_n (dX6_strikes 22 rfl) rfl ?_
    refine A_get (dX6_strikes 23 rfl) fwX6_38 MW_0 MF_12 ?_
    refine A_iload_n (dX6_strikes 24 rfl) rfl ?_
    refine A_iald (dX6_strikes 25 rfl) MW_9 (by assumption) ?_
    refine A_imul (dX6_strikes 26 rfl) ?_
    refine A_iadd (dX6_strikes 27 rfl) ?_
    refine AW.pcq (pc2 := 40) rfl ?_
    refine A_istore (ls2 := [_, _, _, _, _]) (dX6_strikes 28 rfl) (by decide) rfl rfl ?_
    refine A_iload_n (dX6_strikes 29 rfl) rfl ?_
    refine A_iconst (2) (dX6_strikes 30 rfl) (by decide +kernel) ?_
    refine A_icmp_eq 52 (dX6_strikes 31 rfl) (by decide) (fun h44 => ?_) (fun h44 => ?_)
    · refine A_iload_n (dX6_strikes 35 rfl) rfl ?_
      refine A_aload_n (dX6_strikes 36 rfl) rfl ?_
      refine A_get (dX6_strikes 37 rfl) fwX6_142 MW_0 MF_15 ?_
      refine A_isub (dX6_strikes 38 rfl) ?_
      refine A_istore (ls2 := [_, _, _, _, _]) (dX6_strikes 39 rfl) (by decide) rfl rfl ?_
      refine A_iload_n (dX6_strikes 40 rfl) rfl ?_
      refine A_iconst (5) (dX6_strikes 41 rfl) (by decide +kernel) ?_
      refine A_icmp_ne 75 (dX6_strikes 42 rfl) (by decide) (fun h62 => ?_) (fun h62 => ?_)
      · refine A_iload (dX6_strikes 50 rfl) rfl ?_
        refine A_if_ge 84 (dX6_strikes 51 rfl) (by decide) (fun h77 => ?_) (fun h77 => ?_)
        · refine A_iload (dX6_strikes 54 rfl) rfl ?_
          refine A_ri (dX6_strikes 55 rfl) rfl rfl ?_
          refine ⟨?_, rfl⟩
          simp_all [p_str, nlt_ge, lt_nge]
        · refine A_iconst (0) (dX6_strikes 52 rfl) (by decide +kernel) ?_
          refine A_goto 86 (dX6_strikes 53 rfl) (by decide) ?_
          refine A_ri (dX6_strikes 55 rfl) rfl rfl ?_
          refine ⟨?_, rfl⟩
          simp_all [p_str, nlt_ge, lt_nge]
      · refine A_iload_n (dX6_strikes 43 rfl) rfl ?_
        refine A_aload_n (dX6_strikes 44 rfl) rfl ?_
        refine A_get (dX6_strikes 45 rfl) fwX6_142 MW_0 MF_15 ?_
        refine A_isub (dX6_strikes 46 rfl) ?_
        refine A_iconst (2) (dX6_strikes 47 rfl) (by decide +kernel) ?_
        refine A_idiv (dX6_strikes 48 rfl) (by decide) ?_
        refine A_istore (ls2 := [_, _, _, _, _]) (dX6_strikes 49 rfl) (by decide) rfl rfl ?_
        refine A_iload (dX6_strikes 50 rfl) rfl ?_
        refine AW.pcq (pc2 := 77) rfl ?_
        refine A_if_ge 84 (dX6_strikes 51 rfl) (by decide) (fun h77 => ?_) (fun h77 => ?_)
        · refine A_iload (dX6_strikes 54 rfl) rfl ?_
          refine A_ri (dX6_strikes 55 rfl) rfl rfl ?_
          refine ⟨?_, rfl⟩
          simp_all [p_str, nlt_ge, lt_nge]
        · refine A_iconst (0) (dX6_strikes 52 rfl) (by decide +kernel) ?_
          refine A_goto 86 (dX6_strikes 53 rfl) (by decide) ?_
          refine A_ri (dX6_strikes 55 rfl) rfl rfl ?_
          refine ⟨?_, rfl⟩
          simp_all [p_str, nlt_ge, lt_nge]
    · refine A_iload_n (dX6_strikes 32 rfl) rfl ?_
      refine A_iconst (3) (dX6_strikes 33 rfl) (by decide +kernel) ?_
      refine A_icmp_ne 60 (dX6_strikes 34 rfl) (by decide) (fun h49 => ?_) (fun h49 => ?_)
      · refine A_iload_n (dX6_strikes 40 rfl) rfl ?_
        refine A_iconst (5) (dX6_strikes 41 rfl) (by decide +kernel) ?_
        refine A_icmp_ne 75 (dX6_strikes 42 rfl) (by decide) (fun h62 => ?_) (fun h62 => ?_)
        · refine A_iload (dX6_strikes 50 rfl) rfl ?_
          refine A_if_ge 84 (dX6_strikes 51 rfl) (by decide) (fun h77 => ?_) (fun h77 => ?_)
          · refine A_iload (dX6_strikes 54 rfl) rfl ?_
            refine A_ri (dX6_strikes 55 rfl) rfl rfl ?_
            refine ⟨?_, rfl⟩
            simp_all [p_str, nlt_ge, lt_nge]
          · refine A_iconst (0) (dX6_strikes 52 rfl) (by decide +kernel) ?_
            refine A_goto 86 (dX6_strikes 53 rfl) (by decide) ?_
            refine A_ri (dX6_strikes 55 rfl) rfl rfl ?_
            refine ⟨?_, rfl⟩
            simp_all [p_str, nlt_ge, lt_nge]
        · refine A_iload_n (dX6_strikes 43 rfl) rfl ?_
          refine A_aload_n (dX6_strikes 44 rfl) rfl ?_
          refine A_get (dX6_strikes 45 rfl) fwX6_142 MW_0 MF_15 ?_
          refine A_isub (dX6_strikes 46 rfl) ?_
          refine A_iconst (2) (dX6_strikes 47 rfl) (by decide +kernel) ?_
          refine A_idiv (dX6_strikes 48 rfl) (by decide) ?_
          refine A_istore (ls2 := [_, _, _, _, _]) (dX6_strikes 49 rfl) (by decide) rfl rfl ?_
          refine A_iload (dX6_strikes 50 rfl) rfl ?_
          refine AW.pcq (pc2 := 77) rfl ?_
          refine A_if_ge 84 (dX6_strikes 51 rfl) (by decide) (fun h77 => ?_) (fun h77 => ?_)
          · refine A_iload (dX6_strikes 54 rfl) rfl ?_
            refine A_ri (dX6_strikes 55 rfl) rfl rfl ?_
            refine ⟨?_, rfl⟩
            simp_all [p_str, nlt_ge, lt_nge]
          · refine A_iconst (0) (dX6_strikes 52 rfl) (by decide +kernel) ?_
            refine A_goto 86 (dX6_strikes 53 rfl) (by decide) ?_
            refine A_ri (dX6_strikes 55 rfl) rfl rfl ?_
            refine ⟨?_, rfl⟩
            simp_all [p_str, nlt_ge, lt_nge]
      · refine A_iload_n (dX6_strikes 35 rfl) rfl ?_
        refine A_aload_n (dX6_strikes 36 rfl) rfl ?_
        refine A_get (dX6_strikes 37 rfl) fwX6_142 MW_0 MF_15 ?_
        refine A_isub (dX6_strikes 38 rfl) ?_
        refine A_istore (ls2 := [_, _, _, _, _]) (dX6_strikes 39 rfl) (by decide) rfl rfl ?_
        refine A_iload_n (dX6_strikes 40 rfl) rfl ?_
        refine A_iconst (5) (dX6_strikes 41 rfl) (by decide +kernel) ?_
        refine A_icmp_ne 75 (dX6_strikes 42 rfl) (by decide) (fun h62 => ?_) (fun h62 => ?_)
        · refine A_iload (dX6_strikes 50 rfl) rfl ?_
          refine A_if_ge 84 (dX6_strikes 51 rfl) (by decide) (fun h77 => ?_) (fun h77 => ?_)
          · refine A_iload (dX6_strikes 54 rfl) rfl ?_
            refine A_ri (dX6_strikes 55 rfl) rfl rfl ?_
            refine ⟨?_, rfl⟩
            simp_all [p_str, nlt_ge, lt_nge]
          · refine A_iconst (0) (dX6_strikes 52 rfl) (by decide +kernel) ?_
            refine A_goto 86 (dX6_strikes 53 rfl) (by decide) ?_
            refine A_ri (dX6_strikes 55 rfl) rfl rfl ?_
            refine ⟨?_, rfl⟩
            simp_all [p_str, nlt_ge, lt_nge]
        · refine A_iload_n (dX6_strikes 43 rfl) rfl ?_
          refine A_aload_n (dX6_strikes 44 rfl) rfl ?_
          refine A_get (dX6_strikes 45 rfl) fwX6_142 MW_0 MF_15 ?_
          refine A_isub (dX6_strikes 46 rfl) ?_
          refine A_iconst (2) (dX6_strikes 47 rfl) (by decide +kernel) ?_
          refine A_idiv (dX6_strikes 48 rfl) (by decide) ?_
          refine A_istore (ls2 := [_, _, _, _, _]) (dX6_strikes 49 rfl) (by decide) rfl rfl ?_
          refine A_iload (dX6_strikes 50 rfl) rfl ?_
          refine AW.pcq (pc2 := 77) rfl ?_
          refine A_if_ge 84 (dX6_strikes 51 rfl) (by decide) (fun h77 => ?_) (fun h77 => ?_)
          · refine A_iload (dX6_strikes 54 rfl) rfl ?_
            refine A_ri (dX6_strikes 55 rfl) rfl rfl ?_
            refine ⟨?_, rfl⟩
            simp_all [p_str, nlt_ge, lt_nge]
          · refine A_iconst (0) (dX6_strikes 52 rfl) (by decide +kernel) ?_
            refine A_goto 86 (dX6_strikes 53 rfl) (by decide) ?_
            refine A_ri (dX6_strikes 55 rfl) rfl rfl ?_
            refine ⟨?_, rfl⟩
            simp_all [p_str, nlt_ge, lt_nge]
  · refine A_iload_n (dX6_strikes 17 rfl) rfl ?_
    refine A_iconst (4) (dX6_strikes 18 rfl) (by decide +kernel) ?_
    refine A_icmp_ne 42 (dX6_strikes 19 rfl) (by decide) (fun h27 => ?_) (fun h27 => ?_)
    · refine A_iload_n (dX6_strikes 29 rfl) rfl ?_
      refine A_iconst (2) (dX6_strikes 30 rfl) (by decide +kernel) ?_
      refine A_icmp_eq 52 (dX6_strikes 31 rfl) (by decide) (fun h44 => ?_) (fun h44 => ?_)
      · refine A_iload_n (dX6_strikes 35 rfl) rfl ?_
        refine A_aload_n (dX6_strikes 36 rfl) rfl ?_
        refine A_get (dX6_strikes 37 rfl) fwX6_142 MW_0 MF_15 ?_
        refine A_isub (dX6_strikes 38 rfl) ?_
        refine A_istore (ls2 := [_, _, _, _, _]) (dX6_strikes 39 rfl) (by decide) rfl rfl ?_
        refine A_iload_n (dX6_strikes 40 rfl) rfl ?_
        refine A_iconst (5) (dX6_strikes 41 rfl) (by decide +kernel) ?_
        refine A_icmp_ne 75 (dX6_strikes 42 rfl) (by decide) (fun h62 => ?_) (fun h62 => ?_)
        · refine A_iload (dX6_strikes 50 rfl) rfl ?_
          refine A_if_ge 84 (dX6_strikes 51 rfl) (by decide) (fun h77 => ?_) (fun h77 => ?_)
          · refine A_iload (dX6_strikes 54 rfl) rfl ?_
            refine A_ri (dX6_strikes 55 rfl) rfl rfl ?_
            refine ⟨?_, rfl⟩
            simp_all [p_str, nlt_ge, lt_nge]
          · refine A_iconst (0) (dX6_strikes 52 rfl) (by decide +kernel) ?_
            refine A_goto 86 (dX6_strikes 53 rfl) (by decide) ?_
            refine A_ri (dX6_strikes 55 rfl) rfl rfl ?_
            refine ⟨?_, rfl⟩
            simp_all [p_str, nlt_ge, lt_nge]
        · refine A_iload_n (dX6_strikes 43 rfl) rfl ?_
          refine A_aload_n (dX6_strikes 44 rfl) rfl ?_
          refine A_get (dX6_strikes 45 rfl) fwX6_142 MW_0 MF_15 ?_
          refine A_isub (dX6_strikes 46 rfl) ?_
          refine A_iconst (2) (dX6_strikes 47 rfl) (by decide +kernel) ?_
          refine A_idiv (dX6_strikes 48 rfl) (by decide) ?_
          refine A_istore (ls2 := [_, _, _, _, _]) (dX6_strikes 49 rfl) (by decide) rfl rfl ?_
          refine A_iload (dX6_strikes 50 rfl) rfl ?_
          refine AW.pcq (pc2 := 77) rfl ?_
          refine A_if_ge 84 (dX6_strikes 51 rfl) (by decide) (fun h77 => ?_) (fun h77 => ?_)
          · refine A_iload (dX6_strikes 54 rfl) rfl ?_
            refine A_ri (dX6_strikes 55 rfl) rfl rfl ?_
            refine ⟨?_, rfl⟩
            simp_all [p_str, nlt_ge, lt_nge]
          · refine A_iconst (0) (dX6_strikes 52 rfl) (by decide +kernel) ?_
            refine A_goto 86 (dX6_strikes 53 rfl) (by decide) ?_
            refine A_ri (dX6_strikes 55 rfl) rfl rfl ?_
            refine ⟨?_, rfl⟩
            simp_all [p_str, nlt_ge, lt_nge]
      · refine A_iload_n (dX6_strikes 32 rfl) rfl ?_
        refine A_iconst (3) (dX6_strikes 33 rfl) (by decide +kernel) ?_
        refine A_icmp_ne 60 (dX6_strikes 34 rfl) (by decide) (fun h49 => ?_) (fun h49 => ?_)
        · refine A_iload_n (dX6_strikes 40 rfl) rfl ?_
          refine A_iconst (5) (dX6_strikes 41 rfl) (by decide +kernel) ?_
          refine A_icmp_ne 75 (dX6_strikes 42 rfl) (by decide) (fun h62 => ?_) (fun h62 => ?_)
          · refine A_iload (dX6_strikes 50 rfl) rfl ?_
            refine A_if_ge 84 (dX6_strikes 51 rfl) (by decide) (fun h77 => ?_) (fun h77 => ?_)
            · refine A_iload (dX6_strikes 54 rfl) rfl ?_
              refine A_ri (dX6_strikes 55 rfl) rfl rfl ?_
              refine ⟨?_, rfl⟩
              simp_all [p_str, nlt_ge, lt_nge]
            · refine A_iconst (0) (dX6_strikes 52 rfl) (by decide +kernel) ?_
              refine A_goto 86 (dX6_strikes 53 rfl) (by decide) ?_
              refine A_ri (dX6_strikes 55 rfl) rfl rfl ?_
              refine ⟨?_, rfl⟩
              simp_all [p_str, nlt_ge, lt_nge]
          · refine A_iload_n (dX6_strikes 43 rfl) rfl ?_
            refine A_aload_n (dX6_strikes 44 rfl) rfl ?_
            refine A_get (dX6_strikes 45 rfl) fwX6_142 MW_0 MF_15 ?_
            refine A_isub (dX6_strikes 46 rfl) ?_
            refine A_iconst (2) (dX6_strikes 47 rfl) (by decide +kernel) ?_
            refine A_idiv (dX6_strikes 48 rfl) (by decide) ?_
            refine A_istore (ls2 := [_, _, _, _, _]) (dX6_strikes 49 rfl) (by decide) rfl rfl ?_
            refine A_iload (dX6_strikes 50 rfl) rfl ?_
            refine AW.pcq (pc2 := 77) rfl ?_
            refine A_if_ge 84 (dX6_strikes 51 rfl) (by decide) (fun h77 => ?_) (fun h77 => ?_)
            · refine A_iload (dX6_strikes 54 rfl) rfl ?_
              refine A_ri (dX6_strikes 55 rfl) rfl rfl ?_
              refine ⟨?_, rfl⟩
              simp_all [p_str, nlt_ge, lt_nge]
            · refine A_iconst (0) (dX6_strikes 52 rfl) (by decide +kernel) ?_
              refine A_goto 86 (dX6_strikes 53 rfl) (by decide) ?_
              refine A_ri (dX6_strikes 55 rfl) rfl rfl ?_
              refine ⟨?_, rfl⟩
              simp_all [p_str, nlt_ge, lt_nge]
        · refine A_iload_n (dX6_strikes 35 rfl) rfl ?_
          refine A_aload_n (dX6_strikes 36 rfl) rfl ?_
          refine A_get (dX6_strikes 37 rfl) fwX6_142 MW_0 MF_15 ?_
          refine A_isub (dX6_strikes 38 rfl) ?_
          refine A_istore (ls2 := [_, _, _, _, _]) (dX6_strikes 39 rfl) (by decide) rfl rfl ?_
          refine A_iload_n (dX6_strikes 40 rfl) rfl ?_
          refine A_iconst (5) (dX6_strikes 41 rfl) (by decide +kernel) ?_
          refine A_icmp_ne 75 (dX6_strikes 42 rfl) (by decide) (fun h62 => ?_) (fun h62 => ?_)
          · refine A_iload (dX6_strikes 50 rfl) rfl ?_
            refine A_if_ge 84 (dX6_strikes 51 rfl) (by decide) (fun h77 => ?_) (fun h77 => ?_)
            · refine A_iload (dX6_strikes 54 rfl) rfl ?_
              refine A_ri (dX6_strikes 55 rfl) rfl rfl ?_
              refine ⟨?_, rfl⟩
              simp_all [p_str, nlt_ge, lt_nge]
            · refine A_iconst (0) (dX6_strikes 52 rfl) (by decide +kernel) ?_
              refine A_goto 86 (dX6_strikes 53 rfl) (by decide) ?_
              refine A_ri (dX6_strikes 55 rfl) rfl rfl ?_
              refine ⟨?_, rfl⟩
              simp_all [p_str, nlt_ge, lt_nge]
          · refine A_iload_n (dX6_strikes 43 rfl) rfl ?_
            refine A_aload_n (dX6_strikes 44 rfl) rfl ?_
            refine A_get (dX6_strikes 45 rfl) fwX6_142 MW_0 MF_15 ?_
            refine A_isub (dX6_strikes 46 rfl) ?_
            refine A_iconst (2) (dX6_strikes 47 rfl) (by decide +kernel) ?_
            refine A_idiv (dX6_strikes 48 rfl) (by decide) ?_
            refine A_istore (ls2 := [_, _, _, _, _]) (dX6_strikes 49 rfl) (by decide) rfl rfl ?_
            refine A_iload (dX6_strikes 50 rfl) rfl ?_
            refine AW.pcq (pc2 := 77) rfl ?_
            refine A_if_ge 84 (dX6_strikes 51 rfl) (by decide) (fun h77 => ?_) (fun h77 => ?_)
            · refine A_iload (dX6_strikes 54 rfl) rfl ?_
              refine A_ri (dX6_strikes 55 rfl) rfl rfl ?_
              refine ⟨?_, rfl⟩
              simp_all [p_str, nlt_ge, lt_nge]
            · refine A_iconst (0) (dX6_strikes 52 rfl) (by decide +kernel) ?_
              refine A_goto 86 (dX6_strikes 53 rfl) (by decide) ?_
              refine A_ri (dX6_strikes 55 rfl) rfl rfl ?_
              refine ⟨?_, rfl⟩
              simp_all [p_str, nlt_ge, lt_nge]
    · refine A_iload_n (dX6_strikes 20 rfl) rfl ?_
      refine A_iconst (5) (dX6_strikes 21 rfl) (by decide +kernel) ?_
      refine A_aload_n (dX6_strikes 22 rfl) rfl ?_
      refine A_get (dX6_strikes 23 rfl) fwX6_38 MW_0 MF_12 ?_
      refine A_iload_n (dX6_strikes 24 rfl) rfl ?_
      refine A_iald (dX6_strikes 25 rfl) MW_9 (by assumption) ?_
      refine A_imul (dX6_strikes 26 rfl) ?_
      refine A_iadd (dX6_strikes 27 rfl) ?_
      refine AW.pcq (pc2 := 40) rfl ?_
      refine A_istore (ls2 := [_, _, _, _, _]) (dX6_strikes 28 rfl) (by decide) rfl rfl ?_
      refine A_iload_n (dX6_strikes 29 rfl) rfl ?_
      refine A_iconst (2) (dX6_strikes 30 rfl) (by decide +kernel) ?_
      refine A_icmp_eq 52 (dX6_strikes 31 rfl) (by decide) (fun h44 => ?_) (fun h44 => ?_)
      · refine A_iload_n (dX6_strikes 35 rfl) rfl ?_
        refine A_aload_n (dX6_strikes 36 rfl) rfl ?_
        refine A_get (dX6_strikes 37 rfl) fwX6_142 MW_0 MF_15 ?_
        refine A_isub (dX6_strikes 38 rfl) ?_
        refine A_istore (ls2 := [_, _, _, _, _]) (dX6_strikes 39 rfl) (by decide) rfl rfl ?_
        refine A_iload_n (dX6_strikes 40 rfl) rfl ?_
        refine A_iconst (5) (dX6_strikes 41 rfl) (by decide +kernel) ?_
        refine A_icmp_ne 75 (dX6_strikes 42 rfl) (by decide) (fun h62 => ?_) (fun h62 => ?_)
        · refine A_iload (dX6_strikes 50 rfl) rfl ?_
          refine A_if_ge 84 (dX6_strikes 51 rfl) (by decide) (fun h77 => ?_) (fun h77 => ?_)
          · refine A_iload (dX6_strikes 54 rfl) rfl ?_
            refine A_ri (dX6_strikes 55 rfl) rfl rfl ?_
            refine ⟨?_, rfl⟩
            simp_all [p_str, nlt_ge, lt_nge]
          · refine A_iconst (0) (dX6_strikes 52 rfl) (by decide +kernel) ?_
            refine A_goto 86 (dX6_strikes 53 rfl) (by decide) ?_
            refine A_ri (dX6_strikes 55 rfl) rfl rfl ?_
            refine ⟨?_, rfl⟩
            simp_all [p_str, nlt_ge, lt_nge]
        · refine A_iload_n (dX6_strikes 43 rfl) rfl ?_
          refine A_aload_n (dX6_strikes 44 rfl) rfl ?_
          refine A_get (dX6_strikes 45 rfl) fwX6_142 MW_0 MF_15 ?_
          refine A_isub (dX6_strikes 46 rfl) ?_
          refine A_iconst (2) (dX6_strikes 47 rfl) (by decide +kernel) ?_
          refine A_idiv (dX6_strikes 48 rfl) (by decide) ?_
          refine A_istore (ls2 := [_, _, _, _, _]) (dX6_strikes 49 rfl) (by decide) rfl rfl ?_
          refine A_iload (dX6_strikes 50 rfl) rfl ?_
          refine AW.pcq (pc2 := 77) rfl ?_
          refine A_if_ge 84 (dX6_strikes 51 rfl) (by decide) (fun h77 => ?_) (fun h77 => ?_)
          · refine A_iload (dX6_strikes 54 rfl) rfl ?_
            refine A_ri (dX6_strikes 55 rfl) rfl rfl ?_
            refine ⟨?_, rfl⟩
            simp_all [p_str, nlt_ge, lt_nge]
          · refine A_iconst (0) (dX6_strikes 52 rfl) (by decide +kernel) ?_
            refine A_goto 86 (dX6_strikes 53 rfl) (by decide) ?_
            refine A_ri (dX6_strikes 55 rfl) rfl rfl ?_
            refine ⟨?_, rfl⟩
            simp_all [p_str, nlt_ge, lt_nge]
      · refine A_iload_n (dX6_strikes 32 rfl) rfl ?_
        refine A_iconst (3) (dX6_strikes 33 rfl) (by decide +kernel) ?_
        refine A_icmp_ne 60 (dX6_strikes 34 rfl) (by decide) (fun h49 => ?_) (fun h49 => ?_)
        · refine A_iload_n (dX6_strikes 40 rfl) rfl ?_
          refine A_iconst (5) (dX6_strikes 41 rfl) (by decide +kernel) ?_
          refine A_icmp_ne 75 (dX6_strikes 42 rfl) (by decide) (fun h62 => ?_) (fun h62 => ?_)
          · refine A_iload (dX6_strikes 50 rfl) rfl ?_
            refine A_if_ge 84 (dX6_strikes 51 rfl) (by decide) (fun h77 => ?_) (fun h77 => ?_)
            · refine A_iload (dX6_strikes 54 rfl) rfl ?_
              refine A_ri (dX6_strikes 55 rfl) rfl rfl ?_
              refine ⟨?_, rfl⟩
              simp_all [p_str, nlt_ge, lt_nge]
            · refine A_iconst (0) (dX6_strikes 52 rfl) (by decide +kernel) ?_
              refine A_goto 86 (dX6_strikes 53 rfl) (by decide) ?_
              refine A_ri (dX6_strikes 55 rfl) rfl rfl ?_
              refine ⟨?_, rfl⟩
              simp_all [p_str, nlt_ge, lt_nge]
          · refine A_iload_n (dX6_strikes 43 rfl) rfl ?_
            refine A_aload_n (dX6_strikes 44 rfl) rfl ?_
            refine A_get (dX6_strikes 45 rfl) fwX6_142 MW_0 MF_15 ?_
            refine A_isub (dX6_strikes 46 rfl) ?_
            refine A_iconst (2) (dX6_strikes 47 rfl) (by decide +kernel) ?_
            refine A_idiv (dX6_strikes 48 rfl) (by decide) ?_
            refine A_istore (ls2 := [_, _, _, _, _]) (dX6_strikes 49 rfl) (by decide) rfl rfl ?_
            refine A_iload (dX6_strikes 50 rfl) rfl ?_
            refine AW.pcq (pc2 := 77) rfl ?_
            refine A_if_ge 84 (dX6_strikes 51 rfl) (by decide) (fun h77 => ?_) (fun h77 => ?_)
            · refine A_iload (dX6_strikes 54 rfl) rfl ?_
              refine A_ri (dX6_strikes 55 rfl) rfl rfl ?_
              refine ⟨?_, rfl⟩
              simp_all [p_str, nlt_ge, lt_nge]
            · refine A_iconst (0) (dX6_strikes 52 rfl) (by decide +kernel) ?_
              refine A_goto 86 (dX6_strikes 53 rfl) (by decide) ?_
              refine A_ri (dX6_strikes 55 rfl) rfl rfl ?_
              refine ⟨?_, rfl⟩
              simp_all [p_str, nlt_ge, lt_nge]
        · refine A_iload_n (dX6_strikes 35 rfl) rfl ?_
          refine A_aload_n (dX6_strikes 36 rfl) rfl ?_
          refine A_get (dX6_strikes 37 rfl) fwX6_142 MW_0 MF_15 ?_
          refine A_isub (dX6_strikes 38 rfl) ?_
          refine A_istore (ls2 := [_, _, _, _, _]) (dX6_strikes 39 rfl) (by decide) rfl rfl ?_
          refine A_iload_n (dX6_strikes 40 rfl) rfl ?_
          refine A_iconst (5) (dX6_strikes 41 rfl) (by decide +kernel) ?_
          refine A_icmp_ne 75 (dX6_strikes 42 rfl) (by decide) (fun h62 => ?_) (fun h62 => ?_)
          · refine A_iload (dX6_strikes 50 rfl) rfl ?_
            refine A_if_ge 84 (dX6_strikes 51 rfl) (by decide) (fun h77 => ?_) (fun h77 => ?_)
            · refine A_iload (dX6_strikes 54 rfl) rfl ?_
              refine A_ri (dX6_strikes 55 rfl) rfl rfl ?_
              refine ⟨?_, rfl⟩
              simp_all [p_str, nlt_ge, lt_nge]
            · refine A_iconst (0) (dX6_strikes 52 rfl) (by decide +kernel) ?_
              refine A_goto 86 (dX6_strikes 53 rfl) (by decide) ?_
              refine A_ri (dX6_strikes 55 rfl) rfl rfl ?_
              refine ⟨?_, rfl⟩
              simp_all [p_str, nlt_ge, lt_nge]
          · refine A_iload_n (dX6_strikes 43 rfl) rfl ?_
            refine A_aload_n (dX6_strikes 44 rfl) rfl ?_
            refine A_get (dX6_strikes 45 rfl) fwX6_142 MW_0 MF_15 ?_
            refine A_isub (dX6_strikes 46 rfl) ?_
            refine A_iconst (2) (dX6_strikes 47 rfl) (by decide +kernel) ?_
            refine A_idiv (dX6_strikes 48 rfl) (by decide) ?_
            refine A_istore (ls2 := [_, _, _, _, _]) (dX6_strikes 49 rfl) (by decide) rfl rfl ?_
            refine A_iload (dX6_strikes 50 rfl) rfl ?_
            refine AW.pcq (pc2 := 77) rfl ?_
            refine A_if_ge 84 (dX6_strikes 51 rfl) (by decide) (fun h77 => ?_) (fun h77 => ?_)
            · refine A_iload (dX6_strikes 54 rfl) rfl ?_
              refine A_ri (dX6_strikes 55 rfl) rfl rfl ?_
              refine ⟨?_, rfl⟩
              simp_all [p_str, nlt_ge, lt_nge]
            · refine A_iconst (0) (dX6_strikes 52 rfl) (by decide +kernel) ?_
              refine A_goto 86 (dX6_strikes 53 rfl) (by decide) ?_
              refine A_ri (dX6_strikes 55 rfl) rfl rfl ?_
              refine ⟨?_, rfl⟩
              simp_all [p_str, nlt_ge, lt_nge]

set_option maxRecDepth 100000 in
set_option maxHeartbeats 4000000 in
theorem m_mended (E : ag) (q : Nat → Nat) (g : Nat → Int32) (tw : Int64) (a : Nat → Nat → Int32) (i x : Int32) (hi : vp_in i 5) : CT E yX6_mended cX6_mended 5 mX6_mended.2.2.2.1 1 0 0 [.ref (q 0), .int i, .int x] (MW E q g tw a) (ri (fun r w => r = p_mnd (a 6 i.toNatClampNeg) (a 9 i.toNatClampNeg) x ∧ w = MW E q g tw a)) := by
  refine CT.of (M := mX6_mended) (ls := [some (.ref (q 0)), some (.int i), some (.int x), none, none]) (by decide) rfl (by decide) rfl (Nat.le_of_ble_eq_true rfl) ?_
  refine A_aload_n (dX6_mended 0 rfl) rfl ?_
  refine A_get (dX6_mended 1 rfl) fwX6_29 MW_0 MF_9 ?_
  refine A_iload_n (dX6_mended 2 rfl) rfl ?_
  refine A_iald (dX6_mended 3 rfl) MW_6 (by assumption) ?_
  refine A_istore_n (ls2 := [_, _, _, _, _]) (dX6_mended 4 rfl) (by decide) rfl rfl ?_
  refine A_iload_n (dX6_mended 5 rfl) rfl ?_
  refine A_iconst (2) (dX6_mended 6 rfl) (by decide +kernel) ?_
  refine A_idiv (dX6_mended 7 rfl) (by decide) ?_
  refine AW.pcq (pc2 := 10) rfl ?_
  refine A_istore (ls2 := [_, _, _, _, _]) (dX6_mended 8 rfl) (by decide) rfl rfl ?_
  refine A_iload_n (dX6_mended 9 rfl) rfl ?_
  refine A_if_ne 19 (dX6_mended 10 rfl) (by decide) (fun h13 => ?_) (fun h13 => ?_)
  · refine A_iload_n (dX6_mended 13 rfl) rfl ?_
    refine A_iconst (1) (dX6_mended 14 rfl) (by decide +kernel) ?_
    refine A_icmp_eq 29 (dX6_mended 15 rfl) (by decide) (fun h21 => ?_) (fun h21 => ?_)
    · refine A_iload_n (dX6_mended 19 rfl) rfl ?_
      refine A_iconst (1) (dX6_mended 20 rfl) (by decide +kernel) ?_
      refine A_icmp_ne 41 (dX6_mended 21 rfl) (by decide) (fun h31 => ?_) (fun h31 => ?_)
      · refine A_iload_n (dX6_mended 26 rfl) rfl ?_
        refine A_iload (dX6_mended 27 rfl) rfl ?_
        refine A_iconst (2) (dX6_mended 28 rfl) (by decide +kernel) ?_
        refine A_idiv (dX6_mended 29 rfl) (by decide) ?_
        refine A_isub (dX6_mended 30 rfl) ?_
        refine A_ri (dX6_mended 31 rfl) rfl rfl ?_
        refine ⟨?_, rfl⟩
        simp_all [p_mnd]
      · refine A_iload (dX6_mended 22 rfl) rfl ?_
        refine A_iconst (2) (dX6_mended 23 rfl) (by decide +kernel) ?_
        refine A_idiv (dX6_mended 24 rfl) (by decide) ?_
        refine A_goto 47 (dX6_mended 25 rfl) (by decide) ?_
        refine A_ri (dX6_mended 31 rfl) rfl rfl ?_
        refine ⟨?_, rfl⟩
        simp_all [p_mnd]
    · refine A_iload_n (dX6_mended 16 rfl) rfl ?_
      refine A_iconst (4) (dX6_mended 17 rfl) (by decide +kernel) ?_
      refine A_icmp_ne 48 (dX6_mended 18 rfl) (by decide) (fun h26 => ?_) (fun h26 => ?_)
      · refine A_iload_n (dX6_mended 32 rfl) rfl ?_
        refine A_iconst (2) (dX6_mended 33 rfl) (by decide +kernel) ?_
        refine A_icmp_ne 60 (dX6_mended 34 rfl) (by decide) (fun h50 => ?_) (fun h50 => ?_)
        · refine A_iload (dX6_mended 39 rfl) rfl ?_
          refine A_iconst (3) (dX6_mended 40 rfl) (by decide +kernel) ?_
          refine A_idiv (dX6_mended 41 rfl) (by decide) ?_
          refine A_aload_n (dX6_mended 42 rfl) rfl ?_
          refine A_get (dX6_mended 43 rfl) fwX6_38 MW_0 MF_12 ?_
          refine A_iload_n (dX6_mended 44 rfl) rfl ?_
          refine A_iald (dX6_mended 45 rfl) MW_9 (by assumption) ?_
          refine A_isub (dX6_mended 46 rfl) ?_
          refine AW.pcq (pc2 := 71) rfl ?_
          refine A_ri (dX6_mended 47 rfl) rfl rfl ?_
          refine ⟨?_, rfl⟩
          simp_all [p_mnd]
        · refine A_iload (dX6_mended 35 rfl) rfl ?_
          refine A_iconst (3) (dX6_mended 36 rfl) (by decide +kernel) ?_
          refine A_idiv (dX6_mended 37 rfl) (by decide) ?_
          refine A_goto 71 (dX6_mended 38 rfl) (by decide) ?_
          refine A_ri (dX6_mended 47 rfl) rfl rfl ?_
          refine ⟨?_, rfl⟩
          simp_all [p_mnd]
      · refine A_iload_n (dX6_mended 19 rfl) rfl ?_
        refine A_iconst (1) (dX6_mended 20 rfl) (by decide +kernel) ?_
        refine A_icmp_ne 41 (dX6_mended 21 rfl) (by decide) (fun h31 => ?_) (fun h31 => ?_)
        · refine A_iload_n (dX6_mended 26 rfl) rfl ?_
          refine A_iload (dX6_mended 27 rfl) rfl ?_
          refine A_iconst (2) (dX6_mended 28 rfl) (by decide +kernel) ?_
          refine A_idiv (dX6_mended 29 rfl) (by decide) ?_
          refine A_isub (dX6_mended 30 rfl) ?_
          refine A_ri (dX6_mended 31 rfl) rfl rfl ?_
          refine ⟨?_, rfl⟩
          simp_all [p_mnd]
        · refine A_iload (dX6_mended 22 rfl) rfl ?_
          refine A_iconst (2) (dX6_mended 23 rfl) (by decide +kernel) ?_
          refine A_idiv (dX6_mended 24 rfl) (by decide) ?_
          refine A_goto 47 (dX6_mended 25 rfl) (by decide) ?_
          refine A_ri (dX6_mended 31 rfl) rfl rfl ?_
          refine ⟨?_, rfl⟩
          simp_all [p_mnd]
  · refine A_iload (dX6_mended 11 rfl) rfl ?_
    refine A_ri (dX6_mended 12 rfl) rfl rfl ?_
    refine ⟨?_, rfl⟩
    simp_all [p_mnd]

set_option maxRecDepth 100000 in
set_option maxHeartbeats 4000000 in
theorem m_gapOf (E : ag) (q : Nat → Nat) (g : Nat → Int32) (tw : Int64) (a : Nat → Nat → Int32) (i : Int32) (hi : vp_in i 5) (hm : vp_in (g 13 - 1) 5) (hj : ¬ i = 0 → vp_in (i - 1) 5) (hb : ¬ g 14 = 0) : CT E yX6_gapOf cX6_gapOf 3 mX6_gapOf.2.2.2.1 1 0 0 [.ref (q 0), .int i] (MW E q g tw a) (ri (fun r w => r = p_gap (g 13) (g 14) (a 7) i ∧ w = MW E q g tw a)) := by
  refine CT.of (M := mX6_gapOf) (ls := [some (.ref (q 0)), some (.int i), none]) (by decide) rfl (by decide) rfl (Nat.le_of_ble_eq_true rfl) ?_
  refine A_aload_n (dX6_gapOf 0 rfl) rfl ?_
  refine A_get (dX6_gapOf 1 rfl) fwX6_100 MW_0 MF_13 ?_
  refine A_iconst (1) (dX6_gapOf 2 rfl) (by decide +kernel) ?_
  refine A_icmp_ne 13 (dX6_gapOf 3 rfl) (by decide) (fun h5 => ?_) (fun h5 => ?_)
  · refine A_aload_n (dX6_gapOf 7 rfl) rfl ?_
    refine A_get (dX6_gapOf 8 rfl) fwX6_32 MW_0 MF_10 ?_
    refine A_iload_n (dX6_gapOf 9 rfl) rfl ?_
    refine A_iald (dX6_gapOf 10 rfl) MW_7 (by assumption) ?_
    refine A_aload_n (dX6_gapOf 11 rfl) rfl ?_
    refine A_get (dX6_gapOf 12 rfl) fwX6_32 MW_0 MF_10 ?_
    refine A_iload_n (dX6_gapOf 13 rfl) rfl ?_
    refine A_if_ne 36 (dX6_gapOf 14 rfl) (by decide) (fun h24 => ?_) (fun h24 => ?_)
    · refine A_iload_n (dX6_gapOf 20 rfl) rfl ?_
      refine A_iconst (1) (dX6_gapOf 21 rfl) (by decide +kernel) ?_
      refine A_isub (dX6_gapOf 22 rfl) ?_
      refine A_iald (dX6_gapOf 23 rfl) MW_7 (by first | assumption | exact hj (by assumption)) ?_
      refine A_isub (dX6_gapOf 24 rfl) ?_
      refine A_aload_n (dX6_gapOf 25 rfl) rfl ?_
      refine A_get (dX6_gapOf 26 rfl) fwX6_41 MW_0 MF_14 ?_
      refine A_irem (dX6_gapOf 27 rfl) hb ?_
      refine AW.pcq (pc2 := 46) rfl ?_
      refine A_istore_n (ls2 := [_, _, _]) (dX6_gapOf 28 rfl) (by decide) rfl rfl ?_
      refine A_iload_n (dX6_gapOf 29 rfl) rfl ?_
      refine A_if_ge 60 (dX6_gapOf 30 rfl) (by decide) (fun h48 => ?_) (fun h48 => ?_)
      · refine A_iload_n (dX6_gapOf 36 rfl) rfl ?_
        refine A_ri (dX6_gapOf 37 rfl) rfl rfl ?_
        refine ⟨?_, rfl⟩
        simp_all [p_gap, mo, nlt_ge, lt_nge]
      · refine A_iload_n (dX6_gapOf 31 rfl) rfl ?_
        refine A_aload_n (dX6_gapOf 32 rfl) rfl ?_
        refine A_get (dX6_gapOf 33 rfl) fwX6_41 MW_0 MF_14 ?_
        refine A_iadd (dX6_gapOf 34 rfl) ?_
        refine A_goto 61 (dX6_gapOf 35 rfl) (by decide) ?_
        refine A_ri (dX6_gapOf 37 rfl) rfl rfl ?_
        refine ⟨?_, rfl⟩
        simp_all [p_gap, mo, nlt_ge, lt_nge]
    · refine A_aload_n (dX6_gapOf 15 rfl) rfl ?_
      refine A_get (dX6_gapOf 16 rfl) fwX6_100 MW_0 MF_13 ?_
      refine A_iconst (1) (dX6_gapOf 17 rfl) (by decide +kernel) ?_
      refine A_isub (dX6_gapOf 18 rfl) ?_
      refine A_goto 39 (dX6_gapOf 19 rfl) (by decide) ?_
      refine A_iald (dX6_gapOf 23 rfl) MW_7 (by first | assumption | exact hj (by assumption)) ?_
      refine A_isub (dX6_gapOf 24 rfl) ?_
      refine A_aload_n (dX6_gapOf 25 rfl) rfl ?_
      refine A_get (dX6_gapOf 26 rfl) fwX6_41 MW_0 MF_14 ?_
      refine A_irem (dX6_gapOf 27 rfl) hb ?_
      refine A_istore_n (ls2 := [_, _, _]) (dX6_gapOf 28 rfl) (by decide) rfl rfl ?_
      refine A_iload_n (dX6_gapOf 29 rfl) rfl ?_
      refine A_if_ge 60 (dX6_gapOf 30 rfl) (by decide) (fun h48 => ?_) (fun h48 => ?_)
      · refine A_iload_n (dX6_gapOf 36 rfl) rfl ?_
        refine A_ri (dX6_gapOf 37 rfl) rfl rfl ?_
        refine ⟨?_, rfl⟩
        simp_all [p_gap, mo, nlt_ge, lt_nge]
      · refine A_iload_n (dX6_gapOf 31 rfl) rfl ?_
        refine A_aload_n (dX6_gapOf 32 rfl) rfl ?_
        refine A_get (dX6_gapOf 33 rfl) fwX6_41 MW_0 MF_14 ?_
        refine A_iadd (dX6_gapOf 34 rfl) ?_
        refine A_goto 61 (dX6_gapOf 35 rfl) (by decide) ?_
        refine A_ri (dX6_gapOf 37 rfl) rfl rfl ?_
        refine ⟨?_, rfl⟩
        simp_all [p_gap, mo, nlt_ge, lt_nge]
  · refine A_aload_n (dX6_gapOf 4 rfl) rfl ?_
    refine A_get (dX6_gapOf 5 rfl) fwX6_41 MW_0 MF_14 ?_
    refine A_ri (dX6_gapOf 6 rfl) rfl rfl ?_
    refine ⟨?_, rfl⟩
    simp_all [p_gap, mo, nlt_ge, lt_nge]

theorem nIm1 : ∀ m, m ≤ 5 → (nI m - 1).toInt = (m : Int) - 1 := by decide +kernel
theorem man_nI {i : Int32} {m : Nat} (hm : m ≤ 5) (h : ¬ inI i 0 (nI m - 1) = 0) : ∃ j, j < m ∧ i = nI j := by
  obtain ⟨h1, h2⟩ := inI_yes h
  rw [nIm1 m hm] at h2
  have h0 : (0 : Int32).toInt = 0 := by decide
  obtain ⟨j, hj, rfl⟩ := nI_of (x := i) (fun z => by have := Int32.lt_iff_toInt_lt.mp z; omega)
  rw [nI_toInt hj] at h2
  exact ⟨j, by omega, rfl⟩
theorem cell_nI {i : Int32} (h : ¬ inI i 0 11 = 0) : ∃ j, j < 12 ∧ i = nI j := by
  obtain ⟨h1, h2⟩ := inI_yes h
  have h0 : (0 : Int32).toInt = 0 := by decide
  have h11 : (11 : Int32).toInt = 11 := by decide
  obtain ⟨j, hj, rfl⟩ := nI_of (x := i) (fun z => by have := Int32.lt_iff_toInt_lt.mp z; omega)
  rw [nI_toInt hj] at h2
  exact ⟨j, by omega, rfl⟩
theorem ix_cell {i : Int32} (h : ¬ inI i 0 11 = 0) : vp_in i 12 := by obtain ⟨j, hj, rfl⟩ := cell_nI h; exact vp_in_nI hj (by decide)
theorem ix_man {i : Int32} {m : Nat} (hm : m ≤ 5) (h : ¬ inI i 0 (nI m - 1) = 0) : vp_in i 5 := by obtain ⟨j, hj, rfl⟩ := man_nI hm h; exact vp_in_nI (by omega) (by decide)
theorem ix_ahead : ∀ m, m ≤ 5 → 0 < m → vp_in (nI m - 1) 5 := by
  intro m h1 h2
  rw [vp_in_iff, nIm1 m h1]
  omega
theorem ix_pred : ∀ j, j < 5 → ¬ nI j = 0 → vp_in (nI j - 1) 5 := by
  intro j hj h0
  have : j ≠ 0 := fun z => h0 (by subst z; rfl)
  rw [vp_in_iff, nIm1 j (by omega)]
  omega
def m_toldR (g : Nat → Int32) (a : Nat → Nat → Int32) (i what : Int32) : Int32 :=
  if inI what 0 7 = 0 ∨ (¬ 2 ≤ what ∧ inI i 0 11 = 0) ∨ (¬ what < 2 ∧ inI i 0 (g 13 - 1) = 0) then -2
  else if what = 0 then a 4 i.toNatClampNeg else if what = 1 then a 5 i.toNatClampNeg else if what = 2 then a 6 i.toNatClampNeg else if what = 3 then a 7 i.toNatClampNeg
  else if what = 4 then a 8 i.toNatClampNeg else if what = 5 then a 9 i.toNatClampNeg else if what = 6 then p_str (a 6 i.toNatClampNeg) (a 8 i.toNatClampNeg) (a 9 i.toNatClampNeg) (g 15) else p_gap (g 13) (g 14) (a 7) i
theorem w03 {w : Int32} (h : ¬ inI w 0 7 = 0) (h4 : ¬ 4 ≤ w) (h0 : ¬ w = 0) (h1 : ¬ w = 1) (h2 : ¬ w = 2) : w = 3 := by
  obtain ⟨a, b⟩ := inI_yes h
  have e0 : (0 : Int32).toInt = 0 := by decide
  have e1 : (1 : Int32).toInt = 1 := by decide
  have e2 : (2 : Int32).toInt = 2 := by decide
  have e3 : (3 : Int32).toInt = 3 := by decide
  have e4 : (4 : Int32).toInt = 4 := by decide
  simp only [Int32.le_iff_toInt_le, ← Int32.toInt_inj] at *
  omega
theorem w_ge2 {w : Int32} (h : ¬ inI w 0 7 = 0) (h0 : ¬ w = 0) (h1 : ¬ w = 1) : ¬ w < 2 := by
  obtain ⟨a, b⟩ := inI_yes h
  have e0 : (0 : Int32).toInt = 0 := by decide
  have e1 : (1 : Int32).toInt = 1 := by decide
  have e2 : (2 : Int32).toInt = 2 := by decide
  simp only [Int32.lt_iff_toInt_lt, ← Int32.toInt_inj] at *
  omega
theorem w_ge4 {w : Int32} (h : 4 ≤ w) : ¬ w < 2 ∧ ¬ w = 0 ∧ ¬ w = 1 ∧ ¬ w = 2 ∧ ¬ w = 3 := by
  have e0 : (0 : Int32).toInt = 0 := by decide
  have e1 : (1 : Int32).toInt = 1 := by decide
  have e2 : (2 : Int32).toInt = 2 := by decide
  have e3 : (3 : Int32).toInt = 3 := by decide
  have e4 : (4 : Int32).toInt = 4 := by decide
  simp only [Int32.lt_iff_toInt_lt, Int32.le_iff_toInt_le, ← Int32.toInt_inj] at *
  omega
set_option maxRecDepth 100000 in
set_option maxHeartbeats 4000000 in
theorem m_told_40 (E : ag) (q : Nat → Nat) (g : Nat → Int32) (tw : Int64) (a : Nat → Nat → Int32) (i what : Int32) (hw : ¬ inI what 0 7 = 0) (h1 : what < 2 → vp_in i 12) (h2 : ¬ what < 2 → vp_in i 5 ∧ vp_in (g 13 - 1) 5 ∧ (¬ i = 0 → vp_in (i - 1) 5)) (hb : ¬ g 14 = 0) (hno : ¬ (inI what 0 7 = 0 ∨ (¬ 2 ≤ what ∧ inI i 0 11 = 0) ∨ (¬ what < 2 ∧ inI i 0 (g 13 - 1) = 0))) : AW E mX6_told 3 0 0 40 [some (.ref (q 0)), some (.int i), some (.int what)] [] (MW E q g tw a) (ri (fun r w => r = m_toldR g a i what ∧ w = MW E q g tw a)) := by
  rw [show m_toldR g a i what = _ from if_neg hno]
  refine A_iload_n (dX6_told 21 rfl) rfl ?_
  refine A_iconst (4) (dX6_told 22 rfl) (by decide +kernel) ?_
  refine A_icmp_ge 93 (dX6_told 23 rfl) (by decide) (fun h42 => ?_) (fun h42 => ?_)
  · obtain ⟨q2, q0, q1, q22, q3⟩ := w_ge4 h42
    obtain ⟨i5, im, ip⟩ := h2 q2
    refine A_iload_n (dX6_told 52 rfl) rfl ?_
    refine A_iconst (4) (dX6_told 53 rfl) (by decide +kernel) ?_
    refine A_icmp_ne 107 (dX6_told 54 rfl) (by decide) (fun h95 => ?_) (fun h95 => ?_)
    · refine A_iload_n (dX6_told 60 rfl) rfl ?_
      refine A_iconst (5) (dX6_told 61 rfl) (by decide +kernel) ?_
      refine A_icmp_ne 121 (dX6_told 62 rfl) (by decide) (fun h109 => ?_) (fun h109 => ?_)
      · refine A_iload_n (dX6_told 68 rfl) rfl ?_
        refine A_bipush (6) (dX6_told 69 rfl) (by decide +kernel) ?_
        refine A_icmp_ne 135 (dX6_told 70 rfl) (by decide) (fun h124 => ?_) (fun h124 => ?_)
        · refine A_aload_n (dX6_told 75 rfl) rfl ?_
          refine A_iload_n (dX6_told 76 rfl) rfl ?_
          refine A_callVWi 1 (dX6_told 77 rfl) cbX6_gapOf cwX6_151 (m_gapOf E q g tw a i i5 im ip hb) rfl rfl MW_0 rfl rfl (Nat.le_of_ble_eq_true rfl) (Nat.le_of_ble_eq_true rfl) (Nat.le_of_ble_eq_true rfl) (Nat.le_of_ble_eq_true rfl) (Nat.le_of_ble_eq_true rfl) ?_
          rintro r137 w1 ⟨rfl, rfl⟩
          refine AW.pcq (pc2 := 140) rfl ?_
          refine A_ri (dX6_told 78 rfl) rfl rfl ?_
          refine ⟨?_, rfl⟩
          simp_all
        · refine A_aload_n (dX6_told 71 rfl) rfl ?_
          refine A_iload_n (dX6_told 72 rfl) rfl ?_
          refine A_callVWi 1 (dX6_told 73 rfl) cbX6_strikes cwX6_147 (m_strikes E q g tw a i i5) rfl rfl MW_0 rfl rfl (Nat.le_of_ble_eq_true rfl) (Nat.le_of_ble_eq_true rfl) (Nat.le_of_ble_eq_true rfl) (Nat.le_of_ble_eq_true rfl) (Nat.le_of_ble_eq_true rfl) ?_
          rintro r129 w1 ⟨rfl, rfl⟩
          refine AW.pcq (pc2 := 132) rfl ?_
          refine A_goto 140 (dX6_told 74 rfl) (by decide) ?_
          refine A_ri (dX6_told 78 rfl) rfl rfl ?_
          refine ⟨?_, rfl⟩
          simp_all
      · refine A_aload_n (dX6_told 63 rfl) rfl ?_
        refine A_get (dX6_told 64 rfl) fwX6_38 MW_0 MF_12 ?_
        refine A_iload_n (dX6_told 65 rfl) rfl ?_
        refine A_iald (dX6_told 66 rfl) MW_9 (by assumption) ?_
        refine A_goto 140 (dX6_told 67 rfl) (by decide) ?_
        refine A_ri (dX6_told 78 rfl) rfl rfl ?_
        refine ⟨?_, rfl⟩
        simp_all
    · refine A_aload_n (dX6_told 55 rfl) rfl ?_
      refine A_get (dX6_told 56 rfl) fwX6_35 MW_0 MF_11 ?_
      refine A_iload_n (dX6_told 57 rfl) rfl ?_
      refine A_iald (dX6_told 58 rfl) MW_8 (by assumption) ?_
      refine A_goto 140 (dX6_told 59 rfl) (by decide) ?_
      refine A_ri (dX6_told 78 rfl) rfl rfl ?_
      refine ⟨?_, rfl⟩
      simp_all
  · refine A_iload_n (dX6_told 24 rfl) rfl ?_
    refine A_if_ne 58 (dX6_told 25 rfl) (by decide) (fun h46 => ?_) (fun h46 => ?_)
    · refine A_iload_n (dX6_told 31 rfl) rfl ?_
      refine A_iconst (1) (dX6_told 32 rfl) (by decide +kernel) ?_
      refine A_icmp_ne 72 (dX6_told 33 rfl) (by decide) (fun h60 => ?_) (fun h60 => ?_)
      · refine A_iload_n (dX6_told 39 rfl) rfl ?_
        refine A_iconst (2) (dX6_told 40 rfl) (by decide +kernel) ?_
        refine A_icmp_ne 86 (dX6_told 41 rfl) (by decide) (fun h74 => ?_) (fun h74 => ?_)
        · refine A_aload_n (dX6_told 47 rfl) rfl ?_
          refine A_get (dX6_told 48 rfl) fwX6_32 MW_0 MF_10 ?_
          refine A_iload_n (dX6_told 49 rfl) rfl ?_
          refine A_iald (dX6_told 50 rfl) MW_7 (h2 (w_ge2 hw h46 h60)).1 ?_
          refine A_ri (dX6_told 51 rfl) rfl rfl ?_
          refine ⟨?_, rfl⟩
          first | (simp_all; done) | (have := w03 hw (by assumption) (by assumption) (by assumption) (by assumption); simp_all)
        · refine A_aload_n (dX6_told 42 rfl) rfl ?_
          refine A_get (dX6_told 43 rfl) fwX6_29 MW_0 MF_9 ?_
          refine A_iload_n (dX6_told 44 rfl) rfl ?_
          refine A_iald (dX6_told 45 rfl) MW_6 (h2 (by rw [h74]; decide)).1 ?_
          refine A_goto 92 (dX6_told 46 rfl) (by decide) ?_
          refine A_ri (dX6_told 51 rfl) rfl rfl ?_
          refine ⟨?_, rfl⟩
          first | (simp_all; done) | (have := w03 hw (by assumption) (by assumption) (by assumption) (by assumption); simp_all)
      · refine A_aload_n (dX6_told 34 rfl) rfl ?_
        refine A_get (dX6_told 35 rfl) fwX6_26 MW_0 MF_8 ?_
        refine A_iload_n (dX6_told 36 rfl) rfl ?_
        refine A_iald (dX6_told 37 rfl) MW_5 (h1 (by rw [h60]; decide)) ?_
        refine A_goto 92 (dX6_told 38 rfl) (by decide) ?_
        refine A_ri (dX6_told 51 rfl) rfl rfl ?_
        refine ⟨?_, rfl⟩
        first | (simp_all; done) | (have := w03 hw (by assumption) (by assumption) (by assumption) (by assumption); simp_all)
    · refine A_aload_n (dX6_told 26 rfl) rfl ?_
      refine A_get (dX6_told 27 rfl) fwX6_23 MW_0 MF_7 ?_
      refine A_iload_n (dX6_told 28 rfl) rfl ?_
      refine A_iald (dX6_told 29 rfl) MW_4 (h1 (by rw [h46]; decide)) ?_
      refine A_goto 92 (dX6_told 30 rfl) (by decide) ?_
      refine A_ri (dX6_told 51 rfl) rfl rfl ?_
      refine ⟨?_, rfl⟩
      first | (simp_all; done) | (have := w03 hw (by assumption) (by assumption) (by assumption) (by assumption); simp_all)

set_option maxRecDepth 100000 in
set_option maxHeartbeats 4000000 in
theorem m_told (E : ag) (q : Nat → Nat) (g : Nat → Int32) (tw : Int64) (a : Nat → Nat → Int32) (i what : Int32) (m : Nat) (hm5 : m ≤ 5) (hgm : g 13 = nI m) (hb : ¬ g 14 = 0) : CT E yX6_told cX6_told 3 mX6_told.2.2.2.1 3 0 0 [.ref (q 0), .int i, .int what] (MW E q g tw a) (ri (fun r w => r = m_toldR g a i what ∧ w = MW E q g tw a)) := by
  refine CT.of (M := mX6_told) (ls := [some (.ref (q 0)), some (.int i), some (.int what)]) (by decide) rfl (by decide) rfl (Nat.le_of_ble_eq_true rfl) ?_
  refine A_iload_n (dX6_told 0 rfl) rfl ?_
  refine A_i2l (dX6_told 1 rfl) ?_
  refine A_lconst (0) (dX6_told 2 rfl) (by decide +kernel) ?_
  refine A_ldc2 (dX6_told 3 rfl) kcX6_145 ?_
  refine A_callSWi 3 (dX6_told 4 rfl) cbX6_in cwX6_103 (m_in E _ what 0 7 _ _ _ rfl (by decide) (by decide)) rfl rfl (Nat.le_of_ble_eq_true rfl) (Nat.le_of_ble_eq_true rfl) (Nat.le_of_ble_eq_true rfl) (Nat.le_of_ble_eq_true rfl) (Nat.le_of_ble_eq_true rfl) ?_
  rintro r6 w1 ⟨rfl, rfl⟩
  refine AW.pcq (pc2 := 9) rfl ?_
  refine A_if_eq 37 (dX6_told 5 rfl) (by decide) (fun h9 => ?_) (fun h9 => ?_)
  · refine A_bipush (-2) (dX6_told 19 rfl) (by decide +kernel) ?_
    refine A_ri (dX6_told 20 rfl) rfl rfl ?_
    refine ⟨?_, rfl⟩
    simp_all [m_toldR]
  · refine A_iload_n (dX6_told 6 rfl) rfl ?_
    refine A_iconst (2) (dX6_told 7 rfl) (by decide +kernel) ?_
    refine A_icmp_ge 24 (dX6_told 8 rfl) (by decide) (fun h14 => ?_) (fun h14 => ?_)
    · refine A_iload_n (dX6_told 12 rfl) rfl ?_
      refine A_iconst (2) (dX6_told 13 rfl) (by decide +kernel) ?_
      refine A_icmp_lt 40 (dX6_told 14 rfl) (by decide) (fun h26 => ?_) (fun h26 => ?_)
      · refine m_told_40 E q g tw a i what h9 (fun z => by first | exact ix_cell (by assumption) | exact absurd z (Int32.not_lt.mpr (by assumption)) | exact absurd z (by assumption)) (fun z => by first | exact absurd (by assumption) z | (obtain ⟨j, hj, rfl⟩ := man_nI hm5 (by rw [← hgm]; assumption); rw [hgm]; exact ⟨vp_in_nI (by omega) (by decide), ix_ahead m hm5 (by omega), ix_pred j (by omega)⟩)) hb ?_
        simp_all [Int32.not_lt, Int32.not_le]
      · refine A_aload_n (dX6_told 15 rfl) rfl ?_
        refine A_iload_n (dX6_told 16 rfl) rfl ?_
        refine A_callVWi 1 (dX6_told 17 rfl) cbX6_isMan cwX6_123 (m_isMan E q g tw a i) rfl rfl MW_0 rfl rfl (Nat.le_of_ble_eq_true rfl) (Nat.le_of_ble_eq_true rfl) (Nat.le_of_ble_eq_true rfl) (Nat.le_of_ble_eq_true rfl) (Nat.le_of_ble_eq_true rfl) ?_
        rintro r31 w1 ⟨rfl, rfl⟩
        refine AW.pcq (pc2 := 34) rfl ?_
        refine A_if_ne 40 (dX6_told 18 rfl) (by decide) (fun h34 => ?_) (fun h34 => ?_)
        · refine m_told_40 E q g tw a i what h9 (fun z => by first | exact ix_cell (by assumption) | exact absurd z (Int32.not_lt.mpr (by assumption)) | exact absurd z (by assumption)) (fun z => by first | exact absurd (by assumption) z | (obtain ⟨j, hj, rfl⟩ := man_nI hm5 (by rw [← hgm]; assumption); rw [hgm]; exact ⟨vp_in_nI (by omega) (by decide), ix_ahead m hm5 (by omega), ix_pred j (by omega)⟩)) hb ?_
          simp_all [Int32.not_lt, Int32.not_le]
        · refine A_bipush (-2) (dX6_told 19 rfl) (by decide +kernel) ?_
          refine A_ri (dX6_told 20 rfl) rfl rfl ?_
          refine ⟨?_, rfl⟩
          simp_all [m_toldR]
    · refine A_iload_n (dX6_told 9 rfl) rfl ?_
      refine A_callSWi 1 (dX6_told 10 rfl) cbX6_isCell cwX6_115 (m_isCell E _ i) rfl rfl (Nat.le_of_ble_eq_true rfl) (Nat.le_of_ble_eq_true rfl) (Nat.le_of_ble_eq_true rfl) (Nat.le_of_ble_eq_true rfl) (Nat.le_of_ble_eq_true rfl) ?_
      rintro r18 w1 ⟨rfl, rfl⟩
      refine AW.pcq (pc2 := 21) rfl ?_
      refine A_if_eq 37 (dX6_told 11 rfl) (by decide) (fun h21 => ?_) (fun h21 => ?_)
      · refine A_bipush (-2) (dX6_told 19 rfl) (by decide +kernel) ?_
        refine A_ri (dX6_told 20 rfl) rfl rfl ?_
        refine ⟨?_, rfl⟩
        simp_all [m_toldR]
      · refine A_iload_n (dX6_told 12 rfl) rfl ?_
        refine A_iconst (2) (dX6_told 13 rfl) (by decide +kernel) ?_
        refine A_icmp_lt 40 (dX6_told 14 rfl) (by decide) (fun h26 => ?_) (fun h26 => ?_)
        · refine m_told_40 E q g tw a i what h9 (fun z => by first | exact ix_cell (by assumption) | exact absurd z (Int32.not_lt.mpr (by assumption)) | exact absurd z (by assumption)) (fun z => by first | exact absurd (by assumption) z | (obtain ⟨j, hj, rfl⟩ := man_nI hm5 (by rw [← hgm]; assumption); rw [hgm]; exact ⟨vp_in_nI (by omega) (by decide), ix_ahead m hm5 (by omega), ix_pred j (by omega)⟩)) hb ?_
          simp_all [Int32.not_lt, Int32.not_le]
        · refine A_aload_n (dX6_told 15 rfl) rfl ?_
          refine A_iload_n (dX6_told 16 rfl) rfl ?_
          refine A_callVWi 1 (dX6_told 17 rfl) cbX6_isMan cwX6_123 (m_isMan E q g tw a i) rfl rfl MW_0 rfl rfl (Nat.le_of_ble_eq_true rfl) (Nat.le_of_ble_eq_true rfl) (Nat.le_of_ble_eq_true rfl) (Nat.le_of_ble_eq_true rfl) (Nat.le_of_ble_eq_true rfl) ?_
          rintro r31 w1 ⟨rfl, rfl⟩
          refine AW.pcq (pc2 := 34) rfl ?_
          refine A_if_ne 40 (dX6_told 18 rfl) (by decide) (fun h34 => ?_) (fun h34 => ?_)
          · refine m_told_40 E q g tw a i what h9 (fun z => by first | exact ix_cell (by assumption) | exact absurd z (Int32.not_lt.mpr (by assumption)) | exact absurd z (by assumption)) (fun z => by first | exact absurd (by assumption) z | (obtain ⟨j, hj, rfl⟩ := man_nI hm5 (by rw [← hgm]; assumption); rw [hgm]; exact ⟨vp_in_nI (by omega) (by decide), ix_ahead m hm5 (by omega), ix_pred j (by omega)⟩)) hb ?_
            simp_all [Int32.not_lt, Int32.not_le]
          · refine A_bipush (-2) (dX6_told 19 rfl) (by decide +kernel) ?_
            refine A_ri (dX6_told 20 rfl) rfl rfl ?_
            refine ⟨?_, rfl⟩
            simp_all [m_toldR]
end
section
/-! worlds that differ beyond their rows' lengths alone are the same -/
def wcell (e : va_E) : Cell ⊕ (Nat × List Value) := match e with
  | .inl x => .inl (vp_cell x.1 x.2)
  | .inr x => .inr x
def wq (w w2 : va_W) : Prop := w.map (fun x => (x.1, wcell x.2)) = w2.map (fun x => (x.1, wcell x.2))
theorem wq_at {w w2 : va_W} (h : wq w w2) {k : Nat} {x : Nat × va_E} (hx : w2[k]? = some x) : ∃ y, w[k]? = some y ∧ y.1 = x.1 ∧ wcell y.2 = wcell x.2 := by
  have h1 : (w2.map (fun x => (x.1, wcell x.2)))[k]? = some (x.1, wcell x.2) := by rw [List.getElem?_map, hx]; rfl
  rw [← h, List.getElem?_map] at h1
  cases hw : w[k]? with
  | none => rw [hw] at h1; cases h1
  | some y =>
    rw [hw] at h1
    have h2 := Option.some.inj h1
    exact ⟨y, rfl, (Prod.mk.inj h2).1, (Prod.mk.inj h2).2⟩
theorem wq_P {E : ag} {w w2 : va_W} (h : wq w w2) {H : Heap} (hP : va_P E.1 vwCl w H) : va_P E.1 vwCl w2 H := by
  intro k x hx
  obtain ⟨y, h1, h2, h3⟩ := wq_at h hx
  have h4 := hP k y h1
  obtain ⟨a, e⟩ := x
  obtain ⟨b, f⟩ := y
  simp only at h2
  subst h2
  unfold va_at at h4 ⊢
  cases e with
  | inl u =>
    cases f with
    | inl v => simp only [wcell, Sum.inl.injEq] at h3; simp only at h4 ⊢; rw [← h3]; exact h4
    | inr v => simp [wcell] at h3
  | inr u =>
    cases f with
    | inl v => simp [wcell] at h3
    | inr v => simp only [wcell, Sum.inr.injEq] at h3; subst h3; exact h4
theorem wq_D {A : Nat → Prop} {w w2 : va_W} (h : wq w w2) (hD : va_D A w) : va_D A w2 := by
  refine ⟨fun i j x y hx hy hxy => ?_, fun k x hx => ?_⟩
  · obtain ⟨u, h1, h2, -⟩ := wq_at h hx
    obtain ⟨v, h3, h4, -⟩ := wq_at h hy
    exact hD.1 i j u v h1 h3 (by rw [h2, h4, hxy])
  · obtain ⟨u, h1, h2, -⟩ := wq_at h hx
    rw [← h2]
    exact hD.2 k u h1
theorem AW.ext {E : ag} {M : am} {d bc bs pc : Nat} {ls : List (Option Value)} {st : List Value} {ws ws2 : va_W} {post : Option Value → va_W → Prop} (h : wq ws ws2) (k : AW E M d bc bs pc ls st ws2 post) : AW E M d bc bs pc ls st ws post := by
  intro p l e s m args below meth c H locs cells slots mc ms A la X hl hP hD hS hbc hbs
  exact k p l e s m args below meth c H locs cells slots mc ms A la X hl (wq_P h hP) (wq_D h hD) hS hbc hbs
theorem vp_cell_q1 {cA : ClassId} {n : Nat} {f f2 : Nat → Int32} (h : ∀ k, k < n → f k = f2 k) : vp_cell cA (n, .inl f) = vp_cell cA (n, .inl f2) := by
  rw [vp_cell_i, vp_cell_i]
  unfold arrV
  congr 1
  apply Array.ext
  · simp
  · intro i h1 h2
    simp at h1
    simp [h i h1]
def mLen (i : Nat) : Nat := [0, 960, 6, 160, 12, 12, 5, 5, 5, 5, 12, 12, 5, 5, 5, 5, 12, 12, 5, 5, 5, 4, 4, 4, 160].getD i 0
theorem MW_q {E : ag} {q : Nat → Nat} {g : Nat → Int32} {tw : Int64} {a a2 : Nat → Nat → Int32} (h : ∀ i k, k < mLen i → a i k = a2 i k) : wq (MW E q g tw a) (MW E q g tw a2) := by
  unfold wq MW
  simp only [List.map_cons, List.map_nil, wcell]
  rw [vp_cell_q1 (n := 960) (fun k hk => h 1 k hk), vp_cell_q1 (n := 6) (fun k hk => h 2 k hk), vp_cell_q1 (n := 160) (fun k hk => h 3 k hk), vp_cell_q1 (n := 12) (fun k hk => h 4 k hk), vp_cell_q1 (n := 12) (fun k hk => h 5 k hk), vp_cell_q1 (n := 5) (fun k hk => h 6 k hk), vp_cell_q1 (n := 5) (fun k hk => h 7 k hk), vp_cell_q1 (n := 5) (fun k hk => h 8 k hk), vp_cell_q1 (n := 5) (fun k hk => h 9 k hk), vp_cell_q1 (n := 12) (fun k hk => h 10 k hk), vp_cell_q1 (n := 12) (fun k hk => h 11 k hk), vp_cell_q1 (n := 5) (fun k hk => h 12 k hk), vp_cell_q1 (n := 5) (fun k hk => h 13 k hk), vp_cell_q1 (n := 5) (fun k hk => h 14 k hk), vp_cell_q1 (n := 5) (fun k hk => h 15 k hk), vp_cell_q1 (n := 12) (fun k hk => h 16 k hk), vp_cell_q1 (n := 12) (fun k hk => h 17 k hk), vp_cell_q1 (n := 5) (fun k hk => h 18 k hk), vp_cell_q1 (n := 5) (fun k hk => h 19 k hk), vp_cell_q1 (n := 5) (fun k hk => h 20 k hk), vp_cell_q1 (n := 4) (fun k hk => h 21 k hk), vp_cell_q1 (n := 4) (fun k hk => h 22 k hk), vp_cell_q1 (n := 4) (fun k hk => h 23 k hk), vp_cell_q1 (n := 160) (fun k hk => h 24 k hk)]
theorem up_q {a a2 : Nat → Nat → Int32} {j : Nat} {f f2 : Nat → Int32} (h : ∀ i k, k < mLen i → a i k = a2 i k) (hf : ∀ k, k < mLen j → f k = f2 k) : ∀ i k, k < mLen i → va_up a j f i k = va_up a2 j f2 i k := by
  intro i k hk
  by_cases hj : i = j
  · subst hj; simp [va_up, hf k hk]
  · simp [va_up, hj, h i k hk]
def cp (n : Nat) (f h : Nat → Int32) : Nat → Int32 := fun k => if k < n then f k else h k
theorem cp_0 (f h : Nat → Int32) : cp 0 f h = h := by funext k; simp [cp]
theorem cp_s (n : Nat) (f h : Nat → Int32) : upd (cp n f h) n (f n) = cp (n + 1) f h := by
  funext k
  simp only [upd, cp]
  by_cases hk : k = n
  · subst hk; simp
  · by_cases h2 : k < n
    · simp [hk, h2, Nat.lt_succ_of_lt h2]
    · have : ¬ k < n + 1 := by omega
      simp [hk, h2, this]
theorem cp_in {n : Nat} {f h : Nat → Int32} {k : Nat} (hk : k < n) : cp n f h k = f k := by simp [cp, hk]
theorem up_same {α : Type} (a : Nat → α) (i : Nat) : va_up a i (a i) = a := by funext k; simp only [va_up]; split <;> simp_all
theorem nIlit (n : Nat) : (OfNat.ofNat n : Int32) = nI n := rfl

set_option maxRecDepth 100000 in
set_option maxHeartbeats 400000 in
theorem m_comes (E : ag) (q : Nat → Nat) (g : Nat → Int32) (tw : Int64) (a : Nat → Nat → Int32) (x y : Int32) (hx : vp_in x 5) (hy : vp_in y 5) : CT E yX6_comes cX6_comes 3 mX6_comes.2.2.2.1 1 0 0 [.ref (q 0), .int x, .int y] (MW E q g tw a) (rv (fun w => w = MW E q g tw (va_up (va_up (va_up (va_up a 6 (upd (a 6) x.toNatClampNeg (a 12 y.toNatClampNeg))) 7 (upd (a 7) x.toNatClampNeg (a 13 y.toNatClampNeg))) 8 (upd (a 8) x.toNatClampNeg (a 14 y.toNatClampNeg))) 9 (upd (a 9) x.toNatClampNeg (a 15 y.toNatClampNeg))))) := by
  refine CT.of (M := mX6_comes) (ls := [some (.ref (q 0)), some (.int x), some (.int y)]) (by decide) rfl (by decide) rfl (Nat.le_of_ble_eq_true rfl) ?_
  refine A_aload_n (dX6_comes 0 rfl) rfl ?_
  refine A_get (dX6_comes 1 rfl) fwX6_29 MW_0 MF_9 ?_
  refine A_iload_n (dX6_comes 2 rfl) rfl ?_
  refine A_aload_n (dX6_comes 3 rfl) rfl ?_
  refine A_get (dX6_comes 4 rfl) fwX6_50 MW_0 MF_39 ?_
  refine A_iload_n (dX6_comes 5 rfl) rfl ?_
  refine A_iald (dX6_comes 6 rfl) MW_12 (by assumption) ?_
  refine A_iast (dX6_comes 7 rfl) MW_6 (by assumption) (MS_6 _) ?_
  refine AW.pcq (pc2 := 12) rfl ?_
  refine A_aload_n (dX6_comes 8 rfl) rfl ?_
  refine A_get (dX6_comes 9 rfl) fwX6_32 MW_0 MF_10 ?_
  refine A_iload_n (dX6_comes 10 rfl) rfl ?_
  refine A_aload_n (dX6_comes 11 rfl) rfl ?_
  refine A_get (dX6_comes 12 rfl) fwX6_53 MW_0 MF_40 ?_
  refine A_iload_n (dX6_comes 13 rfl) rfl ?_
  refine A_iald (dX6_comes 14 rfl) MW_13 (by assumption) ?_
  refine A_iast (dX6_comes 15 rfl) MW_7 (by assumption) (MS_7 _) ?_
  refine AW.pcq (pc2 := 24) rfl ?_
  refine A_aload_n (dX6_comes 16 rfl) rfl ?_
  refine A_get (dX6_comes 17 rfl) fwX6_35 MW_0 MF_11 ?_
  refine A_iload_n (dX6_comes 18 rfl) rfl ?_
  refine A_aload_n (dX6_comes 19 rfl) rfl ?_
  refine A_get (dX6_comes 20 rfl) fwX6_56 MW_0 MF_41 ?_
  refine A_iload_n (dX6_comes 21 rfl) rfl ?_
  refine A_iald (dX6_comes 22 rfl) MW_14 (by assumption) ?_
  refine A_iast (dX6_comes 23 rfl) MW_8 (by assumption) (MS_8 _) ?_
  refine AW.pcq (pc2 := 36) rfl ?_
  refine A_aload_n (dX6_comes 24 rfl) rfl ?_
  refine A_get (dX6_comes 25 rfl) fwX6_38 MW_0 MF_12 ?_
  refine A_iload_n (dX6_comes 26 rfl) rfl ?_
  refine A_aload_n (dX6_comes 27 rfl) rfl ?_
  refine A_get (dX6_comes 28 rfl) fwX6_59 MW_0 MF_42 ?_
  refine A_iload_n (dX6_comes 29 rfl) rfl ?_
  refine A_iald (dX6_comes 30 rfl) MW_15 (by assumption) ?_
  refine A_iast (dX6_comes 31 rfl) MW_9 (by assumption) (MS_9 _) ?_
  refine AW.pcq (pc2 := 48) rfl ?_
  refine A_rv (dX6_comes 32 rfl) rfl ?_
  exact rfl

set_option maxRecDepth 100000 in
set_option maxHeartbeats 400000 in
theorem m_aside2 (E : ag) (q : Nat → Nat) (g : Nat → Int32) (tw : Int64) (a : Nat → Nat → Int32) : ∀ (n c : Nat), c + n = 5 → AW E mX6_laysAside 1 0 0 40 [some (.ref (q 0)), some (.int (nI c))] [] (MW E q g tw (va_up (va_up (va_up (va_up a 12 (cp c (a 6) (a 12))) 13 (cp c (a 7) (a 13))) 14 (cp c (a 8) (a 14))) 15 (cp c (a 9) (a 15)))) (rv (fun w => w = MW E q (upd (upd (upd (upd (upd (upd g 43 (g 13)) 44 (g 14)) 45 (g 15)) 46 (g 16)) 35 0) 36 0) tw (va_up (va_up (va_up (va_up a 12 (a 6)) 13 (a 7)) 14 (a 8)) 15 (a 9)))) := by
  intro n
  induction n with
  | zero =>
    intro c hc
    obtain rfl : c = 5 := by omega
    refine A_iload_n (dX6_laysAside 25 rfl) rfl ?_
    refine A_iconst (5) (dX6_laysAside 26 rfl) (by decide +kernel) ?_
    refine A_icmp_ge 99 (dX6_laysAside 27 rfl) (by decide) (fun h42 => ?_) (fun h42 => absurd (show (5 : Int32) ≤ nI 5 by decide) h42)
    refine AW.ext (MW_q (a2 := (va_up (va_up (va_up (va_up a 12 (a 6)) 13 (a 7)) 14 (a 8)) 15 (a 9))) (up_q (up_q (up_q (up_q (fun _ _ _ => rfl) (fun k hk => cp_in (n := 5) hk)) (fun k hk => cp_in (n := 5) hk)) (fun k hk => cp_in (n := 5) hk)) (fun k hk => cp_in (n := 5) hk))) ?_
    refine A_aload_n (dX6_laysAside 62 rfl) rfl ?_
    refine A_aload_n (dX6_laysAside 63 rfl) rfl ?_
    refine A_get (dX6_laysAside 64 rfl) fwX6_100 MW_0 MF_13 ?_
    refine A_put (dX6_laysAside 65 rfl) fwX6_315 fcX6 ftX6_43 MW_0 rfl rfl ML_0 (MP_43 _) ?_
    refine A_aload_n (dX6_laysAside 66 rfl) rfl ?_
    refine A_aload_n (dX6_laysAside 67 rfl) rfl ?_
    refine A_get (dX6_laysAside 68 rfl) fwX6_41 MW_0 MF_14 ?_
    refine A_put (dX6_laysAside 69 rfl) fwX6_318 fcX6 ftX6_44 MW_0 rfl rfl ML_0 (MP_44 _) ?_
    refine AW.pcq (pc2 := 115) rfl ?_
    refine A_aload_n (dX6_laysAside 70 rfl) rfl ?_
    refine A_aload_n (dX6_laysAside 71 rfl) rfl ?_
    refine A_get (dX6_laysAside 72 rfl) fwX6_142 MW_0 MF_15 ?_
    refine A_put (dX6_laysAside 73 rfl) fwX6_321 fcX6 ftX6_45 MW_0 rfl rfl ML_0 (MP_45 _) ?_
    refine A_aload_n (dX6_laysAside 74 rfl) rfl ?_
    refine A_aload_n (dX6_laysAside 75 rfl) rfl ?_
    refine A_get (dX6_laysAside 76 rfl) fwX6_305 MW_0 MF_16 ?_
    refine A_put (dX6_laysAside 77 rfl) fwX6_324 fcX6 ftX6_46 MW_0 rfl rfl ML_0 (MP_46 _) ?_
    refine AW.pcq (pc2 := 131) rfl ?_
    refine A_aload_n (dX6_laysAside 78 rfl) rfl ?_
    refine A_iconst (0) (dX6_laysAside 79 rfl) (by decide +kernel) ?_
    refine A_put (dX6_laysAside 80 rfl) fwX6_295 fcX6 ftX6_35 MW_0 rfl rfl ML_0 (MP_35 _) ?_
    refine A_aload_n (dX6_laysAside 81 rfl) rfl ?_
    refine A_iconst (0) (dX6_laysAside 82 rfl) (by decide +kernel) ?_
    refine A_put (dX6_laysAside 83 rfl) fwX6_298 fcX6 ftX6_36 MW_0 rfl rfl ML_0 (MP_36 _) ?_
    refine A_rv (dX6_laysAside 84 rfl) rfl ?_
    exact rfl
  | succ n ih =>
    intro c hc
    have hlt : c < 5 := by omega
    refine A_iload_n (dX6_laysAside 25 rfl) rfl ?_
    refine A_iconst (5) (dX6_laysAside 26 rfl) (by decide +kernel) ?_
    refine A_icmp_ge 99 (dX6_laysAside 27 rfl) (by decide) (fun h42 => absurd h42 (nI_ge (a := c) (b := 5) hlt (by decide))) (fun h42 => ?_)
    refine A_aload_n (dX6_laysAside 28 rfl) rfl ?_
    refine A_get (dX6_laysAside 29 rfl) fwX6_50 MW_0 MF_39 ?_
    refine A_iload_n (dX6_laysAside 30 rfl) rfl ?_
    refine A_aload_n (dX6_laysAside 31 rfl) rfl ?_
    refine A_get (dX6_laysAside 32 rfl) fwX6_29 MW_0 MF_9 ?_
    refine AW.pcq (pc2 := 54) rfl ?_
    refine A_iload_n (dX6_laysAside 33 rfl) rfl ?_
    refine A_iald (dX6_laysAside 34 rfl) MW_6 (vp_in_nI hlt (by decide)) ?_
    refine A_iast (dX6_laysAside 35 rfl) MW_12 (vp_in_nI hlt (by decide)) (MS_12 _) ?_
    refine A_aload_n (dX6_laysAside 36 rfl) rfl ?_
    refine A_get (dX6_laysAside 37 rfl) fwX6_53 MW_0 MF_40 ?_
    refine A_iload_n (dX6_laysAside 38 rfl) rfl ?_
    refine A_aload_n (dX6_laysAside 39 rfl) rfl ?_
    refine A_get (dX6_laysAside 40 rfl) fwX6_32 MW_0 MF_10 ?_
    refine AW.pcq (pc2 := 66) rfl ?_
    refine A_iload_n (dX6_laysAside 41 rfl) rfl ?_
    refine A_iald (dX6_laysAside 42 rfl) MW_7 (vp_in_nI hlt (by decide)) ?_
    refine A_iast (dX6_laysAside 43 rfl) MW_13 (vp_in_nI hlt (by decide)) (MS_13 _) ?_
    refine A_aload_n (dX6_laysAside 44 rfl) rfl ?_
    refine A_get (dX6_laysAside 45 rfl) fwX6_56 MW_0 MF_41 ?_
    refine A_iload_n (dX6_laysAside 46 rfl) rfl ?_
    refine A_aload_n (dX6_laysAside 47 rfl) rfl ?_
    refine A_get (dX6_laysAside 48 rfl) fwX6_35 MW_0 MF_11 ?_
    refine AW.pcq (pc2 := 78) rfl ?_
    refine A_iload_n (dX6_laysAside 49 rfl) rfl ?_
    refine A_iald (dX6_laysAside 50 rfl) MW_8 (vp_in_nI hlt (by decide)) ?_
    refine A_iast (dX6_laysAside 51 rfl) MW_14 (vp_in_nI hlt (by decide)) (MS_14 _) ?_
    refine A_aload_n (dX6_laysAside 52 rfl) rfl ?_
    refine A_get (dX6_laysAside 53 rfl) fwX6_59 MW_0 MF_42 ?_
    refine A_iload_n (dX6_laysAside 54 rfl) rfl ?_
    refine A_aload_n (dX6_laysAside 55 rfl) rfl ?_
    refine A_get (dX6_laysAside 56 rfl) fwX6_38 MW_0 MF_12 ?_
    refine AW.pcq (pc2 := 90) rfl ?_
    refine A_iload_n (dX6_laysAside 57 rfl) rfl ?_
    refine A_iald (dX6_laysAside 58 rfl) MW_9 (vp_in_nI hlt (by decide)) ?_
    refine A_iast (dX6_laysAside 59 rfl) MW_15 (vp_in_nI hlt (by decide)) (MS_15 _) ?_
    refine A_iinc (ls2 := [_, _]) (nI (c + 1)) (dX6_laysAside 60 rfl) rfl (nI_1 c) (by decide) rfl rfl ?_
    refine A_goto 40 (dX6_laysAside 61 rfl) (by decide) ?_
    rw [nI_clamp (by omega)]
    refine AW.world (ws2 := MW E q g tw (va_up (va_up (va_up (va_up a 12 (cp (c + 1) (a 6) (a 12))) 13 (cp (c + 1) (a 7) (a 13))) 14 (cp (c + 1) (a 8) (a 14))) 15 (cp (c + 1) (a 9) (a 15)))) ?_ (ih (c + 1) (by omega))
    refine congrArg (MW E q g tw) ?_
    funext i
    by_cases e12 : i = 12 <;> by_cases e13 : i = 13 <;> by_cases e14 : i = 14 <;> by_cases e15 : i = 15 <;> simp_all [va_up, cp_s]

set_option maxRecDepth 100000 in
set_option maxHeartbeats 400000 in
theorem m_aside1 (E : ag) (q : Nat → Nat) (g : Nat → Int32) (tw : Int64) (a : Nat → Nat → Int32) : ∀ (n c : Nat), c + n = 12 → AW E mX6_laysAside 1 0 0 2 [some (.ref (q 0)), some (.int (nI c))] [] (MW E q g tw (va_up (va_up a 10 (cp c (a 4) (a 10))) 11 (cp c (a 5) (a 11)))) (rv (fun w => w = MW E q (upd (upd (upd (upd (upd (upd g 43 (g 13)) 44 (g 14)) 45 (g 15)) 46 (g 16)) 35 0) 36 0) tw (va_up (va_up (va_up (va_up (va_up (va_up a 10 (a 4)) 11 (a 5)) 12 (a 6)) 13 (a 7)) 14 (a 8)) 15 (a 9)))) := by
  intro n
  induction n with
  | zero =>
    intro c hc
    obtain rfl : c = 12 := by omega
    refine A_iload_n (dX6_laysAside 2 rfl) rfl ?_
    refine A_bipush (12) (dX6_laysAside 3 rfl) (by decide +kernel) ?_
    refine A_icmp_ge 38 (dX6_laysAside 4 rfl) (by decide) (fun h5 => ?_) (fun h5 => absurd (show (12 : Int32) ≤ nI 12 by decide) h5)
    refine AW.ext (MW_q (a2 := (va_up (va_up a 10 (a 4)) 11 (a 5))) (up_q (up_q (fun _ _ _ => rfl) (fun k hk => cp_in (n := 12) hk)) (fun k hk => cp_in (n := 12) hk))) ?_
    refine A_iconst (0) (dX6_laysAside 23 rfl) (by decide +kernel) ?_
    refine A_istore_n (ls2 := [_, _]) (dX6_laysAside 24 rfl) (by decide) rfl rfl ?_
    have h9 := m_aside2 E q g tw (va_up (va_up a 10 (a 4)) 11 (a 5)) 5 0 rfl
    simp only [cp_0, up_same] at h9
    exact h9
  | succ n ih =>
    intro c hc
    have hlt : c < 12 := by omega
    refine A_iload_n (dX6_laysAside 2 rfl) rfl ?_
    refine A_bipush (12) (dX6_laysAside 3 rfl) (by decide +kernel) ?_
    refine A_icmp_ge 38 (dX6_laysAside 4 rfl) (by decide) (fun h5 => absurd h5 (nI_ge (a := c) (b := 12) hlt (by decide))) (fun h5 => ?_)
    refine A_aload_n (dX6_laysAside 5 rfl) rfl ?_
    refine A_get (dX6_laysAside 6 rfl) fwX6_44 MW_0 MF_37 ?_
    refine A_iload_n (dX6_laysAside 7 rfl) rfl ?_
    refine A_aload_n (dX6_laysAside 8 rfl) rfl ?_
    refine A_get (dX6_laysAside 9 rfl) fwX6_23 MW_0 MF_7 ?_
    refine AW.pcq (pc2 := 17) rfl ?_
    refine A_iload_n (dX6_laysAside 10 rfl) rfl ?_
    refine A_iald (dX6_laysAside 11 rfl) MW_4 (vp_in_nI hlt (by decide)) ?_
    refine A_iast (dX6_laysAside 12 rfl) MW_10 (vp_in_nI hlt (by decide)) (MS_10 _) ?_
    refine A_aload_n (dX6_laysAside 13 rfl) rfl ?_
    refine A_get (dX6_laysAside 14 rfl) fwX6_47 MW_0 MF_38 ?_
    refine A_iload_n (dX6_laysAside 15 rfl) rfl ?_
    refine A_aload_n (dX6_laysAside 16 rfl) rfl ?_
    refine A_get (dX6_laysAside 17 rfl) fwX6_26 MW_0 MF_8 ?_
    refine AW.pcq (pc2 := 29) rfl ?_
    refine A_iload_n (dX6_laysAside 18 rfl) rfl ?_
    refine A_iald (dX6_laysAside 19 rfl) MW_5 (vp_in_nI hlt (by decide)) ?_
    refine A_iast (dX6_laysAside 20 rfl) MW_11 (vp_in_nI hlt (by decide)) (MS_11 _) ?_
    refine A_iinc (ls2 := [_, _]) (nI (c + 1)) (dX6_laysAside 21 rfl) rfl (nI_1 c) (by decide) rfl rfl ?_
    refine A_goto 2 (dX6_laysAside 22 rfl) (by decide) ?_
    rw [nI_clamp (by omega)]
    refine AW.world (ws2 := MW E q g tw (va_up (va_up a 10 (cp (c + 1) (a 4) (a 10))) 11 (cp (c + 1) (a 5) (a 11)))) ?_ (ih (c + 1) (by omega))
    refine congrArg (MW E q g tw) ?_
    funext i
    by_cases e10 : i = 10 <;> by_cases e11 : i = 11 <;> simp_all [va_up, cp_s]
end
section
set_option maxRecDepth 100000 in
set_option maxHeartbeats 400000 in
theorem m_laysAside (E : ag) (q : Nat → Nat) (g : Nat → Int32) (tw : Int64) (a : Nat → Nat → Int32) : CT E yX6_laysAside cX6_laysAside 2 mX6_laysAside.2.2.2.1 1 0 0 [.ref (q 0)] (MW E q g tw a) (rv (fun w => w = MW E q (upd (upd (upd (upd (upd (upd g 43 (g 13)) 44 (g 14)) 45 (g 15)) 46 (g 16)) 35 0) 36 0) tw (va_up (va_up (va_up (va_up (va_up (va_up a 10 (a 4)) 11 (a 5)) 12 (a 6)) 13 (a 7)) 14 (a 8)) 15 (a 9)))) := by
  refine CT.of (M := mX6_laysAside) (ls := [some (.ref (q 0)), none]) (by decide) rfl (by decide) rfl (Nat.le_of_ble_eq_true rfl) ?_
  refine A_iconst (0) (dX6_laysAside 0 rfl) (by decide +kernel) ?_
  refine A_istore_n (ls2 := [_, _]) (dX6_laysAside 1 rfl) (by decide) rfl rfl ?_
  have h9 := m_aside1 E q g tw a 12 0 rfl
  simp only [cp_0, up_same] at h9
  exact h9

set_option maxRecDepth 100000 in
set_option maxHeartbeats 400000 in
theorem m_lback2 (E : ag) (q : Nat → Nat) (g : Nat → Int32) (tw : Int64) (a : Nat → Nat → Int32) : ∀ (n c : Nat), c + n = 5 → AW E mX6_laysBack 2 0 0 40 [some (.ref (q 0)), some (.int (nI c))] [] (MW E q g tw (va_up (va_up (va_up (va_up a 6 (cp c (a 12) (a 6))) 7 (cp c (a 13) (a 7))) 8 (cp c (a 14) (a 8))) 9 (cp c (a 15) (a 9)))) (rv (fun w => w = MW E q (upd (upd (upd (upd (upd (upd g 13 (g 43)) 14 (g 44)) 15 (g 45)) 16 (g 46)) 35 0) 36 0) tw (va_up (va_up (va_up (va_up a 6 (a 12)) 7 (a 13)) 8 (a 14)) 9 (a 15)))) := by
  intro n
  induction n with
  | zero =>
    intro c hc
    obtain rfl : c = 5 := by omega
    refine A_iload_n (dX6_laysBack 25 rfl) rfl ?_
    refine A_iconst (5) (dX6_laysBack 26 rfl) (by decide +kernel) ?_
    refine A_icmp_ge 57 (dX6_laysBack 27 rfl) (by decide) (fun h42 => ?_) (fun h42 => absurd (show (5 : Int32) ≤ nI 5 by decide) h42)
    refine AW.ext (MW_q (a2 := (va_up (va_up (va_up (va_up a 6 (a 12)) 7 (a 13)) 8 (a 14)) 9 (a 15))) (up_q (up_q (up_q (up_q (fun _ _ _ => rfl) (fun k hk => cp_in (n := 5) hk)) (fun k hk => cp_in (n := 5) hk)) (fun k hk => cp_in (n := 5) hk)) (fun k hk => cp_in (n := 5) hk))) ?_
    refine A_aload_n (dX6_laysBack 34 rfl) rfl ?_
    refine A_aload_n (dX6_laysBack 35 rfl) rfl ?_
    refine A_get (dX6_laysBack 36 rfl) fwX6_315 MW_0 MF_43 ?_
    refine A_put (dX6_laysBack 37 rfl) fwX6_100 fcX6 ftX6_13 MW_0 rfl rfl ML_0 (MP_13 _) ?_
    refine A_aload_n (dX6_laysBack 38 rfl) rfl ?_
    refine A_aload_n (dX6_laysBack 39 rfl) rfl ?_
    refine A_get (dX6_laysBack 40 rfl) fwX6_318 MW_0 MF_44 ?_
    refine A_put (dX6_laysBack 41 rfl) fwX6_41 fcX6 ftX6_14 MW_0 rfl rfl ML_0 (MP_14 _) ?_
    refine AW.pcq (pc2 := 73) rfl ?_
    refine A_aload_n (dX6_laysBack 42 rfl) rfl ?_
    refine A_aload_n (dX6_laysBack 43 rfl) rfl ?_
    refine A_get (dX6_laysBack 44 rfl) fwX6_321 MW_0 MF_45 ?_
    refine A_put (dX6_laysBack 45 rfl) fwX6_142 fcX6 ftX6_15 MW_0 rfl rfl ML_0 (MP_15 _) ?_
    refine A_aload_n (dX6_laysBack 46 rfl) rfl ?_
    refine A_aload_n (dX6_laysBack 47 rfl) rfl ?_
    refine A_get (dX6_laysBack 48 rfl) fwX6_324 MW_0 MF_46 ?_
    refine A_put (dX6_laysBack 49 rfl) fwX6_305 fcX6 ftX6_16 MW_0 rfl rfl ML_0 (MP_16 _) ?_
    refine AW.pcq (pc2 := 89) rfl ?_
    refine A_aload_n (dX6_laysBack 50 rfl) rfl ?_
    refine A_iconst (0) (dX6_laysBack 51 rfl) (by decide +kernel) ?_
    refine A_put (dX6_laysBack 52 rfl) fwX6_295 fcX6 ftX6_35 MW_0 rfl rfl ML_0 (MP_35 _) ?_
    refine A_aload_n (dX6_laysBack 53 rfl) rfl ?_
    refine A_iconst (0) (dX6_laysBack 54 rfl) (by decide +kernel) ?_
    refine A_put (dX6_laysBack 55 rfl) fwX6_298 fcX6 ftX6_36 MW_0 rfl rfl ML_0 (MP_36 _) ?_
    refine A_rv (dX6_laysBack 56 rfl) rfl ?_
    exact rfl
  | succ n ih =>
    intro c hc
    have hlt : c < 5 := by omega
    refine A_iload_n (dX6_laysBack 25 rfl) rfl ?_
    refine A_iconst (5) (dX6_laysBack 26 rfl) (by decide +kernel) ?_
    refine A_icmp_ge 57 (dX6_laysBack 27 rfl) (by decide) (fun h42 => absurd h42 (nI_ge (a := c) (b := 5) hlt (by decide))) (fun h42 => ?_)
    refine A_aload_n (dX6_laysBack 28 rfl) rfl ?_
    refine A_iload_n (dX6_laysBack 29 rfl) rfl ?_
    refine A_iload_n (dX6_laysBack 30 rfl) rfl ?_
    refine A_callVWv 2 (dX6_laysBack 31 rfl) cbX6_comes cwX6_327 (m_comes E q g tw (va_up (va_up (va_up (va_up a 6 (cp c (a 12) (a 6))) 7 (cp c (a 13) (a 7))) 8 (cp c (a 14) (a 8))) 9 (cp c (a 15) (a 9))) (nI c) (nI c) (vp_in_nI hlt (by decide)) (vp_in_nI hlt (by decide))) rfl rfl MW_0 rfl rfl (Nat.le_of_ble_eq_true rfl) (Nat.le_of_ble_eq_true rfl) (Nat.le_of_ble_eq_true rfl) (Nat.le_of_ble_eq_true rfl) (Nat.le_of_ble_eq_true rfl) ?_
    rintro w1 rfl
    refine AW.pcq (pc2 := 51) rfl ?_
    refine A_iinc (ls2 := [_, _]) (nI (c + 1)) (dX6_laysBack 32 rfl) rfl (nI_1 c) (by decide) rfl rfl ?_
    refine A_goto 40 (dX6_laysBack 33 rfl) (by decide) ?_
    rw [nI_clamp (by omega)]
    refine AW.world (ws2 := MW E q g tw (va_up (va_up (va_up (va_up a 6 (cp (c + 1) (a 12) (a 6))) 7 (cp (c + 1) (a 13) (a 7))) 8 (cp (c + 1) (a 14) (a 8))) 9 (cp (c + 1) (a 15) (a 9)))) ?_ (ih (c + 1) (by omega))
    refine congrArg (MW E q g tw) ?_
    funext i
    by_cases e6 : i = 6 <;> by_cases e7 : i = 7 <;> by_cases e8 : i = 8 <;> by_cases e9 : i = 9 <;> simp_all [va_up, cp_s]

set_option maxRecDepth 100000 in
set_option maxHeartbeats 400000 in
theorem m_lback1 (E : ag) (q : Nat → Nat) (g : Nat → Int32) (tw : Int64) (a : Nat → Nat → Int32) : ∀ (n c : Nat), c + n = 12 → AW E mX6_laysBack 2 0 0 2 [some (.ref (q 0)), some (.int (nI c))] [] (MW E q g tw (va_up (va_up a 4 (cp c (a 10) (a 4))) 5 (cp c (a 11) (a 5)))) (rv (fun w => w = MW E q (upd (upd (upd (upd (upd (upd g 13 (g 43)) 14 (g 44)) 15 (g 45)) 16 (g 46)) 35 0) 36 0) tw (va_up (va_up (va_up (va_up (va_up (va_up a 4 (a 10)) 5 (a 11)) 6 (a 12)) 7 (a 13)) 8 (a 14)) 9 (a 15)))) := by
  intro n
  induction n with
  | zero =>
    intro c hc
    obtain rfl : c = 12 := by omega
    refine A_iload_n (dX6_laysBack 2 rfl) rfl ?_
    refine A_bipush (12) (dX6_laysBack 3 rfl) (by decide +kernel) ?_
    refine A_icmp_ge 38 (dX6_laysBack 4 rfl) (by decide) (fun h5 => ?_) (fun h5 => absurd (show (12 : Int32) ≤ nI 12 by decide) h5)
    refine AW.ext (MW_q (a2 := (va_up (va_up a 4 (a 10)) 5 (a 11))) (up_q (up_q (fun _ _ _ => rfl) (fun k hk => cp_in (n := 12) hk)) (fun k hk => cp_in (n := 12) hk))) ?_
    refine A_iconst (0) (dX6_laysBack 23 rfl) (by decide +kernel) ?_
    refine A_istore_n (ls2 := [_, _]) (dX6_laysBack 24 rfl) (by decide) rfl rfl ?_
    have h9 := m_lback2 E q g tw (va_up (va_up a 4 (a 10)) 5 (a 11)) 5 0 rfl
    simp only [cp_0, up_same] at h9
    exact h9
  | succ n ih =>
    intro c hc
    have hlt : c < 12 := by omega
    refine A_iload_n (dX6_laysBack 2 rfl) rfl ?_
    refine A_bipush (12) (dX6_laysBack 3 rfl) (by decide +kernel) ?_
    refine A_icmp_ge 38 (dX6_laysBack 4 rfl) (by decide) (fun h5 => absurd h5 (nI_ge (a := c) (b := 12) hlt (by decide))) (fun h5 => ?_)
    refine A_aload_n (dX6_laysBack 5 rfl) rfl ?_
    refine A_get (dX6_laysBack 6 rfl) fwX6_23 MW_0 MF_7 ?_
    refine A_iload_n (dX6_laysBack 7 rfl) rfl ?_
    refine A_aload_n (dX6_laysBack 8 rfl) rfl ?_
    refine A_get (dX6_laysBack 9 rfl) fwX6_44 MW_0 MF_37 ?_
    refine AW.pcq (pc2 := 17) rfl ?_
    refine A_iload_n (dX6_laysBack 10 rfl) rfl ?_
    refine A_iald (dX6_laysBack 11 rfl) MW_10 (vp_in_nI hlt (by decide)) ?_
    refine A_iast (dX6_laysBack 12 rfl) MW_4 (vp_in_nI hlt (by decide)) (MS_4 _) ?_
    refine A_aload_n (dX6_laysBack 13 rfl) rfl ?_
    refine A_get (dX6_laysBack 14 rfl) fwX6_26 MW_0 MF_8 ?_
    refine A_iload_n (dX6_laysBack 15 rfl) rfl ?_
    refine A_aload_n (dX6_laysBack 16 rfl) rfl ?_
    refine A_get (dX6_laysBack 17 rfl) fwX6_47 MW_0 MF_38 ?_
    refine AW.pcq (pc2 := 29) rfl ?_
    refine A_iload_n (dX6_laysBack 18 rfl) rfl ?_
    refine A_iald (dX6_laysBack 19 rfl) MW_11 (vp_in_nI hlt (by decide)) ?_
    refine A_iast (dX6_laysBack 20 rfl) MW_5 (vp_in_nI hlt (by decide)) (MS_5 _) ?_
    refine A_iinc (ls2 := [_, _]) (nI (c + 1)) (dX6_laysBack 21 rfl) rfl (nI_1 c) (by decide) rfl rfl ?_
    refine A_goto 2 (dX6_laysBack 22 rfl) (by decide) ?_
    rw [nI_clamp (by omega)]
    refine AW.world (ws2 := MW E q g tw (va_up (va_up a 4 (cp (c + 1) (a 10) (a 4))) 5 (cp (c + 1) (a 11) (a 5)))) ?_ (ih (c + 1) (by omega))
    refine congrArg (MW E q g tw) ?_
    funext i
    by_cases e4 : i = 4 <;> by_cases e5 : i = 5 <;> simp_all [va_up, cp_s]

set_option maxRecDepth 100000 in
set_option maxHeartbeats 400000 in
theorem m_laysBack (E : ag) (q : Nat → Nat) (g : Nat → Int32) (tw : Int64) (a : Nat → Nat → Int32) : CT E yX6_laysBack cX6_laysBack 2 mX6_laysBack.2.2.2.1 2 0 0 [.ref (q 0)] (MW E q g tw a) (rv (fun w => w = MW E q (upd (upd (upd (upd (upd (upd g 13 (g 43)) 14 (g 44)) 15 (g 45)) 16 (g 46)) 35 0) 36 0) tw (va_up (va_up (va_up (va_up (va_up (va_up a 4 (a 10)) 5 (a 11)) 6 (a 12)) 7 (a 13)) 8 (a 14)) 9 (a 15)))) := by
  refine CT.of (M := mX6_laysBack) (ls := [some (.ref (q 0)), none]) (by decide) rfl (by decide) rfl (Nat.le_of_ble_eq_true rfl) ?_
  refine A_iconst (0) (dX6_laysBack 0 rfl) (by decide +kernel) ?_
  refine A_istore_n (ls2 := [_, _]) (dX6_laysBack 1 rfl) (by decide) rfl rfl ?_
  have h9 := m_lback1 E q g tw a 12 0 rfl
  simp only [cp_0, up_same] at h9
  exact h9

def sm (f : Nat → Int32) : Nat → Int32
  | 0 => 0
  | n + 1 => sm f n + f n
set_option maxRecDepth 100000 in
set_option maxHeartbeats 400000 in
theorem m_left1 (E : ag) (q : Nat → Nat) (g : Nat → Int32) (tw : Int64) (a : Nat → Nat → Int32) : ∀ (n c : Nat), c + n = 12 → AW E mX6_left 1 0 0 4 [some (.ref (q 0)), some (.int (sm (a 4) c)), some (.int (nI c))] [] (MW E q g tw a) (ri (fun r w => r = sm (a 4) 12 ∧ w = MW E q g tw a)) := by
  intro n
  induction n with
  | zero =>
    intro c hc
    obtain rfl : c = 12 := by omega
    refine A_iload_n (dX6_left 4 rfl) rfl ?_
    refine A_bipush (12) (dX6_left 5 rfl) (by decide +kernel) ?_
    refine A_icmp_ge 25 (dX6_left 6 rfl) (by decide) (fun h7 => ?_) (fun h7 => absurd (show (12 : Int32) ≤ nI 12 by decide) h7)
    refine A_iload_n (dX6_left 16 rfl) rfl ?_
    refine A_ri (dX6_left 17 rfl) rfl rfl ?_
    exact ⟨rfl, rfl⟩
  | succ n ih =>
    intro c hc
    have hlt : c < 12 := by omega
    refine A_iload_n (dX6_left 4 rfl) rfl ?_
    refine A_bipush (12) (dX6_left 5 rfl) (by decide +kernel) ?_
    refine A_icmp_ge 25 (dX6_left 6 rfl) (by decide) (fun h7 => absurd h7 (nI_ge (a := c) (b := 12) hlt (by decide))) (fun h7 => ?_)
    refine A_iload_n (dX6_left 7 rfl) rfl ?_
    refine A_aload_n (dX6_left 8 rfl) rfl ?_
    refine A_get (dX6_left 9 rfl) fwX6_23 MW_0 MF_7 ?_
    refine A_iload_n (dX6_left 10 rfl) rfl ?_
    refine A_iald (dX6_left 11 rfl) MW_4 (vp_in_nI hlt (by decide)) ?_
    refine AW.pcq (pc2 := 17) rfl ?_
    refine A_iadd (dX6_left 12 rfl) ?_
    refine A_istore_n (ls2 := [_, _, _]) (dX6_left 13 rfl) (by decide) rfl rfl ?_
    refine A_iinc (ls2 := [_, _, _]) (nI (c + 1)) (dX6_left 14 rfl) rfl (nI_1 c) (by decide) rfl rfl ?_
    refine A_goto 4 (dX6_left 15 rfl) (by decide) ?_
    rw [nI_clamp (by omega)]
    exact ih (c + 1) (by omega)

set_option maxRecDepth 100000 in
set_option maxHeartbeats 400000 in
theorem m_left (E : ag) (q : Nat → Nat) (g : Nat → Int32) (tw : Int64) (a : Nat → Nat → Int32) : CT E yX6_left cX6_left 3 mX6_left.2.2.2.1 1 0 0 [.ref (q 0)] (MW E q g tw a) (ri (fun r w => r = sm (a 4) 12 ∧ w = MW E q g tw a)) := by
  refine CT.of (M := mX6_left) (ls := [some (.ref (q 0)), none, none]) (by decide) rfl (by decide) rfl (Nat.le_of_ble_eq_true rfl) ?_
  refine A_iconst (0) (dX6_left 0 rfl) (by decide +kernel) ?_
  refine A_istore_n (ls2 := [_, _, _]) (dX6_left 1 rfl) (by decide) rfl rfl ?_
  refine A_iconst (0) (dX6_left 2 rfl) (by decide +kernel) ?_
  refine A_istore_n (ls2 := [_, _, _]) (dX6_left 3 rfl) (by decide) rfl rfl ?_
  exact m_left1 E q g tw a 12 0 rfl

def dw (x : Int32) : Int32 := if x ≤ 0 then 0 else x - 1
def rvc (c : Nat) (f : Nat → Int32) : Nat → Int32 := fun k => if k < c ∨ (k ≤ 11 ∧ 11 - k < c) then f (11 - k) else f k
theorem rvc_0 (f : Nat → Int32) : rvc 0 f = f := by funext k; simp [rvc]
theorem rvc_s {c : Nat} (hc : c < 6) (f : Nat → Int32) : upd (upd (rvc c f) c (rvc c f (11 - c))) (11 - c) (rvc c f c) = rvc (c + 1) f := by
  funext k
  simp only [upd, rvc]
  by_cases h1 : k = 11 - c
  · subst h1
    have e1 : 11 - (11 - c) = c := by omega
    rw [if_pos rfl, if_neg (by omega), if_pos (by omega), e1]
  · rw [if_neg h1]
    by_cases h2 : k = c
    · subst h2
      rw [if_pos rfl, if_neg (by omega), if_pos (by omega)]
    · rw [if_neg h2]
      by_cases h3 : k < c ∨ (k ≤ 11 ∧ 11 - k < c)
      · rw [if_pos h3, if_pos (by omega)]
      · rw [if_neg h3, if_neg (by omega)]
theorem rvc_6 {f : Nat → Int32} {k : Nat} (hk : k < 12) : rvc 6 f k = f (11 - k) := by
  simp only [rvc]
  rw [if_pos (by omega)]
theorem n11 {c : Nat} (h : c ≤ 11) : (11 : Int32) - nI c = nI (11 - c) := pk_sub (a := 11) h
theorem cp_s2 (n : Nat) (f h : Nat → Int32) {x : Int32} (hx : x = f n) : upd (cp n f h) n x = cp (n + 1) f h := by rw [hx]; exact cp_s n f h
theorem cp_out (n : Nat) (f h : Nat → Int32) : cp n f h n = h n := by simp [cp]
theorem dw_le {x : Int32} (h : x ≤ 0) : dw x = 0 := by simp [dw, h]
theorem dw_gt {x : Int32} (h : ¬ x ≤ 0) : dw x = x - 1 := by simp [dw, h]
def turnA (a : Nat → Nat → Int32) : Nat → Nat → Int32 := va_up (va_up a 4 (fun k => a 4 (11 - k))) 5 (fun k => dw (a 5 k))
set_option maxRecDepth 100000 in
set_option maxHeartbeats 400000 in
theorem m_turns2 (E : ag) (q : Nat → Nat) (g : Nat → Int32) (tw : Int64) (a : Nat → Nat → Int32) (z2 : Int32) : ∀ (n c : Nat), c + n = 12 → AW E mX6_turns 1 0 0 48 [some (.ref (q 0)), some (.int (nI c)), some (.int z2)] [] (MW E q g tw (va_up a 5 (cp c (fun k => dw (a 5 k)) (a 5)))) (rv (fun w => w = MW E q g tw (va_up a 5 (fun k => dw (a 5 k))))) := by
  intro n
  induction n with
  | zero =>
    intro c hc
    obtain rfl : c = 12 := by omega
    refine A_iload_n (dX6_turns 31 rfl) rfl ?_
    refine A_bipush (12) (dX6_turns 32 rfl) (by decide +kernel) ?_
    refine A_icmp_ge 87 (dX6_turns 33 rfl) (by decide) (fun h51 => ?_) (fun h51 => absurd (show (12 : Int32) ≤ nI 12 by decide) h51)
    refine AW.ext (MW_q (a2 := va_up a 5 (fun k => dw (a 5 k))) (up_q (fun _ _ _ => rfl) (fun k hk => cp_in (n := 12) hk))) ?_
    refine A_rv (dX6_turns 53 rfl) rfl ?_
    exact rfl
  | succ n ih =>
    intro c hc
    have hlt : c < 12 := by omega
    refine A_iload_n (dX6_turns 31 rfl) rfl ?_
    refine A_bipush (12) (dX6_turns 32 rfl) (by decide +kernel) ?_
    refine A_icmp_ge 87 (dX6_turns 33 rfl) (by decide) (fun h51 => absurd h51 (nI_ge (a := c) (b := 12) hlt (by decide))) (fun h51 => ?_)
    refine A_aload_n (dX6_turns 34 rfl) rfl ?_
    refine A_get (dX6_turns 35 rfl) fwX6_26 MW_0 MF_8 ?_
    refine A_iload_n (dX6_turns 36 rfl) rfl ?_
    refine A_aload_n (dX6_turns 37 rfl) rfl ?_
    refine A_get (dX6_turns 38 rfl) fwX6_26 MW_0 MF_8 ?_
    refine AW.pcq (pc2 := 63) rfl ?_
    refine A_iload_n (dX6_turns 39 rfl) rfl ?_
    refine A_iald (dX6_turns 40 rfl) MW_5 (vp_in_nI hlt (by decide)) ?_
    refine A_if_le 79 (dX6_turns 41 rfl) (by decide) (fun h65 => ?_) (fun h65 => ?_)
    · refine A_iconst (0) (dX6_turns 49 rfl) (by decide +kernel) ?_
      refine A_iast (dX6_turns 50 rfl) MW_5 (vp_in_nI hlt (by decide)) (MS_5 _) ?_
      refine A_iinc (ls2 := [_, _, _]) (nI (c + 1)) (dX6_turns 51 rfl) rfl (nI_1 c) (by decide) rfl rfl ?_
      refine A_goto 48 (dX6_turns 52 rfl) (by decide) ?_
      rw [nI_clamp (by omega)] at *
      refine AW.world (ws2 := MW E q g tw (va_up a 5 (cp (c + 1) (fun k => dw (a 5 k)) (a 5)))) ?_ (ih (c + 1) (by omega))
      refine congrArg (MW E q g tw) ?_
      funext i
      by_cases e5 : i = 5
      · subst e5
        simp only [va_up, if_true]
        simp only [va_up, if_true, cp_out] at h65
        first | (rw [cp_out]; exact cp_s2 c _ _ (dw_gt h65).symm) | exact cp_s2 c _ _ (dw_le h65).symm
      · simp [va_up, e5]
    · refine A_aload_n (dX6_turns 42 rfl) rfl ?_
      refine A_get (dX6_turns 43 rfl) fwX6_26 MW_0 MF_8 ?_
      refine A_iload_n (dX6_turns 44 rfl) rfl ?_
      refine A_iald (dX6_turns 45 rfl) MW_5 (vp_in_nI hlt (by decide)) ?_
      refine A_iconst (1) (dX6_turns 46 rfl) (by decide +kernel) ?_
      refine A_isub (dX6_turns 47 rfl) ?_
      refine A_goto 80 (dX6_turns 48 rfl) (by decide) ?_
      refine A_iast (dX6_turns 50 rfl) MW_5 (vp_in_nI hlt (by decide)) (MS_5 _) ?_
      refine A_iinc (ls2 := [_, _, _]) (nI (c + 1)) (dX6_turns 51 rfl) rfl (nI_1 c) (by decide) rfl rfl ?_
      refine A_goto 48 (dX6_turns 52 rfl) (by decide) ?_
      rw [nI_clamp (by omega)] at *
      refine AW.world (ws2 := MW E q g tw (va_up a 5 (cp (c + 1) (fun k => dw (a 5 k)) (a 5)))) ?_ (ih (c + 1) (by omega))
      refine congrArg (MW E q g tw) ?_
      funext i
      by_cases e5 : i = 5
      · subst e5
        simp only [va_up, if_true]
        simp only [va_up, if_true, cp_out] at h65
        first | (rw [cp_out]; exact cp_s2 c _ _ (dw_gt h65).symm) | exact cp_s2 c _ _ (dw_le h65).symm
      · simp [va_up, e5]

set_option maxRecDepth 100000 in
set_option maxHeartbeats 400000 in
theorem m_turns1 (E : ag) (q : Nat → Nat) (g : Nat → Int32) (tw : Int64) (a : Nat → Nat → Int32) : ∀ (n c : Nat), c + n = 6 → ∀ (z2 : Int32), AW E mX6_turns 1 0 0 2 [some (.ref (q 0)), some (.int (nI c)), some (.int z2)] [] (MW E q g tw (va_up a 4 (rvc c (a 4)))) (rv (fun w => w = MW E q g tw (turnA a))) := by
  intro n
  induction n with
  | zero =>
    intro c hc
    intro z2
    obtain rfl : c = 6 := by omega
    refine A_iload_n (dX6_turns 2 rfl) rfl ?_
    refine A_bipush (6) (dX6_turns 3 rfl) (by decide +kernel) ?_
    refine A_icmp_ge 46 (dX6_turns 4 rfl) (by decide) (fun h5 => ?_) (fun h5 => absurd (show (6 : Int32) ≤ nI 6 by decide) h5)
    refine AW.ext (MW_q (a2 := va_up a 4 (fun k => a 4 (11 - k))) (up_q (fun _ _ _ => rfl) (fun k hk => rvc_6 hk))) ?_
    refine A_iconst (0) (dX6_turns 29 rfl) (by decide +kernel) ?_
    refine A_istore_n (ls2 := [_, _, _]) (dX6_turns 30 rfl) (by decide) rfl rfl ?_
    have h9 := m_turns2 E q g tw (va_up a 4 (fun k => a 4 (11 - k))) z2 12 0 rfl
    simp only [cp_0, up_same] at h9
    exact h9
  | succ n ih =>
    intro c hc
    have hlt : c < 6 := by omega
    intro z2
    refine A_iload_n (dX6_turns 2 rfl) rfl ?_
    refine A_bipush (6) (dX6_turns 3 rfl) (by decide +kernel) ?_
    refine A_icmp_ge 46 (dX6_turns 4 rfl) (by decide) (fun h5 => absurd h5 (nI_ge (a := c) (b := 6) hlt (by decide))) (fun h5 => ?_)
    refine A_aload_n (dX6_turns 5 rfl) rfl ?_
    refine A_get (dX6_turns 6 rfl) fwX6_23 MW_0 MF_7 ?_
    refine A_iload_n (dX6_turns 7 rfl) rfl ?_
    refine A_iald (dX6_turns 8 rfl) MW_4 (vp_in_nI (by omega) (by decide)) ?_
    refine A_istore_n (ls2 := [_, _, _]) (dX6_turns 9 rfl) (by decide) rfl rfl ?_
    refine AW.pcq (pc2 := 15) rfl ?_
    refine A_aload_n (dX6_turns 10 rfl) rfl ?_
    refine A_get (dX6_turns 11 rfl) fwX6_23 MW_0 MF_7 ?_
    refine A_iload_n (dX6_turns 12 rfl) rfl ?_
    refine A_aload_n (dX6_turns 13 rfl) rfl ?_
    refine A_get (dX6_turns 14 rfl) fwX6_23 MW_0 MF_7 ?_
    refine A_bipush (11) (dX6_turns 15 rfl) (by decide +kernel) ?_
    refine A_iload_n (dX6_turns 16 rfl) rfl ?_
    refine A_isub (dX6_turns 17 rfl) ?_
    refine AW.pcq (pc2 := 28) rfl ?_
    refine A_iald (dX6_turns 18 rfl) MW_4 (by rw [n11 (by omega)]; exact vp_in_nI (by omega) (by decide)) ?_
    refine A_iast (dX6_turns 19 rfl) MW_4 (vp_in_nI (by omega) (by decide)) (MS_4 _) ?_
    refine A_aload_n (dX6_turns 20 rfl) rfl ?_
    refine A_get (dX6_turns 21 rfl) fwX6_23 MW_0 MF_7 ?_
    refine A_bipush (11) (dX6_turns 22 rfl) (by decide +kernel) ?_
    refine A_iload_n (dX6_turns 23 rfl) rfl ?_
    refine A_isub (dX6_turns 24 rfl) ?_
    refine A_iload_n (dX6_turns 25 rfl) rfl ?_
    refine AW.pcq (pc2 := 39) rfl ?_
    refine A_iast (dX6_turns 26 rfl) MW_4 (by rw [n11 (by omega)]; exact vp_in_nI (by omega) (by decide)) (MS_4 _) ?_
    refine A_iinc (ls2 := [_, _, _]) (nI (c + 1)) (dX6_turns 27 rfl) rfl (nI_1 c) (by decide) rfl rfl ?_
    refine A_goto 2 (dX6_turns 28 rfl) (by decide) ?_
    rw [n11 (by omega), nI_clamp (n := c) (by omega), nI_clamp (n := 11 - c) (by omega)]
    refine AW.world (ws2 := MW E q g tw (va_up a 4 (rvc (c + 1) (a 4)))) ?_ (ih (c + 1) (by omega) _)
    refine congrArg (MW E q g tw) ?_
    funext i
    by_cases e4 : i = 4
    · subst e4
      simp only [va_up, if_true]
      exact rvc_s hlt _
    · simp [va_up, e4]

set_option maxRecDepth 100000 in
set_option maxHeartbeats 400000 in
theorem m_turns0 (E : ag) (q : Nat → Nat) (g : Nat → Int32) (tw : Int64) (a : Nat → Nat → Int32) : AW E mX6_turns 1 0 0 2 [some (.ref (q 0)), some (.int 0), none] [] (MW E q g tw a) (rv (fun w => w = MW E q g tw (turnA a))) := by
  refine A_iload_n (dX6_turns 2 rfl) rfl ?_
  refine A_bipush (6) (dX6_turns 3 rfl) (by decide +kernel) ?_
  refine A_icmp_ge 46 (dX6_turns 4 rfl) (by decide) (fun h5 => absurd h5 (by decide)) (fun h5 => ?_)
  refine A_aload_n (dX6_turns 5 rfl) rfl ?_
  refine A_get (dX6_turns 6 rfl) fwX6_23 MW_0 MF_7 ?_
  refine A_iload_n (dX6_turns 7 rfl) rfl ?_
  refine A_iald (dX6_turns 8 rfl) MW_4 (by unfold vp_in; decide) ?_
  refine A_istore_n (ls2 := [_, _, _]) (dX6_turns 9 rfl) (by decide) rfl rfl ?_
  refine AW.pcq (pc2 := 15) rfl ?_
  refine A_aload_n (dX6_turns 10 rfl) rfl ?_
  refine A_get (dX6_turns 11 rfl) fwX6_23 MW_0 MF_7 ?_
  refine A_iload_n (dX6_turns 12 rfl) rfl ?_
  refine A_aload_n (dX6_turns 13 rfl) rfl ?_
  refine A_get (dX6_turns 14 rfl) fwX6_23 MW_0 MF_7 ?_
  refine A_bipush (11) (dX6_turns 15 rfl) (by decide +kernel) ?_
  refine A_iload_n (dX6_turns 16 rfl) rfl ?_
  refine A_isub (dX6_turns 17 rfl) ?_
  refine AW.pcq (pc2 := 28) rfl ?_
  refine A_iald (dX6_turns 18 rfl) MW_4 (by unfold vp_in; decide) ?_
  refine A_iast (dX6_turns 19 rfl) MW_4 (by unfold vp_in; decide) (MS_4 _) ?_
  refine A_aload_n (dX6_turns 20 rfl) rfl ?_
  refine A_get (dX6_turns 21 rfl) fwX6_23 MW_0 MF_7 ?_
  refine A_bipush (11) (dX6_turns 22 rfl) (by decide +kernel) ?_
  refine A_iload_n (dX6_turns 23 rfl) rfl ?_
  refine A_isub (dX6_turns 24 rfl) ?_
  refine A_iload_n (dX6_turns 25 rfl) rfl ?_
  refine AW.pcq (pc2 := 39) rfl ?_
  refine A_iast (dX6_turns 26 rfl) MW_4 (by unfold vp_in; decide) (MS_4 _) ?_
  refine A_iinc (ls2 := [_, _, _]) (nI 1) (dX6_turns 27 rfl) rfl (by decide) (by decide) rfl rfl ?_
  refine A_goto 2 (dX6_turns 28 rfl) (by decide) ?_
  refine AW.world (ws2 := MW E q g tw (va_up a 4 (rvc 1 (a 4)))) ?_ (m_turns1 E q g tw a 5 1 rfl _)
  refine congrArg (MW E q g tw) ?_
  funext i
  by_cases e4 : i = 4
  · subst e4
    have h9 := rvc_s (c := 0) (by decide) (a 4)
    rw [rvc_0] at h9
    simp only [va_up, if_true]
    exact h9
  · simp [va_up, e4]
set_option maxRecDepth 100000 in
set_option maxHeartbeats 400000 in
theorem m_turns (E : ag) (q : Nat → Nat) (g : Nat → Int32) (tw : Int64) (a : Nat → Nat → Int32) : CT E yX6_turns cX6_turns 3 mX6_turns.2.2.2.1 1 0 0 [.ref (q 0)] (MW E q g tw a) (rv (fun w => w = MW E q g tw (turnA a))) := by
  refine CT.of (M := mX6_turns) (ls := [some (.ref (q 0)), none, none]) (by decide) rfl (by decide) rfl (Nat.le_of_ble_eq_true rfl) ?_
  refine A_iconst (0) (dX6_turns 0 rfl) (by decide +kernel) ?_
  refine A_istore_n (ls2 := [_, _, _]) (dX6_turns 1 rfl) (by decide) rfl rfl ?_
  exact m_turns0 E q g tw a
end
section
theorem nIne : ∀ m, m ≤ 5 → ¬ nI m = -1 := by decide +kernel
theorem c67 {t : Int32} (h : ¬ inI t 0 6 = 0) : ¬ inI t 0 7 = 0 := fun z => by
  have h1 := inI_no z
  obtain ⟨h2, h3⟩ := inI_yes h
  have e6 : (6 : Int32).toInt = 6 := by decide
  have e7 : (7 : Int32).toInt = 7 := by decide
  exact h1 ⟨Int32.le_iff_toInt_le.mpr h2, Int32.le_iff_toInt_le.mpr (by omega)⟩
set_option maxRecDepth 100000 in
set_option maxHeartbeats 400000 in
theorem m_turnL (E : ag) (q : Nat → Nat) (g : Nat → Int32) (tw : Int64) (a : Nat → Nat → Int32) : ∀ (n c : Nat), c + n = 12 → AW E mX6_turn 2 0 0 8 [some (.ref (q 0)), some (.int (sm (a 5) c)), some (.int (nI c))] [] (MW E q g tw a) (ri (fun r w => r = sm (a 5) 12 ∧ w = MW E q g tw a)) := by
  intro n
  induction n with
  | zero =>
    intro c hc
    obtain rfl : c = 12 := by omega
    refine A_iload_n (dX6_turn 6 rfl) rfl ?_
    refine A_bipush (12) (dX6_turn 7 rfl) (by decide +kernel) ?_
    refine A_icmp_ge 29 (dX6_turn 8 rfl) (by decide) (fun h11 => ?_) (fun h11 => absurd (show (12 : Int32) ≤ nI 12 by decide) h11)
    refine A_iload_n (dX6_turn 18 rfl) rfl ?_
    refine A_ri (dX6_turn 19 rfl) rfl rfl ?_
    exact ⟨rfl, rfl⟩
  | succ n ih =>
    intro c hc
    have hlt : c < 12 := by omega
    refine A_iload_n (dX6_turn 6 rfl) rfl ?_
    refine A_bipush (12) (dX6_turn 7 rfl) (by decide +kernel) ?_
    refine A_icmp_ge 29 (dX6_turn 8 rfl) (by decide) (fun h11 => absurd h11 (nI_ge (a := c) (b := 12) hlt (by decide))) (fun h11 => ?_)
    refine A_iload_n (dX6_turn 9 rfl) rfl ?_
    refine A_aload_n (dX6_turn 10 rfl) rfl ?_
    refine A_get (dX6_turn 11 rfl) fwX6_26 MW_0 MF_8 ?_
    refine A_iload_n (dX6_turn 12 rfl) rfl ?_
    refine A_iald (dX6_turn 13 rfl) MW_5 (vp_in_nI hlt (by decide)) ?_
    refine AW.pcq (pc2 := 21) rfl ?_
    refine A_iadd (dX6_turn 14 rfl) ?_
    refine A_istore_n (ls2 := [_, _, _]) (dX6_turn 15 rfl) (by decide) rfl rfl ?_
    refine A_iinc (ls2 := [_, _, _]) (nI (c + 1)) (dX6_turn 16 rfl) rfl (nI_1 c) (by decide) rfl rfl ?_
    refine A_goto 8 (dX6_turn 17 rfl) (by decide) ?_
    rw [nI_clamp (by omega)]
    exact ih (c + 1) (by omega)

set_option maxRecDepth 100000 in
set_option maxHeartbeats 400000 in
theorem m_turn (E : ag) (q : Nat → Nat) (g : Nat → Int32) (tw : Int64) (a : Nat → Nat → Int32) : CT E yX6_turn cX6_turn 3 mX6_turn.2.2.2.1 2 0 0 [.ref (q 0)] (MW E q g tw a) (ri (fun r w => r = sm (fun k => dw (a 5 k)) 12 ∧ w = MW E q g tw (turnA a))) := by
  refine CT.of (M := mX6_turn) (ls := [some (.ref (q 0)), none, none]) (by decide) rfl (by decide) rfl (Nat.le_of_ble_eq_true rfl) ?_
  refine A_aload_n (dX6_turn 0 rfl) rfl ?_
  refine A_callVWv 0 (dX6_turn 1 rfl) cbX6_turns cwX6_365 (m_turns E q g tw a) rfl rfl MW_0 rfl rfl (Nat.le_of_ble_eq_true rfl) (Nat.le_of_ble_eq_true rfl) (Nat.le_of_ble_eq_true rfl) (Nat.le_of_ble_eq_true rfl) (Nat.le_of_ble_eq_true rfl) ?_
  rintro w1 rfl
  refine AW.pcq (pc2 := 4) rfl ?_
  refine A_iconst (0) (dX6_turn 2 rfl) (by decide +kernel) ?_
  refine A_istore_n (ls2 := [_, _, _]) (dX6_turn 3 rfl) (by decide) rfl rfl ?_
  refine A_iconst (0) (dX6_turn 4 rfl) (by decide +kernel) ?_
  refine A_istore_n (ls2 := [_, _, _]) (dX6_turn 5 rfl) (by decide) rfl rfl ?_
  exact m_turnL E q g tw (turnA a) 12 0 rfl

set_option maxRecDepth 100000 in
set_option maxHeartbeats 400000 in
theorem m_image2 (E : ag) (q : Nat → Nat) (g : Nat → Int32) (tw : Int64) (a : Nat → Nat → Int32) : ∀ (n c : Nat), c + n = 5 → AW E mX6_image 1 0 0 40 [some (.ref (q 0)), some (.int (nI c))] [] (MW E q g tw (va_up (va_up (va_up a 18 (cp c (a 7) (a 18))) 19 (cp c (a 8) (a 19))) 20 (cp c (a 9) (a 20)))) (ri (fun r w => r = g 15 ∧ w = MW E q (upd (upd (upd (upd (upd g 55 (g 13)) 56 (g 14)) 57 (g 15)) 58 (g 16)) 59 (g 4)) tw (va_up (va_up (va_up a 18 (a 7)) 19 (a 8)) 20 (a 9)))) := by
  intro n
  induction n with
  | zero =>
    intro c hc
    obtain rfl : c = 5 := by omega
    refine A_iload_n (dX6_image 25 rfl) rfl ?_
    refine A_iconst (5) (dX6_image 26 rfl) (by decide +kernel) ?_
    refine A_icmp_ge 87 (dX6_image 27 rfl) (by decide) (fun h42 => ?_) (fun h42 => absurd (show (5 : Int32) ≤ nI 5 by decide) h42)
    refine AW.ext (MW_q (a2 := (va_up (va_up (va_up a 18 (a 7)) 19 (a 8)) 20 (a 9))) (up_q (up_q (up_q (fun _ _ _ => rfl) (fun k hk => cp_in (n := 5) hk)) (fun k hk => cp_in (n := 5) hk)) (fun k hk => cp_in (n := 5) hk))) ?_
    refine A_aload_n (dX6_image 54 rfl) rfl ?_
    refine A_aload_n (dX6_image 55 rfl) rfl ?_
    refine A_get (dX6_image 56 rfl) fwX6_100 MW_0 MF_13 ?_
    refine A_put (dX6_image 57 rfl) fwX6_77 fcX6 ftX6_55 MW_0 rfl rfl ML_0 (MP_55 _) ?_
    refine A_aload_n (dX6_image 58 rfl) rfl ?_
    refine A_aload_n (dX6_image 59 rfl) rfl ?_
    refine A_get (dX6_image 60 rfl) fwX6_41 MW_0 MF_14 ?_
    refine A_put (dX6_image 61 rfl) fwX6_378 fcX6 ftX6_56 MW_0 rfl rfl ML_0 (MP_56 _) ?_
    refine AW.pcq (pc2 := 103) rfl ?_
    refine A_aload_n (dX6_image 62 rfl) rfl ?_
    refine A_aload_n (dX6_image 63 rfl) rfl ?_
    refine A_get (dX6_image 64 rfl) fwX6_142 MW_0 MF_15 ?_
    refine A_put (dX6_image 65 rfl) fwX6_381 fcX6 ftX6_57 MW_0 rfl rfl ML_0 (MP_57 _) ?_
    refine A_aload_n (dX6_image 66 rfl) rfl ?_
    refine A_aload_n (dX6_image 67 rfl) rfl ?_
    refine A_get (dX6_image 68 rfl) fwX6_305 MW_0 MF_16 ?_
    refine A_put (dX6_image 69 rfl) fwX6_384 fcX6 ftX6_58 MW_0 rfl rfl ML_0 (MP_58 _) ?_
    refine AW.pcq (pc2 := 119) rfl ?_
    refine A_aload_n (dX6_image 70 rfl) rfl ?_
    refine A_aload_n (dX6_image 71 rfl) rfl ?_
    refine A_get (dX6_image 72 rfl) fwX6_288 MW_0 MF_4 ?_
    refine A_put (dX6_image 73 rfl) fwX6_387 fcX6 ftX6_59 MW_0 rfl rfl ML_0 (MP_59 _) ?_
    refine A_aload_n (dX6_image 74 rfl) rfl ?_
    refine A_get (dX6_image 75 rfl) fwX6_142 MW_0 MF_15 ?_
    refine A_ri (dX6_image 76 rfl) rfl rfl ?_
    exact ⟨rfl, rfl⟩
  | succ n ih =>
    intro c hc
    have hlt : c < 5 := by omega
    refine A_iload_n (dX6_image 25 rfl) rfl ?_
    refine A_iconst (5) (dX6_image 26 rfl) (by decide +kernel) ?_
    refine A_icmp_ge 87 (dX6_image 27 rfl) (by decide) (fun h42 => absurd h42 (nI_ge (a := c) (b := 5) hlt (by decide))) (fun h42 => ?_)
    refine A_aload_n (dX6_image 28 rfl) rfl ?_
    refine A_get (dX6_image 29 rfl) fwX6_68 MW_0 MF_52 ?_
    refine A_iload_n (dX6_image 30 rfl) rfl ?_
    refine A_aload_n (dX6_image 31 rfl) rfl ?_
    refine A_get (dX6_image 32 rfl) fwX6_32 MW_0 MF_10 ?_
    refine AW.pcq (pc2 := 54) rfl ?_
    refine A_iload_n (dX6_image 33 rfl) rfl ?_
    refine A_iald (dX6_image 34 rfl) MW_7 (vp_in_nI hlt (by decide)) ?_
    refine A_iast (dX6_image 35 rfl) MW_18 (vp_in_nI hlt (by decide)) (MS_18 _) ?_
    refine A_aload_n (dX6_image 36 rfl) rfl ?_
    refine A_get (dX6_image 37 rfl) fwX6_71 MW_0 MF_53 ?_
    refine A_iload_n (dX6_image 38 rfl) rfl ?_
    refine A_aload_n (dX6_image 39 rfl) rfl ?_
    refine A_get (dX6_image 40 rfl) fwX6_35 MW_0 MF_11 ?_
    refine AW.pcq (pc2 := 66) rfl ?_
    refine A_iload_n (dX6_image 41 rfl) rfl ?_
    refine A_iald (dX6_image 42 rfl) MW_8 (vp_in_nI hlt (by decide)) ?_
    refine A_iast (dX6_image 43 rfl) MW_19 (vp_in_nI hlt (by decide)) (MS_19 _) ?_
    refine A_aload_n (dX6_image 44 rfl) rfl ?_
    refine A_get (dX6_image 45 rfl) fwX6_74 MW_0 MF_54 ?_
    refine A_iload_n (dX6_image 46 rfl) rfl ?_
    refine A_aload_n (dX6_image 47 rfl) rfl ?_
    refine A_get (dX6_image 48 rfl) fwX6_38 MW_0 MF_12 ?_
    refine AW.pcq (pc2 := 78) rfl ?_
    refine A_iload_n (dX6_image 49 rfl) rfl ?_
    refine A_iald (dX6_image 50 rfl) MW_9 (vp_in_nI hlt (by decide)) ?_
    refine A_iast (dX6_image 51 rfl) MW_20 (vp_in_nI hlt (by decide)) (MS_20 _) ?_
    refine A_iinc (ls2 := [_, _]) (nI (c + 1)) (dX6_image 52 rfl) rfl (nI_1 c) (by decide) rfl rfl ?_
    refine A_goto 40 (dX6_image 53 rfl) (by decide) ?_
    rw [nI_clamp (by omega)]
    refine AW.world (ws2 := MW E q g tw (va_up (va_up (va_up a 18 (cp (c + 1) (a 7) (a 18))) 19 (cp (c + 1) (a 8) (a 19))) 20 (cp (c + 1) (a 9) (a 20)))) ?_ (ih (c + 1) (by omega))
    refine congrArg (MW E q g tw) ?_
    funext i
    by_cases e18 : i = 18 <;> by_cases e19 : i = 19 <;> by_cases e20 : i = 20 <;> simp_all [va_up, cp_s]

set_option maxRecDepth 100000 in
set_option maxHeartbeats 400000 in
theorem m_image1 (E : ag) (q : Nat → Nat) (g : Nat → Int32) (tw : Int64) (a : Nat → Nat → Int32) : ∀ (n c : Nat), c + n = 12 → AW E mX6_image 1 0 0 2 [some (.ref (q 0)), some (.int (nI c))] [] (MW E q g tw (va_up (va_up a 16 (cp c (a 4) (a 16))) 17 (cp c (a 5) (a 17)))) (ri (fun r w => r = g 15 ∧ w = MW E q (upd (upd (upd (upd (upd g 55 (g 13)) 56 (g 14)) 57 (g 15)) 58 (g 16)) 59 (g 4)) tw (va_up (va_up (va_up (va_up (va_up a 16 (a 4)) 17 (a 5)) 18 (a 7)) 19 (a 8)) 20 (a 9)))) := by
  intro n
  induction n with
  | zero =>
    intro c hc
    obtain rfl : c = 12 := by omega
    refine A_iload_n (dX6_image 2 rfl) rfl ?_
    refine A_bipush (12) (dX6_image 3 rfl) (by decide +kernel) ?_
    refine A_icmp_ge 38 (dX6_image 4 rfl) (by decide) (fun h5 => ?_) (fun h5 => absurd (show (12 : Int32) ≤ nI 12 by decide) h5)
    refine AW.ext (MW_q (a2 := (va_up (va_up a 16 (a 4)) 17 (a 5))) (up_q (up_q (fun _ _ _ => rfl) (fun k hk => cp_in (n := 12) hk)) (fun k hk => cp_in (n := 12) hk))) ?_
    refine A_iconst (0) (dX6_image 23 rfl) (by decide +kernel) ?_
    refine A_istore_n (ls2 := [_, _]) (dX6_image 24 rfl) (by decide) rfl rfl ?_
    have h9 := m_image2 E q g tw (va_up (va_up a 16 (a 4)) 17 (a 5)) 5 0 rfl
    simp only [cp_0, up_same] at h9
    exact h9
  | succ n ih =>
    intro c hc
    have hlt : c < 12 := by omega
    refine A_iload_n (dX6_image 2 rfl) rfl ?_
    refine A_bipush (12) (dX6_image 3 rfl) (by decide +kernel) ?_
    refine A_icmp_ge 38 (dX6_image 4 rfl) (by decide) (fun h5 => absurd h5 (nI_ge (a := c) (b := 12) hlt (by decide))) (fun h5 => ?_)
    refine A_aload_n (dX6_image 5 rfl) rfl ?_
    refine A_get (dX6_image 6 rfl) fwX6_62 MW_0 MF_50 ?_
    refine A_iload_n (dX6_image 7 rfl) rfl ?_
    refine A_aload_n (dX6_image 8 rfl) rfl ?_
    refine A_get (dX6_image 9 rfl) fwX6_23 MW_0 MF_7 ?_
    refine AW.pcq (pc2 := 17) rfl ?_
    refine A_iload_n (dX6_image 10 rfl) rfl ?_
    refine A_iald (dX6_image 11 rfl) MW_4 (vp_in_nI hlt (by decide)) ?_
    refine A_iast (dX6_image 12 rfl) MW_16 (vp_in_nI hlt (by decide)) (MS_16 _) ?_
    refine A_aload_n (dX6_image 13 rfl) rfl ?_
    refine A_get (dX6_image 14 rfl) fwX6_65 MW_0 MF_51 ?_
    refine A_iload_n (dX6_image 15 rfl) rfl ?_
    refine A_aload_n (dX6_image 16 rfl) rfl ?_
    refine A_get (dX6_image 17 rfl) fwX6_26 MW_0 MF_8 ?_
    refine AW.pcq (pc2 := 29) rfl ?_
    refine A_iload_n (dX6_image 18 rfl) rfl ?_
    refine A_iald (dX6_image 19 rfl) MW_5 (vp_in_nI hlt (by decide)) ?_
    refine A_iast (dX6_image 20 rfl) MW_17 (vp_in_nI hlt (by decide)) (MS_17 _) ?_
    refine A_iinc (ls2 := [_, _]) (nI (c + 1)) (dX6_image 21 rfl) rfl (nI_1 c) (by decide) rfl rfl ?_
    refine A_goto 2 (dX6_image 22 rfl) (by decide) ?_
    rw [nI_clamp (by omega)]
    refine AW.world (ws2 := MW E q g tw (va_up (va_up a 16 (cp (c + 1) (a 4) (a 16))) 17 (cp (c + 1) (a 5) (a 17)))) ?_ (ih (c + 1) (by omega))
    refine congrArg (MW E q g tw) ?_
    funext i
    by_cases e16 : i = 16 <;> by_cases e17 : i = 17 <;> simp_all [va_up, cp_s]

set_option maxRecDepth 100000 in
set_option maxHeartbeats 400000 in
theorem m_image (E : ag) (q : Nat → Nat) (g : Nat → Int32) (tw : Int64) (a : Nat → Nat → Int32) : CT E yX6_image cX6_image 2 mX6_image.2.2.2.1 1 0 0 [.ref (q 0)] (MW E q g tw a) (ri (fun r w => r = g 15 ∧ w = MW E q (upd (upd (upd (upd (upd g 55 (g 13)) 56 (g 14)) 57 (g 15)) 58 (g 16)) 59 (g 4)) tw (va_up (va_up (va_up (va_up (va_up a 16 (a 4)) 17 (a 5)) 18 (a 7)) 19 (a 8)) 20 (a 9)))) := by
  refine CT.of (M := mX6_image) (ls := [some (.ref (q 0)), none]) (by decide) rfl (by decide) rfl (Nat.le_of_ble_eq_true rfl) ?_
  refine A_iconst (0) (dX6_image 0 rfl) (by decide +kernel) ?_
  refine A_istore_n (ls2 := [_, _]) (dX6_image 1 rfl) (by decide) rfl rfl ?_
  have h9 := m_image1 E q g tw a 12 0 rfl
  simp only [cp_0, up_same] at h9
  exact h9

set_option maxRecDepth 100000 in
set_option maxHeartbeats 400000 in
theorem m_back2 (E : ag) (q : Nat → Nat) (g : Nat → Int32) (tw : Int64) (a : Nat → Nat → Int32) (m : Nat) (hm5 : m ≤ 5) (hgm : g 55 = nI m) : ∀ (n c : Nat), c + n = m → AW E mX6_back 1 0 0 51 [some (.ref (q 0)), some (.int (nI c))] [] (MW E q g tw (va_up (va_up (va_up a 7 (cp c (a 18) (a 7))) 8 (cp c (a 19) (a 8))) 9 (cp c (a 20) (a 9)))) (ri (fun r w => r = g 57 ∧ w = MW E q (upd (upd (upd (upd (upd g 13 (g 55)) 14 (g 56)) 15 (g 57)) 16 (g 58)) 4 (g 59)) tw (va_up (va_up (va_up a 7 (cp m (a 18) (a 7))) 8 (cp m (a 19) (a 8))) 9 (cp m (a 20) (a 9))))) := by
  intro n
  induction n with
  | zero =>
    intro c hc
    obtain rfl : m = c := by omega
    refine A_iload_n (dX6_back 31 rfl) rfl ?_
    refine A_aload_n (dX6_back 32 rfl) rfl ?_
    refine A_get (dX6_back 33 rfl) fwX6_77 MW_0 MF_55 ?_
    refine A_icmp_ge 101 (dX6_back 34 rfl) (by decide) (fun h56 => ?_) (fun h56 => absurd (show g 55 ≤ nI m by rw [hgm]; exact nI_le (by omega) (by omega)) h56)
    refine A_aload_n (dX6_back 61 rfl) rfl ?_
    refine A_aload_n (dX6_back 62 rfl) rfl ?_
    refine A_get (dX6_back 63 rfl) fwX6_77 MW_0 MF_55 ?_
    refine A_put (dX6_back 64 rfl) fwX6_100 fcX6 ftX6_13 MW_0 rfl rfl ML_0 (MP_13 _) ?_
    refine A_aload_n (dX6_back 65 rfl) rfl ?_
    refine A_aload_n (dX6_back 66 rfl) rfl ?_
    refine A_get (dX6_back 67 rfl) fwX6_378 MW_0 MF_56 ?_
    refine A_put (dX6_back 68 rfl) fwX6_41 fcX6 ftX6_14 MW_0 rfl rfl ML_0 (MP_14 _) ?_
    refine AW.pcq (pc2 := 117) rfl ?_
    refine A_aload_n (dX6_back 69 rfl) rfl ?_
    refine A_aload_n (dX6_back 70 rfl) rfl ?_
    refine A_get (dX6_back 71 rfl) fwX6_381 MW_0 MF_57 ?_
    refine A_put (dX6_back 72 rfl) fwX6_142 fcX6 ftX6_15 MW_0 rfl rfl ML_0 (MP_15 _) ?_
    refine A_aload_n (dX6_back 73 rfl) rfl ?_
    refine A_aload_n (dX6_back 74 rfl) rfl ?_
    refine A_get (dX6_back 75 rfl) fwX6_384 MW_0 MF_58 ?_
    refine A_put (dX6_back 76 rfl) fwX6_305 fcX6 ftX6_16 MW_0 rfl rfl ML_0 (MP_16 _) ?_
    refine AW.pcq (pc2 := 133) rfl ?_
    refine A_aload_n (dX6_back 77 rfl) rfl ?_
    refine A_aload_n (dX6_back 78 rfl) rfl ?_
    refine A_get (dX6_back 79 rfl) fwX6_387 MW_0 MF_59 ?_
    refine A_put (dX6_back 80 rfl) fwX6_288 fcX6 ftX6_4 MW_0 rfl rfl ML_0 (MP_4 _) ?_
    refine A_aload_n (dX6_back 81 rfl) rfl ?_
    refine A_get (dX6_back 82 rfl) fwX6_142 MW_0 MF_15 ?_
    refine A_ri (dX6_back 83 rfl) rfl rfl ?_
    exact ⟨rfl, rfl⟩
  | succ n ih =>
    intro c hc
    have hlt : c < m := by omega
    refine A_iload_n (dX6_back 31 rfl) rfl ?_
    refine A_aload_n (dX6_back 32 rfl) rfl ?_
    refine A_get (dX6_back 33 rfl) fwX6_77 MW_0 MF_55 ?_
    refine A_icmp_ge 101 (dX6_back 34 rfl) (by decide) (fun h56 => absurd h56 (by rw [hgm]; exact nI_ge (by omega) (by omega))) (fun h56 => ?_)
    refine A_aload_n (dX6_back 35 rfl) rfl ?_
    refine A_get (dX6_back 36 rfl) fwX6_32 MW_0 MF_10 ?_
    refine A_iload_n (dX6_back 37 rfl) rfl ?_
    refine A_aload_n (dX6_back 38 rfl) rfl ?_
    refine AW.pcq (pc2 := 65) rfl ?_
    refine A_get (dX6_back 39 rfl) fwX6_68 MW_0 MF_52 ?_
    refine A_iload_n (dX6_back 40 rfl) rfl ?_
    refine A_iald (dX6_back 41 rfl) MW_18 (vp_in_nI (n := c) (by omega) (by decide)) ?_
    refine A_iast (dX6_back 42 rfl) MW_7 (vp_in_nI (n := c) (by omega) (by decide)) (MS_7 _) ?_
    refine A_aload_n (dX6_back 43 rfl) rfl ?_
    refine A_get (dX6_back 44 rfl) fwX6_35 MW_0 MF_11 ?_
    refine A_iload_n (dX6_back 45 rfl) rfl ?_
    refine A_aload_n (dX6_back 46 rfl) rfl ?_
    refine AW.pcq (pc2 := 77) rfl ?_
    refine A_get (dX6_back 47 rfl) fwX6_71 MW_0 MF_53 ?_
    refine A_iload_n (dX6_back 48 rfl) rfl ?_
    refine A_iald (dX6_back 49 rfl) MW_19 (vp_in_nI (n := c) (by omega) (by decide)) ?_
    refine A_iast (dX6_back 50 rfl) MW_8 (vp_in_nI (n := c) (by omega) (by decide)) (MS_8 _) ?_
    refine A_aload_n (dX6_back 51 rfl) rfl ?_
    refine A_get (dX6_back 52 rfl) fwX6_38 MW_0 MF_12 ?_
    refine A_iload_n (dX6_back 53 rfl) rfl ?_
    refine A_aload_n (dX6_back 54 rfl) rfl ?_
    refine AW.pcq (pc2 := 89) rfl ?_
    refine A_get (dX6_back 55 rfl) fwX6_74 MW_0 MF_54 ?_
    refine A_iload_n (dX6_back 56 rfl) rfl ?_
    refine A_iald (dX6_back 57 rfl) MW_20 (vp_in_nI (n := c) (by omega) (by decide)) ?_
    refine A_iast (dX6_back 58 rfl) MW_9 (vp_in_nI (n := c) (by omega) (by decide)) (MS_9 _) ?_
    refine A_iinc (ls2 := [_, _]) (nI (c + 1)) (dX6_back 59 rfl) rfl (nI_1 c) (by decide) rfl rfl ?_
    refine A_goto 51 (dX6_back 60 rfl) (by decide) ?_
    rw [nI_clamp (by omega)]
    refine AW.world (ws2 := MW E q g tw (va_up (va_up (va_up a 7 (cp (c + 1) (a 18) (a 7))) 8 (cp (c + 1) (a 19) (a 8))) 9 (cp (c + 1) (a 20) (a 9)))) ?_ (ih (c + 1) (by omega))
    refine congrArg (MW E q g tw) ?_
    funext i
    by_cases e7 : i = 7 <;> by_cases e8 : i = 8 <;> by_cases e9 : i = 9 <;> simp_all [va_up, cp_s]

set_option maxRecDepth 100000 in
set_option maxHeartbeats 400000 in
theorem m_back1 (E : ag) (q : Nat → Nat) (g : Nat → Int32) (tw : Int64) (a : Nat → Nat → Int32) (m : Nat) (hm5 : m ≤ 5) (hgm : g 55 = nI m) : ∀ (n c : Nat), c + n = 12 → AW E mX6_back 1 0 0 13 [some (.ref (q 0)), some (.int (nI c))] [] (MW E q g tw (va_up (va_up a 4 (cp c (a 16) (a 4))) 5 (cp c (a 17) (a 5)))) (ri (fun r w => r = g 57 ∧ w = MW E q (upd (upd (upd (upd (upd g 13 (g 55)) 14 (g 56)) 15 (g 57)) 16 (g 58)) 4 (g 59)) tw (va_up (va_up (va_up (va_up (va_up a 4 (a 16)) 5 (a 17)) 7 (cp m (a 18) (a 7))) 8 (cp m (a 19) (a 8))) 9 (cp m (a 20) (a 9))))) := by
  intro n
  induction n with
  | zero =>
    intro c hc
    obtain rfl : c = 12 := by omega
    refine A_iload_n (dX6_back 8 rfl) rfl ?_
    refine A_bipush (12) (dX6_back 9 rfl) (by decide +kernel) ?_
    refine A_icmp_ge 49 (dX6_back 10 rfl) (by decide) (fun h16 => ?_) (fun h16 => absurd (show (12 : Int32) ≤ nI 12 by decide) h16)
    refine AW.ext (MW_q (a2 := (va_up (va_up a 4 (a 16)) 5 (a 17))) (up_q (up_q (fun _ _ _ => rfl) (fun k hk => cp_in (n := 12) hk)) (fun k hk => cp_in (n := 12) hk))) ?_
    refine A_iconst (0) (dX6_back 29 rfl) (by decide +kernel) ?_
    refine A_istore_n (ls2 := [_, _]) (dX6_back 30 rfl) (by decide) rfl rfl ?_
    have h9 := m_back2 E q g tw (va_up (va_up a 4 (a 16)) 5 (a 17)) m hm5 hgm m 0 (by omega)
    simp only [cp_0, up_same] at h9
    exact h9
  | succ n ih =>
    intro c hc
    have hlt : c < 12 := by omega
    refine A_iload_n (dX6_back 8 rfl) rfl ?_
    refine A_bipush (12) (dX6_back 9 rfl) (by decide +kernel) ?_
    refine A_icmp_ge 49 (dX6_back 10 rfl) (by decide) (fun h16 => absurd h16 (nI_ge (a := c) (b := 12) hlt (by decide))) (fun h16 => ?_)
    refine A_aload_n (dX6_back 11 rfl) rfl ?_
    refine A_get (dX6_back 12 rfl) fwX6_23 MW_0 MF_7 ?_
    refine A_iload_n (dX6_back 13 rfl) rfl ?_
    refine A_aload_n (dX6_back 14 rfl) rfl ?_
    refine A_get (dX6_back 15 rfl) fwX6_62 MW_0 MF_50 ?_
    refine AW.pcq (pc2 := 28) rfl ?_
    refine A_iload_n (dX6_back 16 rfl) rfl ?_
    refine A_iald (dX6_back 17 rfl) MW_16 (vp_in_nI (n := c) (by omega) (by decide)) ?_
    refine A_iast (dX6_back 18 rfl) MW_4 (vp_in_nI (n := c) (by omega) (by decide)) (MS_4 _) ?_
    refine A_aload_n (dX6_back 19 rfl) rfl ?_
    refine A_get (dX6_back 20 rfl) fwX6_26 MW_0 MF_8 ?_
    refine A_iload_n (dX6_back 21 rfl) rfl ?_
    refine A_aload_n (dX6_back 22 rfl) rfl ?_
    refine A_get (dX6_back 23 rfl) fwX6_65 MW_0 MF_51 ?_
    refine AW.pcq (pc2 := 40) rfl ?_
    refine A_iload_n (dX6_back 24 rfl) rfl ?_
    refine A_iald (dX6_back 25 rfl) MW_17 (vp_in_nI (n := c) (by omega) (by decide)) ?_
    refine A_iast (dX6_back 26 rfl) MW_5 (vp_in_nI (n := c) (by omega) (by decide)) (MS_5 _) ?_
    refine A_iinc (ls2 := [_, _]) (nI (c + 1)) (dX6_back 27 rfl) rfl (nI_1 c) (by decide) rfl rfl ?_
    refine A_goto 13 (dX6_back 28 rfl) (by decide) ?_
    rw [nI_clamp (by omega)]
    refine AW.world (ws2 := MW E q g tw (va_up (va_up a 4 (cp (c + 1) (a 16) (a 4))) 5 (cp (c + 1) (a 17) (a 5)))) ?_ (ih (c + 1) (by omega))
    refine congrArg (MW E q g tw) ?_
    funext i
    by_cases e4 : i = 4 <;> by_cases e5 : i = 5 <;> simp_all [va_up, cp_s]

set_option maxRecDepth 100000 in
set_option maxHeartbeats 400000 in
theorem m_back (E : ag) (q : Nat → Nat) (g : Nat → Int32) (tw : Int64) (a : Nat → Nat → Int32) (m : Nat) (hm5 : m ≤ 5) (hgm : g 55 = nI m) : CT E yX6_back cX6_back 2 mX6_back.2.2.2.1 1 0 0 [.ref (q 0)] (MW E q g tw a) (ri (fun r w => r = g 57 ∧ w = MW E q (upd (upd (upd (upd (upd g 13 (g 55)) 14 (g 56)) 15 (g 57)) 16 (g 58)) 4 (g 59)) tw (va_up (va_up (va_up (va_up (va_up a 4 (a 16)) 5 (a 17)) 7 (cp m (a 18) (a 7))) 8 (cp m (a 19) (a 8))) 9 (cp m (a 20) (a 9))))) := by
  refine CT.of (M := mX6_back) (ls := [some (.ref (q 0)), none]) (by decide) rfl (by decide) rfl (Nat.le_of_ble_eq_true rfl) ?_
  refine A_aload_n (dX6_back 0 rfl) rfl ?_
  refine A_get (dX6_back 1 rfl) fwX6_77 MW_0 MF_55 ?_
  refine A_iconst (-1) (dX6_back 2 rfl) (by decide +kernel) ?_
  refine A_icmp_ne 11 (dX6_back 3 rfl) (by decide) (fun h5 => ?_) (fun h5 => absurd h5 (hgm ▸ nIne m hm5))
  refine A_iconst (0) (dX6_back 6 rfl) (by decide +kernel) ?_
  refine A_istore_n (ls2 := [_, _]) (dX6_back 7 rfl) (by decide) rfl rfl ?_
  have h9 := m_back1 E q g tw a m hm5 hgm 12 0 rfl
  simp only [cp_0, up_same] at h9
  exact h9

set_option maxRecDepth 100000 in
set_option maxHeartbeats 400000 in
theorem m_backN (E : ag) (q : Nat → Nat) (g : Nat → Int32) (tw : Int64) (a : Nat → Nat → Int32) (hgm : g 55 = -1) : CT E yX6_back cX6_back 2 mX6_back.2.2.2.1 1 0 0 [.ref (q 0)] (MW E q g tw a) (ri (fun r w => r = -3 ∧ w = MW E q g tw a)) := by
  refine CT.of (M := mX6_back) (ls := [some (.ref (q 0)), none]) (by decide) rfl (by decide) rfl (Nat.le_of_ble_eq_true rfl) ?_
  refine A_aload_n (dX6_back 0 rfl) rfl ?_
  refine A_get (dX6_back 1 rfl) fwX6_77 MW_0 MF_55 ?_
  refine A_iconst (-1) (dX6_back 2 rfl) (by decide +kernel) ?_
  refine A_icmp_ne 11 (dX6_back 3 rfl) (by decide) (fun h5 => absurd hgm h5) (fun h5 => ?_)
  refine A_bipush (-3) (dX6_back 4 rfl) (by decide +kernel) ?_
  refine A_ri (dX6_back 5 rfl) rfl rfl ?_
  exact ⟨rfl, rfl⟩

def rmf (b : Int32) (f : Nat → Int32) : Nat → Int32 := fun k => f k - f k / b * b
set_option maxRecDepth 100000 in
set_option maxHeartbeats 400000 in
theorem m_barsL (E : ag) (q : Nat → Nat) (g : Nat → Int32) (tw : Int64) (a : Nat → Nat → Int32) (m : Nat) (hm5 : m ≤ 5) (hgm : g 13 = nI m) (hb : ¬ g 14 = 0) (v : Int32) : ∀ (n c : Nat), c + n = m → AW E mX6_bars 1 0 0 7 [some (.ref (q 0)), some (.int v), some (.int (nI c))] [] (MW E q g tw (va_up a 7 (cp c (rmf (g 14) (a 7)) (a 7)))) (rv (fun w => w = MW E q g tw (va_up a 7 (cp m (rmf (g 14) (a 7)) (a 7))))) := by
  intro n
  induction n with
  | zero =>
    intro c hc
    obtain rfl : m = c := by omega
    refine A_iload_n (dX6_bars 5 rfl) rfl ?_
    refine A_aload_n (dX6_bars 6 rfl) rfl ?_
    refine A_get (dX6_bars 7 rfl) fwX6_100 MW_0 MF_13 ?_
    refine A_icmp_ge 34 (dX6_bars 8 rfl) (by decide) (fun h12 => ?_) (fun h12 => absurd (show g 13 ≤ nI m by rw [hgm]; exact nI_le (by omega) (by omega)) h12)
    refine A_rv (dX6_bars 20 rfl) rfl ?_
    exact rfl
  | succ n ih =>
    intro c hc
    have hlt : c < m := by omega
    refine A_iload_n (dX6_bars 5 rfl) rfl ?_
    refine A_aload_n (dX6_bars 6 rfl) rfl ?_
    refine A_get (dX6_bars 7 rfl) fwX6_100 MW_0 MF_13 ?_
    refine A_icmp_ge 34 (dX6_bars 8 rfl) (by decide) (fun h12 => absurd h12 (by rw [hgm]; exact nI_ge (by omega) (by omega))) (fun h12 => ?_)
    refine A_aload_n (dX6_bars 9 rfl) rfl ?_
    refine A_get (dX6_bars 10 rfl) fwX6_32 MW_0 MF_10 ?_
    refine A_iload_n (dX6_bars 11 rfl) rfl ?_
    refine A_dup2 (dX6_bars 12 rfl) rfl rfl ?_
    refine AW.pcq (pc2 := 21) rfl ?_
    refine A_iald (dX6_bars 13 rfl) MW_7 (vp_in_nI (n := c) (by omega) (by decide)) ?_
    refine A_aload_n (dX6_bars 14 rfl) rfl ?_
    refine A_get (dX6_bars 15 rfl) fwX6_41 MW_0 MF_14 ?_
    refine A_irem (dX6_bars 16 rfl) hb ?_
    refine A_iast (dX6_bars 17 rfl) MW_7 (vp_in_nI (n := c) (by omega) (by decide)) (MS_7 _) ?_
    refine A_iinc (ls2 := [_, _, _]) (nI (c + 1)) (dX6_bars 18 rfl) rfl (nI_1 c) (by decide) rfl rfl ?_
    refine A_goto 7 (dX6_bars 19 rfl) (by decide) ?_
    rw [nI_clamp (by omega)]
    refine AW.world (ws2 := MW E q g tw (va_up a 7 (cp (c + 1) (rmf (g 14) (a 7)) (a 7)))) ?_ (ih (c + 1) (by omega))
    refine congrArg (MW E q g tw) ?_
    funext i
    by_cases e7 : i = 7
    · subst e7
      simp only [va_up, if_true]
      exact cp_s2 c _ _ (by simp only [cp_out, rmf])
    · simp [va_up, e7]

set_option maxRecDepth 100000 in
set_option maxHeartbeats 400000 in
theorem m_bars (E : ag) (q : Nat → Nat) (g : Nat → Int32) (tw : Int64) (a : Nat → Nat → Int32) (v : Int32) (m : Nat) (hm5 : m ≤ 5) (hgm : g 13 = nI m) (hv : ¬ v = 0) : CT E yX6_bars cX6_bars 3 mX6_bars.2.2.2.1 1 0 0 [.ref (q 0), .int v] (MW E q g tw a) (rv (fun w => w = MW E q (upd g 14 v) tw (va_up a 7 (cp m (rmf v (a 7)) (a 7))))) := by
  refine CT.of (M := mX6_bars) (ls := [some (.ref (q 0)), some (.int v), none]) (by decide) rfl (by decide) rfl (Nat.le_of_ble_eq_true rfl) ?_
  refine A_aload_n (dX6_bars 0 rfl) rfl ?_
  refine A_iload_n (dX6_bars 1 rfl) rfl ?_
  refine A_put (dX6_bars 2 rfl) fwX6_41 fcX6 ftX6_14 MW_0 rfl rfl ML_0 (MP_14 _) ?_
  refine A_iconst (0) (dX6_bars 3 rfl) (by decide +kernel) ?_
  refine A_istore_n (ls2 := [_, _, _]) (dX6_bars 4 rfl) (by decide) rfl rfl ?_
  have h9 := m_barsL E q (upd g 14 v) tw a m hm5 hgm hv v m 0 (by omega)
  simp only [cp_0, up_same] at h9
  exact h9

def bad3 (k b w : Int32) : Prop := inI k 0 5 = 0 ∨ inI b 0 239 = 0 ∨ inI w 0 99 = 0
def manA (g : Nat → Int32) (a : Nat → Nat → Int32) (k b w : Int32) : Nat → Nat → Int32 := va_up (va_up (va_up (va_up a 6 (upd (a 6) (g 13).toNatClampNeg k)) 7 (upd (a 7) (g 13).toNatClampNeg (b - b / g 14 * g 14))) 8 (upd (a 8) (g 13).toNatClampNeg (w / 10))) 9 (upd (a 9) (g 13).toNatClampNeg (w - w / 10 * 10))
def m_manP (E : ag) (q : Nat → Nat) (g : Nat → Int32) (tw : Int64) (a : Nat → Nat → Int32) (k b w : Int32) (r : Int32) (ws : va_W) : Prop :=
  (bad3 k b w ∧ r = -2 ∧ ws = MW E q g tw a) ∨ (¬ bad3 k b w ∧ g 13 = 5 ∧ r = -4 ∧ ws = MW E q g tw a) ∨ (¬ bad3 k b w ∧ ¬ g 13 = 5 ∧ r = g 13 ∧ ws = MW E q (upd g 13 (g 13 + 1)) tw (manA g a k b w))
theorem men_ix {g13 : Int32} {m : Nat} (hm5 : m ≤ 5) (hgm : g13 = nI m) (h : ¬ g13 = 5) : vp_in g13 5 := by
  subst hgm
  have : m ≠ 5 := fun z => h (by subst z; rfl)
  exact vp_in_nI (by omega) (by decide)
theorem add1_sub1 (x : Int32) : x + 1 - 1 = x := by rw [← Int32.toBitVec_inj]; simp
set_option maxRecDepth 100000 in
set_option maxHeartbeats 400000 in
theorem m_man (E : ag) (q : Nat → Nat) (g : Nat → Int32) (tw : Int64) (a : Nat → Nat → Int32) (k b w : Int32) (m : Nat) (hm5 : m ≤ 5) (hgm : g 13 = nI m) (hb : ¬ g 14 = 0) : CT E yX6_man cX6_man 4 mX6_man.2.2.2.1 2 0 0 [.ref (q 0), .int k, .int b, .int w] (MW E q g tw a) (ri (fun r ws => m_manP E q g tw a k b w r ws)) := by
  refine CT.of (M := mX6_man) (ls := [some (.ref (q 0)), some (.int k), some (.int b), some (.int w)]) (by decide) rfl (by decide) rfl (Nat.le_of_ble_eq_true rfl) ?_
  refine A_iload_n (dX6_man 0 rfl) rfl ?_
  refine A_i2l (dX6_man 1 rfl) ?_
  refine A_lconst (0) (dX6_man 2 rfl) (by decide +kernel) ?_
  refine A_ldc2 (dX6_man 3 rfl) kcX6_109 ?_
  refine A_callSWi 3 (dX6_man 4 rfl) cbX6_in cwX6_103 (m_in E _ k 0 5 _ _ _ rfl (by decide) (by decide)) rfl rfl (Nat.le_of_ble_eq_true rfl) (Nat.le_of_ble_eq_true rfl) (Nat.le_of_ble_eq_true rfl) (Nat.le_of_ble_eq_true rfl) (Nat.le_of_ble_eq_true rfl) ?_
  rintro r6 w1 ⟨rfl, rfl⟩
  refine AW.pcq (pc2 := 9) rfl ?_
  refine A_if_eq 36 (dX6_man 5 rfl) (by decide) (fun h9 => ?_) (fun h9 => ?_)
  · refine A_bipush (-2) (dX6_man 18 rfl) (by decide +kernel) ?_
    refine A_ri (dX6_man 19 rfl) rfl rfl ?_
    exact Or.inl ⟨by unfold bad3; simp_all, rfl, rfl⟩
  · refine A_iload_n (dX6_man 6 rfl) rfl ?_
    refine A_i2l (dX6_man 7 rfl) ?_
    refine A_lconst (0) (dX6_man 8 rfl) (by decide +kernel) ?_
    refine A_ldc2 (dX6_man 9 rfl) kcX6_111 ?_
    refine A_callSWi 3 (dX6_man 10 rfl) cbX6_in cwX6_103 (m_in E _ b 0 239 _ _ _ rfl (by decide) (by decide)) rfl rfl (Nat.le_of_ble_eq_true rfl) (Nat.le_of_ble_eq_true rfl) (Nat.le_of_ble_eq_true rfl) (Nat.le_of_ble_eq_true rfl) (Nat.le_of_ble_eq_true rfl) ?_
    rintro r18 w1 ⟨rfl, rfl⟩
    refine AW.pcq (pc2 := 21) rfl ?_
    refine A_if_eq 36 (dX6_man 11 rfl) (by decide) (fun h21 => ?_) (fun h21 => ?_)
    · refine A_bipush (-2) (dX6_man 18 rfl) (by decide +kernel) ?_
      refine A_ri (dX6_man 19 rfl) rfl rfl ?_
      exact Or.inl ⟨by unfold bad3; simp_all, rfl, rfl⟩
    · refine A_iload_n (dX6_man 12 rfl) rfl ?_
      refine A_i2l (dX6_man 13 rfl) ?_
      refine A_lconst (0) (dX6_man 14 rfl) (by decide +kernel) ?_
      refine A_ldc2 (dX6_man 15 rfl) kcX6_113 ?_
      refine A_callSWi 3 (dX6_man 16 rfl) cbX6_in cwX6_103 (m_in E _ w 0 99 _ _ _ rfl (by decide) (by decide)) rfl rfl (Nat.le_of_ble_eq_true rfl) (Nat.le_of_ble_eq_true rfl) (Nat.le_of_ble_eq_true rfl) (Nat.le_of_ble_eq_true rfl) (Nat.le_of_ble_eq_true rfl) ?_
      rintro r30 w1 ⟨rfl, rfl⟩
      refine AW.pcq (pc2 := 33) rfl ?_
      refine A_if_ne 39 (dX6_man 17 rfl) (by decide) (fun h33 => ?_) (fun h33 => ?_)
      · refine A_aload_n (dX6_man 20 rfl) rfl ?_
        refine A_get (dX6_man 21 rfl) fwX6_100 MW_0 MF_13 ?_
        refine A_iconst (5) (dX6_man 22 rfl) (by decide +kernel) ?_
        refine A_icmp_ne 50 (dX6_man 23 rfl) (by decide) (fun h44 => ?_) (fun h44 => ?_)
        · refine A_aload_n (dX6_man 26 rfl) rfl ?_
          refine A_get (dX6_man 27 rfl) fwX6_29 MW_0 MF_9 ?_
          refine A_aload_n (dX6_man 28 rfl) rfl ?_
          refine A_get (dX6_man 29 rfl) fwX6_100 MW_0 MF_13 ?_
          refine A_iload_n (dX6_man 30 rfl) rfl ?_
          refine A_iast (dX6_man 31 rfl) MW_6 (men_ix hm5 hgm (by assumption)) (MS_6 _) ?_
          refine A_aload_n (dX6_man 32 rfl) rfl ?_
          refine A_get (dX6_man 33 rfl) fwX6_32 MW_0 MF_10 ?_
          refine AW.pcq (pc2 := 64) rfl ?_
          refine A_aload_n (dX6_man 34 rfl) rfl ?_
          refine A_get (dX6_man 35 rfl) fwX6_100 MW_0 MF_13 ?_
          refine A_iload_n (dX6_man 36 rfl) rfl ?_
          refine A_aload_n (dX6_man 37 rfl) rfl ?_
          refine A_get (dX6_man 38 rfl) fwX6_41 MW_0 MF_14 ?_
          refine A_irem (dX6_man 39 rfl) hb ?_
          refine A_iast (dX6_man 40 rfl) MW_7 (men_ix hm5 hgm (by assumption)) (MS_7 _) ?_
          refine A_aload_n (dX6_man 41 rfl) rfl ?_
          refine AW.pcq (pc2 := 76) rfl ?_
          refine A_get (dX6_man 42 rfl) fwX6_35 MW_0 MF_11 ?_
          refine A_aload_n (dX6_man 43 rfl) rfl ?_
          refine A_get (dX6_man 44 rfl) fwX6_100 MW_0 MF_13 ?_
          refine A_iload_n (dX6_man 45 rfl) rfl ?_
          refine A_bipush (10) (dX6_man 46 rfl) (by decide +kernel) ?_
          refine A_idiv (dX6_man 47 rfl) (by decide) ?_
          refine A_iast (dX6_man 48 rfl) MW_8 (men_ix hm5 hgm (by assumption)) (MS_8 _) ?_
          refine A_aload_n (dX6_man 49 rfl) rfl ?_
          refine AW.pcq (pc2 := 89) rfl ?_
          refine A_get (dX6_man 50 rfl) fwX6_38 MW_0 MF_12 ?_
          refine A_aload_n (dX6_man 51 rfl) rfl ?_
          refine A_get (dX6_man 52 rfl) fwX6_100 MW_0 MF_13 ?_
          refine A_iload_n (dX6_man 53 rfl) rfl ?_
          refine A_bipush (10) (dX6_man 54 rfl) (by decide +kernel) ?_
          refine A_irem (dX6_man 55 rfl) (by decide) ?_
          refine A_iast (dX6_man 56 rfl) MW_9 (men_ix hm5 hgm (by assumption)) (MS_9 _) ?_
          refine A_aload_n (dX6_man 57 rfl) rfl ?_
          refine AW.pcq (pc2 := 102) rfl ?_
          refine A_dup (dX6_man 58 rfl) rfl ?_
          refine A_get (dX6_man 59 rfl) fwX6_100 MW_0 MF_13 ?_
          refine A_iconst (1) (dX6_man 60 rfl) (by decide +kernel) ?_
          refine A_iadd (dX6_man 61 rfl) ?_
          refine A_put (dX6_man 62 rfl) fwX6_100 fcX6 ftX6_13 MW_0 rfl rfl ML_0 (MP_13 _) ?_
          refine A_aload_n (dX6_man 63 rfl) rfl ?_
          refine A_get (dX6_man 64 rfl) fwX6_100 MW_0 MF_13 ?_
          refine A_iconst (1) (dX6_man 65 rfl) (by decide +kernel) ?_
          refine AW.pcq (pc2 := 116) rfl ?_
          refine A_isub (dX6_man 66 rfl) ?_
          refine A_ri (dX6_man 67 rfl) rfl rfl ?_
          exact Or.inr (Or.inr ⟨by unfold bad3; simp_all, by assumption, add1_sub1 _, rfl⟩)
        · refine A_bipush (-4) (dX6_man 24 rfl) (by decide +kernel) ?_
          refine A_ri (dX6_man 25 rfl) rfl rfl ?_
          exact Or.inr (Or.inl ⟨by unfold bad3; simp_all, by assumption, rfl, rfl⟩)
      · refine A_bipush (-2) (dX6_man 18 rfl) (by decide +kernel) ?_
        refine A_ri (dX6_man 19 rfl) rfl rfl ?_
        exact Or.inl ⟨by unfold bad3; simp_all, rfl, rfl⟩

set_option maxRecDepth 100000 in
set_option maxHeartbeats 400000 in
theorem m_force (E : ag) (q : Nat → Nat) (g : Nat → Int32) (tw : Int64) (a : Nat → Nat → Int32) (t : Int32) : CT E yX6_force cX6_force 3 mX6_force.2.2.2.1 2 0 0 [.ref (q 0), .int t] (MW E q g tw a) (ri (fun r ws => (inI t 0 (g 3 - 1) = 0 ∧ r = -2 ∧ ws = MW E q g tw a) ∨ (¬ inI t 0 (g 3 - 1) = 0 ∧ r = g 4 ∧ ws = MW E q (upd g 4 t) tw a))) := by
  refine CT.of (M := mX6_force) (ls := [some (.ref (q 0)), some (.int t), none]) (by decide) rfl (by decide) rfl (Nat.le_of_ble_eq_true rfl) ?_
  refine A_iload_n (dX6_force 0 rfl) rfl ?_
  refine A_i2l (dX6_force 1 rfl) ?_
  refine A_lconst (0) (dX6_force 2 rfl) (by decide +kernel) ?_
  refine A_aload_n (dX6_force 3 rfl) rfl ?_
  refine A_get (dX6_force 4 rfl) fwX6_97 MW_0 MF_3 ?_
  refine A_iconst (1) (dX6_force 5 rfl) (by decide +kernel) ?_
  refine A_isub (dX6_force 6 rfl) ?_
  refine A_i2l (dX6_force 7 rfl) ?_
  refine AW.pcq (pc2 := 10) rfl ?_
  refine A_callSWi 3 (dX6_force 8 rfl) cbX6_in cwX6_103 (m_in E _ t 0 (g 3 - 1) _ _ _ rfl (by decide) rfl) rfl rfl (Nat.le_of_ble_eq_true rfl) (Nat.le_of_ble_eq_true rfl) (Nat.le_of_ble_eq_true rfl) (Nat.le_of_ble_eq_true rfl) (Nat.le_of_ble_eq_true rfl) ?_
  rintro r10 w1 ⟨rfl, rfl⟩
  refine AW.pcq (pc2 := 13) rfl ?_
  refine A_if_ne 19 (dX6_force 9 rfl) (by decide) (fun h13 => ?_) (fun h13 => ?_)
  · refine A_aload_n (dX6_force 12 rfl) rfl ?_
    refine A_get (dX6_force 13 rfl) fwX6_288 MW_0 MF_4 ?_
    refine A_istore_n (ls2 := [_, _, _]) (dX6_force 14 rfl) (by decide) rfl rfl ?_
    refine A_aload_n (dX6_force 15 rfl) rfl ?_
    refine A_iload_n (dX6_force 16 rfl) rfl ?_
    refine A_put (dX6_force 17 rfl) fwX6_288 fcX6 ftX6_4 MW_0 rfl rfl ML_0 (MP_4 _) ?_
    refine A_iload_n (dX6_force 18 rfl) rfl ?_
    refine A_ri (dX6_force 19 rfl) rfl rfl ?_
    exact Or.inr ⟨by assumption, rfl, rfl⟩
  · refine A_bipush (-2) (dX6_force 10 rfl) (by decide +kernel) ?_
    refine A_ri (dX6_force 11 rfl) rfl rfl ?_
    exact Or.inl ⟨by assumption, rfl, rfl⟩

set_option maxRecDepth 100000 in
set_option maxHeartbeats 400000 in
theorem m_feed (E : ag) (q : Nat → Nat) (g : Nat → Int32) (tw : Int64) (a : Nat → Nat → Int32) (t : Int32) (hx : ¬ g 6 = 160 → vp_in (g 6) 160) : CT E yX6_feed cX6_feed 2 mX6_feed.2.2.2.1 2 0 0 [.ref (q 0), .int t] (MW E q g tw a) (ri (fun r ws => (inI t 0 255 = 0 ∧ r = -2 ∧ ws = MW E q g tw a) ∨ (¬ inI t 0 255 = 0 ∧ g 6 = 160 ∧ r = -4 ∧ ws = MW E q g tw a) ∨ (¬ inI t 0 255 = 0 ∧ ¬ g 6 = 160 ∧ r = g 6 + 1 ∧ ws = MW E q (upd g 6 (g 6 + 1)) tw (va_up a 3 (upd (a 3) (g 6).toNatClampNeg t))))) := by
  refine CT.of (M := mX6_feed) (ls := [some (.ref (q 0)), some (.int t)]) (by decide) rfl (by decide) rfl (Nat.le_of_ble_eq_true rfl) ?_
  refine A_iload_n (dX6_feed 0 rfl) rfl ?_
  refine A_i2l (dX6_feed 1 rfl) ?_
  refine A_lconst (0) (dX6_feed 2 rfl) (by decide +kernel) ?_
  refine A_ldc2 (dX6_feed 3 rfl) kcX6_160 ?_
  refine A_callSWi 3 (dX6_feed 4 rfl) cbX6_in cwX6_103 (m_in E _ t 0 255 _ _ _ rfl (by decide) (by decide)) rfl rfl (Nat.le_of_ble_eq_true rfl) (Nat.le_of_ble_eq_true rfl) (Nat.le_of_ble_eq_true rfl) (Nat.le_of_ble_eq_true rfl) (Nat.le_of_ble_eq_true rfl) ?_
  rintro r6 w1 ⟨rfl, rfl⟩
  refine AW.pcq (pc2 := 9) rfl ?_
  refine A_if_ne 15 (dX6_feed 5 rfl) (by decide) (fun h9 => ?_) (fun h9 => ?_)
  · refine A_aload_n (dX6_feed 8 rfl) rfl ?_
    refine A_get (dX6_feed 9 rfl) fwX6_162 MW_0 MF_6 ?_
    refine A_sipush (160) (dX6_feed 10 rfl) (by decide +kernel) ?_
    refine A_icmp_ne 28 (dX6_feed 11 rfl) (by decide) (fun h22 => ?_) (fun h22 => ?_)
    · refine A_aload_n (dX6_feed 14 rfl) rfl ?_
      refine A_get (dX6_feed 15 rfl) fwX6_20 MW_0 MF_5 ?_
      refine A_aload_n (dX6_feed 16 rfl) rfl ?_
      refine A_get (dX6_feed 17 rfl) fwX6_162 MW_0 MF_6 ?_
      refine A_iload_n (dX6_feed 18 rfl) rfl ?_
      refine A_iast (dX6_feed 19 rfl) MW_3 (hx (by assumption)) (MS_3 _) ?_
      refine A_aload_n (dX6_feed 20 rfl) rfl ?_
      refine A_dup (dX6_feed 21 rfl) rfl ?_
      refine AW.pcq (pc2 := 40) rfl ?_
      refine A_get (dX6_feed 22 rfl) fwX6_162 MW_0 MF_6 ?_
      refine A_iconst (1) (dX6_feed 23 rfl) (by decide +kernel) ?_
      refine A_iadd (dX6_feed 24 rfl) ?_
      refine A_put (dX6_feed 25 rfl) fwX6_162 fcX6 ftX6_6 MW_0 rfl rfl ML_0 (MP_6 _) ?_
      refine A_aload_n (dX6_feed 26 rfl) rfl ?_
      refine A_get (dX6_feed 27 rfl) fwX6_162 MW_0 MF_6 ?_
      refine A_ri (dX6_feed 28 rfl) rfl rfl ?_
      exact Or.inr (Or.inr ⟨by assumption, by assumption, rfl, rfl⟩)
    · refine A_bipush (-4) (dX6_feed 12 rfl) (by decide +kernel) ?_
      refine A_ri (dX6_feed 13 rfl) rfl rfl ?_
      exact Or.inr (Or.inl ⟨by assumption, by assumption, rfl, rfl⟩)
  · refine A_bipush (-2) (dX6_feed 6 rfl) (by decide +kernel) ?_
    refine A_ri (dX6_feed 7 rfl) rfl rfl ?_
    exact Or.inl ⟨by assumption, rfl, rfl⟩

def m_cntR (g : Nat → Int32) (t : Int32) : Int32 := if inI t 0 6 = 0 then -2 else if t = 0 then g 13 else if t = 1 then g 14 else if t = 2 then g 15 else if t = 3 then g 16 else if t = 4 then g 3 else if t = 5 then g 6 else g 4
set_option maxRecDepth 100000 in
set_option maxHeartbeats 400000 in
theorem m_count (E : ag) (q : Nat → Nat) (g : Nat → Int32) (tw : Int64) (a : Nat → Nat → Int32) (t : Int32) : CT E yX6_count cX6_count 2 mX6_count.2.2.2.1 2 0 0 [.ref (q 0), .int t] (MW E q g tw a) (ri (fun r ws => r = m_cntR g t ∧ ws = MW E q g tw a)) := by
  refine CT.of (M := mX6_count) (ls := [some (.ref (q 0)), some (.int t)]) (by decide) rfl (by decide) rfl (Nat.le_of_ble_eq_true rfl) ?_
  refine A_iload_n (dX6_count 0 rfl) rfl ?_
  refine A_i2l (dX6_count 1 rfl) ?_
  refine A_lconst (0) (dX6_count 2 rfl) (by decide +kernel) ?_
  refine A_ldc2 (dX6_count 3 rfl) kcX6_390 ?_
  refine A_callSWi 3 (dX6_count 4 rfl) cbX6_in cwX6_103 (m_in E _ t 0 6 _ _ _ rfl (by decide) (by decide)) rfl rfl (Nat.le_of_ble_eq_true rfl) (Nat.le_of_ble_eq_true rfl) (Nat.le_of_ble_eq_true rfl) (Nat.le_of_ble_eq_true rfl) (Nat.le_of_ble_eq_true rfl) ?_
  rintro r6 w1 ⟨rfl, rfl⟩
  refine AW.pcq (pc2 := 9) rfl ?_
  refine A_if_ne 15 (dX6_count 5 rfl) (by decide) (fun h9 => ?_) (fun h9 => ?_)
  · refine A_iload_n (dX6_count 8 rfl) rfl ?_
    refine A_iconst (4) (dX6_count 9 rfl) (by decide +kernel) ?_
    refine A_icmp_ge 60 (dX6_count 10 rfl) (by decide) (fun h17 => ?_) (fun h17 => ?_)
    · obtain ⟨q2, q0, q1, q22, q3⟩ := w_ge4 h17
      refine A_iload_n (dX6_count 31 rfl) rfl ?_
      refine A_iconst (4) (dX6_count 32 rfl) (by decide +kernel) ?_
      refine A_icmp_ne 72 (dX6_count 33 rfl) (by decide) (fun h62 => ?_) (fun h62 => ?_)
      · refine A_iload_n (dX6_count 37 rfl) rfl ?_
        refine A_iconst (5) (dX6_count 38 rfl) (by decide +kernel) ?_
        refine A_icmp_ne 84 (dX6_count 39 rfl) (by decide) (fun h74 => ?_) (fun h74 => ?_)
        · refine A_aload_n (dX6_count 43 rfl) rfl ?_
          refine A_get (dX6_count 44 rfl) fwX6_288 MW_0 MF_4 ?_
          refine A_ri (dX6_count 45 rfl) rfl rfl ?_
          refine ⟨?_, rfl⟩
          simp_all [m_cntR]
        · refine A_aload_n (dX6_count 40 rfl) rfl ?_
          refine A_get (dX6_count 41 rfl) fwX6_162 MW_0 MF_6 ?_
          refine A_goto 88 (dX6_count 42 rfl) (by decide) ?_
          refine A_ri (dX6_count 45 rfl) rfl rfl ?_
          refine ⟨?_, rfl⟩
          simp_all [m_cntR]
      · refine A_aload_n (dX6_count 34 rfl) rfl ?_
        refine A_get (dX6_count 35 rfl) fwX6_97 MW_0 MF_3 ?_
        refine A_goto 88 (dX6_count 36 rfl) (by decide) ?_
        refine A_ri (dX6_count 45 rfl) rfl rfl ?_
        refine ⟨?_, rfl⟩
        simp_all [m_cntR]
    · refine A_iload_n (dX6_count 11 rfl) rfl ?_
      refine A_if_ne 31 (dX6_count 12 rfl) (by decide) (fun h21 => ?_) (fun h21 => ?_)
      · refine A_iload_n (dX6_count 16 rfl) rfl ?_
        refine A_iconst (1) (dX6_count 17 rfl) (by decide +kernel) ?_
        refine A_icmp_ne 43 (dX6_count 18 rfl) (by decide) (fun h33 => ?_) (fun h33 => ?_)
        · refine A_iload_n (dX6_count 22 rfl) rfl ?_
          refine A_iconst (2) (dX6_count 23 rfl) (by decide +kernel) ?_
          refine A_icmp_ne 55 (dX6_count 24 rfl) (by decide) (fun h45 => ?_) (fun h45 => ?_)
          · refine A_aload_n (dX6_count 28 rfl) rfl ?_
            refine A_get (dX6_count 29 rfl) fwX6_305 MW_0 MF_16 ?_
            refine A_ri (dX6_count 30 rfl) rfl rfl ?_
            refine ⟨?_, rfl⟩
            have h3 : t = 3 ∨ t = 0 ∨ t = 1 ∨ t = 2 := by
              by_cases z0 : t = 0
              · exact Or.inr (Or.inl z0)
              by_cases z1 : t = 1
              · exact Or.inr (Or.inr (Or.inl z1))
              by_cases z2 : t = 2
              · exact Or.inr (Or.inr (Or.inr z2))
              exact Or.inl (w03 (c67 h9) h17 z0 z1 z2)
            simp_all [m_cntR]
          · refine A_aload_n (dX6_count 25 rfl) rfl ?_
            refine A_get (dX6_count 26 rfl) fwX6_142 MW_0 MF_15 ?_
            refine A_goto 59 (dX6_count 27 rfl) (by decide) ?_
            refine A_ri (dX6_count 30 rfl) rfl rfl ?_
            refine ⟨?_, rfl⟩
            have h3 : t = 3 ∨ t = 0 ∨ t = 1 ∨ t = 2 := by
              by_cases z0 : t = 0
              · exact Or.inr (Or.inl z0)
              by_cases z1 : t = 1
              · exact Or.inr (Or.inr (Or.inl z1))
              by_cases z2 : t = 2
              · exact Or.inr (Or.inr (Or.inr z2))
              exact Or.inl (w03 (c67 h9) h17 z0 z1 z2)
            simp_all [m_cntR]
        · refine A_aload_n (dX6_count 19 rfl) rfl ?_
          refine A_get (dX6_count 20 rfl) fwX6_41 MW_0 MF_14 ?_
          refine A_goto 59 (dX6_count 21 rfl) (by decide) ?_
          refine A_ri (dX6_count 30 rfl) rfl rfl ?_
          refine ⟨?_, rfl⟩
          have h3 : t = 3 ∨ t = 0 ∨ t = 1 ∨ t = 2 := by
            by_cases z0 : t = 0
            · exact Or.inr (Or.inl z0)
            by_cases z1 : t = 1
            · exact Or.inr (Or.inr (Or.inl z1))
            by_cases z2 : t = 2
            · exact Or.inr (Or.inr (Or.inr z2))
            exact Or.inl (w03 (c67 h9) h17 z0 z1 z2)
          simp_all [m_cntR]
      · refine A_aload_n (dX6_count 13 rfl) rfl ?_
        refine A_get (dX6_count 14 rfl) fwX6_100 MW_0 MF_13 ?_
        refine A_goto 59 (dX6_count 15 rfl) (by decide) ?_
        refine A_ri (dX6_count 30 rfl) rfl rfl ?_
        refine ⟨?_, rfl⟩
        have h3 : t = 3 ∨ t = 0 ∨ t = 1 ∨ t = 2 := by
          by_cases z0 : t = 0
          · exact Or.inr (Or.inl z0)
          by_cases z1 : t = 1
          · exact Or.inr (Or.inr (Or.inl z1))
          by_cases z2 : t = 2
          · exact Or.inr (Or.inr (Or.inr z2))
          exact Or.inl (w03 (c67 h9) h17 z0 z1 z2)
        simp_all [m_cntR]
  · refine A_bipush (-2) (dX6_count 6 rfl) (by decide +kernel) ?_
    refine A_ri (dX6_count 7 rfl) rfl rfl ?_
    refine ⟨?_, rfl⟩
    simp_all [m_cntR]
end
section
set_option maxRecDepth 100000 in
set_option maxHeartbeats 400000 in
theorem m_mends (E : ag) (q : Nat → Nat) (g : Nat → Int32) (tw : Int64) (a : Nat → Nat → Int32) (i x : Int32) (m : Nat) (hm5 : m ≤ 5) (hgm : g 13 = nI m) : CT E yX6_mends cX6_mends 3 mX6_mends.2.2.2.1 3 0 0 [.ref (q 0), .int i, .int x] (MW E q g tw a) (ri (fun r w => r = (if inI i 0 (g 13 - 1) = 0 ∨ inI x (-240) 240 = 0 then -100000 else p_mnd (a 6 i.toNatClampNeg) (a 9 i.toNatClampNeg) x) ∧ w = MW E q g tw a)) := by
  refine CT.of (M := mX6_mends) (ls := [some (.ref (q 0)), some (.int i), some (.int x)]) (by decide) rfl (by decide) rfl (Nat.le_of_ble_eq_true rfl) ?_
  refine A_aload_n (dX6_mends 0 rfl) rfl ?_
  refine A_iload_n (dX6_mends 1 rfl) rfl ?_
  refine A_callVWi 1 (dX6_mends 2 rfl) cbX6_isMan cwX6_123 (m_isMan E q g tw a i) rfl rfl MW_0 rfl rfl (Nat.le_of_ble_eq_true rfl) (Nat.le_of_ble_eq_true rfl) (Nat.le_of_ble_eq_true rfl) (Nat.le_of_ble_eq_true rfl) (Nat.le_of_ble_eq_true rfl) ?_
  rintro r2 w1 ⟨rfl, rfl⟩
  refine AW.pcq (pc2 := 5) rfl ?_
  refine A_if_eq 31 (dX6_mends 3 rfl) (by decide) (fun h5 => ?_) (fun h5 => ?_)
  · refine A_ldc (dX6_mends 15 rfl) kcX6_159 ?_
    refine A_ri (dX6_mends 16 rfl) rfl rfl ?_
    refine ⟨?_, rfl⟩
    simp_all
  · refine A_iload_n (dX6_mends 4 rfl) rfl ?_
    refine A_i2l (dX6_mends 5 rfl) ?_
    refine A_ldc2 (dX6_mends 6 rfl) kcX6_154 ?_
    refine A_ldc2 (dX6_mends 7 rfl) kcX6_130 ?_
    refine A_callSWi 3 (dX6_mends 8 rfl) cbX6_in cwX6_103 (m_in E _ x (-240) 240 _ _ _ rfl (by decide) (by decide)) rfl rfl (Nat.le_of_ble_eq_true rfl) (Nat.le_of_ble_eq_true rfl) (Nat.le_of_ble_eq_true rfl) (Nat.le_of_ble_eq_true rfl) (Nat.le_of_ble_eq_true rfl) ?_
    rintro r16 w1 ⟨rfl, rfl⟩
    refine AW.pcq (pc2 := 19) rfl ?_
    refine A_if_eq 31 (dX6_mends 9 rfl) (by decide) (fun h19 => ?_) (fun h19 => ?_)
    · refine A_ldc (dX6_mends 15 rfl) kcX6_159 ?_
      refine A_ri (dX6_mends 16 rfl) rfl rfl ?_
      refine ⟨?_, rfl⟩
      simp_all
    · refine A_aload_n (dX6_mends 10 rfl) rfl ?_
      refine A_iload_n (dX6_mends 11 rfl) rfl ?_
      refine A_iload_n (dX6_mends 12 rfl) rfl ?_
      refine A_callVWi 2 (dX6_mends 13 rfl) cbX6_mended cwX6_156 (m_mended E q g tw a i x (ix_man hm5 (by rw [← hgm]; assumption))) rfl rfl MW_0 rfl rfl (Nat.le_of_ble_eq_true rfl) (Nat.le_of_ble_eq_true rfl) (Nat.le_of_ble_eq_true rfl) (Nat.le_of_ble_eq_true rfl) (Nat.le_of_ble_eq_true rfl) ?_
      rintro r25 w1 ⟨rfl, rfl⟩
      refine AW.pcq (pc2 := 28) rfl ?_
      refine A_goto 33 (dX6_mends 14 rfl) (by decide) ?_
      refine A_ri (dX6_mends 16 rfl) rfl rfl ?_
      refine ⟨?_, rfl⟩
      simp_all

theorem told_c0 {g : Nat → Int32} {a : Nat → Nat → Int32} {i : Int32} (h : ¬ inI i 0 11 = 0) : m_toldR g a i 0 = a 4 i.toNatClampNeg := by
  have d1 : ¬ inI 0 0 7 = 0 := by decide
  have d3 : (0 : Int32) < 2 := by decide
  simp [m_toldR, d1, d3, h]
theorem told_c1 {g : Nat → Int32} {a : Nat → Nat → Int32} {i : Int32} (h : ¬ inI i 0 11 = 0) : m_toldR g a i 1 = a 5 i.toNatClampNeg := by
  have d1 : ¬ inI 1 0 7 = 0 := by decide
  have d3 : (1 : Int32) < 2 := by decide
  simp [m_toldR, d1, d3, h]
theorem told_m3 {g : Nat → Int32} {a : Nat → Nat → Int32} {i : Int32} (h : ¬ inI i 0 (g 13 - 1) = 0) : m_toldR g a i 3 = a 7 i.toNatClampNeg := by
  have d1 : ¬ inI 3 0 7 = 0 := by decide
  have d3 : (2 : Int32) ≤ 3 := by decide
  simp [m_toldR, d1, d3, h]
theorem told_m4 {g : Nat → Int32} {a : Nat → Nat → Int32} {i : Int32} (h : ¬ inI i 0 (g 13 - 1) = 0) : m_toldR g a i 4 = a 8 i.toNatClampNeg := by
  have d1 : ¬ inI 4 0 7 = 0 := by decide
  have d3 : (2 : Int32) ≤ 4 := by decide
  simp [m_toldR, d1, d3, h]
theorem told_m5 {g : Nat → Int32} {a : Nat → Nat → Int32} {i : Int32} (h : ¬ inI i 0 (g 13 - 1) = 0) : m_toldR g a i 5 = a 9 i.toNatClampNeg := by
  have d1 : ¬ inI 5 0 7 = 0 := by decide
  have d3 : (2 : Int32) ≤ 5 := by decide
  simp [m_toldR, d1, d3, h]
set_option maxRecDepth 100000 in
set_option maxHeartbeats 400000 in
theorem m_set0 (E : ag) (q : Nat → Nat) (g : Nat → Int32) (tw : Int64) (a : Nat → Nat → Int32) (i v : Int32) (m : Nat) (hm5 : m ≤ 5) (hgm : g 13 = nI m) (hb : ¬ g 14 = 0) : CT E yX6_set cX6_set 5 mX6_set.2.2.2.1 4 0 0 [.ref (q 0), .int 0, .int i, .int v] (MW E q g tw a) (ri (fun r w => ((inI i 0 11 = 0 ∨ inI v 0 9999 = 0) ∧ r = -2 ∧ w = MW E q g tw a) ∨ (¬ (inI i 0 11 = 0 ∨ inI v 0 9999 = 0) ∧ r = a 4 i.toNatClampNeg ∧ w = MW E q g tw (va_up a 4 (upd (a 4) i.toNatClampNeg v))))) := by
  refine CT.of (M := mX6_set) (ls := [some (.ref (q 0)), some (.int 0), some (.int i), some (.int v), none]) (by decide) rfl (by decide) rfl (Nat.le_of_ble_eq_true rfl) ?_
  refine A_iload_n (dX6_set 0 rfl) rfl ?_
  refine A_i2l (dX6_set 1 rfl) ?_
  refine A_lconst (0) (dX6_set 2 rfl) (by decide +kernel) ?_
  refine A_ldc2 (dX6_set 3 rfl) kcX6_109 ?_
  refine A_callSWi 3 (dX6_set 4 rfl) cbX6_in cwX6_103 (m_in E _ 0 0 5 _ _ _ (by decide) (by decide) (by decide)) rfl rfl (Nat.le_of_ble_eq_true rfl) (Nat.le_of_ble_eq_true rfl) (Nat.le_of_ble_eq_true rfl) (Nat.le_of_ble_eq_true rfl) (Nat.le_of_ble_eq_true rfl) ?_
  rintro r6 w1 ⟨rfl, rfl⟩
  refine AW.pcq (pc2 := 9) rfl ?_
  refine A_if_eq 46 (dX6_set 5 rfl) (by decide) (fun h9 => absurd h9 (by decide)) (fun h9 => ?_)
  refine A_iload_n (dX6_set 6 rfl) rfl ?_
  refine A_iconst (2) (dX6_set 7 rfl) (by decide +kernel) ?_
  refine A_icmp_ge 24 (dX6_set 8 rfl) (by decide) (fun h14 => absurd h14 (by decide)) (fun h14 => ?_)
  refine A_iload_n (dX6_set 9 rfl) rfl ?_
  refine A_callSWi 1 (dX6_set 10 rfl) cbX6_isCell cwX6_115 (m_isCell E _ i) rfl rfl (Nat.le_of_ble_eq_true rfl) (Nat.le_of_ble_eq_true rfl) (Nat.le_of_ble_eq_true rfl) (Nat.le_of_ble_eq_true rfl) (Nat.le_of_ble_eq_true rfl) ?_
  rintro r18 w1 ⟨rfl, rfl⟩
  refine AW.pcq (pc2 := 21) rfl ?_
  refine A_if_eq 46 (dX6_set 11 rfl) (by decide) (fun h21 => ?_) (fun h21 => ?_)
  · refine A_bipush (-2) (dX6_set 22 rfl) (by decide +kernel) ?_
    refine A_ri (dX6_set 23 rfl) rfl rfl ?_
    exact Or.inl ⟨by simp_all, rfl, rfl⟩
  · refine A_iload_n (dX6_set 12 rfl) rfl ?_
    refine A_i2l (dX6_set 13 rfl) ?_
    refine A_ldc2 (dX6_set 14 rfl) kcX6_119 ?_
    refine A_ldc2 (dX6_set 15 rfl) kcX6_121 ?_
    refine A_callSWi 3 (dX6_set 16 rfl) cbX6_in cwX6_103 (m_in E _ 0 2 4 _ _ _ (by decide) (by decide) (by decide)) rfl rfl (Nat.le_of_ble_eq_true rfl) (Nat.le_of_ble_eq_true rfl) (Nat.le_of_ble_eq_true rfl) (Nat.le_of_ble_eq_true rfl) (Nat.le_of_ble_eq_true rfl) ?_
    rintro r32 w1 ⟨rfl, rfl⟩
    refine AW.pcq (pc2 := 35) rfl ?_
    refine A_if_eq 49 (dX6_set 17 rfl) (by decide) (fun h35 => ?_) (fun h35 => absurd (by decide) h35)
    refine A_iload_n (dX6_set 24 rfl) rfl ?_
    refine A_i2l (dX6_set 25 rfl) ?_
    refine A_iload_n (dX6_set 26 rfl) rfl ?_
    refine A_iconst (5) (dX6_set 27 rfl) (by decide +kernel) ?_
    refine A_icmp_ne 62 (dX6_set 28 rfl) (by decide) (fun h53 => ?_) (fun h53 => absurd h53 (by decide))
    refine A_lconst (0) (dX6_set 31 rfl) (by decide +kernel) ?_
    refine A_iload_n (dX6_set 32 rfl) rfl ?_
    refine A_if_ne 73 (dX6_set 33 rfl) (by decide) (fun h64 => absurd (by decide) h64) (fun h64 => ?_)
    refine A_ldc2 (dX6_set 34 rfl) kcX6_128 ?_
    refine A_goto 98 (dX6_set 35 rfl) (by decide) ?_
    refine A_callSWi 3 (dX6_set 47 rfl) cbX6_in cwX6_103 (m_in E _ v 0 9999 _ _ _ rfl (by decide) (by decide)) rfl rfl (Nat.le_of_ble_eq_true rfl) (Nat.le_of_ble_eq_true rfl) (Nat.le_of_ble_eq_true rfl) (Nat.le_of_ble_eq_true rfl) (Nat.le_of_ble_eq_true rfl) ?_
    rintro r98 w1 ⟨rfl, rfl⟩
    refine AW.pcq (pc2 := 101) rfl ?_
    refine A_if_ne 107 (dX6_set 48 rfl) (by decide) (fun h101 => ?_) (fun h101 => ?_)
    · refine A_iload_n (dX6_set 51 rfl) rfl ?_
      refine A_iconst (5) (dX6_set 52 rfl) (by decide +kernel) ?_
      refine A_icmp_ne 119 (dX6_set 53 rfl) (by decide) (fun h109 => ?_) (fun h109 => absurd h109 (by decide))
      refine A_aload_n (dX6_set 57 rfl) rfl ?_
      refine A_iload_n (dX6_set 58 rfl) rfl ?_
      refine A_iload_n (dX6_set 59 rfl) rfl ?_
      refine A_iconst (2) (dX6_set 60 rfl) (by decide +kernel) ?_
      refine A_icmp_ge 130 (dX6_set 61 rfl) (by decide) (fun h123 => absurd h123 (by decide)) (fun h123 => ?_)
      refine A_iload_n (dX6_set 62 rfl) rfl ?_
      refine A_goto 133 (dX6_set 63 rfl) (by decide) ?_
      refine A_callVWi 2 (dX6_set 67 rfl) cbX6_told cwX6_134 (m_told E q g tw a i 0 m hm5 hgm hb) rfl rfl MW_0 rfl rfl (Nat.le_of_ble_eq_true rfl) (Nat.le_of_ble_eq_true rfl) (Nat.le_of_ble_eq_true rfl) (Nat.le_of_ble_eq_true rfl) (Nat.le_of_ble_eq_true rfl) ?_
      rintro r133 w1 ⟨rfl, rfl⟩
      refine AW.pcq (pc2 := 136) rfl ?_
      refine A_istore (ls2 := [_, _, _, _, _]) (dX6_set 68 rfl) (by decide) rfl rfl ?_
      refine A_iload_n (dX6_set 69 rfl) rfl ?_
      refine A_if_ne 152 (dX6_set 70 rfl) (by decide) (fun h139 => absurd (by decide) h139) (fun h139 => ?_)
      refine A_aload_n (dX6_set 71 rfl) rfl ?_
      refine A_get (dX6_set 72 rfl) fwX6_23 MW_0 MF_7 ?_
      refine A_iload_n (dX6_set 73 rfl) rfl ?_
      refine A_iload_n (dX6_set 74 rfl) rfl ?_
      refine A_iast (dX6_set 75 rfl) MW_4 (ix_cell (by assumption)) (MS_4 _) ?_
      refine AW.pcq (pc2 := 149) rfl ?_
      refine A_goto 222 (dX6_set 76 rfl) (by decide) ?_
      refine A_iload (dX6_set 119 rfl) rfl ?_
      refine A_ri (dX6_set 120 rfl) rfl rfl ?_
      exact Or.inr ⟨by simp_all, told_c0 (by assumption), rfl⟩
    · refine A_bipush (-2) (dX6_set 49 rfl) (by decide +kernel) ?_
      refine A_ri (dX6_set 50 rfl) rfl rfl ?_
      exact Or.inl ⟨by simp_all, rfl, rfl⟩

set_option maxRecDepth 100000 in
set_option maxHeartbeats 400000 in
theorem m_set1 (E : ag) (q : Nat → Nat) (g : Nat → Int32) (tw : Int64) (a : Nat → Nat → Int32) (i v : Int32) (m : Nat) (hm5 : m ≤ 5) (hgm : g 13 = nI m) (hb : ¬ g 14 = 0) : CT E yX6_set cX6_set 5 mX6_set.2.2.2.1 4 0 0 [.ref (q 0), .int 1, .int i, .int v] (MW E q g tw a) (ri (fun r w => ((inI i 0 11 = 0 ∨ inI v 0 9 = 0) ∧ r = -2 ∧ w = MW E q g tw a) ∨ (¬ (inI i 0 11 = 0 ∨ inI v 0 9 = 0) ∧ r = a 5 i.toNatClampNeg ∧ w = MW E q g tw (va_up a 5 (upd (a 5) i.toNatClampNeg v))))) := by
  refine CT.of (M := mX6_set) (ls := [some (.ref (q 0)), some (.int 1), some (.int i), some (.int v), none]) (by decide) rfl (by decide) rfl (Nat.le_of_ble_eq_true rfl) ?_
  refine A_iload_n (dX6_set 0 rfl) rfl ?_
  refine A_i2l (dX6_set 1 rfl) ?_
  refine A_lconst (0) (dX6_set 2 rfl) (by decide +kernel) ?_
  refine A_ldc2 (dX6_set 3 rfl) kcX6_109 ?_
  refine A_callSWi 3 (dX6_set 4 rfl) cbX6_in cwX6_103 (m_in E _ 1 0 5 _ _ _ (by decide) (by decide) (by decide)) rfl rfl (Nat.le_of_ble_eq_true rfl) (Nat.le_of_ble_eq_true rfl) (Nat.le_of_ble_eq_true rfl) (Nat.le_of_ble_eq_true rfl) (Nat.le_of_ble_eq_true rfl) ?_
  rintro r6 w1 ⟨rfl, rfl⟩
  refine AW.pcq (pc2 := 9) rfl ?_
  refine A_if_eq 46 (dX6_set 5 rfl) (by decide) (fun h9 => absurd h9 (by decide)) (fun h9 => ?_)
  refine A_iload_n (dX6_set 6 rfl) rfl ?_
  refine A_iconst (2) (dX6_set 7 rfl) (by decide +kernel) ?_
  refine A_icmp_ge 24 (dX6_set 8 rfl) (by decide) (fun h14 => absurd h14 (by decide)) (fun h14 => ?_)
  refine A_iload_n (dX6_set 9 rfl) rfl ?_
  refine A_callSWi 1 (dX6_set 10 rfl) cbX6_isCell cwX6_115 (m_isCell E _ i) rfl rfl (Nat.le_of_ble_eq_true rfl) (Nat.le_of_ble_eq_true rfl) (Nat.le_of_ble_eq_true rfl) (Nat.le_of_ble_eq_true rfl) (Nat.le_of_ble_eq_true rfl) ?_
  rintro r18 w1 ⟨rfl, rfl⟩
  refine AW.pcq (pc2 := 21) rfl ?_
  refine A_if_eq 46 (dX6_set 11 rfl) (by decide) (fun h21 => ?_) (fun h21 => ?_)
  · refine A_bipush (-2) (dX6_set 22 rfl) (by decide +kernel) ?_
    refine A_ri (dX6_set 23 rfl) rfl rfl ?_
    exact Or.inl ⟨by simp_all, rfl, rfl⟩
  · refine A_iload_n (dX6_set 12 rfl) rfl ?_
    refine A_i2l (dX6_set 13 rfl) ?_
    refine A_ldc2 (dX6_set 14 rfl) kcX6_119 ?_
    refine A_ldc2 (dX6_set 15 rfl) kcX6_121 ?_
    refine A_callSWi 3 (dX6_set 16 rfl) cbX6_in cwX6_103 (m_in E _ 1 2 4 _ _ _ (by decide) (by decide) (by decide)) rfl rfl (Nat.le_of_ble_eq_true rfl) (Nat.le_of_ble_eq_true rfl) (Nat.le_of_ble_eq_true rfl) (Nat.le_of_ble_eq_true rfl) (Nat.le_of_ble_eq_true rfl) ?_
    rintro r32 w1 ⟨rfl, rfl⟩
    refine AW.pcq (pc2 := 35) rfl ?_
    refine A_if_eq 49 (dX6_set 17 rfl) (by decide) (fun h35 => ?_) (fun h35 => absurd (by decide) h35)
    refine A_iload_n (dX6_set 24 rfl) rfl ?_
    refine A_i2l (dX6_set 25 rfl) ?_
    refine A_iload_n (dX6_set 26 rfl) rfl ?_
    refine A_iconst (5) (dX6_set 27 rfl) (by decide +kernel) ?_
    refine A_icmp_ne 62 (dX6_set 28 rfl) (by decide) (fun h53 => ?_) (fun h53 => absurd h53 (by decide))
    refine A_lconst (0) (dX6_set 31 rfl) (by decide +kernel) ?_
    refine A_iload_n (dX6_set 32 rfl) rfl ?_
    refine A_if_ne 73 (dX6_set 33 rfl) (by decide) (fun h64 => ?_) (fun h64 => absurd h64 (by decide))
    refine A_iload_n (dX6_set 36 rfl) rfl ?_
    refine A_iconst (2) (dX6_set 37 rfl) (by decide +kernel) ?_
    refine A_icmp_ne 84 (dX6_set 38 rfl) (by decide) (fun h75 => ?_) (fun h75 => absurd h75 (by decide))
    refine A_iload_n (dX6_set 41 rfl) rfl ?_
    refine A_iconst (5) (dX6_set 42 rfl) (by decide +kernel) ?_
    refine A_icmp_ne 95 (dX6_set 43 rfl) (by decide) (fun h86 => ?_) (fun h86 => absurd h86 (by decide))
    refine A_ldc2 (dX6_set 46 rfl) kcX6_132 ?_
    refine A_callSWi 3 (dX6_set 47 rfl) cbX6_in cwX6_103 (m_in E _ v 0 9 _ _ _ rfl (by decide) (by decide)) rfl rfl (Nat.le_of_ble_eq_true rfl) (Nat.le_of_ble_eq_true rfl) (Nat.le_of_ble_eq_true rfl) (Nat.le_of_ble_eq_true rfl) (Nat.le_of_ble_eq_true rfl) ?_
    rintro r98 w1 ⟨rfl, rfl⟩
    refine AW.pcq (pc2 := 101) rfl ?_
    refine A_if_ne 107 (dX6_set 48 rfl) (by decide) (fun h101 => ?_) (fun h101 => ?_)
    · refine A_iload_n (dX6_set 51 rfl) rfl ?_
      refine A_iconst (5) (dX6_set 52 rfl) (by decide +kernel) ?_
      refine A_icmp_ne 119 (dX6_set 53 rfl) (by decide) (fun h109 => ?_) (fun h109 => absurd h109 (by decide))
      refine A_aload_n (dX6_set 57 rfl) rfl ?_
      refine A_iload_n (dX6_set 58 rfl) rfl ?_
      refine A_iload_n (dX6_set 59 rfl) rfl ?_
      refine A_iconst (2) (dX6_set 60 rfl) (by decide +kernel) ?_
      refine A_icmp_ge 130 (dX6_set 61 rfl) (by decide) (fun h123 => absurd h123 (by decide)) (fun h123 => ?_)
      refine A_iload_n (dX6_set 62 rfl) rfl ?_
      refine A_goto 133 (dX6_set 63 rfl) (by decide) ?_
      refine A_callVWi 2 (dX6_set 67 rfl) cbX6_told cwX6_134 (m_told E q g tw a i 1 m hm5 hgm hb) rfl rfl MW_0 rfl rfl (Nat.le_of_ble_eq_true rfl) (Nat.le_of_ble_eq_true rfl) (Nat.le_of_ble_eq_true rfl) (Nat.le_of_ble_eq_true rfl) (Nat.le_of_ble_eq_true rfl) ?_
      rintro r133 w1 ⟨rfl, rfl⟩
      refine AW.pcq (pc2 := 136) rfl ?_
      refine A_istore (ls2 := [_, _, _, _, _]) (dX6_set 68 rfl) (by decide) rfl rfl ?_
      refine A_iload_n (dX6_set 69 rfl) rfl ?_
      refine A_if_ne 152 (dX6_set 70 rfl) (by decide) (fun h139 => ?_) (fun h139 => absurd h139 (by decide))
      refine A_iload_n (dX6_set 77 rfl) rfl ?_
      refine A_iconst (1) (dX6_set 78 rfl) (by decide +kernel) ?_
      refine A_icmp_ne 167 (dX6_set 79 rfl) (by decide) (fun h154 => absurd (by decide) h154) (fun h154 => ?_)
      refine A_aload_n (dX6_set 80 rfl) rfl ?_
      refine A_get (dX6_set 81 rfl) fwX6_26 MW_0 MF_8 ?_
      refine A_iload_n (dX6_set 82 rfl) rfl ?_
      refine A_iload_n (dX6_set 83 rfl) rfl ?_
      refine A_iast (dX6_set 84 rfl) MW_5 (ix_cell (by assumption)) (MS_5 _) ?_
      refine AW.pcq (pc2 := 164) rfl ?_
      refine A_goto 222 (dX6_set 85 rfl) (by decide) ?_
      refine A_iload (dX6_set 119 rfl) rfl ?_
      refine A_ri (dX6_set 120 rfl) rfl rfl ?_
      exact Or.inr ⟨by simp_all, told_c1 (by assumption), rfl⟩
    · refine A_bipush (-2) (dX6_set 49 rfl) (by decide +kernel) ?_
      refine A_ri (dX6_set 50 rfl) rfl rfl ?_
      exact Or.inl ⟨by simp_all, rfl, rfl⟩

set_option maxRecDepth 100000 in
set_option maxHeartbeats 400000 in
theorem m_set2 (E : ag) (q : Nat → Nat) (g : Nat → Int32) (tw : Int64) (a : Nat → Nat → Int32) (i v : Int32) (m : Nat) (hm5 : m ≤ 5) (hgm : g 13 = nI m) (hb : ¬ g 14 = 0) : CT E yX6_set cX6_set 5 mX6_set.2.2.2.1 4 0 0 [.ref (q 0), .int 2, .int i, .int v] (MW E q g tw a) (ri (fun r w => ((inI i 0 (g 13 - 1) = 0 ∨ inI v 0 239 = 0) ∧ r = -2 ∧ w = MW E q g tw a) ∨ (¬ (inI i 0 (g 13 - 1) = 0 ∨ inI v 0 239 = 0) ∧ r = a 7 i.toNatClampNeg ∧ w = MW E q g tw (va_up a 7 (upd (a 7) i.toNatClampNeg (v - v / g 14 * g 14)))))) := by
  refine CT.of (M := mX6_set) (ls := [some (.ref (q 0)), some (.int 2), some (.int i), some (.int v), none]) (by decide) rfl (by decide) rfl (Nat.le_of_ble_eq_true rfl) ?_
  refine A_iload_n (dX6_set 0 rfl) rfl ?_
  refine A_i2l (dX6_set 1 rfl) ?_
  refine A_lconst (0) (dX6_set 2 rfl) (by decide +kernel) ?_
  refine A_ldc2 (dX6_set 3 rfl) kcX6_109 ?_
  refine A_callSWi 3 (dX6_set 4 rfl) cbX6_in cwX6_103 (m_in E _ 2 0 5 _ _ _ (by decide) (by decide) (by decide)) rfl rfl (Nat.le_of_ble_eq_true rfl) (Nat.le_of_ble_eq_true rfl) (Nat.le_of_ble_eq_true rfl) (Nat.le_of_ble_eq_true rfl) (Nat.le_of_ble_eq_true rfl) ?_
  rintro r6 w1 ⟨rfl, rfl⟩
  refine AW.pcq (pc2 := 9) rfl ?_
  refine A_if_eq 46 (dX6_set 5 rfl) (by decide) (fun h9 => absurd h9 (by decide)) (fun h9 => ?_)
  refine A_iload_n (dX6_set 6 rfl) rfl ?_
  refine A_iconst (2) (dX6_set 7 rfl) (by decide +kernel) ?_
  refine A_icmp_ge 24 (dX6_set 8 rfl) (by decide) (fun h14 => ?_) (fun h14 => absurd (by decide) h14)
  refine A_iload_n (dX6_set 12 rfl) rfl ?_
  refine A_i2l (dX6_set 13 rfl) ?_
  refine A_ldc2 (dX6_set 14 rfl) kcX6_119 ?_
  refine A_ldc2 (dX6_set 15 rfl) kcX6_121 ?_
  refine A_callSWi 3 (dX6_set 16 rfl) cbX6_in cwX6_103 (m_in E _ 2 2 4 _ _ _ (by decide) (by decide) (by decide)) rfl rfl (Nat.le_of_ble_eq_true rfl) (Nat.le_of_ble_eq_true rfl) (Nat.le_of_ble_eq_true rfl) (Nat.le_of_ble_eq_true rfl) (Nat.le_of_ble_eq_true rfl) ?_
  rintro r32 w1 ⟨rfl, rfl⟩
  refine AW.pcq (pc2 := 35) rfl ?_
  refine A_if_eq 49 (dX6_set 17 rfl) (by decide) (fun h35 => absurd h35 (by decide)) (fun h35 => ?_)
  refine A_aload_n (dX6_set 18 rfl) rfl ?_
  refine A_iload_n (dX6_set 19 rfl) rfl ?_
  refine A_callVWi 1 (dX6_set 20 rfl) cbX6_isMan cwX6_123 (m_isMan E q g tw a i) rfl rfl MW_0 rfl rfl (Nat.le_of_ble_eq_true rfl) (Nat.le_of_ble_eq_true rfl) (Nat.le_of_ble_eq_true rfl) (Nat.le_of_ble_eq_true rfl) (Nat.le_of_ble_eq_true rfl) ?_
  rintro r40 w1 ⟨rfl, rfl⟩
  refine AW.pcq (pc2 := 43) rfl ?_
  refine A_if_ne 49 (dX6_set 21 rfl) (by decide) (fun h43 => ?_) (fun h43 => ?_)
  · refine A_iload_n (dX6_set 24 rfl) rfl ?_
    refine A_i2l (dX6_set 25 rfl) ?_
    refine A_iload_n (dX6_set 26 rfl) rfl ?_
    refine A_iconst (5) (dX6_set 27 rfl) (by decide +kernel) ?_
    refine A_icmp_ne 62 (dX6_set 28 rfl) (by decide) (fun h53 => ?_) (fun h53 => absurd h53 (by decide))
    refine A_lconst (0) (dX6_set 31 rfl) (by decide +kernel) ?_
    refine A_iload_n (dX6_set 32 rfl) rfl ?_
    refine A_if_ne 73 (dX6_set 33 rfl) (by decide) (fun h64 => ?_) (fun h64 => absurd h64 (by decide))
    refine A_iload_n (dX6_set 36 rfl) rfl ?_
    refine A_iconst (2) (dX6_set 37 rfl) (by decide +kernel) ?_
    refine A_icmp_ne 84 (dX6_set 38 rfl) (by decide) (fun h75 => absurd (by decide) h75) (fun h75 => ?_)
    refine A_ldc2 (dX6_set 39 rfl) kcX6_111 ?_
    refine A_goto 98 (dX6_set 40 rfl) (by decide) ?_
    refine A_callSWi 3 (dX6_set 47 rfl) cbX6_in cwX6_103 (m_in E _ v 0 239 _ _ _ rfl (by decide) (by decide)) rfl rfl (Nat.le_of_ble_eq_true rfl) (Nat.le_of_ble_eq_true rfl) (Nat.le_of_ble_eq_true rfl) (Nat.le_of_ble_eq_true rfl) (Nat.le_of_ble_eq_true rfl) ?_
    rintro r98 w1 ⟨rfl, rfl⟩
    refine AW.pcq (pc2 := 101) rfl ?_
    refine A_if_ne 107 (dX6_set 48 rfl) (by decide) (fun h101 => ?_) (fun h101 => ?_)
    · refine A_iload_n (dX6_set 51 rfl) rfl ?_
      refine A_iconst (5) (dX6_set 52 rfl) (by decide +kernel) ?_
      refine A_icmp_ne 119 (dX6_set 53 rfl) (by decide) (fun h109 => ?_) (fun h109 => absurd h109 (by decide))
      refine A_aload_n (dX6_set 57 rfl) rfl ?_
      refine A_iload_n (dX6_set 58 rfl) rfl ?_
      refine A_iload_n (dX6_set 59 rfl) rfl ?_
      refine A_iconst (2) (dX6_set 60 rfl) (by decide +kernel) ?_
      refine A_icmp_ge 130 (dX6_set 61 rfl) (by decide) (fun h123 => ?_) (fun h123 => absurd (by decide) h123)
      refine A_iload_n (dX6_set 64 rfl) rfl ?_
      refine A_iconst (1) (dX6_set 65 rfl) (by decide +kernel) ?_
      refine A_iadd (dX6_set 66 rfl) ?_
      refine A_callVWi 2 (dX6_set 67 rfl) cbX6_told cwX6_134 (m_told E q g tw a i (2 + 1) m hm5 hgm hb) rfl rfl MW_0 rfl rfl (Nat.le_of_ble_eq_true rfl) (Nat.le_of_ble_eq_true rfl) (Nat.le_of_ble_eq_true rfl) (Nat.le_of_ble_eq_true rfl) (Nat.le_of_ble_eq_true rfl) ?_
      rintro r133 w1 ⟨rfl, rfl⟩
      refine AW.pcq (pc2 := 136) rfl ?_
      refine A_istore (ls2 := [_, _, _, _, _]) (dX6_set 68 rfl) (by decide) rfl rfl ?_
      refine A_iload_n (dX6_set 69 rfl) rfl ?_
      refine A_if_ne 152 (dX6_set 70 rfl) (by decide) (fun h139 => ?_) (fun h139 => absurd h139 (by decide))
      refine A_iload_n (dX6_set 77 rfl) rfl ?_
      refine A_iconst (1) (dX6_set 78 rfl) (by decide +kernel) ?_
      refine A_icmp_ne 167 (dX6_set 79 rfl) (by decide) (fun h154 => ?_) (fun h154 => absurd h154 (by decide))
      refine A_iload_n (dX6_set 86 rfl) rfl ?_
      refine A_iconst (2) (dX6_set 87 rfl) (by decide +kernel) ?_
      refine A_icmp_ne 187 (dX6_set 88 rfl) (by decide) (fun h169 => absurd (by decide) h169) (fun h169 => ?_)
      refine A_aload_n (dX6_set 89 rfl) rfl ?_
      refine A_get (dX6_set 90 rfl) fwX6_32 MW_0 MF_10 ?_
      refine A_iload_n (dX6_set 91 rfl) rfl ?_
      refine A_iload_n (dX6_set 92 rfl) rfl ?_
      refine A_aload_n (dX6_set 93 rfl) rfl ?_
      refine AW.pcq (pc2 := 179) rfl ?_
      refine A_get (dX6_set 94 rfl) fwX6_41 MW_0 MF_14 ?_
      refine A_irem (dX6_set 95 rfl) hb ?_
      refine A_iast (dX6_set 96 rfl) MW_7 (ix_man hm5 (by rw [← hgm]; assumption)) (MS_7 _) ?_
      refine A_goto 222 (dX6_set 97 rfl) (by decide) ?_
      refine A_iload (dX6_set 119 rfl) rfl ?_
      refine A_ri (dX6_set 120 rfl) rfl rfl ?_
      exact Or.inr ⟨by simp_all, told_m3 (by assumption), rfl⟩
    · refine A_bipush (-2) (dX6_set 49 rfl) (by decide +kernel) ?_
      refine A_ri (dX6_set 50 rfl) rfl rfl ?_
      exact Or.inl ⟨by simp_all, rfl, rfl⟩
  · refine A_bipush (-2) (dX6_set 22 rfl) (by decide +kernel) ?_
    refine A_ri (dX6_set 23 rfl) rfl rfl ?_
    exact Or.inl ⟨by simp_all, rfl, rfl⟩

set_option maxRecDepth 100000 in
set_option maxHeartbeats 400000 in
theorem m_set3 (E : ag) (q : Nat → Nat) (g : Nat → Int32) (tw : Int64) (a : Nat → Nat → Int32) (i v : Int32) (m : Nat) (hm5 : m ≤ 5) (hgm : g 13 = nI m) (hb : ¬ g 14 = 0) : CT E yX6_set cX6_set 5 mX6_set.2.2.2.1 4 0 0 [.ref (q 0), .int 3, .int i, .int v] (MW E q g tw a) (ri (fun r w => ((inI i 0 (g 13 - 1) = 0 ∨ inI v 0 9 = 0) ∧ r = -2 ∧ w = MW E q g tw a) ∨ (¬ (inI i 0 (g 13 - 1) = 0 ∨ inI v 0 9 = 0) ∧ r = a 8 i.toNatClampNeg ∧ w = MW E q g tw (va_up a 8 (upd (a 8) i.toNatClampNeg v))))) := by
  refine CT.of (M := mX6_set) (ls := [some (.ref (q 0)), some (.int 3), some (.int i), some (.int v), none]) (by decide) rfl (by decide) rfl (Nat.le_of_ble_eq_true rfl) ?_
  refine A_iload_n (dX6_set 0 rfl) rfl ?_
  refine A_i2l (dX6_set 1 rfl) ?_
  refine A_lconst (0) (dX6_set 2 rfl) (by decide +kernel) ?_
  refine A_ldc2 (dX6_set 3 rfl) kcX6_109 ?_
  refine A_callSWi 3 (dX6_set 4 rfl) cbX6_in cwX6_103 (m_in E _ 3 0 5 _ _ _ (by decide) (by decide) (by decide)) rfl rfl (Nat.le_of_ble_eq_true rfl) (Nat.le_of_ble_eq_true rfl) (Nat.le_of_ble_eq_true rfl) (Nat.le_of_ble_eq_true rfl) (Nat.le_of_ble_eq_true rfl) ?_
  rintro r6 w1 ⟨rfl, rfl⟩
  refine AW.pcq (pc2 := 9) rfl ?_
  refine A_if_eq 46 (dX6_set 5 rfl) (by decide) (fun h9 => absurd h9 (by decide)) (fun h9 => ?_)
  refine A_iload_n (dX6_set 6 rfl) rfl ?_
  refine A_iconst (2) (dX6_set 7 rfl) (by decide +kernel) ?_
  refine A_icmp_ge 24 (dX6_set 8 rfl) (by decide) (fun h14 => ?_) (fun h14 => absurd (by decide) h14)
  refine A_iload_n (dX6_set 12 rfl) rfl ?_
  refine A_i2l (dX6_set 13 rfl) ?_
  refine A_ldc2 (dX6_set 14 rfl) kcX6_119 ?_
  refine A_ldc2 (dX6_set 15 rfl) kcX6_121 ?_
  refine A_callSWi 3 (dX6_set 16 rfl) cbX6_in cwX6_103 (m_in E _ 3 2 4 _ _ _ (by decide) (by decide) (by decide)) rfl rfl (Nat.le_of_ble_eq_true rfl) (Nat.le_of_ble_eq_true rfl) (Nat.le_of_ble_eq_true rfl) (Nat.le_of_ble_eq_true rfl) (Nat.le_of_ble_eq_true rfl) ?_
  rintro r32 w1 ⟨rfl, rfl⟩
  refine AW.pcq (pc2 := 35) rfl ?_
  refine A_if_eq 49 (dX6_set 17 rfl) (by decide) (fun h35 => absurd h35 (by decide)) (fun h35 => ?_)
  refine A_aload_n (dX6_set 18 rfl) rfl ?_
  refine A_iload_n (dX6_set 19 rfl) rfl ?_
  refine A_callVWi 1 (dX6_set 20 rfl) cbX6_isMan cwX6_123 (m_isMan E q g tw a i) rfl rfl MW_0 rfl rfl (Nat.le_of_ble_eq_true rfl) (Nat.le_of_ble_eq_true rfl) (Nat.le_of_ble_eq_true rfl) (Nat.le_of_ble_eq_true rfl) (Nat.le_of_ble_eq_true rfl) ?_
  rintro r40 w1 ⟨rfl, rfl⟩
  refine AW.pcq (pc2 := 43) rfl ?_
  refine A_if_ne 49 (dX6_set 21 rfl) (by decide) (fun h43 => ?_) (fun h43 => ?_)
  · refine A_iload_n (dX6_set 24 rfl) rfl ?_
    refine A_i2l (dX6_set 25 rfl) ?_
    refine A_iload_n (dX6_set 26 rfl) rfl ?_
    refine A_iconst (5) (dX6_set 27 rfl) (by decide +kernel) ?_
    refine A_icmp_ne 62 (dX6_set 28 rfl) (by decide) (fun h53 => ?_) (fun h53 => absurd h53 (by decide))
    refine A_lconst (0) (dX6_set 31 rfl) (by decide +kernel) ?_
    refine A_iload_n (dX6_set 32 rfl) rfl ?_
    refine A_if_ne 73 (dX6_set 33 rfl) (by decide) (fun h64 => ?_) (fun h64 => absurd h64 (by decide))
    refine A_iload_n (dX6_set 36 rfl) rfl ?_
    refine A_iconst (2) (dX6_set 37 rfl) (by decide +kernel) ?_
    refine A_icmp_ne 84 (dX6_set 38 rfl) (by decide) (fun h75 => ?_) (fun h75 => absurd h75 (by decide))
    refine A_iload_n (dX6_set 41 rfl) rfl ?_
    refine A_iconst (5) (dX6_set 42 rfl) (by decide +kernel) ?_
    refine A_icmp_ne 95 (dX6_set 43 rfl) (by decide) (fun h86 => ?_) (fun h86 => absurd h86 (by decide))
    refine A_ldc2 (dX6_set 46 rfl) kcX6_132 ?_
    refine A_callSWi 3 (dX6_set 47 rfl) cbX6_in cwX6_103 (m_in E _ v 0 9 _ _ _ rfl (by decide) (by decide)) rfl rfl (Nat.le_of_ble_eq_true rfl) (Nat.le_of_ble_eq_true rfl) (Nat.le_of_ble_eq_true rfl) (Nat.le_of_ble_eq_true rfl) (Nat.le_of_ble_eq_true rfl) ?_
    rintro r98 w1 ⟨rfl, rfl⟩
    refine AW.pcq (pc2 := 101) rfl ?_
    refine A_if_ne 107 (dX6_set 48 rfl) (by decide) (fun h101 => ?_) (fun h101 => ?_)
    · refine A_iload_n (dX6_set 51 rfl) rfl ?_
      refine A_iconst (5) (dX6_set 52 rfl) (by decide +kernel) ?_
      refine A_icmp_ne 119 (dX6_set 53 rfl) (by decide) (fun h109 => ?_) (fun h109 => absurd h109 (by decide))
      refine A_aload_n (dX6_set 57 rfl) rfl ?_
      refine A_iload_n (dX6_set 58 rfl) rfl ?_
      refine A_iload_n (dX6_set 59 rfl) rfl ?_
      refine A_iconst (2) (dX6_set 60 rfl) (by decide +kernel) ?_
      refine A_icmp_ge 130 (dX6_set 61 rfl) (by decide) (fun h123 => ?_) (fun h123 => absurd (by decide) h123)
      refine A_iload_n (dX6_set 64 rfl) rfl ?_
      refine A_iconst (1) (dX6_set 65 rfl) (by decide +kernel) ?_
      refine A_iadd (dX6_set 66 rfl) ?_
      refine A_callVWi 2 (dX6_set 67 rfl) cbX6_told cwX6_134 (m_told E q g tw a i (3 + 1) m hm5 hgm hb) rfl rfl MW_0 rfl rfl (Nat.le_of_ble_eq_true rfl) (Nat.le_of_ble_eq_true rfl) (Nat.le_of_ble_eq_true rfl) (Nat.le_of_ble_eq_true rfl) (Nat.le_of_ble_eq_true rfl) ?_
      rintro r133 w1 ⟨rfl, rfl⟩
      refine AW.pcq (pc2 := 136) rfl ?_
      refine A_istore (ls2 := [_, _, _, _, _]) (dX6_set 68 rfl) (by decide) rfl rfl ?_
      refine A_iload_n (dX6_set 69 rfl) rfl ?_
      refine A_if_ne 152 (dX6_set 70 rfl) (by decide) (fun h139 => ?_) (fun h139 => absurd h139 (by decide))
      refine A_iload_n (dX6_set 77 rfl) rfl ?_
      refine A_iconst (1) (dX6_set 78 rfl) (by decide +kernel) ?_
      refine A_icmp_ne 167 (dX6_set 79 rfl) (by decide) (fun h154 => ?_) (fun h154 => absurd h154 (by decide))
      refine A_iload_n (dX6_set 86 rfl) rfl ?_
      refine A_iconst (2) (dX6_set 87 rfl) (by decide +kernel) ?_
      refine A_icmp_ne 187 (dX6_set 88 rfl) (by decide) (fun h169 => ?_) (fun h169 => absurd h169 (by decide))
      refine A_iload_n (dX6_set 98 rfl) rfl ?_
      refine A_iconst (3) (dX6_set 99 rfl) (by decide +kernel) ?_
      refine A_icmp_ne 202 (dX6_set 100 rfl) (by decide) (fun h189 => absurd (by decide) h189) (fun h189 => ?_)
      refine A_aload_n (dX6_set 101 rfl) rfl ?_
      refine A_get (dX6_set 102 rfl) fwX6_35 MW_0 MF_11 ?_
      refine A_iload_n (dX6_set 103 rfl) rfl ?_
      refine A_iload_n (dX6_set 104 rfl) rfl ?_
      refine A_iast (dX6_set 105 rfl) MW_8 (ix_man hm5 (by rw [← hgm]; assumption)) (MS_8 _) ?_
      refine AW.pcq (pc2 := 199) rfl ?_
      refine A_goto 222 (dX6_set 106 rfl) (by decide) ?_
      refine A_iload (dX6_set 119 rfl) rfl ?_
      refine A_ri (dX6_set 120 rfl) rfl rfl ?_
      exact Or.inr ⟨by simp_all, told_m4 (by assumption), rfl⟩
    · refine A_bipush (-2) (dX6_set 49 rfl) (by decide +kernel) ?_
      refine A_ri (dX6_set 50 rfl) rfl rfl ?_
      exact Or.inl ⟨by simp_all, rfl, rfl⟩
  · refine A_bipush (-2) (dX6_set 22 rfl) (by decide +kernel) ?_
    refine A_ri (dX6_set 23 rfl) rfl rfl ?_
    exact Or.inl ⟨by simp_all, rfl, rfl⟩

set_option maxRecDepth 100000 in
set_option maxHeartbeats 400000 in
theorem m_set4 (E : ag) (q : Nat → Nat) (g : Nat → Int32) (tw : Int64) (a : Nat → Nat → Int32) (i v : Int32) (m : Nat) (hm5 : m ≤ 5) (hgm : g 13 = nI m) (hb : ¬ g 14 = 0) : CT E yX6_set cX6_set 5 mX6_set.2.2.2.1 4 0 0 [.ref (q 0), .int 4, .int i, .int v] (MW E q g tw a) (ri (fun r w => ((inI i 0 (g 13 - 1) = 0 ∨ inI v 0 9 = 0) ∧ r = -2 ∧ w = MW E q g tw a) ∨ (¬ (inI i 0 (g 13 - 1) = 0 ∨ inI v 0 9 = 0) ∧ r = a 9 i.toNatClampNeg ∧ w = MW E q g tw (va_up a 9 (upd (a 9) i.toNatClampNeg v))))) := by
  refine CT.of (M := mX6_set) (ls := [some (.ref (q 0)), some (.int 4), some (.int i), some (.int v), none]) (by decide) rfl (by decide) rfl (Nat.le_of_ble_eq_true rfl) ?_
  refine A_iload_n (dX6_set 0 rfl) rfl ?_
  refine A_i2l (dX6_set 1 rfl) ?_
  refine A_lconst (0) (dX6_set 2 rfl) (by decide +kernel) ?_
  refine A_ldc2 (dX6_set 3 rfl) kcX6_109 ?_
  refine A_callSWi 3 (dX6_set 4 rfl) cbX6_in cwX6_103 (m_in E _ 4 0 5 _ _ _ (by decide) (by decide) (by decide)) rfl rfl (Nat.le_of_ble_eq_true rfl) (Nat.le_of_ble_eq_true rfl) (Nat.le_of_ble_eq_true rfl) (Nat.le_of_ble_eq_true rfl) (Nat.le_of_ble_eq_true rfl) ?_
  rintro r6 w1 ⟨rfl, rfl⟩
  refine AW.pcq (pc2 := 9) rfl ?_
  refine A_if_eq 46 (dX6_set 5 rfl) (by decide) (fun h9 => absurd h9 (by decide)) (fun h9 => ?_)
  refine A_iload_n (dX6_set 6 rfl) rfl ?_
  refine A_iconst (2) (dX6_set 7 rfl) (by decide +kernel) ?_
  refine A_icmp_ge 24 (dX6_set 8 rfl) (by decide) (fun h14 => ?_) (fun h14 => absurd (by decide) h14)
  refine A_iload_n (dX6_set 12 rfl) rfl ?_
  refine A_i2l (dX6_set 13 rfl) ?_
  refine A_ldc2 (dX6_set 14 rfl) kcX6_119 ?_
  refine A_ldc2 (dX6_set 15 rfl) kcX6_121 ?_
  refine A_callSWi 3 (dX6_set 16 rfl) cbX6_in cwX6_103 (m_in E _ 4 2 4 _ _ _ (by decide) (by decide) (by decide)) rfl rfl (Nat.le_of_ble_eq_true rfl) (Nat.le_of_ble_eq_true rfl) (Nat.le_of_ble_eq_true rfl) (Nat.le_of_ble_eq_true rfl) (Nat.le_of_ble_eq_true rfl) ?_
  rintro r32 w1 ⟨rfl, rfl⟩
  refine AW.pcq (pc2 := 35) rfl ?_
  refine A_if_eq 49 (dX6_set 17 rfl) (by decide) (fun h35 => absurd h35 (by decide)) (fun h35 => ?_)
  refine A_aload_n (dX6_set 18 rfl) rfl ?_
  refine A_iload_n (dX6_set 19 rfl) rfl ?_
  refine A_callVWi 1 (dX6_set 20 rfl) cbX6_isMan cwX6_123 (m_isMan E q g tw a i) rfl rfl MW_0 rfl rfl (Nat.le_of_ble_eq_true rfl) (Nat.le_of_ble_eq_true rfl) (Nat.le_of_ble_eq_true rfl) (Nat.le_of_ble_eq_true rfl) (Nat.le_of_ble_eq_true rfl) ?_
  rintro r40 w1 ⟨rfl, rfl⟩
  refine AW.pcq (pc2 := 43) rfl ?_
  refine A_if_ne 49 (dX6_set 21 rfl) (by decide) (fun h43 => ?_) (fun h43 => ?_)
  · refine A_iload_n (dX6_set 24 rfl) rfl ?_
    refine A_i2l (dX6_set 25 rfl) ?_
    refine A_iload_n (dX6_set 26 rfl) rfl ?_
    refine A_iconst (5) (dX6_set 27 rfl) (by decide +kernel) ?_
    refine A_icmp_ne 62 (dX6_set 28 rfl) (by decide) (fun h53 => ?_) (fun h53 => absurd h53 (by decide))
    refine A_lconst (0) (dX6_set 31 rfl) (by decide +kernel) ?_
    refine A_iload_n (dX6_set 32 rfl) rfl ?_
    refine A_if_ne 73 (dX6_set 33 rfl) (by decide) (fun h64 => ?_) (fun h64 => absurd h64 (by decide))
    refine A_iload_n (dX6_set 36 rfl) rfl ?_
    refine A_iconst (2) (dX6_set 37 rfl) (by decide +kernel) ?_
    refine A_icmp_ne 84 (dX6_set 38 rfl) (by decide) (fun h75 => ?_) (fun h75 => absurd h75 (by decide))
    refine A_iload_n (dX6_set 41 rfl) rfl ?_
    refine A_iconst (5) (dX6_set 42 rfl) (by decide +kernel) ?_
    refine A_icmp_ne 95 (dX6_set 43 rfl) (by decide) (fun h86 => ?_) (fun h86 => absurd h86 (by decide))
    refine A_ldc2 (dX6_set 46 rfl) kcX6_132 ?_
    refine A_callSWi 3 (dX6_set 47 rfl) cbX6_in cwX6_103 (m_in E _ v 0 9 _ _ _ rfl (by decide) (by decide)) rfl rfl (Nat.le_of_ble_eq_true rfl) (Nat.le_of_ble_eq_true rfl) (Nat.le_of_ble_eq_true rfl) (Nat.le_of_ble_eq_true rfl) (Nat.le_of_ble_eq_true rfl) ?_
    rintro r98 w1 ⟨rfl, rfl⟩
    refine AW.pcq (pc2 := 101) rfl ?_
    refine A_if_ne 107 (dX6_set 48 rfl) (by decide) (fun h101 => ?_) (fun h101 => ?_)
    · refine A_iload_n (dX6_set 51 rfl) rfl ?_
      refine A_iconst (5) (dX6_set 52 rfl) (by decide +kernel) ?_
      refine A_icmp_ne 119 (dX6_set 53 rfl) (by decide) (fun h109 => ?_) (fun h109 => absurd h109 (by decide))
      refine A_aload_n (dX6_set 57 rfl) rfl ?_
      refine A_iload_n (dX6_set 58 rfl) rfl ?_
      refine A_iload_n (dX6_set 59 rfl) rfl ?_
      refine A_iconst (2) (dX6_set 60 rfl) (by decide +kernel) ?_
      refine A_icmp_ge 130 (dX6_set 61 rfl) (by decide) (fun h123 => ?_) (fun h123 => absurd (by decide) h123)
      refine A_iload_n (dX6_set 64 rfl) rfl ?_
      refine A_iconst (1) (dX6_set 65 rfl) (by decide +kernel) ?_
      refine A_iadd (dX6_set 66 rfl) ?_
      refine A_callVWi 2 (dX6_set 67 rfl) cbX6_told cwX6_134 (m_told E q g tw a i (4 + 1) m hm5 hgm hb) rfl rfl MW_0 rfl rfl (Nat.le_of_ble_eq_true rfl) (Nat.le_of_ble_eq_true rfl) (Nat.le_of_ble_eq_true rfl) (Nat.le_of_ble_eq_true rfl) (Nat.le_of_ble_eq_true rfl) ?_
      rintro r133 w1 ⟨rfl, rfl⟩
      refine AW.pcq (pc2 := 136) rfl ?_
      refine A_istore (ls2 := [_, _, _, _, _]) (dX6_set 68 rfl) (by decide) rfl rfl ?_
      refine A_iload_n (dX6_set 69 rfl) rfl ?_
      refine A_if_ne 152 (dX6_set 70 rfl) (by decide) (fun h139 => ?_) (fun h139 => absurd h139 (by decide))
      refine A_iload_n (dX6_set 77 rfl) rfl ?_
      refine A_iconst (1) (dX6_set 78 rfl) (by decide +kernel) ?_
      refine A_icmp_ne 167 (dX6_set 79 rfl) (by decide) (fun h154 => ?_) (fun h154 => absurd h154 (by decide))
      refine A_iload_n (dX6_set 86 rfl) rfl ?_
      refine A_iconst (2) (dX6_set 87 rfl) (by decide +kernel) ?_
      refine A_icmp_ne 187 (dX6_set 88 rfl) (by decide) (fun h169 => ?_) (fun h169 => absurd h169 (by decide))
      refine A_iload_n (dX6_set 98 rfl) rfl ?_
      refine A_iconst (3) (dX6_set 99 rfl) (by decide +kernel) ?_
      refine A_icmp_ne 202 (dX6_set 100 rfl) (by decide) (fun h189 => ?_) (fun h189 => absurd h189 (by decide))
      refine A_iload_n (dX6_set 107 rfl) rfl ?_
      refine A_iconst (4) (dX6_set 108 rfl) (by decide +kernel) ?_
      refine A_icmp_ne 217 (dX6_set 109 rfl) (by decide) (fun h204 => absurd (by decide) h204) (fun h204 => ?_)
      refine A_aload_n (dX6_set 110 rfl) rfl ?_
      refine A_get (dX6_set 111 rfl) fwX6_38 MW_0 MF_12 ?_
      refine A_iload_n (dX6_set 112 rfl) rfl ?_
      refine A_iload_n (dX6_set 113 rfl) rfl ?_
      refine A_iast (dX6_set 114 rfl) MW_9 (ix_man hm5 (by rw [← hgm]; assumption)) (MS_9 _) ?_
      refine AW.pcq (pc2 := 214) rfl ?_
      refine A_goto 222 (dX6_set 115 rfl) (by decide) ?_
      refine A_iload (dX6_set 119 rfl) rfl ?_
      refine A_ri (dX6_set 120 rfl) rfl rfl ?_
      exact Or.inr ⟨by simp_all, told_m5 (by assumption), rfl⟩
    · refine A_bipush (-2) (dX6_set 49 rfl) (by decide +kernel) ?_
      refine A_ri (dX6_set 50 rfl) rfl rfl ?_
      exact Or.inl ⟨by simp_all, rfl, rfl⟩
  · refine A_bipush (-2) (dX6_set 22 rfl) (by decide +kernel) ?_
    refine A_ri (dX6_set 23 rfl) rfl rfl ?_
    exact Or.inl ⟨by simp_all, rfl, rfl⟩

set_option maxRecDepth 100000 in
set_option maxHeartbeats 400000 in
theorem m_set5 (E : ag) (q : Nat → Nat) (g : Nat → Int32) (tw : Int64) (a : Nat → Nat → Int32) (i v : Int32) (m : Nat) (hm5 : m ≤ 5) (hgm : g 13 = nI m) (hb : ¬ g 14 = 0) : CT E yX6_set cX6_set 5 mX6_set.2.2.2.1 4 0 0 [.ref (q 0), .int 5, .int i, .int v] (MW E q g tw a) (ri (fun r w => ((inI v 12 240 = 0) ∧ r = -2 ∧ w = MW E q g tw a) ∨ (¬ (inI v 12 240 = 0) ∧ r = g 14 ∧ w = MW E q (upd g 14 v) tw (va_up a 7 (cp m (rmf v (a 7)) (a 7)))))) := by
  refine CT.of (M := mX6_set) (ls := [some (.ref (q 0)), some (.int 5), some (.int i), some (.int v), none]) (by decide) rfl (by decide) rfl (Nat.le_of_ble_eq_true rfl) ?_
  refine A_iload_n (dX6_set 0 rfl) rfl ?_
  refine A_i2l (dX6_set 1 rfl) ?_
  refine A_lconst (0) (dX6_set 2 rfl) (by decide +kernel) ?_
  refine A_ldc2 (dX6_set 3 rfl) kcX6_109 ?_
  refine A_callSWi 3 (dX6_set 4 rfl) cbX6_in cwX6_103 (m_in E _ 5 0 5 _ _ _ (by decide) (by decide) (by decide)) rfl rfl (Nat.le_of_ble_eq_true rfl) (Nat.le_of_ble_eq_true rfl) (Nat.le_of_ble_eq_true rfl) (Nat.le_of_ble_eq_true rfl) (Nat.le_of_ble_eq_true rfl) ?_
  rintro r6 w1 ⟨rfl, rfl⟩
  refine AW.pcq (pc2 := 9) rfl ?_
  refine A_if_eq 46 (dX6_set 5 rfl) (by decide) (fun h9 => absurd h9 (by decide)) (fun h9 => ?_)
  refine A_iload_n (dX6_set 6 rfl) rfl ?_
  refine A_iconst (2) (dX6_set 7 rfl) (by decide +kernel) ?_
  refine A_icmp_ge 24 (dX6_set 8 rfl) (by decide) (fun h14 => ?_) (fun h14 => absurd (by decide) h14)
  refine A_iload_n (dX6_set 12 rfl) rfl ?_
  refine A_i2l (dX6_set 13 rfl) ?_
  refine A_ldc2 (dX6_set 14 rfl) kcX6_119 ?_
  refine A_ldc2 (dX6_set 15 rfl) kcX6_121 ?_
  refine A_callSWi 3 (dX6_set 16 rfl) cbX6_in cwX6_103 (m_in E _ 5 2 4 _ _ _ (by decide) (by decide) (by decide)) rfl rfl (Nat.le_of_ble_eq_true rfl) (Nat.le_of_ble_eq_true rfl) (Nat.le_of_ble_eq_true rfl) (Nat.le_of_ble_eq_true rfl) (Nat.le_of_ble_eq_true rfl) ?_
  rintro r32 w1 ⟨rfl, rfl⟩
  refine AW.pcq (pc2 := 35) rfl ?_
  refine A_if_eq 49 (dX6_set 17 rfl) (by decide) (fun h35 => ?_) (fun h35 => absurd (by decide) h35)
  refine A_iload_n (dX6_set 24 rfl) rfl ?_
  refine A_i2l (dX6_set 25 rfl) ?_
  refine A_iload_n (dX6_set 26 rfl) rfl ?_
  refine A_iconst (5) (dX6_set 27 rfl) (by decide +kernel) ?_
  refine A_icmp_ne 62 (dX6_set 28 rfl) (by decide) (fun h53 => absurd (by decide) h53) (fun h53 => ?_)
  refine A_ldc2 (dX6_set 29 rfl) kcX6_126 ?_
  refine A_goto 63 (dX6_set 30 rfl) (by decide) ?_
  refine A_iload_n (dX6_set 32 rfl) rfl ?_
  refine A_if_ne 73 (dX6_set 33 rfl) (by decide) (fun h64 => ?_) (fun h64 => absurd h64 (by decide))
  refine A_iload_n (dX6_set 36 rfl) rfl ?_
  refine A_iconst (2) (dX6_set 37 rfl) (by decide +kernel) ?_
  refine A_icmp_ne 84 (dX6_set 38 rfl) (by decide) (fun h75 => ?_) (fun h75 => absurd h75 (by decide))
  refine A_iload_n (dX6_set 41 rfl) rfl ?_
  refine A_iconst (5) (dX6_set 42 rfl) (by decide +kernel) ?_
  refine A_icmp_ne 95 (dX6_set 43 rfl) (by decide) (fun h86 => absurd (by decide) h86) (fun h86 => ?_)
  refine A_ldc2 (dX6_set 44 rfl) kcX6_130 ?_
  refine A_goto 98 (dX6_set 45 rfl) (by decide) ?_
  refine A_callSWi 3 (dX6_set 47 rfl) cbX6_in cwX6_103 (m_in E _ v 12 240 _ _ _ rfl (by decide) (by decide)) rfl rfl (Nat.le_of_ble_eq_true rfl) (Nat.le_of_ble_eq_true rfl) (Nat.le_of_ble_eq_true rfl) (Nat.le_of_ble_eq_true rfl) (Nat.le_of_ble_eq_true rfl) ?_
  rintro r98 w1 ⟨rfl, rfl⟩
  refine AW.pcq (pc2 := 101) rfl ?_
  refine A_if_ne 107 (dX6_set 48 rfl) (by decide) (fun h101 => ?_) (fun h101 => ?_)
  · refine A_iload_n (dX6_set 51 rfl) rfl ?_
    refine A_iconst (5) (dX6_set 52 rfl) (by decide +kernel) ?_
    refine A_icmp_ne 119 (dX6_set 53 rfl) (by decide) (fun h109 => absurd (by decide) h109) (fun h109 => ?_)
    refine A_aload_n (dX6_set 54 rfl) rfl ?_
    refine A_get (dX6_set 55 rfl) fwX6_41 MW_0 MF_14 ?_
    refine A_goto 136 (dX6_set 56 rfl) (by decide) ?_
    refine A_istore (ls2 := [_, _, _, _, _]) (dX6_set 68 rfl) (by decide) rfl rfl ?_
    refine A_iload_n (dX6_set 69 rfl) rfl ?_
    refine A_if_ne 152 (dX6_set 70 rfl) (by decide) (fun h139 => ?_) (fun h139 => absurd h139 (by decide))
    refine A_iload_n (dX6_set 77 rfl) rfl ?_
    refine A_iconst (1) (dX6_set 78 rfl) (by decide +kernel) ?_
    refine A_icmp_ne 167 (dX6_set 79 rfl) (by decide) (fun h154 => ?_) (fun h154 => absurd h154 (by decide))
    refine A_iload_n (dX6_set 86 rfl) rfl ?_
    refine A_iconst (2) (dX6_set 87 rfl) (by decide +kernel) ?_
    refine A_icmp_ne 187 (dX6_set 88 rfl) (by decide) (fun h169 => ?_) (fun h169 => absurd h169 (by decide))
    refine A_iload_n (dX6_set 98 rfl) rfl ?_
    refine A_iconst (3) (dX6_set 99 rfl) (by decide +kernel) ?_
    refine A_icmp_ne 202 (dX6_set 100 rfl) (by decide) (fun h189 => ?_) (fun h189 => absurd h189 (by decide))
    refine A_iload_n (dX6_set 107 rfl) rfl ?_
    refine A_iconst (4) (dX6_set 108 rfl) (by decide +kernel) ?_
    refine A_icmp_ne 217 (dX6_set 109 rfl) (by decide) (fun h204 => ?_) (fun h204 => absurd h204 (by decide))
    refine A_aload_n (dX6_set 116 rfl) rfl ?_
    refine A_iload_n (dX6_set 117 rfl) rfl ?_
    refine A_callVWv 1 (dX6_set 118 rfl) cbX6_bars cwX6_138 (m_bars E q g tw a v m hm5 hgm (fun z => by subst z; exact absurd (by decide) h101)) rfl rfl MW_0 rfl rfl (Nat.le_of_ble_eq_true rfl) (Nat.le_of_ble_eq_true rfl) (Nat.le_of_ble_eq_true rfl) (Nat.le_of_ble_eq_true rfl) (Nat.le_of_ble_eq_true rfl) ?_
    rintro w1 rfl
    refine AW.pcq (pc2 := 222) rfl ?_
    refine A_iload (dX6_set 119 rfl) rfl ?_
    refine A_ri (dX6_set 120 rfl) rfl rfl ?_
    exact Or.inr ⟨by simp_all, rfl, rfl⟩
  · refine A_bipush (-2) (dX6_set 49 rfl) (by decide +kernel) ?_
    refine A_ri (dX6_set 50 rfl) rfl rfl ?_
    exact Or.inl ⟨by simp_all, rfl, rfl⟩

set_option maxRecDepth 100000 in
set_option maxHeartbeats 400000 in
theorem m_setN (E : ag) (q : Nat → Nat) (g : Nat → Int32) (tw : Int64) (a : Nat → Nat → Int32) (k i v : Int32) (hk : inI k 0 5 = 0) : CT E yX6_set cX6_set 5 mX6_set.2.2.2.1 4 0 0 [.ref (q 0), .int k, .int i, .int v] (MW E q g tw a) (ri (fun r w => r = -2 ∧ w = MW E q g tw a)) := by
  refine CT.of (M := mX6_set) (ls := [some (.ref (q 0)), some (.int k), some (.int i), some (.int v), none]) (by decide) rfl (by decide) rfl (Nat.le_of_ble_eq_true rfl) ?_
  refine A_iload_n (dX6_set 0 rfl) rfl ?_
  refine A_i2l (dX6_set 1 rfl) ?_
  refine A_lconst (0) (dX6_set 2 rfl) (by decide +kernel) ?_
  refine A_ldc2 (dX6_set 3 rfl) kcX6_109 ?_
  refine A_callSWi 3 (dX6_set 4 rfl) cbX6_in cwX6_103 (m_in E _ k 0 5 _ _ _ rfl (by decide) (by decide)) rfl rfl (Nat.le_of_ble_eq_true rfl) (Nat.le_of_ble_eq_true rfl) (Nat.le_of_ble_eq_true rfl) (Nat.le_of_ble_eq_true rfl) (Nat.le_of_ble_eq_true rfl) ?_
  rintro r6 w1 ⟨rfl, rfl⟩
  refine AW.pcq (pc2 := 9) rfl ?_
  refine A_if_eq 46 (dX6_set 5 rfl) (by decide) (fun h9 => ?_) (fun h9 => absurd hk h9)
  refine A_bipush (-2) (dX6_set 22 rfl) (by decide +kernel) ?_
  refine A_ri (dX6_set 23 rfl) rfl rfl ?_
  exact ⟨rfl, rfl⟩

def ovr (x : Int32) : Int32 := if x = 0 then -1 else if x = 1 ∨ x = 2 then 0 else if x = 3 then 2 else if x = 4 then 1 else 3
set_option maxRecDepth 100000 in
set_option maxHeartbeats 400000 in
theorem m_over (E : ag) (ws : va_W) (x : Int32) : CT E yX6_over cX6_over 1 mX6_over.2.2.2.1 1 0 0 [.int x] (ws) (ri (fun r w => r = ovr x ∧ w = ws)) := by
  refine CT.of (M := mX6_over) (ls := [some (.int x)]) (by decide) rfl (by decide) rfl (Nat.le_of_ble_eq_true rfl) ?_
  refine A_iload_n (dX6_over 0 rfl) rfl ?_
  refine A_if_ne 8 (dX6_over 1 rfl) (by decide) (fun h1 => ?_) (fun h1 => ?_)
  · refine A_iload_n (dX6_over 4 rfl) rfl ?_
    refine A_iconst (1) (dX6_over 5 rfl) (by decide +kernel) ?_
    refine A_icmp_eq 18 (dX6_over 6 rfl) (by decide) (fun h10 => ?_) (fun h10 => ?_)
    · refine A_iconst (0) (dX6_over 10 rfl) (by decide +kernel) ?_
      refine A_goto 41 (dX6_over 11 rfl) (by decide) ?_
      refine A_ri (dX6_over 23 rfl) rfl rfl ?_
      refine ⟨?_, rfl⟩
      simp_all [ovr]
    · refine A_iload_n (dX6_over 7 rfl) rfl ?_
      refine A_iconst (2) (dX6_over 8 rfl) (by decide +kernel) ?_
      refine A_icmp_ne 22 (dX6_over 9 rfl) (by decide) (fun h15 => ?_) (fun h15 => ?_)
      · refine A_iload_n (dX6_over 12 rfl) rfl ?_
        refine A_iconst (3) (dX6_over 13 rfl) (by decide +kernel) ?_
        refine A_icmp_ne 31 (dX6_over 14 rfl) (by decide) (fun h24 => ?_) (fun h24 => ?_)
        · refine A_iload_n (dX6_over 17 rfl) rfl ?_
          refine A_iconst (4) (dX6_over 18 rfl) (by decide +kernel) ?_
          refine A_icmp_ne 40 (dX6_over 19 rfl) (by decide) (fun h33 => ?_) (fun h33 => ?_)
          · refine A_iconst (3) (dX6_over 22 rfl) (by decide +kernel) ?_
            refine A_ri (dX6_over 23 rfl) rfl rfl ?_
            refine ⟨?_, rfl⟩
            simp_all [ovr]
          · refine A_iconst (1) (dX6_over 20 rfl) (by decide +kernel) ?_
            refine A_goto 41 (dX6_over 21 rfl) (by decide) ?_
            refine A_ri (dX6_over 23 rfl) rfl rfl ?_
            refine ⟨?_, rfl⟩
            simp_all [ovr]
        · refine A_iconst (2) (dX6_over 15 rfl) (by decide +kernel) ?_
          refine A_goto 41 (dX6_over 16 rfl) (by decide) ?_
          refine A_ri (dX6_over 23 rfl) rfl rfl ?_
          refine ⟨?_, rfl⟩
          simp_all [ovr]
      · refine A_iconst (0) (dX6_over 10 rfl) (by decide +kernel) ?_
        refine A_goto 41 (dX6_over 11 rfl) (by decide) ?_
        refine A_ri (dX6_over 23 rfl) rfl rfl ?_
        refine ⟨?_, rfl⟩
        simp_all [ovr]
  · refine A_iconst (-1) (dX6_over 2 rfl) (by decide +kernel) ?_
    refine A_goto 41 (dX6_over 3 rfl) (by decide) ?_
    refine A_ri (dX6_over 23 rfl) rfl rfl ?_
    refine ⟨?_, rfl⟩
    simp_all [ovr]

def und (x k : Int32) : Prop := k = x ∨ (x = 1 ∧ k = 0) ∨ (x = 2 ∧ k = 0) ∨ (x = 3 ∧ (k = 2 ∨ k = 0)) ∨ (x = 4 ∧ (k = 1 ∨ k = 0)) ∨ (x = 5 ∧ (k = 3 ∨ k = 2 ∨ k = 0))
set_option maxRecDepth 100000 in
set_option maxHeartbeats 400000 in
theorem m_taken0 (E : ag) (q : Nat → Nat) (g : Nat → Int32) (tw : Int64) (a : Nat → Nat → Int32) (i k : Int32) (hi : vp_in i 5) (hk : ¬ k = -1) : AW E mX6_taken 3 0 0 33 [some (.ref (q 0)), some (.int i), some (.int k), some (.int 0)] [] (MW E q g tw a) (ri (fun r w => ((und 0 k ∧ r = a 8 i.toNatClampNeg) ∨ (¬ und 0 k ∧ r = -13)) ∧ w = MW E q g tw a)) := by
  refine A_iload_n (dX6_taken 19 rfl) rfl ?_
  refine A_iconst (-1) (dX6_taken 20 rfl) (by decide +kernel) ?_
  refine A_icmp_eq 51 (dX6_taken 21 rfl) (by decide) (fun h35 => absurd h35 (by decide)) (fun h35 => ?_)
  refine A_iload_n (dX6_taken 22 rfl) rfl ?_
  refine A_iload_n (dX6_taken 23 rfl) rfl ?_
  refine A_icmp_eq 51 (dX6_taken 24 rfl) (by decide) (fun e0 => ?_) (fun e0 => ?_)
  · refine A_iload_n (dX6_taken 29 rfl) rfl ?_
    refine A_iload_n (dX6_taken 30 rfl) rfl ?_
    refine A_icmp_ne 65 (dX6_taken 31 rfl) (by decide) (fun h53 => ?_) (fun h53 => ?_)
    · refine A_bipush (-13) (dX6_taken 37 rfl) (by decide +kernel) ?_
      refine A_ri (dX6_taken 38 rfl) rfl rfl ?_
      first | (refine ⟨Or.inl ⟨?_, rfl⟩, rfl⟩; subst_vars; unfold und; decide) | (refine ⟨Or.inr ⟨?_, rfl⟩, rfl⟩; unfold und; intro z; rcases z with z | ⟨z0, z⟩ | ⟨z0, z⟩ | ⟨z0, z | z⟩ | ⟨z0, z | z⟩ | ⟨z0, z | z | z⟩ <;> subst_vars <;> first | contradiction | (revert z0; decide) | simp_all [ovr])
    · refine A_aload_n (dX6_taken 32 rfl) rfl ?_
      refine A_get (dX6_taken 33 rfl) fwX6_35 MW_0 MF_11 ?_
      refine A_iload_n (dX6_taken 34 rfl) rfl ?_
      refine A_iald (dX6_taken 35 rfl) MW_8 hi ?_
      refine A_goto 67 (dX6_taken 36 rfl) (by decide) ?_
      refine A_ri (dX6_taken 38 rfl) rfl rfl ?_
      first | (refine ⟨Or.inl ⟨?_, rfl⟩, rfl⟩; subst_vars; unfold und; decide) | (refine ⟨Or.inr ⟨?_, rfl⟩, rfl⟩; unfold und; intro z; rcases z with z | ⟨z0, z⟩ | ⟨z0, z⟩ | ⟨z0, z | z⟩ | ⟨z0, z | z⟩ | ⟨z0, z | z | z⟩ <;> subst_vars <;> first | contradiction | (revert z0; decide) | simp_all [ovr])
  · refine A_iload_n (dX6_taken 25 rfl) rfl ?_
    refine A_callSWi 1 (dX6_taken 26 rfl) cbX6_over cwX6_395 (m_over E _ (0)) rfl rfl (Nat.le_of_ble_eq_true rfl) (Nat.le_of_ble_eq_true rfl) (Nat.le_of_ble_eq_true rfl) (Nat.le_of_ble_eq_true rfl) (Nat.le_of_ble_eq_true rfl) ?_
    rintro r44 w1 ⟨rfl, rfl⟩
    refine AW.pcq (pc2 := 47) rfl ?_
    refine A_istore_n (ls2 := [_, _, _, _]) (dX6_taken 27 rfl) (by decide) rfl rfl ?_
    refine A_goto 33 (dX6_taken 28 rfl) (by decide) ?_
    refine A_iload_n (dX6_taken 19 rfl) rfl ?_
    refine A_iconst (-1) (dX6_taken 20 rfl) (by decide +kernel) ?_
    refine A_icmp_eq 51 (dX6_taken 21 rfl) (by decide) (fun h35 => ?_) (fun h35 => absurd (by decide) h35)
    refine A_iload_n (dX6_taken 29 rfl) rfl ?_
    refine A_iload_n (dX6_taken 30 rfl) rfl ?_
    refine A_icmp_ne 65 (dX6_taken 31 rfl) (by decide) (fun e53 => ?_) (fun e53 => absurd e53 (fun z => hk (by rw [← z]; decide)))
    refine A_bipush (-13) (dX6_taken 37 rfl) (by decide +kernel) ?_
    refine A_ri (dX6_taken 38 rfl) rfl rfl ?_
    first | (refine ⟨Or.inl ⟨?_, rfl⟩, rfl⟩; subst_vars; unfold und; decide) | (refine ⟨Or.inr ⟨?_, rfl⟩, rfl⟩; unfold und; intro z; rcases z with z | ⟨z0, z⟩ | ⟨z0, z⟩ | ⟨z0, z | z⟩ | ⟨z0, z | z⟩ | ⟨z0, z | z | z⟩ <;> subst_vars <;> first | contradiction | (revert z0; decide) | simp_all [ovr])

set_option maxRecDepth 100000 in
set_option maxHeartbeats 400000 in
theorem m_taken1 (E : ag) (q : Nat → Nat) (g : Nat → Int32) (tw : Int64) (a : Nat → Nat → Int32) (i k : Int32) (hi : vp_in i 5) (hk : ¬ k = -1) : AW E mX6_taken 3 0 0 33 [some (.ref (q 0)), some (.int i), some (.int k), some (.int 1)] [] (MW E q g tw a) (ri (fun r w => ((und 1 k ∧ r = a 8 i.toNatClampNeg) ∨ (¬ und 1 k ∧ r = -13)) ∧ w = MW E q g tw a)) := by
  refine A_iload_n (dX6_taken 19 rfl) rfl ?_
  refine A_iconst (-1) (dX6_taken 20 rfl) (by decide +kernel) ?_
  refine A_icmp_eq 51 (dX6_taken 21 rfl) (by decide) (fun h35 => absurd h35 (by decide)) (fun h35 => ?_)
  refine A_iload_n (dX6_taken 22 rfl) rfl ?_
  refine A_iload_n (dX6_taken 23 rfl) rfl ?_
  refine A_icmp_eq 51 (dX6_taken 24 rfl) (by decide) (fun e0 => ?_) (fun e0 => ?_)
  · refine A_iload_n (dX6_taken 29 rfl) rfl ?_
    refine A_iload_n (dX6_taken 30 rfl) rfl ?_
    refine A_icmp_ne 65 (dX6_taken 31 rfl) (by decide) (fun h53 => ?_) (fun h53 => ?_)
    · refine A_bipush (-13) (dX6_taken 37 rfl) (by decide +kernel) ?_
      refine A_ri (dX6_taken 38 rfl) rfl rfl ?_
      first | (refine ⟨Or.inl ⟨?_, rfl⟩, rfl⟩; subst_vars; unfold und; decide) | (refine ⟨Or.inr ⟨?_, rfl⟩, rfl⟩; unfold und; intro z; rcases z with z | ⟨z0, z⟩ | ⟨z0, z⟩ | ⟨z0, z | z⟩ | ⟨z0, z | z⟩ | ⟨z0, z | z | z⟩ <;> subst_vars <;> first | contradiction | (revert z0; decide) | simp_all [ovr])
    · refine A_aload_n (dX6_taken 32 rfl) rfl ?_
      refine A_get (dX6_taken 33 rfl) fwX6_35 MW_0 MF_11 ?_
      refine A_iload_n (dX6_taken 34 rfl) rfl ?_
      refine A_iald (dX6_taken 35 rfl) MW_8 hi ?_
      refine A_goto 67 (dX6_taken 36 rfl) (by decide) ?_
      refine A_ri (dX6_taken 38 rfl) rfl rfl ?_
      first | (refine ⟨Or.inl ⟨?_, rfl⟩, rfl⟩; subst_vars; unfold und; decide) | (refine ⟨Or.inr ⟨?_, rfl⟩, rfl⟩; unfold und; intro z; rcases z with z | ⟨z0, z⟩ | ⟨z0, z⟩ | ⟨z0, z | z⟩ | ⟨z0, z | z⟩ | ⟨z0, z | z | z⟩ <;> subst_vars <;> first | contradiction | (revert z0; decide) | simp_all [ovr])
  · refine A_iload_n (dX6_taken 25 rfl) rfl ?_
    refine A_callSWi 1 (dX6_taken 26 rfl) cbX6_over cwX6_395 (m_over E _ (1)) rfl rfl (Nat.le_of_ble_eq_true rfl) (Nat.le_of_ble_eq_true rfl) (Nat.le_of_ble_eq_true rfl) (Nat.le_of_ble_eq_true rfl) (Nat.le_of_ble_eq_true rfl) ?_
    rintro r44 w1 ⟨rfl, rfl⟩
    refine AW.pcq (pc2 := 47) rfl ?_
    refine A_istore_n (ls2 := [_, _, _, _]) (dX6_taken 27 rfl) (by decide) rfl rfl ?_
    refine A_goto 33 (dX6_taken 28 rfl) (by decide) ?_
    refine A_iload_n (dX6_taken 19 rfl) rfl ?_
    refine A_iconst (-1) (dX6_taken 20 rfl) (by decide +kernel) ?_
    refine A_icmp_eq 51 (dX6_taken 21 rfl) (by decide) (fun h35 => absurd h35 (by decide)) (fun h35 => ?_)
    refine A_iload_n (dX6_taken 22 rfl) rfl ?_
    refine A_iload_n (dX6_taken 23 rfl) rfl ?_
    refine A_icmp_eq 51 (dX6_taken 24 rfl) (by decide) (fun e1 => ?_) (fun e1 => ?_)
    · refine A_iload_n (dX6_taken 29 rfl) rfl ?_
      refine A_iload_n (dX6_taken 30 rfl) rfl ?_
      refine A_icmp_ne 65 (dX6_taken 31 rfl) (by decide) (fun h53 => ?_) (fun h53 => ?_)
      · refine A_bipush (-13) (dX6_taken 37 rfl) (by decide +kernel) ?_
        refine A_ri (dX6_taken 38 rfl) rfl rfl ?_
        first | (refine ⟨Or.inl ⟨?_, rfl⟩, rfl⟩; subst_vars; unfold und; decide) | (refine ⟨Or.inr ⟨?_, rfl⟩, rfl⟩; unfold und; intro z; rcases z with z | ⟨z0, z⟩ | ⟨z0, z⟩ | ⟨z0, z | z⟩ | ⟨z0, z | z⟩ | ⟨z0, z | z | z⟩ <;> subst_vars <;> first | contradiction | (revert z0; decide) | simp_all [ovr])
      · refine A_aload_n (dX6_taken 32 rfl) rfl ?_
        refine A_get (dX6_taken 33 rfl) fwX6_35 MW_0 MF_11 ?_
        refine A_iload_n (dX6_taken 34 rfl) rfl ?_
        refine A_iald (dX6_taken 35 rfl) MW_8 hi ?_
        refine A_goto 67 (dX6_taken 36 rfl) (by decide) ?_
        refine A_ri (dX6_taken 38 rfl) rfl rfl ?_
        first | (refine ⟨Or.inl ⟨?_, rfl⟩, rfl⟩; subst_vars; unfold und; decide) | (refine ⟨Or.inr ⟨?_, rfl⟩, rfl⟩; unfold und; intro z; rcases z with z | ⟨z0, z⟩ | ⟨z0, z⟩ | ⟨z0, z | z⟩ | ⟨z0, z | z⟩ | ⟨z0, z | z | z⟩ <;> subst_vars <;> first | contradiction | (revert z0; decide) | simp_all [ovr])
    · refine A_iload_n (dX6_taken 25 rfl) rfl ?_
      refine A_callSWi 1 (dX6_taken 26 rfl) cbX6_over cwX6_395 (m_over E _ (ovr 1)) rfl rfl (Nat.le_of_ble_eq_true rfl) (Nat.le_of_ble_eq_true rfl) (Nat.le_of_ble_eq_true rfl) (Nat.le_of_ble_eq_true rfl) (Nat.le_of_ble_eq_true rfl) ?_
      rintro r44 w1 ⟨rfl, rfl⟩
      refine AW.pcq (pc2 := 47) rfl ?_
      refine A_istore_n (ls2 := [_, _, _, _]) (dX6_taken 27 rfl) (by decide) rfl rfl ?_
      refine A_goto 33 (dX6_taken 28 rfl) (by decide) ?_
      refine A_iload_n (dX6_taken 19 rfl) rfl ?_
      refine A_iconst (-1) (dX6_taken 20 rfl) (by decide +kernel) ?_
      refine A_icmp_eq 51 (dX6_taken 21 rfl) (by decide) (fun h35 => ?_) (fun h35 => absurd (by decide) h35)
      refine A_iload_n (dX6_taken 29 rfl) rfl ?_
      refine A_iload_n (dX6_taken 30 rfl) rfl ?_
      refine A_icmp_ne 65 (dX6_taken 31 rfl) (by decide) (fun e53 => ?_) (fun e53 => absurd e53 (fun z => hk (by rw [← z]; decide)))
      refine A_bipush (-13) (dX6_taken 37 rfl) (by decide +kernel) ?_
      refine A_ri (dX6_taken 38 rfl) rfl rfl ?_
      first | (refine ⟨Or.inl ⟨?_, rfl⟩, rfl⟩; subst_vars; unfold und; decide) | (refine ⟨Or.inr ⟨?_, rfl⟩, rfl⟩; unfold und; intro z; rcases z with z | ⟨z0, z⟩ | ⟨z0, z⟩ | ⟨z0, z | z⟩ | ⟨z0, z | z⟩ | ⟨z0, z | z | z⟩ <;> subst_vars <;> first | contradiction | (revert z0; decide) | simp_all [ovr])

set_option maxRecDepth 100000 in
set_option maxHeartbeats 400000 in
theorem m_taken2 (E : ag) (q : Nat → Nat) (g : Nat → Int32) (tw : Int64) (a : Nat → Nat → Int32) (i k : Int32) (hi : vp_in i 5) (hk : ¬ k = -1) : AW E mX6_taken 3 0 0 33 [some (.ref (q 0)), some (.int i), some (.int k), some (.int 2)] [] (MW E q g tw a) (ri (fun r w => ((und 2 k ∧ r = a 8 i.toNatClampNeg) ∨ (¬ und 2 k ∧ r = -13)) ∧ w = MW E q g tw a)) := by
  refine A_iload_n (dX6_taken 19 rfl) rfl ?_
  refine A_iconst (-1) (dX6_taken 20 rfl) (by decide +kernel) ?_
  refine A_icmp_eq 51 (dX6_taken 21 rfl) (by decide) (fun h35 => absurd h35 (by decide)) (fun h35 => ?_)
  refine A_iload_n (dX6_taken 22 rfl) rfl ?_
  refine A_iload_n (dX6_taken 23 rfl) rfl ?_
  refine A_icmp_eq 51 (dX6_taken 24 rfl) (by decide) (fun e0 => ?_) (fun e0 => ?_)
  · refine A_iload_n (dX6_taken 29 rfl) rfl ?_
    refine A_iload_n (dX6_taken 30 rfl) rfl ?_
    refine A_icmp_ne 65 (dX6_taken 31 rfl) (by decide) (fun h53 => ?_) (fun h53 => ?_)
    · refine A_bipush (-13) (dX6_taken 37 rfl) (by decide +kernel) ?_
      refine A_ri (dX6_taken 38 rfl) rfl rfl ?_
      first | (refine ⟨Or.inl ⟨?_, rfl⟩, rfl⟩; subst_vars; unfold und; decide) | (refine ⟨Or.inr ⟨?_, rfl⟩, rfl⟩; unfold und; intro z; rcases z with z | ⟨z0, z⟩ | ⟨z0, z⟩ | ⟨z0, z | z⟩ | ⟨z0, z | z⟩ | ⟨z0, z | z | z⟩ <;> subst_vars <;> first | contradiction | (revert z0; decide) | simp_all [ovr])
    · refine A_aload_n (dX6_taken 32 rfl) rfl ?_
      refine A_get (dX6_taken 33 rfl) fwX6_35 MW_0 MF_11 ?_
      refine A_iload_n (dX6_taken 34 rfl) rfl ?_
      refine A_iald (dX6_taken 35 rfl) MW_8 hi ?_
      refine A_goto 67 (dX6_taken 36 rfl) (by decide) ?_
      refine A_ri (dX6_taken 38 rfl) rfl rfl ?_
      first | (refine ⟨Or.inl ⟨?_, rfl⟩, rfl⟩; subst_vars; unfold und; decide) | (refine ⟨Or.inr ⟨?_, rfl⟩, rfl⟩; unfold und; intro z; rcases z with z | ⟨z0, z⟩ | ⟨z0, z⟩ | ⟨z0, z | z⟩ | ⟨z0, z | z⟩ | ⟨z0, z | z | z⟩ <;> subst_vars <;> first | contradiction | (revert z0; decide) | simp_all [ovr])
  · refine A_iload_n (dX6_taken 25 rfl) rfl ?_
    refine A_callSWi 1 (dX6_taken 26 rfl) cbX6_over cwX6_395 (m_over E _ (2)) rfl rfl (Nat.le_of_ble_eq_true rfl) (Nat.le_of_ble_eq_true rfl) (Nat.le_of_ble_eq_true rfl) (Nat.le_of_ble_eq_true rfl) (Nat.le_of_ble_eq_true rfl) ?_
    rintro r44 w1 ⟨rfl, rfl⟩
    refine AW.pcq (pc2 := 47) rfl ?_
    refine A_istore_n (ls2 := [_, _, _, _]) (dX6_taken 27 rfl) (by decide) rfl rfl ?_
    refine A_goto 33 (dX6_taken 28 rfl) (by decide) ?_
    refine A_iload_n (dX6_taken 19 rfl) rfl ?_
    refine A_iconst (-1) (dX6_taken 20 rfl) (by decide +kernel) ?_
    refine A_icmp_eq 51 (dX6_taken 21 rfl) (by decide) (fun h35 => absurd h35 (by decide)) (fun h35 => ?_)
    refine A_iload_n (dX6_taken 22 rfl) rfl ?_
    refine A_iload_n (dX6_taken 23 rfl) rfl ?_
    refine A_icmp_eq 51 (dX6_taken 24 rfl) (by decide) (fun e1 => ?_) (fun e1 => ?_)
    · refine A_iload_n (dX6_taken 29 rfl) rfl ?_
      refine A_iload_n (dX6_taken 30 rfl) rfl ?_
      refine A_icmp_ne 65 (dX6_taken 31 rfl) (by decide) (fun h53 => ?_) (fun h53 => ?_)
      · refine A_bipush (-13) (dX6_taken 37 rfl) (by decide +kernel) ?_
        refine A_ri (dX6_taken 38 rfl) rfl rfl ?_
        first | (refine ⟨Or.inl ⟨?_, rfl⟩, rfl⟩; subst_vars; unfold und; decide) | (refine ⟨Or.inr ⟨?_, rfl⟩, rfl⟩; unfold und; intro z; rcases z with z | ⟨z0, z⟩ | ⟨z0, z⟩ | ⟨z0, z | z⟩ | ⟨z0, z | z⟩ | ⟨z0, z | z | z⟩ <;> subst_vars <;> first | contradiction | (revert z0; decide) | simp_all [ovr])
      · refine A_aload_n (dX6_taken 32 rfl) rfl ?_
        refine A_get (dX6_taken 33 rfl) fwX6_35 MW_0 MF_11 ?_
        refine A_iload_n (dX6_taken 34 rfl) rfl ?_
        refine A_iald (dX6_taken 35 rfl) MW_8 hi ?_
        refine A_goto 67 (dX6_taken 36 rfl) (by decide) ?_
        refine A_ri (dX6_taken 38 rfl) rfl rfl ?_
        first | (refine ⟨Or.inl ⟨?_, rfl⟩, rfl⟩; subst_vars; unfold und; decide) | (refine ⟨Or.inr ⟨?_, rfl⟩, rfl⟩; unfold und; intro z; rcases z with z | ⟨z0, z⟩ | ⟨z0, z⟩ | ⟨z0, z | z⟩ | ⟨z0, z | z⟩ | ⟨z0, z | z | z⟩ <;> subst_vars <;> first | contradiction | (revert z0; decide) | simp_all [ovr])
    · refine A_iload_n (dX6_taken 25 rfl) rfl ?_
      refine A_callSWi 1 (dX6_taken 26 rfl) cbX6_over cwX6_395 (m_over E _ (ovr 2)) rfl rfl (Nat.le_of_ble_eq_true rfl) (Nat.le_of_ble_eq_true rfl) (Nat.le_of_ble_eq_true rfl) (Nat.le_of_ble_eq_true rfl) (Nat.le_of_ble_eq_true rfl) ?_
      rintro r44 w1 ⟨rfl, rfl⟩
      refine AW.pcq (pc2 := 47) rfl ?_
      refine A_istore_n (ls2 := [_, _, _, _]) (dX6_taken 27 rfl) (by decide) rfl rfl ?_
      refine A_goto 33 (dX6_taken 28 rfl) (by decide) ?_
      refine A_iload_n (dX6_taken 19 rfl) rfl ?_
      refine A_iconst (-1) (dX6_taken 20 rfl) (by decide +kernel) ?_
      refine A_icmp_eq 51 (dX6_taken 21 rfl) (by decide) (fun h35 => ?_) (fun h35 => absurd (by decide) h35)
      refine A_iload_n (dX6_taken 29 rfl) rfl ?_
      refine A_iload_n (dX6_taken 30 rfl) rfl ?_
      refine A_icmp_ne 65 (dX6_taken 31 rfl) (by decide) (fun e53 => ?_) (fun e53 => absurd e53 (fun z => hk (by rw [← z]; decide)))
      refine A_bipush (-13) (dX6_taken 37 rfl) (by decide +kernel) ?_
      refine A_ri (dX6_taken 38 rfl) rfl rfl ?_
      first | (refine ⟨Or.inl ⟨?_, rfl⟩, rfl⟩; subst_vars; unfold und; decide) | (refine ⟨Or.inr ⟨?_, rfl⟩, rfl⟩; unfold und; intro z; rcases z with z | ⟨z0, z⟩ | ⟨z0, z⟩ | ⟨z0, z | z⟩ | ⟨z0, z | z⟩ | ⟨z0, z | z | z⟩ <;> subst_vars <;> first | contradiction | (revert z0; decide) | simp_all [ovr])

set_option maxRecDepth 100000 in
set_option maxHeartbeats 400000 in
theorem m_taken3 (E : ag) (q : Nat → Nat) (g : Nat → Int32) (tw : Int64) (a : Nat → Nat → Int32) (i k : Int32) (hi : vp_in i 5) (hk : ¬ k = -1) : AW E mX6_taken 3 0 0 33 [some (.ref (q 0)), some (.int i), some (.int k), some (.int 3)] [] (MW E q g tw a) (ri (fun r w => ((und 3 k ∧ r = a 8 i.toNatClampNeg) ∨ (¬ und 3 k ∧ r = -13)) ∧ w = MW E q g tw a)) := by
  refine A_iload_n (dX6_taken 19 rfl) rfl ?_
  refine A_iconst (-1) (dX6_taken 20 rfl) (by decide +kernel) ?_
  refine A_icmp_eq 51 (dX6_taken 21 rfl) (by decide) (fun h35 => absurd h35 (by decide)) (fun h35 => ?_)
  refine A_iload_n (dX6_taken 22 rfl) rfl ?_
  refine A_iload_n (dX6_taken 23 rfl) rfl ?_
  refine A_icmp_eq 51 (dX6_taken 24 rfl) (by decide) (fun e0 => ?_) (fun e0 => ?_)
  · refine A_iload_n (dX6_taken 29 rfl) rfl ?_
    refine A_iload_n (dX6_taken 30 rfl) rfl ?_
    refine A_icmp_ne 65 (dX6_taken 31 rfl) (by decide) (fun h53 => ?_) (fun h53 => ?_)
    · refine A_bipush (-13) (dX6_taken 37 rfl) (by decide +kernel) ?_
      refine A_ri (dX6_taken 38 rfl) rfl rfl ?_
      first | (refine ⟨Or.inl ⟨?_, rfl⟩, rfl⟩; subst_vars; unfold und; decide) | (refine ⟨Or.inr ⟨?_, rfl⟩, rfl⟩; unfold und; intro z; rcases z with z | ⟨z0, z⟩ | ⟨z0, z⟩ | ⟨z0, z | z⟩ | ⟨z0, z | z⟩ | ⟨z0, z | z | z⟩ <;> subst_vars <;> first | contradiction | (revert z0; decide) | simp_all [ovr])
    · refine A_aload_n (dX6_taken 32 rfl) rfl ?_
      refine A_get (dX6_taken 33 rfl) fwX6_35 MW_0 MF_11 ?_
      refine A_iload_n (dX6_taken 34 rfl) rfl ?_
      refine A_iald (dX6_taken 35 rfl) MW_8 hi ?_
      refine A_goto 67 (dX6_taken 36 rfl) (by decide) ?_
      refine A_ri (dX6_taken 38 rfl) rfl rfl ?_
      first | (refine ⟨Or.inl ⟨?_, rfl⟩, rfl⟩; subst_vars; unfold und; decide) | (refine ⟨Or.inr ⟨?_, rfl⟩, rfl⟩; unfold und; intro z; rcases z with z | ⟨z0, z⟩ | ⟨z0, z⟩ | ⟨z0, z | z⟩ | ⟨z0, z | z⟩ | ⟨z0, z | z | z⟩ <;> subst_vars <;> first | contradiction | (revert z0; decide) | simp_all [ovr])
  · refine A_iload_n (dX6_taken 25 rfl) rfl ?_
    refine A_callSWi 1 (dX6_taken 26 rfl) cbX6_over cwX6_395 (m_over E _ (3)) rfl rfl (Nat.le_of_ble_eq_true rfl) (Nat.le_of_ble_eq_true rfl) (Nat.le_of_ble_eq_true rfl) (Nat.le_of_ble_eq_true rfl) (Nat.le_of_ble_eq_true rfl) ?_
    rintro r44 w1 ⟨rfl, rfl⟩
    refine AW.pcq (pc2 := 47) rfl ?_
    refine A_istore_n (ls2 := [_, _, _, _]) (dX6_taken 27 rfl) (by decide) rfl rfl ?_
    refine A_goto 33 (dX6_taken 28 rfl) (by decide) ?_
    refine A_iload_n (dX6_taken 19 rfl) rfl ?_
    refine A_iconst (-1) (dX6_taken 20 rfl) (by decide +kernel) ?_
    refine A_icmp_eq 51 (dX6_taken 21 rfl) (by decide) (fun h35 => absurd h35 (by decide)) (fun h35 => ?_)
    refine A_iload_n (dX6_taken 22 rfl) rfl ?_
    refine A_iload_n (dX6_taken 23 rfl) rfl ?_
    refine A_icmp_eq 51 (dX6_taken 24 rfl) (by decide) (fun e1 => ?_) (fun e1 => ?_)
    · refine A_iload_n (dX6_taken 29 rfl) rfl ?_
      refine A_iload_n (dX6_taken 30 rfl) rfl ?_
      refine A_icmp_ne 65 (dX6_taken 31 rfl) (by decide) (fun h53 => ?_) (fun h53 => ?_)
      · refine A_bipush (-13) (dX6_taken 37 rfl) (by decide +kernel) ?_
        refine A_ri (dX6_taken 38 rfl) rfl rfl ?_
        first | (refine ⟨Or.inl ⟨?_, rfl⟩, rfl⟩; subst_vars; unfold und; decide) | (refine ⟨Or.inr ⟨?_, rfl⟩, rfl⟩; unfold und; intro z; rcases z with z | ⟨z0, z⟩ | ⟨z0, z⟩ | ⟨z0, z | z⟩ | ⟨z0, z | z⟩ | ⟨z0, z | z | z⟩ <;> subst_vars <;> first | contradiction | (revert z0; decide) | simp_all [ovr])
      · refine A_aload_n (dX6_taken 32 rfl) rfl ?_
        refine A_get (dX6_taken 33 rfl) fwX6_35 MW_0 MF_11 ?_
        refine A_iload_n (dX6_taken 34 rfl) rfl ?_
        refine A_iald (dX6_taken 35 rfl) MW_8 hi ?_
        refine A_goto 67 (dX6_taken 36 rfl) (by decide) ?_
        refine A_ri (dX6_taken 38 rfl) rfl rfl ?_
        first | (refine ⟨Or.inl ⟨?_, rfl⟩, rfl⟩; subst_vars; unfold und; decide) | (refine ⟨Or.inr ⟨?_, rfl⟩, rfl⟩; unfold und; intro z; rcases z with z | ⟨z0, z⟩ | ⟨z0, z⟩ | ⟨z0, z | z⟩ | ⟨z0, z | z⟩ | ⟨z0, z | z | z⟩ <;> subst_vars <;> first | contradiction | (revert z0; decide) | simp_all [ovr])
    · refine A_iload_n (dX6_taken 25 rfl) rfl ?_
      refine A_callSWi 1 (dX6_taken 26 rfl) cbX6_over cwX6_395 (m_over E _ (ovr 3)) rfl rfl (Nat.le_of_ble_eq_true rfl) (Nat.le_of_ble_eq_true rfl) (Nat.le_of_ble_eq_true rfl) (Nat.le_of_ble_eq_true rfl) (Nat.le_of_ble_eq_true rfl) ?_
      rintro r44 w1 ⟨rfl, rfl⟩
      refine AW.pcq (pc2 := 47) rfl ?_
      refine A_istore_n (ls2 := [_, _, _, _]) (dX6_taken 27 rfl) (by decide) rfl rfl ?_
      refine A_goto 33 (dX6_taken 28 rfl) (by decide) ?_
      refine A_iload_n (dX6_taken 19 rfl) rfl ?_
      refine A_iconst (-1) (dX6_taken 20 rfl) (by decide +kernel) ?_
      refine A_icmp_eq 51 (dX6_taken 21 rfl) (by decide) (fun h35 => absurd h35 (by decide)) (fun h35 => ?_)
      refine A_iload_n (dX6_taken 22 rfl) rfl ?_
      refine A_iload_n (dX6_taken 23 rfl) rfl ?_
      refine A_icmp_eq 51 (dX6_taken 24 rfl) (by decide) (fun e2 => ?_) (fun e2 => ?_)
      · refine A_iload_n (dX6_taken 29 rfl) rfl ?_
        refine A_iload_n (dX6_taken 30 rfl) rfl ?_
        refine A_icmp_ne 65 (dX6_taken 31 rfl) (by decide) (fun h53 => ?_) (fun h53 => ?_)
        · refine A_bipush (-13) (dX6_taken 37 rfl) (by decide +kernel) ?_
          refine A_ri (dX6_taken 38 rfl) rfl rfl ?_
          first | (refine ⟨Or.inl ⟨?_, rfl⟩, rfl⟩; subst_vars; unfold und; decide) | (refine ⟨Or.inr ⟨?_, rfl⟩, rfl⟩; unfold und; intro z; rcases z with z | ⟨z0, z⟩ | ⟨z0, z⟩ | ⟨z0, z | z⟩ | ⟨z0, z | z⟩ | ⟨z0, z | z | z⟩ <;> subst_vars <;> first | contradiction | (revert z0; decide) | simp_all [ovr])
        · refine A_aload_n (dX6_taken 32 rfl) rfl ?_
          refine A_get (dX6_taken 33 rfl) fwX6_35 MW_0 MF_11 ?_
          refine A_iload_n (dX6_taken 34 rfl) rfl ?_
          refine A_iald (dX6_taken 35 rfl) MW_8 hi ?_
          refine A_goto 67 (dX6_taken 36 rfl) (by decide) ?_
          refine A_ri (dX6_taken 38 rfl) rfl rfl ?_
          first | (refine ⟨Or.inl ⟨?_, rfl⟩, rfl⟩; subst_vars; unfold und; decide) | (refine ⟨Or.inr ⟨?_, rfl⟩, rfl⟩; unfold und; intro z; rcases z with z | ⟨z0, z⟩ | ⟨z0, z⟩ | ⟨z0, z | z⟩ | ⟨z0, z | z⟩ | ⟨z0, z | z | z⟩ <;> subst_vars <;> first | contradiction | (revert z0; decide) | simp_all [ovr])
      · refine A_iload_n (dX6_taken 25 rfl) rfl ?_
        refine A_callSWi 1 (dX6_taken 26 rfl) cbX6_over cwX6_395 (m_over E _ (ovr (ovr 3))) rfl rfl (Nat.le_of_ble_eq_true rfl) (Nat.le_of_ble_eq_true rfl) (Nat.le_of_ble_eq_true rfl) (Nat.le_of_ble_eq_true rfl) (Nat.le_of_ble_eq_true rfl) ?_
        rintro r44 w1 ⟨rfl, rfl⟩
        refine AW.pcq (pc2 := 47) rfl ?_
        refine A_istore_n (ls2 := [_, _, _, _]) (dX6_taken 27 rfl) (by decide) rfl rfl ?_
        refine A_goto 33 (dX6_taken 28 rfl) (by decide) ?_
        refine A_iload_n (dX6_taken 19 rfl) rfl ?_
        refine A_iconst (-1) (dX6_taken 20 rfl) (by decide +kernel) ?_
        refine A_icmp_eq 51 (dX6_taken 21 rfl) (by decide) (fun h35 => ?_) (fun h35 => absurd (by decide) h35)
        refine A_iload_n (dX6_taken 29 rfl) rfl ?_
        refine A_iload_n (dX6_taken 30 rfl) rfl ?_
        refine A_icmp_ne 65 (dX6_taken 31 rfl) (by decide) (fun e53 => ?_) (fun e53 => absurd e53 (fun z => hk (by rw [← z]; decide)))
        refine A_bipush (-13) (dX6_taken 37 rfl) (by decide +kernel) ?_
        refine A_ri (dX6_taken 38 rfl) rfl rfl ?_
        first | (refine ⟨Or.inl ⟨?_, rfl⟩, rfl⟩; subst_vars; unfold und; decide) | (refine ⟨Or.inr ⟨?_, rfl⟩, rfl⟩; unfold und; intro z; rcases z with z | ⟨z0, z⟩ | ⟨z0, z⟩ | ⟨z0, z | z⟩ | ⟨z0, z | z⟩ | ⟨z0, z | z | z⟩ <;> subst_vars <;> first | contradiction | (revert z0; decide) | simp_all [ovr])

set_option maxRecDepth 100000 in
set_option maxHeartbeats 400000 in
theorem m_taken4 (E : ag) (q : Nat → Nat) (g : Nat → Int32) (tw : Int64) (a : Nat → Nat → Int32) (i k : Int32) (hi : vp_in i 5) (hk : ¬ k = -1) : AW E mX6_taken 3 0 0 33 [some (.ref (q 0)), some (.int i), some (.int k), some (.int 4)] [] (MW E q g tw a) (ri (fun r w => ((und 4 k ∧ r = a 8 i.toNatClampNeg) ∨ (¬ und 4 k ∧ r = -13)) ∧ w = MW E q g tw a)) := by
  refine A_iload_n (dX6_taken 19 rfl) rfl ?_
  refine A_iconst (-1) (dX6_taken 20 rfl) (by decide +kernel) ?_
  refine A_icmp_eq 51 (dX6_taken 21 rfl) (by decide) (fun h35 => absurd h35 (by decide)) (fun h35 => ?_)
  refine A_iload_n (dX6_taken 22 rfl) rfl ?_
  refine A_iload_n (dX6_taken 23 rfl) rfl ?_
  refine A_icmp_eq 51 (dX6_taken 24 rfl) (by decide) (fun e0 => ?_) (fun e0 => ?_)
  · refine A_iload_n (dX6_taken 29 rfl) rfl ?_
    refine A_iload_n (dX6_taken 30 rfl) rfl ?_
    refine A_icmp_ne 65 (dX6_taken 31 rfl) (by decide) (fun h53 => ?_) (fun h53 => ?_)
    · refine A_bipush (-13) (dX6_taken 37 rfl) (by decide +kernel) ?_
      refine A_ri (dX6_taken 38 rfl) rfl rfl ?_
      first | (refine ⟨Or.inl ⟨?_, rfl⟩, rfl⟩; subst_vars; unfold und; decide) | (refine ⟨Or.inr ⟨?_, rfl⟩, rfl⟩; unfold und; intro z; rcases z with z | ⟨z0, z⟩ | ⟨z0, z⟩ | ⟨z0, z | z⟩ | ⟨z0, z | z⟩ | ⟨z0, z | z | z⟩ <;> subst_vars <;> first | contradiction | (revert z0; decide) | simp_all [ovr])
    · refine A_aload_n (dX6_taken 32 rfl) rfl ?_
      refine A_get (dX6_taken 33 rfl) fwX6_35 MW_0 MF_11 ?_
      refine A_iload_n (dX6_taken 34 rfl) rfl ?_
      refine A_iald (dX6_taken 35 rfl) MW_8 hi ?_
      refine A_goto 67 (dX6_taken 36 rfl) (by decide) ?_
      refine A_ri (dX6_taken 38 rfl) rfl rfl ?_
      first | (refine ⟨Or.inl ⟨?_, rfl⟩, rfl⟩; subst_vars; unfold und; decide) | (refine ⟨Or.inr ⟨?_, rfl⟩, rfl⟩; unfold und; intro z; rcases z with z | ⟨z0, z⟩ | ⟨z0, z⟩ | ⟨z0, z | z⟩ | ⟨z0, z | z⟩ | ⟨z0, z | z | z⟩ <;> subst_vars <;> first | contradiction | (revert z0; decide) | simp_all [ovr])
  · refine A_iload_n (dX6_taken 25 rfl) rfl ?_
    refine A_callSWi 1 (dX6_taken 26 rfl) cbX6_over cwX6_395 (m_over E _ (4)) rfl rfl (Nat.le_of_ble_eq_true rfl) (Nat.le_of_ble_eq_true rfl) (Nat.le_of_ble_eq_true rfl) (Nat.le_of_ble_eq_true rfl) (Nat.le_of_ble_eq_true rfl) ?_
    rintro r44 w1 ⟨rfl, rfl⟩
    refine AW.pcq (pc2 := 47) rfl ?_
    refine A_istore_n (ls2 := [_, _, _, _]) (dX6_taken 27 rfl) (by decide) rfl rfl ?_
    refine A_goto 33 (dX6_taken 28 rfl) (by decide) ?_
    refine A_iload_n (dX6_taken 19 rfl) rfl ?_
    refine A_iconst (-1) (dX6_taken 20 rfl) (by decide +kernel) ?_
    refine A_icmp_eq 51 (dX6_taken 21 rfl) (by decide) (fun h35 => absurd h35 (by decide)) (fun h35 => ?_)
    refine A_iload_n (dX6_taken 22 rfl) rfl ?_
    refine A_iload_n (dX6_taken 23 rfl) rfl ?_
    refine A_icmp_eq 51 (dX6_taken 24 rfl) (by decide) (fun e1 => ?_) (fun e1 => ?_)
    · refine A_iload_n (dX6_taken 29 rfl) rfl ?_
      refine A_iload_n (dX6_taken 30 rfl) rfl ?_
      refine A_icmp_ne 65 (dX6_taken 31 rfl) (by decide) (fun h53 => ?_) (fun h53 => ?_)
      · refine A_bipush (-13) (dX6_taken 37 rfl) (by decide +kernel) ?_
        refine A_ri (dX6_taken 38 rfl) rfl rfl ?_
        first | (refine ⟨Or.inl ⟨?_, rfl⟩, rfl⟩; subst_vars; unfold und; decide) | (refine ⟨Or.inr ⟨?_, rfl⟩, rfl⟩; unfold und; intro z; rcases z with z | ⟨z0, z⟩ | ⟨z0, z⟩ | ⟨z0, z | z⟩ | ⟨z0, z | z⟩ | ⟨z0, z | z | z⟩ <;> subst_vars <;> first | contradiction | (revert z0; decide) | simp_all [ovr])
      · refine A_aload_n (dX6_taken 32 rfl) rfl ?_
        refine A_get (dX6_taken 33 rfl) fwX6_35 MW_0 MF_11 ?_
        refine A_iload_n (dX6_taken 34 rfl) rfl ?_
        refine A_iald (dX6_taken 35 rfl) MW_8 hi ?_
        refine A_goto 67 (dX6_taken 36 rfl) (by decide) ?_
        refine A_ri (dX6_taken 38 rfl) rfl rfl ?_
        first | (refine ⟨Or.inl ⟨?_, rfl⟩, rfl⟩; subst_vars; unfold und; decide) | (refine ⟨Or.inr ⟨?_, rfl⟩, rfl⟩; unfold und; intro z; rcases z with z | ⟨z0, z⟩ | ⟨z0, z⟩ | ⟨z0, z | z⟩ | ⟨z0, z | z⟩ | ⟨z0, z | z | z⟩ <;> subst_vars <;> first | contradiction | (revert z0; decide) | simp_all [ovr])
    · refine A_iload_n (dX6_taken 25 rfl) rfl ?_
      refine A_callSWi 1 (dX6_taken 26 rfl) cbX6_over cwX6_395 (m_over E _ (ovr 4)) rfl rfl (Nat.le_of_ble_eq_true rfl) (Nat.le_of_ble_eq_true rfl) (Nat.le_of_ble_eq_true rfl) (Nat.le_of_ble_eq_true rfl) (Nat.le_of_ble_eq_true rfl) ?_
      rintro r44 w1 ⟨rfl, rfl⟩
      refine AW.pcq (pc2 := 47) rfl ?_
      refine A_istore_n (ls2 := [_, _, _, _]) (dX6_taken 27 rfl) (by decide) rfl rfl ?_
      refine A_goto 33 (dX6_taken 28 rfl) (by decide) ?_
      refine A_iload_n (dX6_taken 19 rfl) rfl ?_
      refine A_iconst (-1) (dX6_taken 20 rfl) (by decide +kernel) ?_
      refine A_icmp_eq 51 (dX6_taken 21 rfl) (by decide) (fun h35 => absurd h35 (by decide)) (fun h35 => ?_)
      refine A_iload_n (dX6_taken 22 rfl) rfl ?_
      refine A_iload_n (dX6_taken 23 rfl) rfl ?_
      refine A_icmp_eq 51 (dX6_taken 24 rfl) (by decide) (fun e2 => ?_) (fun e2 => ?_)
      · refine A_iload_n (dX6_taken 29 rfl) rfl ?_
        refine A_iload_n (dX6_taken 30 rfl) rfl ?_
        refine A_icmp_ne 65 (dX6_taken 31 rfl) (by decide) (fun h53 => ?_) (fun h53 => ?_)
        · refine A_bipush (-13) (dX6_taken 37 rfl) (by decide +kernel) ?_
          refine A_ri (dX6_taken 38 rfl) rfl rfl ?_
          first | (refine ⟨Or.inl ⟨?_, rfl⟩, rfl⟩; subst_vars; unfold und; decide) | (refine ⟨Or.inr ⟨?_, rfl⟩, rfl⟩; unfold und; intro z; rcases z with z | ⟨z0, z⟩ | ⟨z0, z⟩ | ⟨z0, z | z⟩ | ⟨z0, z | z⟩ | ⟨z0, z | z | z⟩ <;> subst_vars <;> first | contradiction | (revert z0; decide) | simp_all [ovr])
        · refine A_aload_n (dX6_taken 32 rfl) rfl ?_
          refine A_get (dX6_taken 33 rfl) fwX6_35 MW_0 MF_11 ?_
          refine A_iload_n (dX6_taken 34 rfl) rfl ?_
          refine A_iald (dX6_taken 35 rfl) MW_8 hi ?_
          refine A_goto 67 (dX6_taken 36 rfl) (by decide) ?_
          refine A_ri (dX6_taken 38 rfl) rfl rfl ?_
          first | (refine ⟨Or.inl ⟨?_, rfl⟩, rfl⟩; subst_vars; unfold und; decide) | (refine ⟨Or.inr ⟨?_, rfl⟩, rfl⟩; unfold und; intro z; rcases z with z | ⟨z0, z⟩ | ⟨z0, z⟩ | ⟨z0, z | z⟩ | ⟨z0, z | z⟩ | ⟨z0, z | z | z⟩ <;> subst_vars <;> first | contradiction | (revert z0; decide) | simp_all [ovr])
      · refine A_iload_n (dX6_taken 25 rfl) rfl ?_
        refine A_callSWi 1 (dX6_taken 26 rfl) cbX6_over cwX6_395 (m_over E _ (ovr (ovr 4))) rfl rfl (Nat.le_of_ble_eq_true rfl) (Nat.le_of_ble_eq_true rfl) (Nat.le_of_ble_eq_true rfl) (Nat.le_of_ble_eq_true rfl) (Nat.le_of_ble_eq_true rfl) ?_
        rintro r44 w1 ⟨rfl, rfl⟩
        refine AW.pcq (pc2 := 47) rfl ?_
        refine A_istore_n (ls2 := [_, _, _, _]) (dX6_taken 27 rfl) (by decide) rfl rfl ?_
        refine A_goto 33 (dX6_taken 28 rfl) (by decide) ?_
        refine A_iload_n (dX6_taken 19 rfl) rfl ?_
        refine A_iconst (-1) (dX6_taken 20 rfl) (by decide +kernel) ?_
        refine A_icmp_eq 51 (dX6_taken 21 rfl) (by decide) (fun h35 => ?_) (fun h35 => absurd (by decide) h35)
        refine A_iload_n (dX6_taken 29 rfl) rfl ?_
        refine A_iload_n (dX6_taken 30 rfl) rfl ?_
        refine A_icmp_ne 65 (dX6_taken 31 rfl) (by decide) (fun e53 => ?_) (fun e53 => absurd e53 (fun z => hk (by rw [← z]; decide)))
        refine A_bipush (-13) (dX6_taken 37 rfl) (by decide +kernel) ?_
        refine A_ri (dX6_taken 38 rfl) rfl rfl ?_
        first | (refine ⟨Or.inl ⟨?_, rfl⟩, rfl⟩; subst_vars; unfold und; decide) | (refine ⟨Or.inr ⟨?_, rfl⟩, rfl⟩; unfold und; intro z; rcases z with z | ⟨z0, z⟩ | ⟨z0, z⟩ | ⟨z0, z | z⟩ | ⟨z0, z | z⟩ | ⟨z0, z | z | z⟩ <;> subst_vars <;> first | contradiction | (revert z0; decide) | simp_all [ovr])

set_option maxRecDepth 100000 in
set_option maxHeartbeats 400000 in
theorem m_taken5 (E : ag) (q : Nat → Nat) (g : Nat → Int32) (tw : Int64) (a : Nat → Nat → Int32) (i k : Int32) (hi : vp_in i 5) (hk : ¬ k = -1) : AW E mX6_taken 3 0 0 33 [some (.ref (q 0)), some (.int i), some (.int k), some (.int 5)] [] (MW E q g tw a) (ri (fun r w => ((und 5 k ∧ r = a 8 i.toNatClampNeg) ∨ (¬ und 5 k ∧ r = -13)) ∧ w = MW E q g tw a)) := by
  refine A_iload_n (dX6_taken 19 rfl) rfl ?_
  refine A_iconst (-1) (dX6_taken 20 rfl) (by decide +kernel) ?_
  refine A_icmp_eq 51 (dX6_taken 21 rfl) (by decide) (fun h35 => absurd h35 (by decide)) (fun h35 => ?_)
  refine A_iload_n (dX6_taken 22 rfl) rfl ?_
  refine A_iload_n (dX6_taken 23 rfl) rfl ?_
  refine A_icmp_eq 51 (dX6_taken 24 rfl) (by decide) (fun e0 => ?_) (fun e0 => ?_)
  · refine A_iload_n (dX6_taken 29 rfl) rfl ?_
    refine A_iload_n (dX6_taken 30 rfl) rfl ?_
    refine A_icmp_ne 65 (dX6_taken 31 rfl) (by decide) (fun h53 => ?_) (fun h53 => ?_)
    · refine A_bipush (-13) (dX6_taken 37 rfl) (by decide +kernel) ?_
      refine A_ri (dX6_taken 38 rfl) rfl rfl ?_
      first | (refine ⟨Or.inl ⟨?_, rfl⟩, rfl⟩; subst_vars; unfold und; decide) | (refine ⟨Or.inr ⟨?_, rfl⟩, rfl⟩; unfold und; intro z; rcases z with z | ⟨z0, z⟩ | ⟨z0, z⟩ | ⟨z0, z | z⟩ | ⟨z0, z | z⟩ | ⟨z0, z | z | z⟩ <;> subst_vars <;> first | contradiction | (revert z0; decide) | simp_all [ovr])
    · refine A_aload_n (dX6_taken 32 rfl) rfl ?_
      refine A_get (dX6_taken 33 rfl) fwX6_35 MW_0 MF_11 ?_
      refine A_iload_n (dX6_taken 34 rfl) rfl ?_
      refine A_iald (dX6_taken 35 rfl) MW_8 hi ?_
      refine A_goto 67 (dX6_taken 36 rfl) (by decide) ?_
      refine A_ri (dX6_taken 38 rfl) rfl rfl ?_
      first | (refine ⟨Or.inl ⟨?_, rfl⟩, rfl⟩; subst_vars; unfold und; decide) | (refine ⟨Or.inr ⟨?_, rfl⟩, rfl⟩; unfold und; intro z; rcases z with z | ⟨z0, z⟩ | ⟨z0, z⟩ | ⟨z0, z | z⟩ | ⟨z0, z | z⟩ | ⟨z0, z | z | z⟩ <;> subst_vars <;> first | contradiction | (revert z0; decide) | simp_all [ovr])
  · refine A_iload_n (dX6_taken 25 rfl) rfl ?_
    refine A_callSWi 1 (dX6_taken 26 rfl) cbX6_over cwX6_395 (m_over E _ (5)) rfl rfl (Nat.le_of_ble_eq_true rfl) (Nat.le_of_ble_eq_true rfl) (Nat.le_of_ble_eq_true rfl) (Nat.le_of_ble_eq_true rfl) (Nat.le_of_ble_eq_true rfl) ?_
    rintro r44 w1 ⟨rfl, rfl⟩
    refine AW.pcq (pc2 := 47) rfl ?_
    refine A_istore_n (ls2 := [_, _, _, _]) (dX6_taken 27 rfl) (by decide) rfl rfl ?_
    refine A_goto 33 (dX6_taken 28 rfl) (by decide) ?_
    refine A_iload_n (dX6_taken 19 rfl) rfl ?_
    refine A_iconst (-1) (dX6_taken 20 rfl) (by decide +kernel) ?_
    refine A_icmp_eq 51 (dX6_taken 21 rfl) (by decide) (fun h35 => absurd h35 (by decide)) (fun h35 => ?_)
    refine A_iload_n (dX6_taken 22 rfl) rfl ?_
    refine A_iload_n (dX6_taken 23 rfl) rfl ?_
    refine A_icmp_eq 51 (dX6_taken 24 rfl) (by decide) (fun e1 => ?_) (fun e1 => ?_)
    · refine A_iload_n (dX6_taken 29 rfl) rfl ?_
      refine A_iload_n (dX6_taken 30 rfl) rfl ?_
      refine A_icmp_ne 65 (dX6_taken 31 rfl) (by decide) (fun h53 => ?_) (fun h53 => ?_)
      · refine A_bipush (-13) (dX6_taken 37 rfl) (by decide +kernel) ?_
        refine A_ri (dX6_taken 38 rfl) rfl rfl ?_
        first | (refine ⟨Or.inl ⟨?_, rfl⟩, rfl⟩; subst_vars; unfold und; decide) | (refine ⟨Or.inr ⟨?_, rfl⟩, rfl⟩; unfold und; intro z; rcases z with z | ⟨z0, z⟩ | ⟨z0, z⟩ | ⟨z0, z | z⟩ | ⟨z0, z | z⟩ | ⟨z0, z | z | z⟩ <;> subst_vars <;> first | contradiction | (revert z0; decide) | simp_all [ovr])
      · refine A_aload_n (dX6_taken 32 rfl) rfl ?_
        refine A_get (dX6_taken 33 rfl) fwX6_35 MW_0 MF_11 ?_
        refine A_iload_n (dX6_taken 34 rfl) rfl ?_
        refine A_iald (dX6_taken 35 rfl) MW_8 hi ?_
        refine A_goto 67 (dX6_taken 36 rfl) (by decide) ?_
        refine A_ri (dX6_taken 38 rfl) rfl rfl ?_
        first | (refine ⟨Or.inl ⟨?_, rfl⟩, rfl⟩; subst_vars; unfold und; decide) | (refine ⟨Or.inr ⟨?_, rfl⟩, rfl⟩; unfold und; intro z; rcases z with z | ⟨z0, z⟩ | ⟨z0, z⟩ | ⟨z0, z | z⟩ | ⟨z0, z | z⟩ | ⟨z0, z | z | z⟩ <;> subst_vars <;> first | contradiction | (revert z0; decide) | simp_all [ovr])
    · refine A_iload_n (dX6_taken 25 rfl) rfl ?_
      refine A_callSWi 1 (dX6_taken 26 rfl) cbX6_over cwX6_395 (m_over E _ (ovr 5)) rfl rfl (Nat.le_of_ble_eq_true rfl) (Nat.le_of_ble_eq_true rfl) (Nat.le_of_ble_eq_true rfl) (Nat.le_of_ble_eq_true rfl) (Nat.le_of_ble_eq_true rfl) ?_
      rintro r44 w1 ⟨rfl, rfl⟩
      refine AW.pcq (pc2 := 47) rfl ?_
      refine A_istore_n (ls2 := [_, _, _, _]) (dX6_taken 27 rfl) (by decide) rfl rfl ?_
      refine A_goto 33 (dX6_taken 28 rfl) (by decide) ?_
      refine A_iload_n (dX6_taken 19 rfl) rfl ?_
      refine A_iconst (-1) (dX6_taken 20 rfl) (by decide +kernel) ?_
      refine A_icmp_eq 51 (dX6_taken 21 rfl) (by decide) (fun h35 => absurd h35 (by decide)) (fun h35 => ?_)
      refine A_iload_n (dX6_taken 22 rfl) rfl ?_
      refine A_iload_n (dX6_taken 23 rfl) rfl ?_
      refine A_icmp_eq 51 (dX6_taken 24 rfl) (by decide) (fun e2 => ?_) (fun e2 => ?_)
      · refine A_iload_n (dX6_taken 29 rfl) rfl ?_
        refine A_iload_n (dX6_taken 30 rfl) rfl ?_
        refine A_icmp_ne 65 (dX6_taken 31 rfl) (by decide) (fun h53 => ?_) (fun h53 => ?_)
        · refine A_bipush (-13) (dX6_taken 37 rfl) (by decide +kernel) ?_
          refine A_ri (dX6_taken 38 rfl) rfl rfl ?_
          first | (refine ⟨Or.inl ⟨?_, rfl⟩, rfl⟩; subst_vars; unfold und; decide) | (refine ⟨Or.inr ⟨?_, rfl⟩, rfl⟩; unfold und; intro z; rcases z with z | ⟨z0, z⟩ | ⟨z0, z⟩ | ⟨z0, z | z⟩ | ⟨z0, z | z⟩ | ⟨z0, z | z | z⟩ <;> subst_vars <;> first | contradiction | (revert z0; decide) | simp_all [ovr])
        · refine A_aload_n (dX6_taken 32 rfl) rfl ?_
          refine A_get (dX6_taken 33 rfl) fwX6_35 MW_0 MF_11 ?_
          refine A_iload_n (dX6_taken 34 rfl) rfl ?_
          refine A_iald (dX6_taken 35 rfl) MW_8 hi ?_
          refine A_goto 67 (dX6_taken 36 rfl) (by decide) ?_
          refine A_ri (dX6_taken 38 rfl) rfl rfl ?_
          first | (refine ⟨Or.inl ⟨?_, rfl⟩, rfl⟩; subst_vars; unfold und; decide) | (refine ⟨Or.inr ⟨?_, rfl⟩, rfl⟩; unfold und; intro z; rcases z with z | ⟨z0, z⟩ | ⟨z0, z⟩ | ⟨z0, z | z⟩ | ⟨z0, z | z⟩ | ⟨z0, z | z | z⟩ <;> subst_vars <;> first | contradiction | (revert z0; decide) | simp_all [ovr])
      · refine A_iload_n (dX6_taken 25 rfl) rfl ?_
        refine A_callSWi 1 (dX6_taken 26 rfl) cbX6_over cwX6_395 (m_over E _ (ovr (ovr 5))) rfl rfl (Nat.le_of_ble_eq_true rfl) (Nat.le_of_ble_eq_true rfl) (Nat.le_of_ble_eq_true rfl) (Nat.le_of_ble_eq_true rfl) (Nat.le_of_ble_eq_true rfl) ?_
        rintro r44 w1 ⟨rfl, rfl⟩
        refine AW.pcq (pc2 := 47) rfl ?_
        refine A_istore_n (ls2 := [_, _, _, _]) (dX6_taken 27 rfl) (by decide) rfl rfl ?_
        refine A_goto 33 (dX6_taken 28 rfl) (by decide) ?_
        refine A_iload_n (dX6_taken 19 rfl) rfl ?_
        refine A_iconst (-1) (dX6_taken 20 rfl) (by decide +kernel) ?_
        refine A_icmp_eq 51 (dX6_taken 21 rfl) (by decide) (fun h35 => absurd h35 (by decide)) (fun h35 => ?_)
        refine A_iload_n (dX6_taken 22 rfl) rfl ?_
        refine A_iload_n (dX6_taken 23 rfl) rfl ?_
        refine A_icmp_eq 51 (dX6_taken 24 rfl) (by decide) (fun e3 => ?_) (fun e3 => ?_)
        · refine A_iload_n (dX6_taken 29 rfl) rfl ?_
          refine A_iload_n (dX6_taken 30 rfl) rfl ?_
          refine A_icmp_ne 65 (dX6_taken 31 rfl) (by decide) (fun h53 => ?_) (fun h53 => ?_)
          · refine A_bipush (-13) (dX6_taken 37 rfl) (by decide +kernel) ?_
            refine A_ri (dX6_taken 38 rfl) rfl rfl ?_
            first | (refine ⟨Or.inl ⟨?_, rfl⟩, rfl⟩; subst_vars; unfold und; decide) | (refine ⟨Or.inr ⟨?_, rfl⟩, rfl⟩; unfold und; intro z; rcases z with z | ⟨z0, z⟩ | ⟨z0, z⟩ | ⟨z0, z | z⟩ | ⟨z0, z | z⟩ | ⟨z0, z | z | z⟩ <;> subst_vars <;> first | contradiction | (revert z0; decide) | simp_all [ovr])
          · refine A_aload_n (dX6_taken 32 rfl) rfl ?_
            refine A_get (dX6_taken 33 rfl) fwX6_35 MW_0 MF_11 ?_
            refine A_iload_n (dX6_taken 34 rfl) rfl ?_
            refine A_iald (dX6_taken 35 rfl) MW_8 hi ?_
            refine A_goto 67 (dX6_taken 36 rfl) (by decide) ?_
            refine A_ri (dX6_taken 38 rfl) rfl rfl ?_
            first | (refine ⟨Or.inl ⟨?_, rfl⟩, rfl⟩; subst_vars; unfold und; decide) | (refine ⟨Or.inr ⟨?_, rfl⟩, rfl⟩; unfold und; intro z; rcases z with z | ⟨z0, z⟩ | ⟨z0, z⟩ | ⟨z0, z | z⟩ | ⟨z0, z | z⟩ | ⟨z0, z | z | z⟩ <;> subst_vars <;> first | contradiction | (revert z0; decide) | simp_all [ovr])
        · refine A_iload_n (dX6_taken 25 rfl) rfl ?_
          refine A_callSWi 1 (dX6_taken 26 rfl) cbX6_over cwX6_395 (m_over E _ (ovr (ovr (ovr 5)))) rfl rfl (Nat.le_of_ble_eq_true rfl) (Nat.le_of_ble_eq_true rfl) (Nat.le_of_ble_eq_true rfl) (Nat.le_of_ble_eq_true rfl) (Nat.le_of_ble_eq_true rfl) ?_
          rintro r44 w1 ⟨rfl, rfl⟩
          refine AW.pcq (pc2 := 47) rfl ?_
          refine A_istore_n (ls2 := [_, _, _, _]) (dX6_taken 27 rfl) (by decide) rfl rfl ?_
          refine A_goto 33 (dX6_taken 28 rfl) (by decide) ?_
          refine A_iload_n (dX6_taken 19 rfl) rfl ?_
          refine A_iconst (-1) (dX6_taken 20 rfl) (by decide +kernel) ?_
          refine A_icmp_eq 51 (dX6_taken 21 rfl) (by decide) (fun h35 => ?_) (fun h35 => absurd (by decide) h35)
          refine A_iload_n (dX6_taken 29 rfl) rfl ?_
          refine A_iload_n (dX6_taken 30 rfl) rfl ?_
          refine A_icmp_ne 65 (dX6_taken 31 rfl) (by decide) (fun e53 => ?_) (fun e53 => absurd e53 (fun z => hk (by rw [← z]; decide)))
          refine A_bipush (-13) (dX6_taken 37 rfl) (by decide +kernel) ?_
          refine A_ri (dX6_taken 38 rfl) rfl rfl ?_
          first | (refine ⟨Or.inl ⟨?_, rfl⟩, rfl⟩; subst_vars; unfold und; decide) | (refine ⟨Or.inr ⟨?_, rfl⟩, rfl⟩; unfold und; intro z; rcases z with z | ⟨z0, z⟩ | ⟨z0, z⟩ | ⟨z0, z | z⟩ | ⟨z0, z | z⟩ | ⟨z0, z | z | z⟩ <;> subst_vars <;> first | contradiction | (revert z0; decide) | simp_all [ovr])

set_option maxRecDepth 100000 in
set_option maxHeartbeats 400000 in
theorem m_taken (E : ag) (q : Nat → Nat) (g : Nat → Int32) (tw : Int64) (a : Nat → Nat → Int32) (i k : Int32) (m : Nat) (hm5 : m ≤ 5) (hgm : g 13 = nI m) (hkx : ¬ inI i 0 (g 13 - 1) = 0 → (a 6 i.toNatClampNeg = 0 ∨ a 6 i.toNatClampNeg = 1 ∨ a 6 i.toNatClampNeg = 2 ∨ a 6 i.toNatClampNeg = 3 ∨ a 6 i.toNatClampNeg = 4 ∨ a 6 i.toNatClampNeg = 5)) : CT E yX6_taken cX6_taken 4 mX6_taken.2.2.2.1 3 0 0 [.ref (q 0), .int i, .int k] (MW E q g tw a) (ri (fun r w => ((inI k 0 5 = 0 ∧ r = -2) ∨ (¬ inI k 0 5 = 0 ∧ inI i 0 (g 13 - 1) = 0 ∧ r = -11) ∨ (¬ inI k 0 5 = 0 ∧ ¬ inI i 0 (g 13 - 1) = 0 ∧ ((und (a 6 i.toNatClampNeg) k ∧ r = a 8 i.toNatClampNeg) ∨ (¬ und (a 6 i.toNatClampNeg) k ∧ r = -13)))) ∧ w = MW E q g tw a)) := by
  refine CT.of (M := mX6_taken) (ls := [some (.ref (q 0)), some (.int i), some (.int k), none]) (by decide) rfl (by decide) rfl (Nat.le_of_ble_eq_true rfl) ?_
  refine A_iload_n (dX6_taken 0 rfl) rfl ?_
  refine A_i2l (dX6_taken 1 rfl) ?_
  refine A_lconst (0) (dX6_taken 2 rfl) (by decide +kernel) ?_
  refine A_ldc2 (dX6_taken 3 rfl) kcX6_109 ?_
  refine A_callSWi 3 (dX6_taken 4 rfl) cbX6_in cwX6_103 (m_in E _ k 0 5 _ _ _ rfl (by decide) (by decide)) rfl rfl (Nat.le_of_ble_eq_true rfl) (Nat.le_of_ble_eq_true rfl) (Nat.le_of_ble_eq_true rfl) (Nat.le_of_ble_eq_true rfl) (Nat.le_of_ble_eq_true rfl) ?_
  rintro r6 w1 ⟨rfl, rfl⟩
  refine AW.pcq (pc2 := 9) rfl ?_
  refine A_if_ne 15 (dX6_taken 5 rfl) (by decide) (fun h9 => ?_) (fun h9 => ?_)
  · refine A_aload_n (dX6_taken 8 rfl) rfl ?_
    refine A_iload_n (dX6_taken 9 rfl) rfl ?_
    refine A_callVWi 1 (dX6_taken 10 rfl) cbX6_isMan cwX6_123 (m_isMan E q g tw a i) rfl rfl MW_0 rfl rfl (Nat.le_of_ble_eq_true rfl) (Nat.le_of_ble_eq_true rfl) (Nat.le_of_ble_eq_true rfl) (Nat.le_of_ble_eq_true rfl) (Nat.le_of_ble_eq_true rfl) ?_
    rintro r17 w1 ⟨rfl, rfl⟩
    refine AW.pcq (pc2 := 20) rfl ?_
    refine A_if_ne 26 (dX6_taken 11 rfl) (by decide) (fun h20 => ?_) (fun h20 => ?_)
    · refine A_aload_n (dX6_taken 14 rfl) rfl ?_
      refine A_get (dX6_taken 15 rfl) fwX6_29 MW_0 MF_9 ?_
      refine A_iload_n (dX6_taken 16 rfl) rfl ?_
      refine A_iald (dX6_taken 17 rfl) MW_6 (ix_man hm5 (by rw [← hgm]; assumption)) ?_
      refine A_istore_n (ls2 := [_, _, _, _]) (dX6_taken 18 rfl) (by decide) rfl rfl ?_
      have hi5 : vp_in i 5 := ix_man hm5 (by rw [← hgm]; assumption)
      have hk1 : ¬ k = -1 := fun z => h9 (by subst z; decide)
      rcases hkx h20 with e | e | e | e | e | e <;> rw [e] <;>
        first
        | exact (m_taken0 E q g tw a i k hi5 hk1).mono (fun v w h => by obtain ⟨r, h1, h2, h3⟩ := h; exact ⟨r, h1, Or.inr (Or.inr ⟨h9, h20, h2⟩), h3⟩)
        | exact (m_taken1 E q g tw a i k hi5 hk1).mono (fun v w h => by obtain ⟨r, h1, h2, h3⟩ := h; exact ⟨r, h1, Or.inr (Or.inr ⟨h9, h20, h2⟩), h3⟩)
        | exact (m_taken2 E q g tw a i k hi5 hk1).mono (fun v w h => by obtain ⟨r, h1, h2, h3⟩ := h; exact ⟨r, h1, Or.inr (Or.inr ⟨h9, h20, h2⟩), h3⟩)
        | exact (m_taken3 E q g tw a i k hi5 hk1).mono (fun v w h => by obtain ⟨r, h1, h2, h3⟩ := h; exact ⟨r, h1, Or.inr (Or.inr ⟨h9, h20, h2⟩), h3⟩)
        | exact (m_taken4 E q g tw a i k hi5 hk1).mono (fun v w h => by obtain ⟨r, h1, h2, h3⟩ := h; exact ⟨r, h1, Or.inr (Or.inr ⟨h9, h20, h2⟩), h3⟩)
        | exact (m_taken5 E q g tw a i k hi5 hk1).mono (fun v w h => by obtain ⟨r, h1, h2, h3⟩ := h; exact ⟨r, h1, Or.inr (Or.inr ⟨h9, h20, h2⟩), h3⟩)
    · refine A_bipush (-11) (dX6_taken 12 rfl) (by decide +kernel) ?_
      refine A_ri (dX6_taken 13 rfl) rfl rfl ?_
      exact ⟨Or.inr (Or.inl ⟨by assumption, by assumption, rfl⟩), rfl⟩
  · refine A_bipush (-2) (dX6_taken 6 rfl) (by decide +kernel) ?_
    refine A_ri (dX6_taken 7 rfl) rfl rfl ?_
    exact ⟨Or.inl ⟨by assumption, rfl⟩, rfl⟩

def spl (f : Nat → Int32) (n : Nat) (l : List Int32) : Nat → Int32 := match l with
  | [] => f
  | y :: r => spl (upd f n y) (n + 1) r
end
section
/-! THE LEXER: B is a text's bytes by place, -1 behind its end -/
abbrev isLo (b : Int32) : Prop := 97 ≤ b ∧ b ≤ 122
abbrev isDi (b : Int32) : Prop := 48 ≤ b ∧ b ≤ 57
abbrev isSg (b : Int32) : Prop := b = 40 ∨ b = 41 ∨ b = 59 ∨ b = 43 ∨ b = 45 ∨ b = 42 ∨ b = 60 ∨ b = 61
abbrev isWs (b : Int32) : Prop := b = 32 ∨ b = 10
theorem isLo_i (b : Int32) : (¬ inI b 97 122 = 0) ↔ isLo b := by unfold inI isLo; split <;> simp_all
theorem isDi_i (b : Int32) : (¬ inI b 48 57 = 0) ↔ isDi b := by unfold inI isDi; split <;> simp_all
def skp (B : Nat → Int32) : Nat → Nat → Nat
  | 0, i => i
  | f + 1, i => if B i = 32 ∨ B i = 10 then skp B f (i + 1) else i
def wdp (B : Nat → Int32) : Nat → Nat → Nat
  | 0, i => i
  | f + 1, i => if inI (B i) 97 122 = 0 then i else wdp B f (i + 1)
def dgp (B : Nat → Int32) : Nat → Nat → Nat
  | 0, i => i
  | f + 1, i => if inI (B i) 48 57 = 0 then i else dgp B f (i + 1)
/-- the number that k digits from s on tell (the first four of them) -/
def dv64 (B : Nat → Int32) (s : Nat) : Nat → Int64
  | 0 => 0
  | k + 1 => if k < 4 then 10 * dv64 B s k + (B (s + k)).toInt64 - 48 else dv64 B s k
/-- a token that is looked for from place i on: where it stands, its kind to the reference, its end -/
def lst (B : Nat → Int32) (i : Nat) : Nat := skp B 161 i
def mkd (B : Nat → Int32) (i : Nat) : Int32 := if B (lst B i) < 0 then 0 else if ¬ inI (B (lst B i)) 97 122 = 0 then 1 else if ¬ inI (B (lst B i)) 48 57 = 0 then (if 4 < dgp B 161 (lst B i) - lst B i then 4 else 2) else if isSg (B (lst B i)) then 3 else 4
def men (B : Nat → Int32) (i : Nat) : Nat := if B (lst B i) < 0 then lst B i else if ¬ inI (B (lst B i)) 97 122 = 0 then wdp B 161 (lst B i) else if ¬ inI (B (lst B i)) 48 57 = 0 then dgp B 161 (lst B i) else if isSg (B (lst B i)) then lst B i + 1 else lst B i
def mtw (B : Nat → Int32) (tw : Int64) (i : Nat) : Int64 := if B (lst B i) < 0 then tw else if ¬ inI (B (lst B i)) 97 122 = 0 then tw else if ¬ inI (B (lst B i)) 48 57 = 0 then dv64 B (lst B i) (dgp B 161 (lst B i) - lst B i) else if isSg (B (lst B i)) then (B (lst B i)).toInt64 else tw
def nxg (B : Nat → Int32) (g : Nat → Int32) (i : Nat) : Nat → Int32 := upd (upd (upd g 25 (nI (men B i))) 26 (mkd B i)) 27 (nI (lst B i))
/-- the text that is read: from, size, its bytes -/
def TXC (g : Nat → Int32) (a : Nat → Nat → Int32) (fr n : Nat) (B : Nat → Int32) : Prop := g 23 = nI fr ∧ g 24 = nI n ∧ fr + 160 ≤ 960 ∧ n ≤ 160 ∧ (∀ k, k < n → B k = a 1 (fr + k)) ∧ (∀ k, n ≤ k → B k = -1) ∧ (∀ k, k < n → ¬ B k < 0)
theorem skp_le {B : Nat → Int32} {n : Nat} (hB : ∀ k, n ≤ k → B k = -1) : ∀ f i, i ≤ n → i ≤ skp B f i ∧ skp B f i ≤ n := by
  intro f
  induction f with
  | zero => intro i hi; exact ⟨Nat.le_refl _, hi⟩
  | succ f ih =>
    intro i hi
    simp only [skp]
    split
    · rename_i h
      have hlt : i < n := by
        rcases Nat.lt_or_ge i n with q | q
        · exact q
        · rw [hB i q] at h; exact absurd h (by decide)
      have := ih (i + 1) hlt
      omega
    · exact ⟨Nat.le_refl _, hi⟩
theorem skp_end {B : Nat → Int32} {n : Nat} (hB : ∀ k, n ≤ k → B k = -1) : ∀ f i, i ≤ n → n < i + f → ¬ (B (skp B f i) = 32 ∨ B (skp B f i) = 10) := by
  intro f
  induction f with
  | zero => intro i hi hf; omega
  | succ f ih =>
    intro i hi hf
    simp only [skp]
    split
    · rename_i h
      have hlt : i < n := by
        rcases Nat.lt_or_ge i n with q | q
        · exact q
        · rw [hB i q] at h; exact absurd h (by decide)
      exact ih (i + 1) hlt (by omega)
    · rename_i h; exact h
theorem wdp_le {B : Nat → Int32} {n : Nat} (hB : ∀ k, n ≤ k → B k = -1) : ∀ f i, i ≤ n → i ≤ wdp B f i ∧ wdp B f i ≤ n := by
  intro f
  induction f with
  | zero => intro i hi; exact ⟨Nat.le_refl _, hi⟩
  | succ f ih =>
    intro i hi
    simp only [wdp]
    split
    · exact ⟨Nat.le_refl _, hi⟩
    · rename_i h
      have hlt : i < n := by
        rcases Nat.lt_or_ge i n with q | q
        · exact q
        · rw [hB i q] at h; exact absurd (by decide) h
      have := ih (i + 1) hlt
      omega
theorem dgp_le {B : Nat → Int32} {n : Nat} (hB : ∀ k, n ≤ k → B k = -1) : ∀ f i, i ≤ n → i ≤ dgp B f i ∧ dgp B f i ≤ n := by
  intro f
  induction f with
  | zero => intro i hi; exact ⟨Nat.le_refl _, hi⟩
  | succ f ih =>
    intro i hi
    simp only [dgp]
    split
    · exact ⟨Nat.le_refl _, hi⟩
    · rename_i h
      have hlt : i < n := by
        rcases Nat.lt_or_ge i n with q | q
        · exact q
        · rw [hB i q] at h; exact absurd (by decide) h
      have := ih (i + 1) hlt
      omega
theorem upd_upd (f : Nat → Int32) (k : Nat) (x y : Int32) : upd (upd f k x) k y = upd f k y := by funext j; simp only [upd]; split <;> rfl
set_option maxRecDepth 100000 in
set_option maxHeartbeats 400000 in
theorem m_byteAt (E : ag) (q : Nat → Nat) (g : Nat → Int32) (tw : Int64) (a : Nat → Nat → Int32) (fr n k : Nat) (B : Nat → Int32) (hT : TXC g a fr n B) (hk : k ≤ n) : CT E yX6_byteAt cX6_byteAt 2 mX6_byteAt.2.2.2.1 1 0 0 [.ref (q 0), .int (nI k)] (MW E q g tw a) (ri (fun r w => r = B k ∧ w = MW E q g tw a)) := by
  refine CT.of (M := mX6_byteAt) (ls := [some (.ref (q 0)), some (.int (nI k))]) (by decide) rfl (by decide) rfl (Nat.le_of_ble_eq_true rfl) ?_
  refine A_iload_n (dX6_byteAt 0 rfl) rfl ?_
  refine A_aload_n (dX6_byteAt 1 rfl) rfl ?_
  refine A_get (dX6_byteAt 2 rfl) fwX6_165 MW_0 MF_24 ?_
  refine A_icmp_ge 22 (dX6_byteAt 3 rfl) (by decide) (fun h5 => ?_) (fun h5 => ?_)
  · have hkn : n ≤ k := by
      rcases Nat.lt_or_ge k n with z | z
      · rw [hT.2.1] at h5; exact absurd h5 (nI_ge z (by have := hT.2.2.2.1; omega))
      · exact z
    refine A_iconst (-1) (dX6_byteAt 12 rfl) (by decide +kernel) ?_
    refine A_ri (dX6_byteAt 13 rfl) rfl rfl ?_
    refine ⟨?_, rfl⟩
    first | (rw [nI_clamp (by omega)]; exact (hT.2.2.2.2.1 k hkn).symm) | exact (hT.2.2.2.2.2.1 k hkn).symm
  · have hkn : k < n := by
      rcases Nat.lt_or_ge k n with z | z
      · exact z
      · rw [hT.2.1] at h5; exact absurd (nI_le z (by have := hT.2.2.2.1; omega)) h5
    have e1 : g 23 + nI k = nI (fr + k) := by rw [hT.1]; exact nI_add fr k
    have h960 := hT.2.2.1
    have h160 := hT.2.2.2.1
    refine A_aload_n (dX6_byteAt 4 rfl) rfl ?_
    refine A_get (dX6_byteAt 5 rfl) fwX6_13 MW_0 MF_1 ?_
    refine A_aload_n (dX6_byteAt 6 rfl) rfl ?_
    refine A_get (dX6_byteAt 7 rfl) fwX6_168 MW_0 MF_23 ?_
    refine A_iload_n (dX6_byteAt 8 rfl) rfl ?_
    refine A_iadd (dX6_byteAt 9 rfl) ?_
    rw [e1]
    refine A_iald (dX6_byteAt 10 rfl) MW_1 (vp_in_nI (by omega) (by decide)) ?_
    refine A_goto 23 (dX6_byteAt 11 rfl) (by decide) ?_
    refine A_ri (dX6_byteAt 13 rfl) rfl rfl ?_
    refine ⟨?_, rfl⟩
    first | (rw [nI_clamp (by omega)]; exact (hT.2.2.2.2.1 k hkn).symm) | exact (hT.2.2.2.2.2.1 k hkn).symm

theorem TXC.put {g : Nat → Int32} {a : Nat → Nat → Int32} {fr n : Nat} {B : Nat → Int32} (h : TXC g a fr n B) (k : Nat) (h1 : k ≠ 23) (h2 : k ≠ 24) {v : Int32} : TXC (upd g k v) a fr n B := by
  obtain ⟨e1, e2, r⟩ := h
  exact ⟨by simp only [upd]; rw [if_neg (fun z => h1 z.symm)]; exact e1, by simp only [upd]; rw [if_neg (fun z => h2 z.symm)]; exact e2, r⟩
set_option maxRecDepth 100000 in
set_option maxHeartbeats 400000 in
theorem m_nxW (E : ag) (q : Nat → Nat) (g : Nat → Int32) (tw : Int64) (a : Nat → Nat → Int32) (fr n : Nat) (B : Nat → Int32) (hT : TXC g a fr n B) (post : Option Value → va_W → Prop) : ∀ (f j : Nat), j ≤ n → n < j + f → AW E mX6_next 3 0 0 39 [some (.ref (q 0)), none, none] [] (MW E q (upd g 25 (nI (skp B f j))) tw a) post → AW E mX6_next 3 0 0 0 [some (.ref (q 0)), none, none] [] (MW E q (upd g 25 (nI j)) tw a) post := by
  intro f
  induction f with
  | zero => intro j h1 h2; omega
  | succ f ih =>
    intro j hj hf K
    refine A_aload_n (dX6_next 0 rfl) rfl ?_
    refine A_aload_n (dX6_next 1 rfl) rfl ?_
    refine A_get (dX6_next 2 rfl) fwX6_171 MW_0 MF_25 ?_
    refine A_callVWi 1 (dX6_next 3 rfl) cbX6_byteAt cwX6_174 (m_byteAt E q (upd g 25 (nI j)) tw a fr n j B (TXC.put hT 25 (by decide) (by decide)) hj) rfl rfl MW_0 rfl rfl (Nat.le_of_ble_eq_true rfl) (Nat.le_of_ble_eq_true rfl) (Nat.le_of_ble_eq_true rfl) (Nat.le_of_ble_eq_true rfl) (Nat.le_of_ble_eq_true rfl) ?_
    rintro r5 w1 ⟨rfl, rfl⟩
    refine AW.pcq (pc2 := 8) rfl ?_
    refine A_bipush (32) (dX6_next 4 rfl) (by decide +kernel) ?_
    refine A_icmp_eq 26 (dX6_next 5 rfl) (by decide) (fun h10 => ?_) (fun h10 => ?_)
    · refine A_aload_n (dX6_next 12 rfl) rfl ?_
      refine A_dup (dX6_next 13 rfl) rfl ?_
      refine A_get (dX6_next 14 rfl) fwX6_171 MW_0 MF_25 ?_
      refine A_iconst (1) (dX6_next 15 rfl) (by decide +kernel) ?_
      refine A_iadd (dX6_next 16 rfl) ?_
      refine AW.stack (st2 := [.int (nI (j + 1)), .ref (q 0)]) (by show [Value.int (nI j + 1), _] = _; rw [nI_1]) ?_
      refine A_put (dX6_next 17 rfl) fwX6_171 fcX6 ftX6_25 MW_0 rfl rfl ML_0 (MP_25 _) ?_
      refine A_goto 0 (dX6_next 18 rfl) (by decide) ?_
      rw [upd_upd]
      have hw : B j = 32 ∨ B j = 10 := by first | exact Or.inl (by assumption) | exact Or.inr (by assumption)
      have hlt : j < n := by
        rcases Nat.lt_or_ge j n with z | z
        · exact z
        · rw [hT.2.2.2.2.2.1 j z] at hw; exact absurd hw (by decide)
      refine ih (j + 1) hlt (by omega) ?_
      rw [skp, if_pos hw] at K
      exact K
    · refine A_aload_n (dX6_next 6 rfl) rfl ?_
      refine A_aload_n (dX6_next 7 rfl) rfl ?_
      refine A_get (dX6_next 8 rfl) fwX6_171 MW_0 MF_25 ?_
      refine A_callVWi 1 (dX6_next 9 rfl) cbX6_byteAt cwX6_174 (m_byteAt E q (upd g 25 (nI j)) tw a fr n j B (TXC.put hT 25 (by decide) (by decide)) hj) rfl rfl MW_0 rfl rfl (Nat.le_of_ble_eq_true rfl) (Nat.le_of_ble_eq_true rfl) (Nat.le_of_ble_eq_true rfl) (Nat.le_of_ble_eq_true rfl) (Nat.le_of_ble_eq_true rfl) ?_
      rintro r18 w1 ⟨rfl, rfl⟩
      refine AW.pcq (pc2 := 21) rfl ?_
      refine A_bipush (10) (dX6_next 10 rfl) (by decide +kernel) ?_
      refine A_icmp_ne 39 (dX6_next 11 rfl) (by decide) (fun h23 => ?_) (fun h23 => ?_)
      · have hw : ¬ (B j = 32 ∨ B j = 10) := by simp_all
        rw [skp, if_neg hw] at K
        exact K
      · refine A_aload_n (dX6_next 12 rfl) rfl ?_
        refine A_dup (dX6_next 13 rfl) rfl ?_
        refine A_get (dX6_next 14 rfl) fwX6_171 MW_0 MF_25 ?_
        refine A_iconst (1) (dX6_next 15 rfl) (by decide +kernel) ?_
        refine A_iadd (dX6_next 16 rfl) ?_
        refine AW.stack (st2 := [.int (nI (j + 1)), .ref (q 0)]) (by show [Value.int (nI j + 1), _] = _; rw [nI_1]) ?_
        refine A_put (dX6_next 17 rfl) fwX6_171 fcX6 ftX6_25 MW_0 rfl rfl ML_0 (MP_25 _) ?_
        refine A_goto 0 (dX6_next 18 rfl) (by decide) ?_
        rw [upd_upd]
        have hw : B j = 32 ∨ B j = 10 := by first | exact Or.inl (by assumption) | exact Or.inr (by assumption)
        have hlt : j < n := by
          rcases Nat.lt_or_ge j n with z | z
          · exact z
          · rw [hT.2.2.2.2.2.1 j z] at hw; exact absurd hw (by decide)
        refine ih (j + 1) hlt (by omega) ?_
        rw [skp, if_pos hw] at K
        exact K
set_option maxRecDepth 100000 in
set_option maxHeartbeats 400000 in
theorem m_nxL (E : ag) (q : Nat → Nat) (g : Nat → Int32) (tw : Int64) (a : Nat → Nat → Int32) (fr n : Nat) (B : Nat → Int32) (hT : TXC g a fr n B) (b : Int32) : ∀ (f j : Nat), j ≤ n → n < j + f → AW E mX6_next 3 0 0 100 [some (.ref (q 0)), some (.int b), none] [] (MW E q (upd g 25 (nI j)) tw a) (rv (fun w => w = MW E q (upd g 25 (nI (wdp B f j))) tw a)) := by
  intro f
  induction f with
  | zero => intro j h1 h2; omega
  | succ f ih =>
    intro j hj hf
    refine A_aload_n (dX6_next 50 rfl) rfl ?_
    refine A_aload_n (dX6_next 51 rfl) rfl ?_
    refine A_get (dX6_next 52 rfl) fwX6_171 MW_0 MF_25 ?_
    refine A_callVWi 1 (dX6_next 53 rfl) cbX6_byteAt cwX6_174 (m_byteAt E q (upd g 25 (nI j)) tw a fr n j B (TXC.put hT 25 (by decide) (by decide)) hj) rfl rfl MW_0 rfl rfl (Nat.le_of_ble_eq_true rfl) (Nat.le_of_ble_eq_true rfl) (Nat.le_of_ble_eq_true rfl) (Nat.le_of_ble_eq_true rfl) (Nat.le_of_ble_eq_true rfl) ?_
    rintro r105 w1 ⟨rfl, rfl⟩
    refine AW.pcq (pc2 := 108) rfl ?_
    refine A_i2l (dX6_next 54 rfl) ?_
    refine A_ldc2 (dX6_next 55 rfl) kcX6_183 ?_
    refine A_ldc2 (dX6_next 56 rfl) kcX6_185 ?_
    refine A_callSWi 3 (dX6_next 57 rfl) cbX6_in cwX6_103 (m_in E _ (B j) 97 122 _ _ _ rfl (by decide) (by decide)) rfl rfl (Nat.le_of_ble_eq_true rfl) (Nat.le_of_ble_eq_true rfl) (Nat.le_of_ble_eq_true rfl) (Nat.le_of_ble_eq_true rfl) (Nat.le_of_ble_eq_true rfl) ?_
    rintro r115 w1 ⟨rfl, rfl⟩
    refine AW.pcq (pc2 := 118) rfl ?_
    refine A_if_eq 321 (dX6_next 58 rfl) (by decide) (fun h118 => ?_) (fun h118 => ?_)
    · refine A_rv (dX6_next 163 rfl) rfl ?_
      rw [wdp, if_pos (by assumption)]
    · refine A_aload_n (dX6_next 59 rfl) rfl ?_
      refine A_dup (dX6_next 60 rfl) rfl ?_
      refine A_get (dX6_next 61 rfl) fwX6_171 MW_0 MF_25 ?_
      refine A_iconst (1) (dX6_next 62 rfl) (by decide +kernel) ?_
      refine A_iadd (dX6_next 63 rfl) ?_
      refine AW.stack (st2 := [.int (nI (j + 1)), .ref (q 0)]) (by show [Value.int (nI j + 1), _] = _; rw [nI_1]) ?_
      refine A_put (dX6_next 64 rfl) fwX6_171 fcX6 ftX6_25 MW_0 rfl rfl ML_0 (MP_25 _) ?_
      refine A_goto 100 (dX6_next 65 rfl) (by decide) ?_
      rw [upd_upd]
      have hlt : j < n := by
        rcases Nat.lt_or_ge j n with z | z
        · exact z
        · rw [hT.2.2.2.2.2.1 j z] at h118; exact absurd (by decide) h118
      rw [wdp, if_neg (by assumption)]
      exact ih (j + 1) hlt (by omega)
set_option maxRecDepth 100000 in
set_option maxHeartbeats 400000 in
theorem m_nxD (E : ag) (q : Nat → Nat) (g : Nat → Int32) (tw : Int64) (a : Nat → Nat → Int32) (fr n : Nat) (B : Nat → Int32) (hT : TXC g a fr n B) (b : Int32) (s : Nat) : ∀ (f c : Nat), s + c ≤ n → n < s + c + f → AW E mX6_next 3 0 0 160 [some (.ref (q 0)), some (.int b), some (.int (nI c))] [] (MW E q (upd g 25 (nI (s + c))) (dv64 B s c) a) (rv (fun w => w = MW E q (upd (upd g 25 (nI (dgp B f (s + c)))) 26 (if 4 < dgp B f (s + c) - s then 4 else 2)) (dv64 B s (dgp B f (s + c) - s)) a)) := by
  intro f
  induction f with
  | zero => intro c h1 h2; omega
  | succ f ih =>
    intro c hj hf
    refine A_aload_n (dX6_next 80 rfl) rfl ?_
    refine A_aload_n (dX6_next 81 rfl) rfl ?_
    refine A_get (dX6_next 82 rfl) fwX6_171 MW_0 MF_25 ?_
    refine A_callVWi 1 (dX6_next 83 rfl) cbX6_byteAt cwX6_174 (m_byteAt E q (upd g 25 (nI (s + c))) (dv64 B s c) a fr n (s + c) B (TXC.put hT 25 (by decide) (by decide)) hj) rfl rfl MW_0 rfl rfl (Nat.le_of_ble_eq_true rfl) (Nat.le_of_ble_eq_true rfl) (Nat.le_of_ble_eq_true rfl) (Nat.le_of_ble_eq_true rfl) (Nat.le_of_ble_eq_true rfl) ?_
    rintro r165 w1 ⟨rfl, rfl⟩
    refine AW.pcq (pc2 := 168) rfl ?_
    refine A_i2l (dX6_next 84 rfl) ?_
    refine A_ldc2 (dX6_next 85 rfl) kcX6_187 ?_
    refine A_ldc2 (dX6_next 86 rfl) kcX6_189 ?_
    refine A_callSWi 3 (dX6_next 87 rfl) cbX6_in cwX6_103 (m_in E _ (B (s + c)) 48 57 _ _ _ rfl (by decide) (by decide)) rfl rfl (Nat.le_of_ble_eq_true rfl) (Nat.le_of_ble_eq_true rfl) (Nat.le_of_ble_eq_true rfl) (Nat.le_of_ble_eq_true rfl) (Nat.le_of_ble_eq_true rfl) ?_
    rintro r175 w1 ⟨rfl, rfl⟩
    refine AW.pcq (pc2 := 178) rfl ?_
    refine A_if_eq 235 (dX6_next 88 rfl) (by decide) (fun h178 => ?_) (fun h178 => ?_)
    · refine A_aload_n (dX6_next 117 rfl) rfl ?_
      refine A_iload_n (dX6_next 118 rfl) rfl ?_
      refine A_iconst (4) (dX6_next 119 rfl) (by decide +kernel) ?_
      refine A_icmp_le 245 (dX6_next 120 rfl) (by decide) (fun h238 => ?_) (fun h238 => ?_)
      · refine A_iconst (2) (dX6_next 123 rfl) (by decide +kernel) ?_
        refine A_put (dX6_next 124 rfl) fwX6_180 fcX6 ftX6_26 MW_0 rfl rfl ML_0 (MP_26 _) ?_
        refine A_goto 321 (dX6_next 125 rfl) (by decide) ?_
        refine A_rv (dX6_next 163 rfl) rfl ?_
        have hd : inI (B (s + c)) 48 57 = 0 := by assumption
        rw [dgp, if_pos hd, Nat.add_sub_cancel_left]
        first | (rw [if_neg (fun z => absurd h238 (nI_ge (a := 4) (b := c) z (by have := hT.2.2.2.1; omega)))]) | (rw [if_pos (by rcases Nat.lt_or_ge 4 c with z | z; exact z; exact absurd (show nI c ≤ (4 : Int32) from nI_le z (by decide)) h238)])
      · refine A_iconst (4) (dX6_next 121 rfl) (by decide +kernel) ?_
        refine A_goto 246 (dX6_next 122 rfl) (by decide) ?_
        refine A_put (dX6_next 124 rfl) fwX6_180 fcX6 ftX6_26 MW_0 rfl rfl ML_0 (MP_26 _) ?_
        refine A_goto 321 (dX6_next 125 rfl) (by decide) ?_
        refine A_rv (dX6_next 163 rfl) rfl ?_
        have hd : inI (B (s + c)) 48 57 = 0 := by assumption
        rw [dgp, if_pos hd, Nat.add_sub_cancel_left]
        first | (rw [if_neg (fun z => absurd h238 (nI_ge (a := 4) (b := c) z (by have := hT.2.2.2.1; omega)))]) | (rw [if_pos (by rcases Nat.lt_or_ge 4 c with z | z; exact z; exact absurd (show nI c ≤ (4 : Int32) from nI_le z (by decide)) h238)])
    · refine A_aload_n (dX6_next 89 rfl) rfl ?_
      refine A_iload_n (dX6_next 90 rfl) rfl ?_
      refine A_iconst (4) (dX6_next 91 rfl) (by decide +kernel) ?_
      refine A_icmp_ge 212 (dX6_next 92 rfl) (by decide) (fun h184 => ?_) (fun h184 => ?_)
      · have h4 : ¬ c < 4 := fun z => absurd h184 (nI_ge (a := c) (b := 4) z (by decide))
        refine A_aload_n (dX6_next 106 rfl) rfl ?_
        refine A_get (dX6_next 107 rfl) fwX6_191 MW_0 MF_28 ?_
        refine A_put (dX6_next 108 rfl) fwX6_191 fcX6 ftX6_28 MW_0 rfl rfl ML_0 (MP_28 _) ?_
        refine A_iinc (ls2 := [_, _, _]) (nI (c + 1)) (dX6_next 109 rfl) rfl (nI_1 c) (by decide) rfl rfl ?_
        refine A_aload_n (dX6_next 110 rfl) rfl ?_
        refine A_dup (dX6_next 111 rfl) rfl ?_
        refine A_get (dX6_next 112 rfl) fwX6_171 MW_0 MF_25 ?_
        refine A_iconst (1) (dX6_next 113 rfl) (by decide +kernel) ?_
        refine AW.pcq (pc2 := 228) rfl ?_
        refine A_iadd (dX6_next 114 rfl) ?_
        refine AW.stack (st2 := [.int (nI (s + (c + 1))), .ref (q 0)]) (by show [Value.int (nI (s + c) + 1), _] = _; rw [nI_1]; rfl) ?_
        refine A_put (dX6_next 115 rfl) fwX6_171 fcX6 ftX6_25 MW_0 rfl rfl ML_0 (MP_25 _) ?_
        refine A_goto 160 (dX6_next 116 rfl) (by decide) ?_
        rw [upd_upd]
        have hd : ¬ inI (B (s + c)) 48 57 = 0 := by assumption
        have hlt : s + c < n := by
          rcases Nat.lt_or_ge (s + c) n with z | z
          · exact z
          · rw [hT.2.2.2.2.2.1 (s + c) z] at hd; exact absurd (by decide) hd
        rw [dgp, if_neg hd]
        have h9 := ih (c + 1) (by omega) (by omega)
        first | (rw [show dv64 B s (c + 1) = 10 * dv64 B s c + (B (s + c)).toInt64 - 48 from if_pos (by assumption)] at h9; exact h9) | (rw [show dv64 B s (c + 1) = dv64 B s c from if_neg (by assumption)] at h9; exact h9)
      · have h4 : c < 4 := by
          rcases Nat.lt_or_ge c 4 with z | z
          · exact z
          · exact absurd (show (4 : Int32) ≤ nI c from nI_le z (by have := hT.2.2.2.1; omega)) h184
        refine A_ldc2 (dX6_next 93 rfl) kcX6_195 ?_
        refine A_aload_n (dX6_next 94 rfl) rfl ?_
        refine A_get (dX6_next 95 rfl) fwX6_191 MW_0 MF_28 ?_
        refine A_lmul (dX6_next 96 rfl) ?_
        refine A_aload_n (dX6_next 97 rfl) rfl ?_
        refine A_aload_n (dX6_next 98 rfl) rfl ?_
        refine A_get (dX6_next 99 rfl) fwX6_171 MW_0 MF_25 ?_
        refine A_callVWi 1 (dX6_next 100 rfl) cbX6_byteAt cwX6_174 (m_byteAt E q (upd g 25 (nI (s + c))) (dv64 B s c) a fr n (s + c) B (TXC.put hT 25 (by decide) (by decide)) hj) rfl rfl MW_0 rfl rfl (Nat.le_of_ble_eq_true rfl) (Nat.le_of_ble_eq_true rfl) (Nat.le_of_ble_eq_true rfl) (Nat.le_of_ble_eq_true rfl) (Nat.le_of_ble_eq_true rfl) ?_
        rintro r200 w1 ⟨rfl, rfl⟩
        refine AW.pcq (pc2 := 203) rfl ?_
        refine A_i2l (dX6_next 101 rfl) ?_
        refine A_ladd (dX6_next 102 rfl) ?_
        refine A_ldc2 (dX6_next 103 rfl) kcX6_187 ?_
        refine A_lsub (dX6_next 104 rfl) ?_
        refine A_goto 216 (dX6_next 105 rfl) (by decide) ?_
        refine A_put (dX6_next 108 rfl) fwX6_191 fcX6 ftX6_28 MW_0 rfl rfl ML_0 (MP_28 _) ?_
        refine A_iinc (ls2 := [_, _, _]) (nI (c + 1)) (dX6_next 109 rfl) rfl (nI_1 c) (by decide) rfl rfl ?_
        refine A_aload_n (dX6_next 110 rfl) rfl ?_
        refine A_dup (dX6_next 111 rfl) rfl ?_
        refine A_get (dX6_next 112 rfl) fwX6_171 MW_0 MF_25 ?_
        refine A_iconst (1) (dX6_next 113 rfl) (by decide +kernel) ?_
        refine A_iadd (dX6_next 114 rfl) ?_
        refine AW.stack (st2 := [.int (nI (s + (c + 1))), .ref (q 0)]) (by show [Value.int (nI (s + c) + 1), _] = _; rw [nI_1]; rfl) ?_
        refine A_put (dX6_next 115 rfl) fwX6_171 fcX6 ftX6_25 MW_0 rfl rfl ML_0 (MP_25 _) ?_
        refine AW.pcq (pc2 := 232) rfl ?_
        refine A_goto 160 (dX6_next 116 rfl) (by decide) ?_
        rw [upd_upd]
        have hd : ¬ inI (B (s + c)) 48 57 = 0 := by assumption
        have hlt : s + c < n := by
          rcases Nat.lt_or_ge (s + c) n with z | z
          · exact z
          · rw [hT.2.2.2.2.2.1 (s + c) z] at hd; exact absurd (by decide) hd
        rw [dgp, if_neg hd]
        have h9 := ih (c + 1) (by omega) (by omega)
        first | (rw [show dv64 B s (c + 1) = 10 * dv64 B s c + (B (s + c)).toInt64 - 48 from if_pos (by assumption)] at h9; exact h9) | (rw [show dv64 B s (c + 1) = dv64 B s c from if_neg (by assumption)] at h9; exact h9)
end
section
theorem upd_self {f : Nat → Int32} {k : Nat} {x : Int32} (h : f k = x) : upd f k x = f := by funext j; simp only [upd]; split <;> simp_all
theorem nxg_eq {g h : Nat → Int32} {x y z : Int32} (h25 : h 25 = x) (h26 : h 26 = y) (h27 : h 27 = z) (hk : ∀ k, k ≠ 25 → k ≠ 26 → k ≠ 27 → h k = g k) : h = upd (upd (upd g 25 x) 26 y) 27 z := by
  funext k
  simp only [upd]
  split
  · rename_i e; rw [e]; exact h27
  · split
    · rename_i e; rw [e]; exact h26
    · split
      · rename_i e; rw [e]; exact h25
      · exact hk k (by assumption) (by assumption) (by assumption)
section
variable {B : Nat → Int32} {j : Nat} {tw : Int64}
theorem nx_end (h : B (lst B j) < 0) : mkd B j = 0 ∧ men B j = lst B j ∧ mtw B tw j = tw := by simp [mkd, men, mtw, h]
theorem nx_word (h0 : ¬ B (lst B j) < 0) (h : ¬ inI (B (lst B j)) 97 122 = 0) : mkd B j = 1 ∧ men B j = wdp B 161 (lst B j) ∧ mtw B tw j = tw := by simp [mkd, men, mtw, h0, h]
theorem nx_num (h0 : ¬ B (lst B j) < 0) (h1 : inI (B (lst B j)) 97 122 = 0) (h : ¬ inI (B (lst B j)) 48 57 = 0) : mkd B j = (if 4 < dgp B 161 (lst B j) - lst B j then 4 else 2) ∧ men B j = dgp B 161 (lst B j) ∧ mtw B tw j = dv64 B (lst B j) (dgp B 161 (lst B j) - lst B j) := by simp [mkd, men, mtw, h0, h1, h]
theorem nx_sign (h0 : ¬ B (lst B j) < 0) (h1 : inI (B (lst B j)) 97 122 = 0) (h2 : inI (B (lst B j)) 48 57 = 0) (h : isSg (B (lst B j))) : mkd B j = 3 ∧ men B j = lst B j + 1 ∧ mtw B tw j = (B (lst B j)).toInt64 := by
  simp only [mkd, men, mtw, h0, h1, h2, if_pos h]
  simp
theorem nx_wrong (h0 : ¬ B (lst B j) < 0) (h1 : inI (B (lst B j)) 97 122 = 0) (h2 : inI (B (lst B j)) 48 57 = 0) (h : ¬ isSg (B (lst B j))) : mkd B j = 4 ∧ men B j = lst B j ∧ mtw B tw j = tw := by
  simp only [mkd, men, mtw, h0, h1, h2, if_neg h]
  simp
end
set_option maxRecDepth 100000 in
set_option maxHeartbeats 400000 in
theorem m_nx39 (E : ag) (q : Nat → Nat) (g : Nat → Int32) (tw : Int64) (a : Nat → Nat → Int32) (fr n : Nat) (B : Nat → Int32) (hT : TXC g a fr n B) (j : Nat) (hs : lst B j ≤ n) : AW E mX6_next 3 0 0 39 [some (.ref (q 0)), none, none] [] (MW E q (upd g 25 (nI (lst B j))) tw a) (rv (fun w => w = MW E q (nxg B g j) (mtw B tw j) a)) := by
  refine A_aload_n (dX6_next 19 rfl) rfl ?_
  refine A_aload_n (dX6_next 20 rfl) rfl ?_
  refine A_get (dX6_next 21 rfl) fwX6_171 MW_0 MF_25 ?_
  refine A_put (dX6_next 22 rfl) fwX6_177 fcX6 ftX6_27 MW_0 rfl rfl ML_0 (MP_27 _) ?_
  refine A_aload_n (dX6_next 23 rfl) rfl ?_
  refine A_aload_n (dX6_next 24 rfl) rfl ?_
  refine A_get (dX6_next 25 rfl) fwX6_171 MW_0 MF_25 ?_
  refine A_callVWi 1 (dX6_next 26 rfl) cbX6_byteAt cwX6_174 (m_byteAt E q (upd (upd g 25 (nI (lst B j))) 27 (nI (lst B j))) tw a fr n (lst B j) B (TXC.put (TXC.put hT 25 (by decide) (by decide)) 27 (by decide) (by decide)) hs) rfl rfl MW_0 rfl rfl (Nat.le_of_ble_eq_true rfl) (Nat.le_of_ble_eq_true rfl) (Nat.le_of_ble_eq_true rfl) (Nat.le_of_ble_eq_true rfl) (Nat.le_of_ble_eq_true rfl) ?_
  rintro r52 w1 ⟨rfl, rfl⟩
  refine AW.pcq (pc2 := 55) rfl ?_
  refine A_istore_n (ls2 := [_, _, _]) (dX6_next 27 rfl) (by decide) rfl rfl ?_
  refine A_aload_n (dX6_next 28 rfl) rfl ?_
  refine A_iconst (4) (dX6_next 29 rfl) (by decide +kernel) ?_
  refine A_put (dX6_next 30 rfl) fwX6_180 fcX6 ftX6_26 MW_0 rfl rfl ML_0 (MP_26 _) ?_
  refine A_iload_n (dX6_next 31 rfl) rfl ?_
  refine A_if_ge 81 (dX6_next 32 rfl) (by decide) (fun h62 => ?_) (fun h62 => ?_)
  · have g0 : ¬ B (lst B j) < 0 := nlt_ge h62
    refine A_iload_n (dX6_next 41 rfl) rfl ?_
    refine A_i2l (dX6_next 42 rfl) ?_
    refine A_ldc2 (dX6_next 43 rfl) kcX6_183 ?_
    refine A_ldc2 (dX6_next 44 rfl) kcX6_185 ?_
    refine A_callSWi 3 (dX6_next 45 rfl) cbX6_in cwX6_103 (m_in E _ (B (lst B j)) 97 122 _ _ _ rfl (by decide) (by decide)) rfl rfl (Nat.le_of_ble_eq_true rfl) (Nat.le_of_ble_eq_true rfl) (Nat.le_of_ble_eq_true rfl) (Nat.le_of_ble_eq_true rfl) (Nat.le_of_ble_eq_true rfl) ?_
    rintro r89 w1 ⟨rfl, rfl⟩
    refine AW.pcq (pc2 := 92) rfl ?_
    refine A_if_eq 134 (dX6_next 46 rfl) (by decide) (fun h92 => ?_) (fun h92 => ?_)
    · refine A_iload_n (dX6_next 66 rfl) rfl ?_
      refine A_i2l (dX6_next 67 rfl) ?_
      refine A_ldc2 (dX6_next 68 rfl) kcX6_187 ?_
      refine A_ldc2 (dX6_next 69 rfl) kcX6_189 ?_
      refine A_callSWi 3 (dX6_next 70 rfl) cbX6_in cwX6_103 (m_in E _ (B (lst B j)) 48 57 _ _ _ rfl (by decide) (by decide)) rfl rfl (Nat.le_of_ble_eq_true rfl) (Nat.le_of_ble_eq_true rfl) (Nat.le_of_ble_eq_true rfl) (Nat.le_of_ble_eq_true rfl) (Nat.le_of_ble_eq_true rfl) ?_
      rintro r142 w1 ⟨rfl, rfl⟩
      refine AW.pcq (pc2 := 145) rfl ?_
      refine A_if_eq 252 (dX6_next 71 rfl) (by decide) (fun h145 => ?_) (fun h145 => ?_)
      · refine A_iload_n (dX6_next 126 rfl) rfl ?_
        refine A_bipush (40) (dX6_next 127 rfl) (by decide +kernel) ?_
        refine A_icmp_eq 300 (dX6_next 128 rfl) (by decide) (fun h255 => ?_) (fun h255 => ?_)
        · refine A_aload_n (dX6_next 150 rfl) rfl ?_
          refine A_iconst (3) (dX6_next 151 rfl) (by decide +kernel) ?_
          refine A_put (dX6_next 152 rfl) fwX6_180 fcX6 ftX6_26 MW_0 rfl rfl ML_0 (MP_26 _) ?_
          refine A_aload_n (dX6_next 153 rfl) rfl ?_
          refine A_iload_n (dX6_next 154 rfl) rfl ?_
          refine A_i2l (dX6_next 155 rfl) ?_
          refine A_put (dX6_next 156 rfl) fwX6_191 fcX6 ftX6_28 MW_0 rfl rfl ML_0 (MP_28 _) ?_
          refine A_aload_n (dX6_next 157 rfl) rfl ?_
          refine AW.pcq (pc2 := 312) rfl ?_
          refine A_dup (dX6_next 158 rfl) rfl ?_
          refine A_get (dX6_next 159 rfl) fwX6_171 MW_0 MF_25 ?_
          refine A_iconst (1) (dX6_next 160 rfl) (by decide +kernel) ?_
          refine A_iadd (dX6_next 161 rfl) ?_
          refine AW.stack (st2 := [.int (nI (lst B j + 1)), .ref (q 0)]) (by show [Value.int (nI (lst B j) + 1), _] = _; rw [nI_1]) ?_
          refine A_put (dX6_next 162 rfl) fwX6_171 fcX6 ftX6_25 MW_0 rfl rfl ML_0 (MP_25 _) ?_
          refine A_rv (dX6_next 163 rfl) rfl ?_
          first
            | (obtain ⟨e1, e2, e3⟩ := nx_end (tw := tw) g0; unfold nxg; rw [e1, e2, e3]; exact congrArg (fun h => MW E q h _ a) (nxg_eq rfl rfl rfl (fun k z1 z2 z3 => by simp only [upd]; simp [z1, z2, z3])))
            | (obtain ⟨e1, e2, e3⟩ := nx_sign (tw := tw) g0 h92 h145 (by simp_all [isSg]); unfold nxg; rw [e1, e2, e3]; exact congrArg (fun h => MW E q h _ a) (nxg_eq rfl rfl rfl (fun k z1 z2 z3 => by simp only [upd]; simp [z1, z2, z3])))
            | (obtain ⟨e1, e2, e3⟩ := nx_wrong (tw := tw) g0 h92 h145 (by simp_all [isSg]); unfold nxg; rw [e1, e2, e3]; exact congrArg (fun h => MW E q h _ a) (nxg_eq rfl rfl rfl (fun k z1 z2 z3 => by simp only [upd]; simp [z1, z2, z3])))
        · refine A_iload_n (dX6_next 129 rfl) rfl ?_
          refine A_bipush (41) (dX6_next 130 rfl) (by decide +kernel) ?_
          refine A_icmp_eq 300 (dX6_next 131 rfl) (by decide) (fun h261 => ?_) (fun h261 => ?_)
          · refine A_aload_n (dX6_next 150 rfl) rfl ?_
            refine A_iconst (3) (dX6_next 151 rfl) (by decide +kernel) ?_
            refine A_put (dX6_next 152 rfl) fwX6_180 fcX6 ftX6_26 MW_0 rfl rfl ML_0 (MP_26 _) ?_
            refine A_aload_n (dX6_next 153 rfl) rfl ?_
            refine A_iload_n (dX6_next 154 rfl) rfl ?_
            refine A_i2l (dX6_next 155 rfl) ?_
            refine A_put (dX6_next 156 rfl) fwX6_191 fcX6 ftX6_28 MW_0 rfl rfl ML_0 (MP_28 _) ?_
            refine A_aload_n (dX6_next 157 rfl) rfl ?_
            refine AW.pcq (pc2 := 312) rfl ?_
            refine A_dup (dX6_next 158 rfl) rfl ?_
            refine A_get (dX6_next 159 rfl) fwX6_171 MW_0 MF_25 ?_
            refine A_iconst (1) (dX6_next 160 rfl) (by decide +kernel) ?_
            refine A_iadd (dX6_next 161 rfl) ?_
            refine AW.stack (st2 := [.int (nI (lst B j + 1)), .ref (q 0)]) (by show [Value.int (nI (lst B j) + 1), _] = _; rw [nI_1]) ?_
            refine A_put (dX6_next 162 rfl) fwX6_171 fcX6 ftX6_25 MW_0 rfl rfl ML_0 (MP_25 _) ?_
            refine A_rv (dX6_next 163 rfl) rfl ?_
            first
              | (obtain ⟨e1, e2, e3⟩ := nx_end (tw := tw) g0; unfold nxg; rw [e1, e2, e3]; exact congrArg (fun h => MW E q h _ a) (nxg_eq rfl rfl rfl (fun k z1 z2 z3 => by simp only [upd]; simp [z1, z2, z3])))
              | (obtain ⟨e1, e2, e3⟩ := nx_sign (tw := tw) g0 h92 h145 (by simp_all [isSg]); unfold nxg; rw [e1, e2, e3]; exact congrArg (fun h => MW E q h _ a) (nxg_eq rfl rfl rfl (fun k z1 z2 z3 => by simp only [upd]; simp [z1, z2, z3])))
              | (obtain ⟨e1, e2, e3⟩ := nx_wrong (tw := tw) g0 h92 h145 (by simp_all [isSg]); unfold nxg; rw [e1, e2, e3]; exact congrArg (fun h => MW E q h _ a) (nxg_eq rfl rfl rfl (fun k z1 z2 z3 => by simp only [upd]; simp [z1, z2, z3])))
          · refine A_iload_n (dX6_next 132 rfl) rfl ?_
            refine A_bipush (59) (dX6_next 133 rfl) (by decide +kernel) ?_
            refine A_icmp_eq 300 (dX6_next 134 rfl) (by decide) (fun h267 => ?_) (fun h267 => ?_)
            · refine A_aload_n (dX6_next 150 rfl) rfl ?_
              refine A_iconst (3) (dX6_next 151 rfl) (by decide +kernel) ?_
              refine A_put (dX6_next 152 rfl) fwX6_180 fcX6 ftX6_26 MW_0 rfl rfl ML_0 (MP_26 _) ?_
              refine A_aload_n (dX6_next 153 rfl) rfl ?_
              refine A_iload_n (dX6_next 154 rfl) rfl ?_
              refine A_i2l (dX6_next 155 rfl) ?_
              refine A_put (dX6_next 156 rfl) fwX6_191 fcX6 ftX6_28 MW_0 rfl rfl ML_0 (MP_28 _) ?_
              refine A_aload_n (dX6_next 157 rfl) rfl ?_
              refine AW.pcq (pc2 := 312) rfl ?_
              refine A_dup (dX6_next 158 rfl) rfl ?_
              refine A_get (dX6_next 159 rfl) fwX6_171 MW_0 MF_25 ?_
              refine A_iconst (1) (dX6_next 160 rfl) (by decide +kernel) ?_
              refine A_iadd (dX6_next 161 rfl) ?_
              refine AW.stack (st2 := [.int (nI (lst B j + 1)), .ref (q 0)]) (by show [Value.int (nI (lst B j) + 1), _] = _; rw [nI_1]) ?_
              refine A_put (dX6_next 162 rfl) fwX6_171 fcX6 ftX6_25 MW_0 rfl rfl ML_0 (MP_25 _) ?_
              refine A_rv (dX6_next 163 rfl) rfl ?_
              first
                | (obtain ⟨e1, e2, e3⟩ := nx_end (tw := tw) g0; unfold nxg; rw [e1, e2, e3]; exact congrArg (fun h => MW E q h _ a) (nxg_eq rfl rfl rfl (fun k z1 z2 z3 => by simp only [upd]; simp [z1, z2, z3])))
                | (obtain ⟨e1, e2, e3⟩ := nx_sign (tw := tw) g0 h92 h145 (by simp_all [isSg]); unfold nxg; rw [e1, e2, e3]; exact congrArg (fun h => MW E q h _ a) (nxg_eq rfl rfl rfl (fun k z1 z2 z3 => by simp only [upd]; simp [z1, z2, z3])))
                | (obtain ⟨e1, e2, e3⟩ := nx_wrong (tw := tw) g0 h92 h145 (by simp_all [isSg]); unfold nxg; rw [e1, e2, e3]; exact congrArg (fun h => MW E q h _ a) (nxg_eq rfl rfl rfl (fun k z1 z2 z3 => by simp only [upd]; simp [z1, z2, z3])))
            · refine A_iload_n (dX6_next 135 rfl) rfl ?_
              refine A_bipush (43) (dX6_next 136 rfl) (by decide +kernel) ?_
              refine A_icmp_eq 300 (dX6_next 137 rfl) (by decide) (fun h273 => ?_) (fun h273 => ?_)
              · refine A_aload_n (dX6_next 150 rfl) rfl ?_
                refine A_iconst (3) (dX6_next 151 rfl) (by decide +kernel) ?_
                refine A_put (dX6_next 152 rfl) fwX6_180 fcX6 ftX6_26 MW_0 rfl rfl ML_0 (MP_26 _) ?_
                refine A_aload_n (dX6_next 153 rfl) rfl ?_
                refine A_iload_n (dX6_next 154 rfl) rfl ?_
                refine A_i2l (dX6_next 155 rfl) ?_
                refine A_put (dX6_next 156 rfl) fwX6_191 fcX6 ftX6_28 MW_0 rfl rfl ML_0 (MP_28 _) ?_
                refine A_aload_n (dX6_next 157 rfl) rfl ?_
                refine AW.pcq (pc2 := 312) rfl ?_
                refine A_dup (dX6_next 158 rfl) rfl ?_
                refine A_get (dX6_next 159 rfl) fwX6_171 MW_0 MF_25 ?_
                refine A_iconst (1) (dX6_next 160 rfl) (by decide +kernel) ?_
                refine A_iadd (dX6_next 161 rfl) ?_
                refine AW.stack (st2 := [.int (nI (lst B j + 1)), .ref (q 0)]) (by show [Value.int (nI (lst B j) + 1), _] = _; rw [nI_1]) ?_
                refine A_put (dX6_next 162 rfl) fwX6_171 fcX6 ftX6_25 MW_0 rfl rfl ML_0 (MP_25 _) ?_
                refine A_rv (dX6_next 163 rfl) rfl ?_
                first
                  | (obtain ⟨e1, e2, e3⟩ := nx_end (tw := tw) g0; unfold nxg; rw [e1, e2, e3]; exact congrArg (fun h => MW E q h _ a) (nxg_eq rfl rfl rfl (fun k z1 z2 z3 => by simp only [upd]; simp [z1, z2, z3])))
                  | (obtain ⟨e1, e2, e3⟩ := nx_sign (tw := tw) g0 h92 h145 (by simp_all [isSg]); unfold nxg; rw [e1, e2, e3]; exact congrArg (fun h => MW E q h _ a) (nxg_eq rfl rfl rfl (fun k z1 z2 z3 => by simp only [upd]; simp [z1, z2, z3])))
                  | (obtain ⟨e1, e2, e3⟩ := nx_wrong (tw := tw) g0 h92 h145 (by simp_all [isSg]); unfold nxg; rw [e1, e2, e3]; exact congrArg (fun h => MW E q h _ a) (nxg_eq rfl rfl rfl (fun k z1 z2 z3 => by simp only [upd]; simp [z1, z2, z3])))
              · refine A_iload_n (dX6_next 138 rfl) rfl ?_
                refine A_bipush (45) (dX6_next 139 rfl) (by decide +kernel) ?_
                refine A_icmp_eq 300 (dX6_next 140 rfl) (by decide) (fun h279 => ?_) (fun h279 => ?_)
                · refine A_aload_n (dX6_next 150 rfl) rfl ?_
                  refine A_iconst (3) (dX6_next 151 rfl) (by decide +kernel) ?_
                  refine A_put (dX6_next 152 rfl) fwX6_180 fcX6 ftX6_26 MW_0 rfl rfl ML_0 (MP_26 _) ?_
                  refine A_aload_n (dX6_next 153 rfl) rfl ?_
                  refine A_iload_n (dX6_next 154 rfl) rfl ?_
                  refine A_i2l (dX6_next 155 rfl) ?_
                  refine A_put (dX6_next 156 rfl) fwX6_191 fcX6 ftX6_28 MW_0 rfl rfl ML_0 (MP_28 _) ?_
                  refine A_aload_n (dX6_next 157 rfl) rfl ?_
                  refine AW.pcq (pc2 := 312) rfl ?_
                  refine A_dup (dX6_next 158 rfl) rfl ?_
                  refine A_get (dX6_next 159 rfl) fwX6_171 MW_0 MF_25 ?_
                  refine A_iconst (1) (dX6_next 160 rfl) (by decide +kernel) ?_
                  refine A_iadd (dX6_next 161 rfl) ?_
                  refine AW.stack (st2 := [.int (nI (lst B j + 1)), .ref (q 0)]) (by show [Value.int (nI (lst B j) + 1), _] = _; rw [nI_1]) ?_
                  refine A_put (dX6_next 162 rfl) fwX6_171 fcX6 ftX6_25 MW_0 rfl rfl ML_0 (MP_25 _) ?_
                  refine A_rv (dX6_next 163 rfl) rfl ?_
                  first
                    | (obtain ⟨e1, e2, e3⟩ := nx_end (tw := tw) g0; unfold nxg; rw [e1, e2, e3]; exact congrArg (fun h => MW E q h _ a) (nxg_eq rfl rfl rfl (fun k z1 z2 z3 => by simp only [upd]; simp [z1, z2, z3])))
                    | (obtain ⟨e1, e2, e3⟩ := nx_sign (tw := tw) g0 h92 h145 (by simp_all [isSg]); unfold nxg; rw [e1, e2, e3]; exact congrArg (fun h => MW E q h _ a) (nxg_eq rfl rfl rfl (fun k z1 z2 z3 => by simp only [upd]; simp [z1, z2, z3])))
                    | (obtain ⟨e1, e2, e3⟩ := nx_wrong (tw := tw) g0 h92 h145 (by simp_all [isSg]); unfold nxg; rw [e1, e2, e3]; exact congrArg (fun h => MW E q h _ a) (nxg_eq rfl rfl rfl (fun k z1 z2 z3 => by simp only [upd]; simp [z1, z2, z3])))
                · refine A_iload_n (dX6_next 141 rfl) rfl ?_
                  refine A_bipush (42) (dX6_next 142 rfl) (by decide +kernel) ?_
                  refine A_icmp_eq 300 (dX6_next 143 rfl) (by decide) (fun h285 => ?_) (fun h285 => ?_)
                  · refine A_aload_n (dX6_next 150 rfl) rfl ?_
                    refine A_iconst (3) (dX6_next 151 rfl) (by decide +kernel) ?_
                    refine A_put (dX6_next 152 rfl) fwX6_180 fcX6 ftX6_26 MW_0 rfl rfl ML_0 (MP_26 _) ?_
                    refine A_aload_n (dX6_next 153 rfl) rfl ?_
                    refine A_iload_n (dX6_next 154 rfl) rfl ?_
                    refine A_i2l (dX6_next 155 rfl) ?_
                    refine A_put (dX6_next 156 rfl) fwX6_191 fcX6 ftX6_28 MW_0 rfl rfl ML_0 (MP_28 _) ?_
                    refine A_aload_n (dX6_next 157 rfl) rfl ?_
                    refine AW.pcq (pc2 := 312) rfl ?_
                    refine A_dup (dX6_next 158 rfl) rfl ?_
                    refine A_get (dX6_next 159 rfl) fwX6_171 MW_0 MF_25 ?_
                    refine A_iconst (1) (dX6_next 160 rfl) (by decide +kernel) ?_
                    refine A_iadd (dX6_next 161 rfl) ?_
                    refine AW.stack (st2 := [.int (nI (lst B j + 1)), .ref (q 0)]) (by show [Value.int (nI (lst B j) + 1), _] = _; rw [nI_1]) ?_
                    refine A_put (dX6_next 162 rfl) fwX6_171 fcX6 ftX6_25 MW_0 rfl rfl ML_0 (MP_25 _) ?_
                    refine A_rv (dX6_next 163 rfl) rfl ?_
                    first
                      | (obtain ⟨e1, e2, e3⟩ := nx_end (tw := tw) g0; unfold nxg; rw [e1, e2, e3]; exact congrArg (fun h => MW E q h _ a) (nxg_eq rfl rfl rfl (fun k z1 z2 z3 => by simp only [upd]; simp [z1, z2, z3])))
                      | (obtain ⟨e1, e2, e3⟩ := nx_sign (tw := tw) g0 h92 h145 (by simp_all [isSg]); unfold nxg; rw [e1, e2, e3]; exact congrArg (fun h => MW E q h _ a) (nxg_eq rfl rfl rfl (fun k z1 z2 z3 => by simp only [upd]; simp [z1, z2, z3])))
                      | (obtain ⟨e1, e2, e3⟩ := nx_wrong (tw := tw) g0 h92 h145 (by simp_all [isSg]); unfold nxg; rw [e1, e2, e3]; exact congrArg (fun h => MW E q h _ a) (nxg_eq rfl rfl rfl (fun k z1 z2 z3 => by simp only [upd]; simp [z1, z2, z3])))
                  · refine A_iload_n (dX6_next 144 rfl) rfl ?_
                    refine A_bipush (60) (dX6_next 145 rfl) (by decide +kernel) ?_
                    refine A_icmp_eq 300 (dX6_next 146 rfl) (by decide) (fun h291 => ?_) (fun h291 => ?_)
                    · refine A_aload_n (dX6_next 150 rfl) rfl ?_
                      refine A_iconst (3) (dX6_next 151 rfl) (by decide +kernel) ?_
                      refine A_put (dX6_next 152 rfl) fwX6_180 fcX6 ftX6_26 MW_0 rfl rfl ML_0 (MP_26 _) ?_
                      refine A_aload_n (dX6_next 153 rfl) rfl ?_
                      refine A_iload_n (dX6_next 154 rfl) rfl ?_
                      refine A_i2l (dX6_next 155 rfl) ?_
                      refine A_put (dX6_next 156 rfl) fwX6_191 fcX6 ftX6_28 MW_0 rfl rfl ML_0 (MP_28 _) ?_
                      refine A_aload_n (dX6_next 157 rfl) rfl ?_
                      refine AW.pcq (pc2 := 312) rfl ?_
                      refine A_dup (dX6_next 158 rfl) rfl ?_
                      refine A_get (dX6_next 159 rfl) fwX6_171 MW_0 MF_25 ?_
                      refine A_iconst (1) (dX6_next 160 rfl) (by decide +kernel) ?_
                      refine A_iadd (dX6_next 161 rfl) ?_
                      refine AW.stack (st2 := [.int (nI (lst B j + 1)), .ref (q 0)]) (by show [Value.int (nI (lst B j) + 1), _] = _; rw [nI_1]) ?_
                      refine A_put (dX6_next 162 rfl) fwX6_171 fcX6 ftX6_25 MW_0 rfl rfl ML_0 (MP_25 _) ?_
                      refine A_rv (dX6_next 163 rfl) rfl ?_
                      first
                        | (obtain ⟨e1, e2, e3⟩ := nx_end (tw := tw) g0; unfold nxg; rw [e1, e2, e3]; exact congrArg (fun h => MW E q h _ a) (nxg_eq rfl rfl rfl (fun k z1 z2 z3 => by simp only [upd]; simp [z1, z2, z3])))
                        | (obtain ⟨e1, e2, e3⟩ := nx_sign (tw := tw) g0 h92 h145 (by simp_all [isSg]); unfold nxg; rw [e1, e2, e3]; exact congrArg (fun h => MW E q h _ a) (nxg_eq rfl rfl rfl (fun k z1 z2 z3 => by simp only [upd]; simp [z1, z2, z3])))
                        | (obtain ⟨e1, e2, e3⟩ := nx_wrong (tw := tw) g0 h92 h145 (by simp_all [isSg]); unfold nxg; rw [e1, e2, e3]; exact congrArg (fun h => MW E q h _ a) (nxg_eq rfl rfl rfl (fun k z1 z2 z3 => by simp only [upd]; simp [z1, z2, z3])))
                    · refine A_iload_n (dX6_next 147 rfl) rfl ?_
                      refine A_bipush (61) (dX6_next 148 rfl) (by decide +kernel) ?_
                      refine A_icmp_ne 321 (dX6_next 149 rfl) (by decide) (fun h297 => ?_) (fun h297 => ?_)
                      · refine A_rv (dX6_next 163 rfl) rfl ?_
                        first
                          | (obtain ⟨e1, e2, e3⟩ := nx_end (tw := tw) g0; unfold nxg; rw [e1, e2, e3]; exact congrArg (fun h => MW E q h _ a) (nxg_eq rfl rfl rfl (fun k z1 z2 z3 => by simp only [upd]; simp [z1, z2, z3])))
                          | (obtain ⟨e1, e2, e3⟩ := nx_sign (tw := tw) g0 h92 h145 (by simp_all [isSg]); unfold nxg; rw [e1, e2, e3]; exact congrArg (fun h => MW E q h _ a) (nxg_eq rfl rfl rfl (fun k z1 z2 z3 => by simp only [upd]; simp [z1, z2, z3])))
                          | (obtain ⟨e1, e2, e3⟩ := nx_wrong (tw := tw) g0 h92 h145 (by simp_all [isSg]); unfold nxg; rw [e1, e2, e3]; exact congrArg (fun h => MW E q h _ a) (nxg_eq rfl rfl rfl (fun k z1 z2 z3 => by simp only [upd]; simp [z1, z2, z3])))
                      · refine A_aload_n (dX6_next 150 rfl) rfl ?_
                        refine A_iconst (3) (dX6_next 151 rfl) (by decide +kernel) ?_
                        refine A_put (dX6_next 152 rfl) fwX6_180 fcX6 ftX6_26 MW_0 rfl rfl ML_0 (MP_26 _) ?_
                        refine A_aload_n (dX6_next 153 rfl) rfl ?_
                        refine A_iload_n (dX6_next 154 rfl) rfl ?_
                        refine A_i2l (dX6_next 155 rfl) ?_
                        refine A_put (dX6_next 156 rfl) fwX6_191 fcX6 ftX6_28 MW_0 rfl rfl ML_0 (MP_28 _) ?_
                        refine A_aload_n (dX6_next 157 rfl) rfl ?_
                        refine AW.pcq (pc2 := 312) rfl ?_
                        refine A_dup (dX6_next 158 rfl) rfl ?_
                        refine A_get (dX6_next 159 rfl) fwX6_171 MW_0 MF_25 ?_
                        refine A_iconst (1) (dX6_next 160 rfl) (by decide +kernel) ?_
                        refine A_iadd (dX6_next 161 rfl) ?_
                        refine AW.stack (st2 := [.int (nI (lst B j + 1)), .ref (q 0)]) (by show [Value.int (nI (lst B j) + 1), _] = _; rw [nI_1]) ?_
                        refine A_put (dX6_next 162 rfl) fwX6_171 fcX6 ftX6_25 MW_0 rfl rfl ML_0 (MP_25 _) ?_
                        refine A_rv (dX6_next 163 rfl) rfl ?_
                        first
                          | (obtain ⟨e1, e2, e3⟩ := nx_end (tw := tw) g0; unfold nxg; rw [e1, e2, e3]; exact congrArg (fun h => MW E q h _ a) (nxg_eq rfl rfl rfl (fun k z1 z2 z3 => by simp only [upd]; simp [z1, z2, z3])))
                          | (obtain ⟨e1, e2, e3⟩ := nx_sign (tw := tw) g0 h92 h145 (by simp_all [isSg]); unfold nxg; rw [e1, e2, e3]; exact congrArg (fun h => MW E q h _ a) (nxg_eq rfl rfl rfl (fun k z1 z2 z3 => by simp only [upd]; simp [z1, z2, z3])))
                          | (obtain ⟨e1, e2, e3⟩ := nx_wrong (tw := tw) g0 h92 h145 (by simp_all [isSg]); unfold nxg; rw [e1, e2, e3]; exact congrArg (fun h => MW E q h _ a) (nxg_eq rfl rfl rfl (fun k z1 z2 z3 => by simp only [upd]; simp [z1, z2, z3])))
      · refine A_aload_n (dX6_next 72 rfl) rfl ?_
        refine A_iconst (2) (dX6_next 73 rfl) (by decide +kernel) ?_
        refine A_put (dX6_next 74 rfl) fwX6_180 fcX6 ftX6_26 MW_0 rfl rfl ML_0 (MP_26 _) ?_
        refine A_aload_n (dX6_next 75 rfl) rfl ?_
        refine A_lconst (0) (dX6_next 76 rfl) (by decide +kernel) ?_
        refine A_put (dX6_next 77 rfl) fwX6_191 fcX6 ftX6_28 MW_0 rfl rfl ML_0 (MP_28 _) ?_
        refine A_iconst (0) (dX6_next 78 rfl) (by decide +kernel) ?_
        refine A_istore_n (ls2 := [_, _, _]) (dX6_next 79 rfl) (by decide) rfl rfl ?_
        have h9 := m_nxD E q (upd (upd (upd (upd g 25 (nI (lst B j))) 27 (nI (lst B j))) 26 4) 26 2) tw a fr n B (TXC.put (TXC.put (TXC.put (TXC.put hT 25 (by decide) (by decide)) 27 (by decide) (by decide)) 26 (by decide) (by decide)) 26 (by decide) (by decide)) (B (lst B j)) (lst B j) 161 0 hs (by have := hT.2.2.2.1; omega)
        simp only [Nat.add_zero, dv64] at h9
        refine AW.world (ws2 := MW E q (upd (upd (upd (upd (upd g 25 (nI (lst B j))) 27 (nI (lst B j))) 26 4) 26 2) 25 (nI (lst B j))) 0 a) (congrArg (fun h => MW E q h 0 a) (upd_self rfl).symm) ?_
        refine AW.mono h9 (fun v w h => ?_)
        obtain ⟨h1, rfl⟩ := h
        refine ⟨h1, ?_⟩
        obtain ⟨e1, e2, e3⟩ := nx_num (tw := tw) g0 h92 h145
        unfold nxg
        rw [e1, e2, e3]
        exact congrArg (fun h => MW E q h _ a) (nxg_eq rfl rfl rfl (fun k z1 z2 z3 => by simp only [upd]; simp [z1, z2, z3]))
    · refine A_aload_n (dX6_next 47 rfl) rfl ?_
      refine A_iconst (1) (dX6_next 48 rfl) (by decide +kernel) ?_
      refine A_put (dX6_next 49 rfl) fwX6_180 fcX6 ftX6_26 MW_0 rfl rfl ML_0 (MP_26 _) ?_
      have h9 := m_nxL E q (upd (upd (upd (upd g 25 (nI (lst B j))) 27 (nI (lst B j))) 26 4) 26 1) tw a fr n B (TXC.put (TXC.put (TXC.put (TXC.put hT 25 (by decide) (by decide)) 27 (by decide) (by decide)) 26 (by decide) (by decide)) 26 (by decide) (by decide)) (B (lst B j)) 161 (lst B j) hs (by have := hT.2.2.2.1; omega)
      refine AW.world (ws2 := MW E q (upd (upd (upd (upd (upd g 25 (nI (lst B j))) 27 (nI (lst B j))) 26 4) 26 1) 25 (nI (lst B j))) tw a) (congrArg (fun h => MW E q h tw a) (upd_self rfl).symm) ?_
      refine AW.mono h9 (fun v w h => ?_)
      obtain ⟨h1, rfl⟩ := h
      refine ⟨h1, ?_⟩
      obtain ⟨e1, e2, e3⟩ := nx_word (tw := tw) g0 h92
      unfold nxg
      rw [e1, e2, e3]
      exact congrArg (fun h => MW E q h _ a) (nxg_eq rfl rfl rfl (fun k z1 z2 z3 => by simp only [upd]; simp [z1, z2, z3]))
  · have g0 : B (lst B j) < 0 := lt_nge h62
    have hsn : lst B j = n := by
      rcases Nat.lt_or_ge (lst B j) n with z | z
      · exact absurd g0 (hT.2.2.2.2.2.2 _ z)
      · omega
    refine A_aload_n (dX6_next 33 rfl) rfl ?_
    refine A_iconst (0) (dX6_next 34 rfl) (by decide +kernel) ?_
    refine A_put (dX6_next 35 rfl) fwX6_180 fcX6 ftX6_26 MW_0 rfl rfl ML_0 (MP_26 _) ?_
    refine A_aload_n (dX6_next 36 rfl) rfl ?_
    refine A_aload_n (dX6_next 37 rfl) rfl ?_
    refine A_get (dX6_next 38 rfl) fwX6_165 MW_0 MF_24 ?_
    refine AW.stack (st2 := [.int (nI (lst B j)), .ref (q 0)]) (by show [Value.int (g 24), _] = _; rw [hT.2.1, hsn]) ?_
    refine A_put (dX6_next 39 rfl) fwX6_177 fcX6 ftX6_27 MW_0 rfl rfl ML_0 (MP_27 _) ?_
    refine A_goto 321 (dX6_next 40 rfl) (by decide) ?_
    refine A_rv (dX6_next 163 rfl) rfl ?_
    first
      | (obtain ⟨e1, e2, e3⟩ := nx_end (tw := tw) g0; unfold nxg; rw [e1, e2, e3]; exact congrArg (fun h => MW E q h _ a) (nxg_eq rfl rfl rfl (fun k z1 z2 z3 => by simp only [upd]; simp [z1, z2, z3])))
      | (obtain ⟨e1, e2, e3⟩ := nx_sign (tw := tw) g0 h92 h145 (by simp_all [isSg]); unfold nxg; rw [e1, e2, e3]; exact congrArg (fun h => MW E q h _ a) (nxg_eq rfl rfl rfl (fun k z1 z2 z3 => by simp only [upd]; simp [z1, z2, z3])))
      | (obtain ⟨e1, e2, e3⟩ := nx_wrong (tw := tw) g0 h92 h145 (by simp_all [isSg]); unfold nxg; rw [e1, e2, e3]; exact congrArg (fun h => MW E q h _ a) (nxg_eq rfl rfl rfl (fun k z1 z2 z3 => by simp only [upd]; simp [z1, z2, z3])))
set_option maxRecDepth 100000 in
theorem m_next (E : ag) (q : Nat → Nat) (g : Nat → Int32) (tw : Int64) (a : Nat → Nat → Int32) (fr n : Nat) (B : Nat → Int32) (hT : TXC g a fr n B) (j : Nat) (hj : j ≤ n) (hg : g 25 = nI j) : CT E yX6_next cX6_next 3 mX6_next.2.2.2.1 3 0 0 [.ref (q 0)] (MW E q g tw a) (rv (fun w => w = MW E q (nxg B g j) (mtw B tw j) a)) := by
  refine CT.of (M := mX6_next) (ls := [some (.ref (q 0)), none, none]) (by decide) rfl (by decide) rfl (Nat.le_of_ble_eq_true rfl) ?_
  refine AW.world (ws2 := MW E q (upd g 25 (nI j)) tw a) (congrArg (fun h => MW E q h tw a) (upd_self hg).symm) ?_
  exact m_nxW E q g tw a fr n B hT _ 161 j hj (by have := hT.2.2.2.1; omega) (m_nx39 E q g tw a fr n B hT j (skp_le hT.2.2.2.2.2.1 161 j hj).2)
set_option maxRecDepth 100000 in
set_option maxHeartbeats 400000 in
theorem m_fail (E : ag) (q : Nat → Nat) (g : Nat → Int32) (tw : Int64) (a : Nat → Nat → Int32) : CT E yX6_fail cX6_fail 1 mX6_fail.2.2.2.1 1 0 0 [.ref (q 0)] (MW E q g tw a) (rv (fun w => w = (if g 30 = 0 then MW E q (upd (upd g 30 1) 31 (g 27)) tw a else MW E q g tw a))) := by
  refine CT.of (M := mX6_fail) (ls := [some (.ref (q 0))]) (by decide) rfl (by decide) rfl (Nat.le_of_ble_eq_true rfl) ?_
  refine A_aload_n (dX6_fail 0 rfl) rfl ?_
  refine A_get (dX6_fail 1 rfl) fwX6_197 MW_0 MF_30 ?_
  refine A_if_ne 20 (dX6_fail 2 rfl) (by decide) (fun h4 => ?_) (fun h4 => ?_)
  · refine A_rv (dX6_fail 10 rfl) rfl ?_
    simp_all [upd]
  · refine A_aload_n (dX6_fail 3 rfl) rfl ?_
    refine A_iconst (1) (dX6_fail 4 rfl) (by decide +kernel) ?_
    refine A_put (dX6_fail 5 rfl) fwX6_197 fcX6 ftX6_30 MW_0 (by decide) rfl ML_0 (MP_30 _) ?_
    refine A_aload_n (dX6_fail 6 rfl) rfl ?_
    refine A_aload_n (dX6_fail 7 rfl) rfl ?_
    refine A_get (dX6_fail 8 rfl) fwX6_177 MW_0 MF_27 ?_
    refine A_put (dX6_fail 9 rfl) fwX6_201 fcX6 ftX6_31 MW_0 rfl rfl ML_0 (MP_31 _) ?_
    refine A_rv (dX6_fail 10 rfl) rfl ?_
    simp_all [upd]
end
section
def b01 (p : Prop) [Decidable p] : Int32 := if p then 1 else 0
theorem b01_0 {p : Prop} [Decidable p] : b01 p = 0 ↔ ¬ p := by unfold b01; split <;> simp_all
theorem b01_n {p : Prop} [Decidable p] : ¬ b01 p = 0 ↔ p := by unfold b01; split <;> simp_all
theorem b01_t {p : Prop} [Decidable p] (h : p) : b01 p = 1 := if_pos h
theorem b01_f {p : Prop} [Decidable p] (h : ¬ p) : b01 p = 0 := if_neg h
theorem b01_nar {p : Prop} [Decidable p] : narrow .boolean (.int (b01 p)) = .int (b01 p) := by unfold b01; split <;> decide
def vec (B : Nat → Int32) (s e k : Nat) : Int32 := if s + k < e then B (s + k) else 0
abbrev isW8 (B : Nat → Int32) (s e : Nat) (c0 c1 c2 c3 c4 c5 c6 c7 : Int32) : Prop := e ≤ s + 8 ∧ vec B s e 0 = c0 ∧ vec B s e 1 = c1 ∧ vec B s e 2 = c2 ∧ vec B s e 3 = c3 ∧ vec B s e 4 = c4 ∧ vec B s e 5 = c5 ∧ vec B s e 6 = c6 ∧ vec B s e 7 = c7

def wcode (B : Nat → Int32) (s e : Nat) : Int32 := if isW8 B s e 103 105 118 101 115 0 0 0 then 3 else if isW8 B s e 100 114 105 102 116 115 0 0 then 4 else if isW8 B s e 104 117 114 116 115 0 0 0 then 5 else if isW8 B s e 111 114 0 0 0 0 0 0 then 6 else if isW8 B s e 97 110 100 0 0 0 0 0 then 7 else if isW8 B s e 110 111 116 0 0 0 0 0 then 8 else if isW8 B s e 102 111 114 99 101 0 0 0 then 9 else if isW8 B s e 119 101 116 0 0 0 0 0 then 10 else if isW8 B s e 103 97 112 0 0 0 0 0 then 11 else if isW8 B s e 101 97 114 115 0 0 0 0 then 12 else if isW8 B s e 114 111 117 110 100 0 0 0 then 13 else if isW8 B s e 116 105 114 101 100 0 0 0 then 14 else 2
theorem wc_3 {B : Nat → Int32} {s e : Nat} (h : isW8 B s e 103 105 118 101 115 0 0 0) : wcode B s e = 3 := by
  obtain ⟨h0, h1, h2, h3, h4, h5, h6, h7, h8⟩ := h
  simp [wcode, isW8, h0, h1, h2, h3, h4, h5, h6, h7, h8]
theorem wc_4 {B : Nat → Int32} {s e : Nat} (h : isW8 B s e 100 114 105 102 116 115 0 0) : wcode B s e = 4 := by
  obtain ⟨h0, h1, h2, h3, h4, h5, h6, h7, h8⟩ := h
  simp [wcode, isW8, h0, h1, h2, h3, h4, h5, h6, h7, h8]
theorem wc_5 {B : Nat → Int32} {s e : Nat} (h : isW8 B s e 104 117 114 116 115 0 0 0) : wcode B s e = 5 := by
  obtain ⟨h0, h1, h2, h3, h4, h5, h6, h7, h8⟩ := h
  simp [wcode, isW8, h0, h1, h2, h3, h4, h5, h6, h7, h8]
theorem wc_6 {B : Nat → Int32} {s e : Nat} (h : isW8 B s e 111 114 0 0 0 0 0 0) : wcode B s e = 6 := by
  obtain ⟨h0, h1, h2, h3, h4, h5, h6, h7, h8⟩ := h
  simp [wcode, isW8, h0, h1, h2, h3, h4, h5, h6, h7, h8]
theorem wc_7 {B : Nat → Int32} {s e : Nat} (h : isW8 B s e 97 110 100 0 0 0 0 0) : wcode B s e = 7 := by
  obtain ⟨h0, h1, h2, h3, h4, h5, h6, h7, h8⟩ := h
  simp [wcode, isW8, h0, h1, h2, h3, h4, h5, h6, h7, h8]
theorem wc_8 {B : Nat → Int32} {s e : Nat} (h : isW8 B s e 110 111 116 0 0 0 0 0) : wcode B s e = 8 := by
  obtain ⟨h0, h1, h2, h3, h4, h5, h6, h7, h8⟩ := h
  simp [wcode, isW8, h0, h1, h2, h3, h4, h5, h6, h7, h8]
theorem wc_9 {B : Nat → Int32} {s e : Nat} (h : isW8 B s e 102 111 114 99 101 0 0 0) : wcode B s e = 9 := by
  obtain ⟨h0, h1, h2, h3, h4, h5, h6, h7, h8⟩ := h
  simp [wcode, isW8, h0, h1, h2, h3, h4, h5, h6, h7, h8]
theorem wc_10 {B : Nat → Int32} {s e : Nat} (h : isW8 B s e 119 101 116 0 0 0 0 0) : wcode B s e = 10 := by
  obtain ⟨h0, h1, h2, h3, h4, h5, h6, h7, h8⟩ := h
  simp [wcode, isW8, h0, h1, h2, h3, h4, h5, h6, h7, h8]
theorem wc_11 {B : Nat → Int32} {s e : Nat} (h : isW8 B s e 103 97 112 0 0 0 0 0) : wcode B s e = 11 := by
  obtain ⟨h0, h1, h2, h3, h4, h5, h6, h7, h8⟩ := h
  simp [wcode, isW8, h0, h1, h2, h3, h4, h5, h6, h7, h8]
theorem wc_12 {B : Nat → Int32} {s e : Nat} (h : isW8 B s e 101 97 114 115 0 0 0 0) : wcode B s e = 12 := by
  obtain ⟨h0, h1, h2, h3, h4, h5, h6, h7, h8⟩ := h
  simp [wcode, isW8, h0, h1, h2, h3, h4, h5, h6, h7, h8]
theorem wc_13 {B : Nat → Int32} {s e : Nat} (h : isW8 B s e 114 111 117 110 100 0 0 0) : wcode B s e = 13 := by
  obtain ⟨h0, h1, h2, h3, h4, h5, h6, h7, h8⟩ := h
  simp [wcode, isW8, h0, h1, h2, h3, h4, h5, h6, h7, h8]
theorem wc_14 {B : Nat → Int32} {s e : Nat} (h : isW8 B s e 116 105 114 101 100 0 0 0) : wcode B s e = 14 := by
  obtain ⟨h0, h1, h2, h3, h4, h5, h6, h7, h8⟩ := h
  simp [wcode, isW8, h0, h1, h2, h3, h4, h5, h6, h7, h8]
theorem wc_in (B : Nat → Int32) (s e : Nat) : wcode B s e = 3 ∧ isW8 B s e 103 105 118 101 115 0 0 0 ∨ wcode B s e = 4 ∧ isW8 B s e 100 114 105 102 116 115 0 0 ∨ wcode B s e = 5 ∧ isW8 B s e 104 117 114 116 115 0 0 0 ∨ wcode B s e = 6 ∧ isW8 B s e 111 114 0 0 0 0 0 0 ∨ wcode B s e = 7 ∧ isW8 B s e 97 110 100 0 0 0 0 0 ∨ wcode B s e = 8 ∧ isW8 B s e 110 111 116 0 0 0 0 0 ∨ wcode B s e = 9 ∧ isW8 B s e 102 111 114 99 101 0 0 0 ∨ wcode B s e = 10 ∧ isW8 B s e 119 101 116 0 0 0 0 0 ∨ wcode B s e = 11 ∧ isW8 B s e 103 97 112 0 0 0 0 0 ∨ wcode B s e = 12 ∧ isW8 B s e 101 97 114 115 0 0 0 0 ∨ wcode B s e = 13 ∧ isW8 B s e 114 111 117 110 100 0 0 0 ∨ wcode B s e = 14 ∧ isW8 B s e 116 105 114 101 100 0 0 0 ∨ wcode B s e = 2 := by
  unfold wcode
  by_cases k0 : isW8 B s e 103 105 118 101 115 0 0 0
  · rw [if_pos k0]; exact Or.inl ⟨rfl, k0⟩
  rw [if_neg k0]
  by_cases k1 : isW8 B s e 100 114 105 102 116 115 0 0
  · rw [if_pos k1]; exact Or.inr (Or.inl ⟨rfl, k1⟩)
  rw [if_neg k1]
  by_cases k2 : isW8 B s e 104 117 114 116 115 0 0 0
  · rw [if_pos k2]; exact Or.inr (Or.inr (Or.inl ⟨rfl, k2⟩))
  rw [if_neg k2]
  by_cases k3 : isW8 B s e 111 114 0 0 0 0 0 0
  · rw [if_pos k3]; exact Or.inr (Or.inr (Or.inr (Or.inl ⟨rfl, k3⟩)))
  rw [if_neg k3]
  by_cases k4 : isW8 B s e 97 110 100 0 0 0 0 0
  · rw [if_pos k4]; exact Or.inr (Or.inr (Or.inr (Or.inr (Or.inl ⟨rfl, k4⟩))))
  rw [if_neg k4]
  by_cases k5 : isW8 B s e 110 111 116 0 0 0 0 0
  · rw [if_pos k5]; exact Or.inr (Or.inr (Or.inr (Or.inr (Or.inr (Or.inl ⟨rfl, k5⟩)))))
  rw [if_neg k5]
  by_cases k6 : isW8 B s e 102 111 114 99 101 0 0 0
  · rw [if_pos k6]; exact Or.inr (Or.inr (Or.inr (Or.inr (Or.inr (Or.inr (Or.inl ⟨rfl, k6⟩))))))
  rw [if_neg k6]
  by_cases k7 : isW8 B s e 119 101 116 0 0 0 0 0
  · rw [if_pos k7]; exact Or.inr (Or.inr (Or.inr (Or.inr (Or.inr (Or.inr (Or.inr (Or.inl ⟨rfl, k7⟩)))))))
  rw [if_neg k7]
  by_cases k8 : isW8 B s e 103 97 112 0 0 0 0 0
  · rw [if_pos k8]; exact Or.inr (Or.inr (Or.inr (Or.inr (Or.inr (Or.inr (Or.inr (Or.inr (Or.inl ⟨rfl, k8⟩))))))))
  rw [if_neg k8]
  by_cases k9 : isW8 B s e 101 97 114 115 0 0 0 0
  · rw [if_pos k9]; exact Or.inr (Or.inr (Or.inr (Or.inr (Or.inr (Or.inr (Or.inr (Or.inr (Or.inr (Or.inl ⟨rfl, k9⟩)))))))))
  rw [if_neg k9]
  by_cases k10 : isW8 B s e 114 111 117 110 100 0 0 0
  · rw [if_pos k10]; exact Or.inr (Or.inr (Or.inr (Or.inr (Or.inr (Or.inr (Or.inr (Or.inr (Or.inr (Or.inr (Or.inl ⟨rfl, k10⟩))))))))))
  rw [if_neg k10]
  by_cases k11 : isW8 B s e 116 105 114 101 100 0 0 0
  · rw [if_pos k11]; exact Or.inr (Or.inr (Or.inr (Or.inr (Or.inr (Or.inr (Or.inr (Or.inr (Or.inr (Or.inr (Or.inr (Or.inl ⟨rfl, k11⟩)))))))))))
  rw [if_neg k11]
  exact Or.inr (Or.inr (Or.inr (Or.inr (Or.inr (Or.inr (Or.inr (Or.inr (Or.inr (Or.inr (Or.inr (Or.inr rfl)))))))))))
theorem wci_3 {B : Nat → Int32} {s e : Nat} : wcode B s e = 3 ↔ isW8 B s e 103 105 118 101 115 0 0 0 := by
  refine ⟨fun h => ?_, wc_3⟩
  rcases wc_in B s e with ⟨z, y⟩ | ⟨z, y⟩ | ⟨z, y⟩ | ⟨z, y⟩ | ⟨z, y⟩ | ⟨z, y⟩ | ⟨z, y⟩ | ⟨z, y⟩ | ⟨z, y⟩ | ⟨z, y⟩ | ⟨z, y⟩ | ⟨z, y⟩ | ⟨z⟩
  · first | exact y | (rw [h] at z; exact absurd z (by decide))
  · first | exact y | (rw [h] at z; exact absurd z (by decide))
  · first | exact y | (rw [h] at z; exact absurd z (by decide))
  · first | exact y | (rw [h] at z; exact absurd z (by decide))
  · first | exact y | (rw [h] at z; exact absurd z (by decide))
  · first | exact y | (rw [h] at z; exact absurd z (by decide))
  · first | exact y | (rw [h] at z; exact absurd z (by decide))
  · first | exact y | (rw [h] at z; exact absurd z (by decide))
  · first | exact y | (rw [h] at z; exact absurd z (by decide))
  · first | exact y | (rw [h] at z; exact absurd z (by decide))
  · first | exact y | (rw [h] at z; exact absurd z (by decide))
  · first | exact y | (rw [h] at z; exact absurd z (by decide))
  · rw [h] at z; exact absurd z (by decide)
theorem wci_4 {B : Nat → Int32} {s e : Nat} : wcode B s e = 4 ↔ isW8 B s e 100 114 105 102 116 115 0 0 := by
  refine ⟨fun h => ?_, wc_4⟩
  rcases wc_in B s e with ⟨z, y⟩ | ⟨z, y⟩ | ⟨z, y⟩ | ⟨z, y⟩ | ⟨z, y⟩ | ⟨z, y⟩ | ⟨z, y⟩ | ⟨z, y⟩ | ⟨z, y⟩ | ⟨z, y⟩ | ⟨z, y⟩ | ⟨z, y⟩ | ⟨z⟩
  · first | exact y | (rw [h] at z; exact absurd z (by decide))
  · first | exact y | (rw [h] at z; exact absurd z (by decide))
  · first | exact y | (rw [h] at z; exact absurd z (by decide))
  · first | exact y | (rw [h] at z; exact absurd z (by decide))
  · first | exact y | (rw [h] at z; exact absurd z (by decide))
  · first | exact y | (rw [h] at z; exact absurd z (by decide))
  · first | exact y | (rw [h] at z; exact absurd z (by decide))
  · first | exact y | (rw [h] at z; exact absurd z (by decide))
  · first | exact y | (rw [h] at z; exact absurd z (by decide))
  · first | exact y | (rw [h] at z; exact absurd z (by decide))
  · first | exact y | (rw [h] at z; exact absurd z (by decide))
  · first | exact y | (rw [h] at z; exact absurd z (by decide))
  · rw [h] at z; exact absurd z (by decide)
theorem wci_5 {B : Nat → Int32} {s e : Nat} : wcode B s e = 5 ↔ isW8 B s e 104 117 114 116 115 0 0 0 := by
  refine ⟨fun h => ?_, wc_5⟩
  rcases wc_in B s e with ⟨z, y⟩ | ⟨z, y⟩ | ⟨z, y⟩ | ⟨z, y⟩ | ⟨z, y⟩ | ⟨z, y⟩ | ⟨z, y⟩ | ⟨z, y⟩ | ⟨z, y⟩ | ⟨z, y⟩ | ⟨z, y⟩ | ⟨z, y⟩ | ⟨z⟩
  · first | exact y | (rw [h] at z; exact absurd z (by decide))
  · first | exact y | (rw [h] at z; exact absurd z (by decide))
  · first | exact y | (rw [h] at z; exact absurd z (by decide))
  · first | exact y | (rw [h] at z; exact absurd z (by decide))
  · first | exact y | (rw [h] at z; exact absurd z (by decide))
  · first | exact y | (rw [h] at z; exact absurd z (by decide))
  · first | exact y | (rw [h] at z; exact absurd z (by decide))
  · first | exact y | (rw [h] at z; exact absurd z (by decide))
  · first | exact y | (rw [h] at z; exact absurd z (by decide))
  · first | exact y | (rw [h] at z; exact absurd z (by decide))
  · first | exact y | (rw [h] at z; exact absurd z (by decide))
  · first | exact y | (rw [h] at z; exact absurd z (by decide))
  · rw [h] at z; exact absurd z (by decide)
theorem wci_6 {B : Nat → Int32} {s e : Nat} : wcode B s e = 6 ↔ isW8 B s e 111 114 0 0 0 0 0 0 := by
  refine ⟨fun h => ?_, wc_6⟩
  rcases wc_in B s e with ⟨z, y⟩ | ⟨z, y⟩ | ⟨z, y⟩ | ⟨z, y⟩ | ⟨z, y⟩ | ⟨z, y⟩ | ⟨z, y⟩ | ⟨z, y⟩ | ⟨z, y⟩ | ⟨z, y⟩ | ⟨z, y⟩ | ⟨z, y⟩ | ⟨z⟩
  · first | exact y | (rw [h] at z; exact absurd z (by decide))
  · first | exact y | (rw [h] at z; exact absurd z (by decide))
  · first | exact y | (rw [h] at z; exact absurd z (by decide))
  · first | exact y | (rw [h] at z; exact absurd z (by decide))
  · first | exact y | (rw [h] at z; exact absurd z (by decide))
  · first | exact y | (rw [h] at z; exact absurd z (by decide))
  · first | exact y | (rw [h] at z; exact absurd z (by decide))
  · first | exact y | (rw [h] at z; exact absurd z (by decide))
  · first | exact y | (rw [h] at z; exact absurd z (by decide))
  · first | exact y | (rw [h] at z; exact absurd z (by decide))
  · first | exact y | (rw [h] at z; exact absurd z (by decide))
  · first | exact y | (rw [h] at z; exact absurd z (by decide))
  · rw [h] at z; exact absurd z (by decide)
theorem wci_7 {B : Nat → Int32} {s e : Nat} : wcode B s e = 7 ↔ isW8 B s e 97 110 100 0 0 0 0 0 := by
  refine ⟨fun h => ?_, wc_7⟩
  rcases wc_in B s e with ⟨z, y⟩ | ⟨z, y⟩ | ⟨z, y⟩ | ⟨z, y⟩ | ⟨z, y⟩ | ⟨z, y⟩ | ⟨z, y⟩ | ⟨z, y⟩ | ⟨z, y⟩ | ⟨z, y⟩ | ⟨z, y⟩ | ⟨z, y⟩ | ⟨z⟩
  · first | exact y | (rw [h] at z; exact absurd z (by decide))
  · first | exact y | (rw [h] at z; exact absurd z (by decide))
  · first | exact y | (rw [h] at z; exact absurd z (by decide))
  · first | exact y | (rw [h] at z; exact absurd z (by decide))
  · first | exact y | (rw [h] at z; exact absurd z (by decide))
  · first | exact y | (rw [h] at z; exact absurd z (by decide))
  · first | exact y | (rw [h] at z; exact absurd z (by decide))
  · first | exact y | (rw [h] at z; exact absurd z (by decide))
  · first | exact y | (rw [h] at z; exact absurd z (by decide))
  · first | exact y | (rw [h] at z; exact absurd z (by decide))
  · first | exact y | (rw [h] at z; exact absurd z (by decide))
  · first | exact y | (rw [h] at z; exact absurd z (by decide))
  · rw [h] at z; exact absurd z (by decide)
theorem wci_8 {B : Nat → Int32} {s e : Nat} : wcode B s e = 8 ↔ isW8 B s e 110 111 116 0 0 0 0 0 := by
  refine ⟨fun h => ?_, wc_8⟩
  rcases wc_in B s e with ⟨z, y⟩ | ⟨z, y⟩ | ⟨z, y⟩ | ⟨z, y⟩ | ⟨z, y⟩ | ⟨z, y⟩ | ⟨z, y⟩ | ⟨z, y⟩ | ⟨z, y⟩ | ⟨z, y⟩ | ⟨z, y⟩ | ⟨z, y⟩ | ⟨z⟩
  · first | exact y | (rw [h] at z; exact absurd z (by decide))
  · first | exact y | (rw [h] at z; exact absurd z (by decide))
  · first | exact y | (rw [h] at z; exact absurd z (by decide))
  · first | exact y | (rw [h] at z; exact absurd z (by decide))
  · first | exact y | (rw [h] at z; exact absurd z (by decide))
  · first | exact y | (rw [h] at z; exact absurd z (by decide))
  · first | exact y | (rw [h] at z; exact absurd z (by decide))
  · first | exact y | (rw [h] at z; exact absurd z (by decide))
  · first | exact y | (rw [h] at z; exact absurd z (by decide))
  · first | exact y | (rw [h] at z; exact absurd z (by decide))
  · first | exact y | (rw [h] at z; exact absurd z (by decide))
  · first | exact y | (rw [h] at z; exact absurd z (by decide))
  · rw [h] at z; exact absurd z (by decide)
theorem wci_9 {B : Nat → Int32} {s e : Nat} : wcode B s e = 9 ↔ isW8 B s e 102 111 114 99 101 0 0 0 := by
  refine ⟨fun h => ?_, wc_9⟩
  rcases wc_in B s e with ⟨z, y⟩ | ⟨z, y⟩ | ⟨z, y⟩ | ⟨z, y⟩ | ⟨z, y⟩ | ⟨z, y⟩ | ⟨z, y⟩ | ⟨z, y⟩ | ⟨z, y⟩ | ⟨z, y⟩ | ⟨z, y⟩ | ⟨z, y⟩ | ⟨z⟩
  · first | exact y | (rw [h] at z; exact absurd z (by decide))
  · first | exact y | (rw [h] at z; exact absurd z (by decide))
  · first | exact y | (rw [h] at z; exact absurd z (by decide))
  · first | exact y | (rw [h] at z; exact absurd z (by decide))
  · first | exact y | (rw [h] at z; exact absurd z (by decide))
  · first | exact y | (rw [h] at z; exact absurd z (by decide))
  · first | exact y | (rw [h] at z; exact absurd z (by decide))
  · first | exact y | (rw [h] at z; exact absurd z (by decide))
  · first | exact y | (rw [h] at z; exact absurd z (by decide))
  · first | exact y | (rw [h] at z; exact absurd z (by decide))
  · first | exact y | (rw [h] at z; exact absurd z (by decide))
  · first | exact y | (rw [h] at z; exact absurd z (by decide))
  · rw [h] at z; exact absurd z (by decide)
theorem wci_10 {B : Nat → Int32} {s e : Nat} : wcode B s e = 10 ↔ isW8 B s e 119 101 116 0 0 0 0 0 := by
  refine ⟨fun h => ?_, wc_10⟩
  rcases wc_in B s e with ⟨z, y⟩ | ⟨z, y⟩ | ⟨z, y⟩ | ⟨z, y⟩ | ⟨z, y⟩ | ⟨z, y⟩ | ⟨z, y⟩ | ⟨z, y⟩ | ⟨z, y⟩ | ⟨z, y⟩ | ⟨z, y⟩ | ⟨z, y⟩ | ⟨z⟩
  · first | exact y | (rw [h] at z; exact absurd z (by decide))
  · first | exact y | (rw [h] at z; exact absurd z (by decide))
  · first | exact y | (rw [h] at z; exact absurd z (by decide))
  · first | exact y | (rw [h] at z; exact absurd z (by decide))
  · first | exact y | (rw [h] at z; exact absurd z (by decide))
  · first | exact y | (rw [h] at z; exact absurd z (by decide))
  · first | exact y | (rw [h] at z; exact absurd z (by decide))
  · first | exact y | (rw [h] at z; exact absurd z (by decide))
  · first | exact y | (rw [h] at z; exact absurd z (by decide))
  · first | exact y | (rw [h] at z; exact absurd z (by decide))
  · first | exact y | (rw [h] at z; exact absurd z (by decide))
  · first | exact y | (rw [h] at z; exact absurd z (by decide))
  · rw [h] at z; exact absurd z (by decide)
theorem wci_11 {B : Nat → Int32} {s e : Nat} : wcode B s e = 11 ↔ isW8 B s e 103 97 112 0 0 0 0 0 := by
  refine ⟨fun h => ?_, wc_11⟩
  rcases wc_in B s e with ⟨z, y⟩ | ⟨z, y⟩ | ⟨z, y⟩ | ⟨z, y⟩ | ⟨z, y⟩ | ⟨z, y⟩ | ⟨z, y⟩ | ⟨z, y⟩ | ⟨z, y⟩ | ⟨z, y⟩ | ⟨z, y⟩ | ⟨z, y⟩ | ⟨z⟩
  · first | exact y | (rw [h] at z; exact absurd z (by decide))
  · first | exact y | (rw [h] at z; exact absurd z (by decide))
  · first | exact y | (rw [h] at z; exact absurd z (by decide))
  · first | exact y | (rw [h] at z; exact absurd z (by decide))
  · first | exact y | (rw [h] at z; exact absurd z (by decide))
  · first | exact y | (rw [h] at z; exact absurd z (by decide))
  · first | exact y | (rw [h] at z; exact absurd z (by decide))
  · first | exact y | (rw [h] at z; exact absurd z (by decide))
  · first | exact y | (rw [h] at z; exact absurd z (by decide))
  · first | exact y | (rw [h] at z; exact absurd z (by decide))
  · first | exact y | (rw [h] at z; exact absurd z (by decide))
  · first | exact y | (rw [h] at z; exact absurd z (by decide))
  · rw [h] at z; exact absurd z (by decide)
theorem wci_12 {B : Nat → Int32} {s e : Nat} : wcode B s e = 12 ↔ isW8 B s e 101 97 114 115 0 0 0 0 := by
  refine ⟨fun h => ?_, wc_12⟩
  rcases wc_in B s e with ⟨z, y⟩ | ⟨z, y⟩ | ⟨z, y⟩ | ⟨z, y⟩ | ⟨z, y⟩ | ⟨z, y⟩ | ⟨z, y⟩ | ⟨z, y⟩ | ⟨z, y⟩ | ⟨z, y⟩ | ⟨z, y⟩ | ⟨z, y⟩ | ⟨z⟩
  · first | exact y | (rw [h] at z; exact absurd z (by decide))
  · first | exact y | (rw [h] at z; exact absurd z (by decide))
  · first | exact y | (rw [h] at z; exact absurd z (by decide))
  · first | exact y | (rw [h] at z; exact absurd z (by decide))
  · first | exact y | (rw [h] at z; exact absurd z (by decide))
  · first | exact y | (rw [h] at z; exact absurd z (by decide))
  · first | exact y | (rw [h] at z; exact absurd z (by decide))
  · first | exact y | (rw [h] at z; exact absurd z (by decide))
  · first | exact y | (rw [h] at z; exact absurd z (by decide))
  · first | exact y | (rw [h] at z; exact absurd z (by decide))
  · first | exact y | (rw [h] at z; exact absurd z (by decide))
  · first | exact y | (rw [h] at z; exact absurd z (by decide))
  · rw [h] at z; exact absurd z (by decide)
theorem wci_13 {B : Nat → Int32} {s e : Nat} : wcode B s e = 13 ↔ isW8 B s e 114 111 117 110 100 0 0 0 := by
  refine ⟨fun h => ?_, wc_13⟩
  rcases wc_in B s e with ⟨z, y⟩ | ⟨z, y⟩ | ⟨z, y⟩ | ⟨z, y⟩ | ⟨z, y⟩ | ⟨z, y⟩ | ⟨z, y⟩ | ⟨z, y⟩ | ⟨z, y⟩ | ⟨z, y⟩ | ⟨z, y⟩ | ⟨z, y⟩ | ⟨z⟩
  · first | exact y | (rw [h] at z; exact absurd z (by decide))
  · first | exact y | (rw [h] at z; exact absurd z (by decide))
  · first | exact y | (rw [h] at z; exact absurd z (by decide))
  · first | exact y | (rw [h] at z; exact absurd z (by decide))
  · first | exact y | (rw [h] at z; exact absurd z (by decide))
  · first | exact y | (rw [h] at z; exact absurd z (by decide))
  · first | exact y | (rw [h] at z; exact absurd z (by decide))
  · first | exact y | (rw [h] at z; exact absurd z (by decide))
  · first | exact y | (rw [h] at z; exact absurd z (by decide))
  · first | exact y | (rw [h] at z; exact absurd z (by decide))
  · first | exact y | (rw [h] at z; exact absurd z (by decide))
  · first | exact y | (rw [h] at z; exact absurd z (by decide))
  · rw [h] at z; exact absurd z (by decide)
theorem wci_14 {B : Nat → Int32} {s e : Nat} : wcode B s e = 14 ↔ isW8 B s e 116 105 114 101 100 0 0 0 := by
  refine ⟨fun h => ?_, wc_14⟩
  rcases wc_in B s e with ⟨z, y⟩ | ⟨z, y⟩ | ⟨z, y⟩ | ⟨z, y⟩ | ⟨z, y⟩ | ⟨z, y⟩ | ⟨z, y⟩ | ⟨z, y⟩ | ⟨z, y⟩ | ⟨z, y⟩ | ⟨z, y⟩ | ⟨z, y⟩ | ⟨z⟩
  · first | exact y | (rw [h] at z; exact absurd z (by decide))
  · first | exact y | (rw [h] at z; exact absurd z (by decide))
  · first | exact y | (rw [h] at z; exact absurd z (by decide))
  · first | exact y | (rw [h] at z; exact absurd z (by decide))
  · first | exact y | (rw [h] at z; exact absurd z (by decide))
  · first | exact y | (rw [h] at z; exact absurd z (by decide))
  · first | exact y | (rw [h] at z; exact absurd z (by decide))
  · first | exact y | (rw [h] at z; exact absurd z (by decide))
  · first | exact y | (rw [h] at z; exact absurd z (by decide))
  · first | exact y | (rw [h] at z; exact absurd z (by decide))
  · first | exact y | (rw [h] at z; exact absurd z (by decide))
  · first | exact y | (rw [h] at z; exact absurd z (by decide))
  · rw [h] at z; exact absurd z (by decide)
set_option maxRecDepth 100000 in
set_option maxHeartbeats 400000 in
theorem m_isSign (E : ag) (q : Nat → Nat) (g : Nat → Int32) (tw : Int64) (a : Nat → Nat → Int32) (x : Int32) : CT E yX6_isSign cX6_isSign 2 mX6_isSign.2.2.2.1 1 0 0 [.ref (q 0), .int x] (MW E q g tw a) (ri (fun r w => r = b01 (g 30 = 0 ∧ g 26 = 3 ∧ tw = x.toInt64) ∧ w = MW E q g tw a)) := by
  refine CT.of (M := mX6_isSign) (ls := [some (.ref (q 0)), some (.int x)]) (by decide) rfl (by decide) rfl (Nat.le_of_ble_eq_true rfl) ?_
  refine A_aload_n (dX6_isSign 0 rfl) rfl ?_
  refine A_get (dX6_isSign 1 rfl) fwX6_197 MW_0 MF_30 ?_
  refine A_if_ne 29 (dX6_isSign 2 rfl) (by decide) (fun h4 => ?_) (fun h4 => ?_)
  · refine A_iconst (0) (dX6_isSign 15 rfl) (by decide +kernel) ?_
    refine A_ri (dX6_isSign 16 rfl) rfl (by decide) ?_
    refine ⟨?_, rfl⟩
    simp_all [b01]
  · refine A_aload_n (dX6_isSign 3 rfl) rfl ?_
    refine A_get (dX6_isSign 4 rfl) fwX6_180 MW_0 MF_26 ?_
    refine A_iconst (3) (dX6_isSign 5 rfl) (by decide +kernel) ?_
    refine A_icmp_ne 29 (dX6_isSign 6 rfl) (by decide) (fun h12 => ?_) (fun h12 => ?_)
    · refine A_iconst (0) (dX6_isSign 15 rfl) (by decide +kernel) ?_
      refine A_ri (dX6_isSign 16 rfl) rfl (by decide) ?_
      refine ⟨?_, rfl⟩
      simp_all [b01]
    · refine A_aload_n (dX6_isSign 7 rfl) rfl ?_
      refine A_get (dX6_isSign 8 rfl) fwX6_191 MW_0 MF_28 ?_
      refine A_iload_n (dX6_isSign 9 rfl) rfl ?_
      refine A_i2l (dX6_isSign 10 rfl) ?_
      refine A_lcmp (dX6_isSign 11 rfl) ?_
      refine A_if_ne 29 (dX6_isSign 12 rfl) (by decide) (fun h22 => ?_) (fun h22 => ?_)
      · have hc : ¬ tw = x.toInt64 := fun z => h22 ((cmp_z _ _).mpr z)
        refine A_iconst (0) (dX6_isSign 15 rfl) (by decide +kernel) ?_
        refine A_ri (dX6_isSign 16 rfl) rfl (by decide) ?_
        refine ⟨?_, rfl⟩
        simp_all [b01]
      · have hc : tw = x.toInt64 := (cmp_z _ _).mp h22
        refine A_iconst (1) (dX6_isSign 13 rfl) (by decide +kernel) ?_
        refine A_goto 30 (dX6_isSign 14 rfl) (by decide) ?_
        refine A_ri (dX6_isSign 16 rfl) rfl (by decide) ?_
        refine ⟨?_, rfl⟩
        simp_all [b01]

set_option maxRecDepth 100000 in
set_option maxHeartbeats 400000 in
theorem m_isLetter (E : ag) (q : Nat → Nat) (g : Nat → Int32) (tw : Int64) (a : Nat → Nat → Int32) (fr n s e k : Nat) (B : Nat → Int32) (hT : TXC g a fr n B) (hs : g 27 = nI s) (he : g 25 = nI e) (hen : e ≤ n) (hsn : s ≤ n) (hk : k < 8) (x : Int32) : CT E yX6_isLetter cX6_isLetter 3 mX6_isLetter.2.2.2.1 2 0 0 [.ref (q 0), .int (nI k), .int x] (MW E q g tw a) (ri (fun r w => r = b01 (vec B s e k = x) ∧ w = MW E q g tw a)) := by
  refine CT.of (M := mX6_isLetter) (ls := [some (.ref (q 0)), some (.int (nI k)), some (.int x)]) (by decide) rfl (by decide) rfl (Nat.le_of_ble_eq_true rfl) ?_
  refine A_aload_n (dX6_isLetter 0 rfl) rfl ?_
  refine A_get (dX6_isLetter 1 rfl) fwX6_177 MW_0 MF_27 ?_
  refine A_iload_n (dX6_isLetter 2 rfl) rfl ?_
  refine A_iadd (dX6_isLetter 3 rfl) ?_
  refine A_aload_n (dX6_isLetter 4 rfl) rfl ?_
  refine A_get (dX6_isLetter 5 rfl) fwX6_171 MW_0 MF_25 ?_
  refine A_icmp_ge 35 (dX6_isLetter 6 rfl) (by decide) (fun h10 => ?_) (fun h10 => ?_)
  · have hke : e ≤ s + k := by
      rcases Nat.lt_or_ge (s + k) e with z | z
      · rw [hs, he, nI_add] at h10; exact absurd h10 (nI_ge z (by have := hT.2.2.2.1; omega))
      · exact z
    have hv : vec B s e k = 0 := if_neg (by omega)
    refine A_iload_n (dX6_isLetter 19 rfl) rfl ?_
    refine A_if_ne 43 (dX6_isLetter 20 rfl) (by decide) (fun h36 => ?_) (fun h36 => ?_)
    · refine A_iconst (0) (dX6_isLetter 23 rfl) (by decide +kernel) ?_
      refine A_ri (dX6_isLetter 24 rfl) rfl (by decide) ?_
      refine ⟨?_, rfl⟩
      rw [hv]
      first | exact (b01_t (by assumption)).symm | exact (b01_f (by assumption)).symm | exact (b01_t (Eq.symm (by assumption))).symm | exact (b01_f (fun z => absurd z.symm (by assumption))).symm
    · refine A_iconst (1) (dX6_isLetter 21 rfl) (by decide +kernel) ?_
      refine A_goto 44 (dX6_isLetter 22 rfl) (by decide) ?_
      refine A_ri (dX6_isLetter 24 rfl) rfl (by decide) ?_
      refine ⟨?_, rfl⟩
      rw [hv]
      first | exact (b01_t (by assumption)).symm | exact (b01_f (by assumption)).symm | exact (b01_t (Eq.symm (by assumption))).symm | exact (b01_f (fun z => absurd z.symm (by assumption))).symm
  · have hke : s + k < e := by
      rcases Nat.lt_or_ge (s + k) e with z | z
      · exact z
      · rw [hs, he, nI_add] at h10; exact absurd (nI_le z (by have := hT.2.2.2.1; omega)) h10
    have hv : vec B s e k = B (s + k) := if_pos hke
    refine A_aload_n (dX6_isLetter 7 rfl) rfl ?_
    refine A_aload_n (dX6_isLetter 8 rfl) rfl ?_
    refine A_get (dX6_isLetter 9 rfl) fwX6_177 MW_0 MF_27 ?_
    refine A_iload_n (dX6_isLetter 10 rfl) rfl ?_
    refine A_iadd (dX6_isLetter 11 rfl) ?_
    refine AW.stack (st2 := [.int (nI (s + k)), .ref (q 0)]) (by rw [hs, nI_add]) ?_
    refine A_callVWi 1 (dX6_isLetter 12 rfl) cbX6_byteAt cwX6_174 (m_byteAt E q g tw a fr n (s + k) B hT (by omega)) rfl rfl MW_0 rfl rfl (Nat.le_of_ble_eq_true rfl) (Nat.le_of_ble_eq_true rfl) (Nat.le_of_ble_eq_true rfl) (Nat.le_of_ble_eq_true rfl) (Nat.le_of_ble_eq_true rfl) ?_
    rintro r20 w1 ⟨rfl, rfl⟩
    refine AW.pcq (pc2 := 23) rfl ?_
    refine A_iload_n (dX6_isLetter 13 rfl) rfl ?_
    refine A_icmp_ne 31 (dX6_isLetter 14 rfl) (by decide) (fun h24 => ?_) (fun h24 => ?_)
    · refine A_iconst (0) (dX6_isLetter 17 rfl) (by decide +kernel) ?_
      refine A_goto 44 (dX6_isLetter 18 rfl) (by decide) ?_
      refine A_ri (dX6_isLetter 24 rfl) rfl (by decide) ?_
      refine ⟨?_, rfl⟩
      rw [hv]
      first | exact (b01_t (by assumption)).symm | exact (b01_f (by assumption)).symm | exact (b01_t (Eq.symm (by assumption))).symm | exact (b01_f (fun z => absurd z.symm (by assumption))).symm
    · refine A_iconst (1) (dX6_isLetter 15 rfl) (by decide +kernel) ?_
      refine A_goto 44 (dX6_isLetter 16 rfl) (by decide) ?_
      refine A_ri (dX6_isLetter 24 rfl) rfl (by decide) ?_
      refine ⟨?_, rfl⟩
      rw [hv]
      first | exact (b01_t (by assumption)).symm | exact (b01_f (by assumption)).symm | exact (b01_t (Eq.symm (by assumption))).symm | exact (b01_f (fun z => absurd z.symm (by assumption))).symm

set_option maxRecDepth 100000 in
set_option maxHeartbeats 400000 in
theorem m_isWord (E : ag) (q : Nat → Nat) (g : Nat → Int32) (tw : Int64) (a : Nat → Nat → Int32) (fr n s e : Nat) (B : Nat → Int32) (hT : TXC g a fr n B) (hs : g 27 = nI s) (he : g 25 = nI e) (hen : e ≤ n) (hsn : s ≤ n) (x0 x1 x2 x3 x4 x5 x6 x7 : Int32) : CT E yX6_isWord cX6_isWord 9 mX6_isWord.2.2.2.1 3 0 0 [.ref (q 0), .int x0, .int x1, .int x2, .int x3, .int x4, .int x5, .int x6, .int x7] (MW E q g tw a) (ri (fun r w => r = b01 (g 30 = 0 ∧ g 26 = 1 ∧ isW8 B s e x0 x1 x2 x3 x4 x5 x6 x7) ∧ w = MW E q g tw a)) := by
  refine CT.of (M := mX6_isWord) (ls := [some (.ref (q 0)), some (.int x0), some (.int x1), some (.int x2), some (.int x3), some (.int x4), some (.int x5), some (.int x6), some (.int x7)]) (by decide) rfl (by decide) rfl (Nat.le_of_ble_eq_true rfl) ?_
  refine A_aload_n (dX6_isWord 0 rfl) rfl ?_
  refine A_get (dX6_isWord 1 rfl) fwX6_197 MW_0 MF_30 ?_
  refine A_if_ne 112 (dX6_isWord 2 rfl) (by decide) (fun h4 => ?_) (fun h4 => ?_)
  · refine A_iconst (0) (dX6_isWord 56 rfl) (by decide +kernel) ?_
    refine A_ri (dX6_isWord 57 rfl) rfl (by decide) ?_
    refine ⟨?_, rfl⟩
    first | exact (b01_t ⟨by assumption, by assumption, hge, v0, v1, v2, v3, v4, v5, v6, v7⟩).symm | exact (b01_f (fun z => hge z.2.2.1)).symm | exact (b01_f (by simp_all)).symm | exact (b01_f (fun z => by simp_all)).symm
  · refine A_aload_n (dX6_isWord 3 rfl) rfl ?_
    refine A_get (dX6_isWord 4 rfl) fwX6_180 MW_0 MF_26 ?_
    refine A_iconst (1) (dX6_isWord 5 rfl) (by decide +kernel) ?_
    refine A_icmp_ne 112 (dX6_isWord 6 rfl) (by decide) (fun h12 => ?_) (fun h12 => ?_)
    · refine A_iconst (0) (dX6_isWord 56 rfl) (by decide +kernel) ?_
      refine A_ri (dX6_isWord 57 rfl) rfl (by decide) ?_
      refine ⟨?_, rfl⟩
      first | exact (b01_t ⟨by assumption, by assumption, hge, v0, v1, v2, v3, v4, v5, v6, v7⟩).symm | exact (b01_f (fun z => hge z.2.2.1)).symm | exact (b01_f (by simp_all)).symm | exact (b01_f (fun z => by simp_all)).symm
    · refine A_aload_n (dX6_isWord 7 rfl) rfl ?_
      refine A_get (dX6_isWord 8 rfl) fwX6_171 MW_0 MF_25 ?_
      refine A_aload_n (dX6_isWord 9 rfl) rfl ?_
      refine A_get (dX6_isWord 10 rfl) fwX6_177 MW_0 MF_27 ?_
      refine A_bipush (8) (dX6_isWord 11 rfl) (by decide +kernel) ?_
      refine A_iadd (dX6_isWord 12 rfl) ?_
      refine A_icmp_gt 112 (dX6_isWord 13 rfl) (by decide) (fun h26 => ?_) (fun h26 => ?_)
      · have hge : ¬ e ≤ s + 8 := by
          intro z
          rw [hs, he, show nI s + 8 = nI (s + 8) from nI_add s 8] at h26
          exact absurd (nI_le z (by have := hT.2.2.2.1; omega)) (Int32.not_le.mpr h26)
        refine A_iconst (0) (dX6_isWord 56 rfl) (by decide +kernel) ?_
        refine A_ri (dX6_isWord 57 rfl) rfl (by decide) ?_
        refine ⟨?_, rfl⟩
        first | exact (b01_t ⟨by assumption, by assumption, hge, v0, v1, v2, v3, v4, v5, v6, v7⟩).symm | exact (b01_f (fun z => hge z.2.2.1)).symm | exact (b01_f (by simp_all)).symm | exact (b01_f (fun z => by simp_all)).symm
      · have hge : e ≤ s + 8 := by
          rcases Nat.lt_or_ge (s + 8) e with z | z
          · rw [hs, he, show nI s + 8 = nI (s + 8) from nI_add s 8] at h26
            exact absurd (nI_lt z (by have := hT.2.2.2.1; omega)) h26
          · exact z
        refine A_aload_n (dX6_isWord 14 rfl) rfl ?_
        refine A_iconst (0) (dX6_isWord 15 rfl) (by decide +kernel) ?_
        refine A_iload_n (dX6_isWord 16 rfl) rfl ?_
        refine A_callVWi 2 (dX6_isWord 17 rfl) cbX6_isLetter cwX6_204 (m_isLetter E q g tw a fr n s e 0 B hT hs he hen hsn (by decide) x0) rfl rfl MW_0 rfl rfl (Nat.le_of_ble_eq_true rfl) (Nat.le_of_ble_eq_true rfl) (Nat.le_of_ble_eq_true rfl) (Nat.le_of_ble_eq_true rfl) (Nat.le_of_ble_eq_true rfl) ?_
        rintro r32 w1 ⟨rfl, rfl⟩
        refine AW.pcq (pc2 := 35) rfl ?_
        refine A_if_eq 112 (dX6_isWord 18 rfl) (by decide) (fun h35 => ?_) (fun h35 => ?_)
        · have v0 : ¬ vec B s e 0 = x0 := b01_0.mp h35
          refine A_iconst (0) (dX6_isWord 56 rfl) (by decide +kernel) ?_
          refine A_ri (dX6_isWord 57 rfl) rfl (by decide) ?_
          refine ⟨?_, rfl⟩
          first | exact (b01_t ⟨by assumption, by assumption, hge, v0, v1, v2, v3, v4, v5, v6, v7⟩).symm | exact (b01_f (fun z => hge z.2.2.1)).symm | exact (b01_f (by simp_all)).symm | exact (b01_f (fun z => by simp_all)).symm
        · have v0 : vec B s e 0 = x0 := b01_n.mp h35
          refine A_aload_n (dX6_isWord 19 rfl) rfl ?_
          refine A_iconst (1) (dX6_isWord 20 rfl) (by decide +kernel) ?_
          refine A_iload_n (dX6_isWord 21 rfl) rfl ?_
          refine A_callVWi 2 (dX6_isWord 22 rfl) cbX6_isLetter cwX6_204 (m_isLetter E q g tw a fr n s e 1 B hT hs he hen hsn (by decide) x1) rfl rfl MW_0 rfl rfl (Nat.le_of_ble_eq_true rfl) (Nat.le_of_ble_eq_true rfl) (Nat.le_of_ble_eq_true rfl) (Nat.le_of_ble_eq_true rfl) (Nat.le_of_ble_eq_true rfl) ?_
          rintro r41 w1 ⟨rfl, rfl⟩
          refine AW.pcq (pc2 := 44) rfl ?_
          refine A_if_eq 112 (dX6_isWord 23 rfl) (by decide) (fun h44 => ?_) (fun h44 => ?_)
          · have v1 : ¬ vec B s e 1 = x1 := b01_0.mp h44
            refine A_iconst (0) (dX6_isWord 56 rfl) (by decide +kernel) ?_
            refine A_ri (dX6_isWord 57 rfl) rfl (by decide) ?_
            refine ⟨?_, rfl⟩
            first | exact (b01_t ⟨by assumption, by assumption, hge, v0, v1, v2, v3, v4, v5, v6, v7⟩).symm | exact (b01_f (fun z => hge z.2.2.1)).symm | exact (b01_f (by simp_all)).symm | exact (b01_f (fun z => by simp_all)).symm
          · have v1 : vec B s e 1 = x1 := b01_n.mp h44
            refine A_aload_n (dX6_isWord 24 rfl) rfl ?_
            refine A_iconst (2) (dX6_isWord 25 rfl) (by decide +kernel) ?_
            refine A_iload_n (dX6_isWord 26 rfl) rfl ?_
            refine A_callVWi 2 (dX6_isWord 27 rfl) cbX6_isLetter cwX6_204 (m_isLetter E q g tw a fr n s e 2 B hT hs he hen hsn (by decide) x2) rfl rfl MW_0 rfl rfl (Nat.le_of_ble_eq_true rfl) (Nat.le_of_ble_eq_true rfl) (Nat.le_of_ble_eq_true rfl) (Nat.le_of_ble_eq_true rfl) (Nat.le_of_ble_eq_true rfl) ?_
            rintro r50 w1 ⟨rfl, rfl⟩
            refine AW.pcq (pc2 := 53) rfl ?_
            refine A_if_eq 112 (dX6_isWord 28 rfl) (by decide) (fun h53 => ?_) (fun h53 => ?_)
            · have v2 : ¬ vec B s e 2 = x2 := b01_0.mp h53
              refine A_iconst (0) (dX6_isWord 56 rfl) (by decide +kernel) ?_
              refine A_ri (dX6_isWord 57 rfl) rfl (by decide) ?_
              refine ⟨?_, rfl⟩
              first | exact (b01_t ⟨by assumption, by assumption, hge, v0, v1, v2, v3, v4, v5, v6, v7⟩).symm | exact (b01_f (fun z => hge z.2.2.1)).symm | exact (b01_f (by simp_all)).symm | exact (b01_f (fun z => by simp_all)).symm
            · have v2 : vec B s e 2 = x2 := b01_n.mp h53
              refine A_aload_n (dX6_isWord 29 rfl) rfl ?_
              refine A_iconst (3) (dX6_isWord 30 rfl) (by decide +kernel) ?_
              refine A_iload (dX6_isWord 31 rfl) rfl ?_
              refine A_callVWi 2 (dX6_isWord 32 rfl) cbX6_isLetter cwX6_204 (m_isLetter E q g tw a fr n s e 3 B hT hs he hen hsn (by decide) x3) rfl rfl MW_0 rfl rfl (Nat.le_of_ble_eq_true rfl) (Nat.le_of_ble_eq_true rfl) (Nat.le_of_ble_eq_true rfl) (Nat.le_of_ble_eq_true rfl) (Nat.le_of_ble_eq_true rfl) ?_
              rintro r60 w1 ⟨rfl, rfl⟩
              refine AW.pcq (pc2 := 63) rfl ?_
              refine A_if_eq 112 (dX6_isWord 33 rfl) (by decide) (fun h63 => ?_) (fun h63 => ?_)
              · have v3 : ¬ vec B s e 3 = x3 := b01_0.mp h63
                refine A_iconst (0) (dX6_isWord 56 rfl) (by decide +kernel) ?_
                refine A_ri (dX6_isWord 57 rfl) rfl (by decide) ?_
                refine ⟨?_, rfl⟩
                first | exact (b01_t ⟨by assumption, by assumption, hge, v0, v1, v2, v3, v4, v5, v6, v7⟩).symm | exact (b01_f (fun z => hge z.2.2.1)).symm | exact (b01_f (by simp_all)).symm | exact (b01_f (fun z => by simp_all)).symm
              · have v3 : vec B s e 3 = x3 := b01_n.mp h63
                refine A_aload_n (dX6_isWord 34 rfl) rfl ?_
                refine A_iconst (4) (dX6_isWord 35 rfl) (by decide +kernel) ?_
                refine A_iload (dX6_isWord 36 rfl) rfl ?_
                refine A_callVWi 2 (dX6_isWord 37 rfl) cbX6_isLetter cwX6_204 (m_isLetter E q g tw a fr n s e 4 B hT hs he hen hsn (by decide) x4) rfl rfl MW_0 rfl rfl (Nat.le_of_ble_eq_true rfl) (Nat.le_of_ble_eq_true rfl) (Nat.le_of_ble_eq_true rfl) (Nat.le_of_ble_eq_true rfl) (Nat.le_of_ble_eq_true rfl) ?_
                rintro r70 w1 ⟨rfl, rfl⟩
                refine AW.pcq (pc2 := 73) rfl ?_
                refine A_if_eq 112 (dX6_isWord 38 rfl) (by decide) (fun h73 => ?_) (fun h73 => ?_)
                · have v4 : ¬ vec B s e 4 = x4 := b01_0.mp h73
                  refine A_iconst (0) (dX6_isWord 56 rfl) (by decide +kernel) ?_
                  refine A_ri (dX6_isWord 57 rfl) rfl (by decide) ?_
                  refine ⟨?_, rfl⟩
                  first | exact (b01_t ⟨by assumption, by assumption, hge, v0, v1, v2, v3, v4, v5, v6, v7⟩).symm | exact (b01_f (fun z => hge z.2.2.1)).symm | exact (b01_f (by simp_all)).symm | exact (b01_f (fun z => by simp_all)).symm
                · have v4 : vec B s e 4 = x4 := b01_n.mp h73
                  refine A_aload_n (dX6_isWord 39 rfl) rfl ?_
                  refine A_iconst (5) (dX6_isWord 40 rfl) (by decide +kernel) ?_
                  refine A_iload (dX6_isWord 41 rfl) rfl ?_
                  refine A_callVWi 2 (dX6_isWord 42 rfl) cbX6_isLetter cwX6_204 (m_isLetter E q g tw a fr n s e 5 B hT hs he hen hsn (by decide) x5) rfl rfl MW_0 rfl rfl (Nat.le_of_ble_eq_true rfl) (Nat.le_of_ble_eq_true rfl) (Nat.le_of_ble_eq_true rfl) (Nat.le_of_ble_eq_true rfl) (Nat.le_of_ble_eq_true rfl) ?_
                  rintro r80 w1 ⟨rfl, rfl⟩
                  refine AW.pcq (pc2 := 83) rfl ?_
                  refine A_if_eq 112 (dX6_isWord 43 rfl) (by decide) (fun h83 => ?_) (fun h83 => ?_)
                  · have v5 : ¬ vec B s e 5 = x5 := b01_0.mp h83
                    refine A_iconst (0) (dX6_isWord 56 rfl) (by decide +kernel) ?_
                    refine A_ri (dX6_isWord 57 rfl) rfl (by decide) ?_
                    refine ⟨?_, rfl⟩
                    first | exact (b01_t ⟨by assumption, by assumption, hge, v0, v1, v2, v3, v4, v5, v6, v7⟩).symm | exact (b01_f (fun z => hge z.2.2.1)).symm | exact (b01_f (by simp_all)).symm | exact (b01_f (fun z => by simp_all)).symm
                  · have v5 : vec B s e 5 = x5 := b01_n.mp h83
                    refine A_aload_n (dX6_isWord 44 rfl) rfl ?_
                    refine A_bipush (6) (dX6_isWord 45 rfl) (by decide +kernel) ?_
                    refine A_iload (dX6_isWord 46 rfl) rfl ?_
                    refine A_callVWi 2 (dX6_isWord 47 rfl) cbX6_isLetter cwX6_204 (m_isLetter E q g tw a fr n s e 6 B hT hs he hen hsn (by decide) x6) rfl rfl MW_0 rfl rfl (Nat.le_of_ble_eq_true rfl) (Nat.le_of_ble_eq_true rfl) (Nat.le_of_ble_eq_true rfl) (Nat.le_of_ble_eq_true rfl) (Nat.le_of_ble_eq_true rfl) ?_
                    rintro r91 w1 ⟨rfl, rfl⟩
                    refine AW.pcq (pc2 := 94) rfl ?_
                    refine A_if_eq 112 (dX6_isWord 48 rfl) (by decide) (fun h94 => ?_) (fun h94 => ?_)
                    · have v6 : ¬ vec B s e 6 = x6 := b01_0.mp h94
                      refine A_iconst (0) (dX6_isWord 56 rfl) (by decide +kernel) ?_
                      refine A_ri (dX6_isWord 57 rfl) rfl (by decide) ?_
                      refine ⟨?_, rfl⟩
                      first | exact (b01_t ⟨by assumption, by assumption, hge, v0, v1, v2, v3, v4, v5, v6, v7⟩).symm | exact (b01_f (fun z => hge z.2.2.1)).symm | exact (b01_f (by simp_all)).symm | exact (b01_f (fun z => by simp_all)).symm
                    · have v6 : vec B s e 6 = x6 := b01_n.mp h94
                      refine A_aload_n (dX6_isWord 49 rfl) rfl ?_
                      refine A_bipush (7) (dX6_isWord 50 rfl) (by decide +kernel) ?_
                      refine A_iload (dX6_isWord 51 rfl) rfl ?_
                      refine A_callVWi 2 (dX6_isWord 52 rfl) cbX6_isLetter cwX6_204 (m_isLetter E q g tw a fr n s e 7 B hT hs he hen hsn (by decide) x7) rfl rfl MW_0 rfl rfl (Nat.le_of_ble_eq_true rfl) (Nat.le_of_ble_eq_true rfl) (Nat.le_of_ble_eq_true rfl) (Nat.le_of_ble_eq_true rfl) (Nat.le_of_ble_eq_true rfl) ?_
                      rintro r102 w1 ⟨rfl, rfl⟩
                      refine AW.pcq (pc2 := 105) rfl ?_
                      refine A_if_eq 112 (dX6_isWord 53 rfl) (by decide) (fun h105 => ?_) (fun h105 => ?_)
                      · have v7 : ¬ vec B s e 7 = x7 := b01_0.mp h105
                        refine A_iconst (0) (dX6_isWord 56 rfl) (by decide +kernel) ?_
                        refine A_ri (dX6_isWord 57 rfl) rfl (by decide) ?_
                        refine ⟨?_, rfl⟩
                        first | exact (b01_t ⟨by assumption, by assumption, hge, v0, v1, v2, v3, v4, v5, v6, v7⟩).symm | exact (b01_f (fun z => hge z.2.2.1)).symm | exact (b01_f (by simp_all)).symm | exact (b01_f (fun z => by simp_all)).symm
                      · have v7 : vec B s e 7 = x7 := b01_n.mp h105
                        refine A_iconst (1) (dX6_isWord 54 rfl) (by decide +kernel) ?_
                        refine A_goto 113 (dX6_isWord 55 rfl) (by decide) ?_
                        refine A_ri (dX6_isWord 57 rfl) rfl (by decide) ?_
                        refine ⟨?_, rfl⟩
                        first | exact (b01_t ⟨by assumption, by assumption, hge, v0, v1, v2, v3, v4, v5, v6, v7⟩).symm | exact (b01_f (fun z => hge z.2.2.1)).symm | exact (b01_f (by simp_all)).symm | exact (b01_f (fun z => by simp_all)).symm
end
section
def ck (B : Nat → Int32) (i : Nat) : Int32 := if mkd B i = 0 then 0 else if mkd B i = 2 then 1 else if mkd B i = 3 then B (lst B i) else if mkd B i = 1 then wcode B (lst B i) (men B i) else 2
def cv (B : Nat → Int32) (i : Nat) : Int32 := (dv64 B (lst B i) (dgp B 161 (lst B i) - lst B i)).toInt32
/-- the grammar: what is read (0 either, 1 both, 2 denied, 3 sum, 4 term, 5 one; 6 to 9 what goes on behind an operand), how many stand unclosed, where; answers: whether it fits, where it ends (or fails), its steps -/
def pp (B : Nat → Int32) : Nat → Nat → Nat → Nat → Option (Bool × Nat × List Int32)
  | 0, _, _, _ => none
  | f + 1, 0, o, i => (pp B f 1 o i).bind (fun r => if r.1 = true then (pp B f 6 o r.2.1).bind (fun t => some (t.1, t.2.1, r.2.2 ++ t.2.2)) else some r)
  | f + 1, 6, o, i => if ck B i = 6 then (pp B f 1 o (men B i)).bind (fun r => if r.1 = true then (pp B f 6 o r.2.1).bind (fun t => some (t.1, t.2.1, r.2.2 ++ (-15) :: t.2.2)) else some r) else some (true, i, [])
  | f + 1, 1, o, i => (pp B f 2 o i).bind (fun r => if r.1 = true then (pp B f 7 o r.2.1).bind (fun t => some (t.1, t.2.1, r.2.2 ++ t.2.2)) else some r)
  | f + 1, 7, o, i => if ck B i = 7 then (pp B f 2 o (men B i)).bind (fun r => if r.1 = true then (pp B f 7 o r.2.1).bind (fun t => some (t.1, t.2.1, r.2.2 ++ (-14) :: t.2.2)) else some r) else some (true, i, [])
  | f + 1, 2, o, i => if ck B i = 8 then (if 5 ≤ o then some (false, i, []) else (pp B f 2 (o + 1) (men B i)).bind (fun r => if r.1 = true then some (true, r.2.1, r.2.2 ++ [-8]) else some r)) else (pp B f 3 o i).bind (fun r => if r.1 = true then (if ck B r.2.1 = 60 ∨ ck B r.2.1 = 61 then (pp B f 3 o (men B r.2.1)).bind (fun t => if t.1 = true then some (true, t.2.1, r.2.2 ++ t.2.2 ++ [if ck B r.2.1 = 60 then -12 else -13]) else some t) else some r) else some r)
  | f + 1, 3, o, i => (pp B f 4 o i).bind (fun r => if r.1 = true then (pp B f 8 o r.2.1).bind (fun t => some (t.1, t.2.1, r.2.2 ++ t.2.2)) else some r)
  | f + 1, 8, o, i => if ck B i = 43 ∨ ck B i = 45 then (pp B f 4 o (men B i)).bind (fun r => if r.1 = true then (pp B f 8 o r.2.1).bind (fun t => some (t.1, t.2.1, r.2.2 ++ (if ck B i = 43 then -9 else -10) :: t.2.2)) else some r) else some (true, i, [])
  | f + 1, 4, o, i => (pp B f 5 o i).bind (fun r => if r.1 = true then (pp B f 9 o r.2.1).bind (fun t => some (t.1, t.2.1, r.2.2 ++ t.2.2)) else some r)
  | f + 1, 9, o, i => if ck B i = 42 then (pp B f 5 o (men B i)).bind (fun r => if r.1 = true then (pp B f 9 o r.2.1).bind (fun t => some (t.1, t.2.1, r.2.2 ++ (-11) :: t.2.2)) else some r) else some (true, i, [])
  | f + 1, _, o, i => if ck B i = 1 then some (true, men B i, [cv B i]) else if 9 ≤ ck B i ∧ ck B i ≤ 14 ∧ mkd B i = 1 then some (true, men B i, [8 - ck B i]) else if 5 ≤ o then some (false, i, []) else if ck B i = 45 then (pp B f 5 (o + 1) (men B i)).bind (fun r => if r.1 = true then some (true, r.2.1, r.2.2 ++ [-7]) else some r) else if ck B i = 40 then (pp B f 0 (o + 1) (men B i)).bind (fun r => if r.1 = true then (if ck B r.2.1 = 41 then some (true, men B r.2.1, r.2.2) else some (false, r.2.1, r.2.2)) else some r) else some (false, i, [])
/-- what a step does to a stack -/
def ev1 (e : Nat → Int32) (s : Int32) (st : List Int32) : List Int32 :=
  if -6 ≤ s then (if 0 ≤ s then s else e (-1 - s).toNatClampNeg) :: st
  else if s = -7 then (match st with | x :: r => -x :: r | [] => [])
  else if s = -8 then (match st with | x :: r => (if x = 0 then 1 else 0) :: r | [] => [])
  else (match st with | y :: x :: r => (if s = -9 then x + y else if s = -10 then x - y else if s = -11 then x * y else if s = -12 then (if x < y then 1 else 0) else if s = -13 then (if x = y then 1 else 0) else if s = -14 then (if x ≠ 0 ∧ y ≠ 0 then 1 else 0) else (if x ≠ 0 ∨ y ≠ 0 then 1 else 0)) :: r | r => r)
def evs (e : Nat → Int32) : List Int32 → List Int32 → List Int32
  | [], st => st
  | s :: c, st => evs e c (ev1 e s st)
theorem evs_app (e : Nat → Int32) : ∀ (c d st : List Int32), evs e (c ++ d) st = evs e d (evs e c st) := by
  intro c
  induction c with
  | nil => intro d st; rfl
  | cons s c ih => intro d st; exact ih d _
/-- the reference's reader stands at the token that is looked for from i on, o unclosed, no fault -/
def PM (B : Nat → Int32) (n : Nat) (g : Nat → Int32) (tw : Int64) (o i : Nat) : Prop := g 25 = nI (men B i) ∧ g 26 = mkd B i ∧ g 27 = nI (lst B i) ∧ (mkd B i = 2 → tw = dv64 B (lst B i) (dgp B 161 (lst B i) - lst B i)) ∧ (mkd B i = 3 → tw = (B (lst B i)).toInt64) ∧ g 29 = nI o ∧ g 30 = 0 ∧ i ≤ n
def KP (g g2 : Nat → Int32) : Prop := ∀ k, ¬ (25 ≤ k ∧ k ≤ 31) → g2 k = g k
theorem KP.rf {g : Nat → Int32} : KP g g := fun _ _ => rfl
theorem KP.tr {g h k : Nat → Int32} (a : KP g h) (b : KP h k) : KP g k := fun j hj => (b j hj).trans (a j hj)
theorem KP.up {g h : Nat → Int32} (a : KP g h) {j : Nat} (hj : 25 ≤ j ∧ j ≤ 31) {v : Int32} : KP g (upd h j v) := fun k hk => by
  simp only [upd]
  rw [if_neg (fun z => hk (by rw [z]; exact hj))]
  exact a k hk
theorem KP.nx {B : Nat → Int32} {g h : Nat → Int32} (a : KP g h) {i : Nat} : KP g (nxg B h i) := ((a.up (by decide)).up (by decide)).up (by decide)
theorem KP.tx {a : Nat → Nat → Int32} {fr n : Nat} {B : Nat → Int32} {g h : Nat → Int32} (k : KP g h) (hT : TXC g a fr n B) : TXC h a fr n B := by
  obtain ⟨e1, e2, r⟩ := hT
  exact ⟨(k 23 (by decide)).trans e1, (k 24 (by decide)).trans e2, r⟩
def ME (g : Nat → Int32) : Nat → Int32 := fun k => if k < 6 then g (17 + k) else 0
theorem KP.me {g g2 : Nat → Int32} (h : KP g g2) : ME g2 = ME g := by
  funext k
  simp only [ME]
  split
  · exact h (17 + k) (by omega)
  · rfl
def RM (E : ag) (q : Nat → Nat) (a : Nat → Nat → Int32) (n : Nat) (B : Nat → Int32) (g : Nat → Int32) (o : Nat) (res : Bool × Nat × List Int32) (pre : List Int32) (r : Int32) (w : va_W) : Prop :=
  ∃ (g2 : Nat → Int32) (tw2 : Int64), w = MW E q g2 tw2 a ∧ KP g g2 ∧ (res.1 = true → PM B n g2 tw2 o res.2.1 ∧ ∀ st, evs (ME g) res.2.2 (pre ++ st) = r :: st) ∧ (res.1 = false → g2 30 = 1 ∧ g2 31 = nI (lst B res.2.1))
theorem lst_le {a : Nat → Nat → Int32} {fr n : Nat} {B : Nat → Int32} {g : Nat → Int32} (hT : TXC g a fr n B) {i : Nat} (hi : i ≤ n) : lst B i ≤ n ∧ i ≤ lst B i := ⟨(skp_le hT.2.2.2.2.2.1 161 i hi).2, (skp_le hT.2.2.2.2.2.1 161 i hi).1⟩
theorem men_le {a : Nat → Nat → Int32} {fr n : Nat} {B : Nat → Int32} {g : Nat → Int32} (hT : TXC g a fr n B) {i : Nat} (hi : i ≤ n) : men B i ≤ n ∧ lst B i ≤ men B i := by
  obtain ⟨h1, h2⟩ := lst_le hT hi
  have hw := wdp_le hT.2.2.2.2.2.1 161 _ h1
  have hd := dgp_le hT.2.2.2.2.2.1 161 _ h1
  unfold men
  split
  · exact ⟨h1, Nat.le_refl _⟩
  · rename_i hneg
    split
    · exact ⟨hw.2, hw.1⟩
    · split
      · exact ⟨hd.2, hd.1⟩
      · split
        · have : lst B i < n := by
            rcases Nat.lt_or_ge (lst B i) n with z | z
            · exact z
            · rw [hT.2.2.2.2.2.1 _ z] at hneg; exact absurd (by decide) hneg
          omega
        · exact ⟨h1, Nat.le_refl _⟩
theorem PM_nx {a : Nat → Nat → Int32} {fr n : Nat} {B : Nat → Int32} {g0 g : Nat → Int32} {tw : Int64} {o i : Nat} (hT : TXC g0 a fr n B) (hi : i ≤ n) (h29 : g 29 = nI o) (h30 : g 30 = 0) : PM B n (nxg B g (men B i)) (mtw B tw (men B i)) o (men B i) := by
  refine ⟨rfl, rfl, rfl, fun h => ?_, fun h => ?_, h29, h30, (men_le hT hi).1⟩
  · unfold mtw
    unfold mkd at h
    split at h
    · exact absurd h (by decide)
    · rename_i h1
      rw [if_neg h1]
      split at h
      · exact absurd h (by decide)
      · rename_i h2
        rw [if_neg h2]
        split at h
        · rename_i h3; rw [if_pos h3]
        · split at h
          · exact absurd h (by decide)
          · exact absurd h (by decide)
  · unfold mtw
    unfold mkd at h
    split at h
    · exact absurd h (by decide)
    · rename_i h1
      rw [if_neg h1]
      split at h
      · exact absurd h (by decide)
      · rename_i h2
        rw [if_neg h2]
        split at h
        · split at h
          · exact absurd h (by decide)
          · exact absurd h (by decide)
        · rename_i h3
          rw [if_neg h3]
          split at h
          · rename_i h4; rw [if_pos h4]
          · exact absurd h (by decide)

set_option maxRecDepth 100000 in
set_option maxHeartbeats 400000 in
theorem m_opens (E : ag) (q : Nat → Nat) (g : Nat → Int32) (tw : Int64) (a : Nat → Nat → Int32) (fr n : Nat) (B : Nat → Int32) (hT : TXC g a fr n B) (oo i : Nat) (ho : oo ≤ 5) (hP : PM B n g tw oo i) : CT E yX6_opens cX6_opens 1 mX6_opens.2.2.2.1 4 0 0 [.ref (q 0)] (MW E q g tw a) (ri (fun r w => (oo = 5 ∧ r = 0 ∧ w = MW E q (upd (upd g 30 1) 31 (g 27)) tw a) ∨ (oo < 5 ∧ r = 1 ∧ w = MW E q (nxg B (upd g 29 (nI (oo + 1))) (men B i)) (mtw B tw (men B i)) a))) := by
  refine CT.of (M := mX6_opens) (ls := [some (.ref (q 0))]) (by decide) rfl (by decide) rfl (Nat.le_of_ble_eq_true rfl) ?_
  refine A_aload_n (dX6_opens 0 rfl) rfl ?_
  refine A_get (dX6_opens 1 rfl) fwX6_208 MW_0 MF_29 ?_
  refine A_iconst (5) (dX6_opens 2 rfl) (by decide +kernel) ?_
  refine A_icmp_ne 14 (dX6_opens 3 rfl) (by decide) (fun h5 => ?_) (fun h5 => ?_)
  · have h5 : oo < 5 := by
      rcases Nat.lt_or_ge oo 5 with z | z
      · exact z
      · obtain rfl : oo = 5 := by omega
        exact absurd hP.2.2.2.2.2.1 h5
    refine A_aload_n (dX6_opens 8 rfl) rfl ?_
    refine A_dup (dX6_opens 9 rfl) rfl ?_
    refine A_get (dX6_opens 10 rfl) fwX6_208 MW_0 MF_29 ?_
    refine A_iconst (1) (dX6_opens 11 rfl) (by decide +kernel) ?_
    refine A_iadd (dX6_opens 12 rfl) ?_
    refine AW.stack (st2 := [.int (nI (oo + 1)), .ref (q 0)]) (by rw [hP.2.2.2.2.2.1, ← nI_1]) ?_
    refine A_put (dX6_opens 13 rfl) fwX6_208 fcX6 ftX6_29 MW_0 rfl rfl ML_0 (MP_29 _) ?_
    refine A_aload_n (dX6_opens 14 rfl) rfl ?_
    refine A_callVWv 0 (dX6_opens 15 rfl) cbX6_next cwX6_214 (m_next E q (upd g 29 (nI (oo + 1))) tw a fr n B (TXC.put hT 29 (by decide) (by decide)) (men B i) (men_le hT hP.2.2.2.2.2.2.2).1 hP.1) rfl rfl MW_0 rfl rfl (Nat.le_of_ble_eq_true rfl) (Nat.le_of_ble_eq_true rfl) (Nat.le_of_ble_eq_true rfl) (Nat.le_of_ble_eq_true rfl) (Nat.le_of_ble_eq_true rfl) ?_
    rintro w1 rfl
    refine AW.pcq (pc2 := 28) rfl ?_
    refine A_iconst (1) (dX6_opens 16 rfl) (by decide +kernel) ?_
    refine A_ri (dX6_opens 17 rfl) rfl (by decide) ?_
    exact Or.inr ⟨h5, rfl, rfl⟩
  · have h5 : oo = 5 := by
      rw [hP.2.2.2.2.2.1] at h5
      exact (nI_eq (b := 5) (by omega) (by decide)).mp h5
    refine A_aload_n (dX6_opens 4 rfl) rfl ?_
    refine A_callVWv 0 (dX6_opens 5 rfl) cbX6_fail cwX6_211 (m_fail E q g tw a) rfl rfl MW_0 rfl rfl (Nat.le_of_ble_eq_true rfl) (Nat.le_of_ble_eq_true rfl) (Nat.le_of_ble_eq_true rfl) (Nat.le_of_ble_eq_true rfl) (Nat.le_of_ble_eq_true rfl) ?_
    rintro w1 rfl
    rw [if_pos hP.2.2.2.2.2.2.1]
    refine AW.pcq (pc2 := 12) rfl ?_
    refine A_iconst (0) (dX6_opens 6 rfl) (by decide +kernel) ?_
    refine A_ri (dX6_opens 7 rfl) rfl (by decide) ?_
    exact Or.inl ⟨h5, rfl, rfl⟩

set_option maxRecDepth 100000 in
set_option maxHeartbeats 400000 in
theorem m_name (E : ag) (q : Nat → Nat) (g : Nat → Int32) (tw : Int64) (a : Nat → Nat → Int32) (fr n s e : Nat) (B : Nat → Int32) (hT : TXC g a fr n B) (hs : g 27 = nI s) (he : g 25 = nI e) (hen : e ≤ n) (hsn : s ≤ n) (h30 : g 30 = 0) (h26 : g 26 = 1) : CT E yX6_name cX6_name 1 mX6_name.2.2.2.1 4 0 0 [.ref (q 0)] (MW E q g tw a) (ri (fun r w => (wcode B s e = 9 ∧ r = g 17 ∧ w = MW E q g tw a) ∨ (wcode B s e = 10 ∧ r = g 18 ∧ w = MW E q g tw a) ∨ (wcode B s e = 11 ∧ r = g 19 ∧ w = MW E q g tw a) ∨ (wcode B s e = 12 ∧ r = g 20 ∧ w = MW E q g tw a) ∨ (wcode B s e = 13 ∧ r = g 21 ∧ w = MW E q g tw a) ∨ (wcode B s e = 14 ∧ r = g 22 ∧ w = MW E q g tw a) ∨ (¬ wcode B s e = 9 ∧ ¬ wcode B s e = 10 ∧ ¬ wcode B s e = 11 ∧ ¬ wcode B s e = 12 ∧ ¬ wcode B s e = 13 ∧ ¬ wcode B s e = 14 ∧ r = 0 ∧ w = MW E q (upd (upd g 30 1) 31 (g 27)) tw a))) := by
  refine CT.of (M := mX6_name) (ls := [some (.ref (q 0))]) (by decide) rfl (by decide) rfl (Nat.le_of_ble_eq_true rfl) ?_
  refine A_aload_n (dX6_name 0 rfl) rfl ?_
  refine A_bipush (102) (dX6_name 1 rfl) (by decide +kernel) ?_
  refine A_bipush (111) (dX6_name 2 rfl) (by decide +kernel) ?_
  refine A_bipush (114) (dX6_name 3 rfl) (by decide +kernel) ?_
  refine A_bipush (99) (dX6_name 4 rfl) (by decide +kernel) ?_
  refine A_bipush (101) (dX6_name 5 rfl) (by decide +kernel) ?_
  refine A_iconst (0) (dX6_name 6 rfl) (by decide +kernel) ?_
  refine A_iconst (0) (dX6_name 7 rfl) (by decide +kernel) ?_
  refine AW.pcq (pc2 := 13) rfl ?_
  refine A_iconst (0) (dX6_name 8 rfl) (by decide +kernel) ?_
  refine A_callVWi 8 (dX6_name 9 rfl) cbX6_isWord cwX6_217 (m_isWord E q g tw a fr n s e B hT hs he hen hsn 102 111 114 99 101 0 0 0) rfl rfl MW_0 rfl rfl (Nat.le_of_ble_eq_true rfl) (Nat.le_of_ble_eq_true rfl) (Nat.le_of_ble_eq_true rfl) (Nat.le_of_ble_eq_true rfl) (Nat.le_of_ble_eq_true rfl) ?_
  rintro r14 w1 ⟨rfl, rfl⟩
  refine AW.pcq (pc2 := 17) rfl ?_
  refine A_if_eq 25 (dX6_name 10 rfl) (by decide) (fun h17 => ?_) (fun h17 => ?_)
  · have n0 : ¬ wcode B s e = 9 := fun z => b01_0.mp h17 ⟨h30, h26, wci_9.mp z⟩
    refine A_aload_n (dX6_name 14 rfl) rfl ?_
    refine A_bipush (119) (dX6_name 15 rfl) (by decide +kernel) ?_
    refine A_bipush (101) (dX6_name 16 rfl) (by decide +kernel) ?_
    refine A_bipush (116) (dX6_name 17 rfl) (by decide +kernel) ?_
    refine A_iconst (0) (dX6_name 18 rfl) (by decide +kernel) ?_
    refine A_iconst (0) (dX6_name 19 rfl) (by decide +kernel) ?_
    refine A_iconst (0) (dX6_name 20 rfl) (by decide +kernel) ?_
    refine A_iconst (0) (dX6_name 21 rfl) (by decide +kernel) ?_
    refine AW.pcq (pc2 := 36) rfl ?_
    refine A_iconst (0) (dX6_name 22 rfl) (by decide +kernel) ?_
    refine A_callVWi 8 (dX6_name 23 rfl) cbX6_isWord cwX6_217 (m_isWord E q g tw a fr n s e B hT hs he hen hsn 119 101 116 0 0 0 0 0) rfl rfl MW_0 rfl rfl (Nat.le_of_ble_eq_true rfl) (Nat.le_of_ble_eq_true rfl) (Nat.le_of_ble_eq_true rfl) (Nat.le_of_ble_eq_true rfl) (Nat.le_of_ble_eq_true rfl) ?_
    rintro r37 w1 ⟨rfl, rfl⟩
    refine AW.pcq (pc2 := 40) rfl ?_
    refine A_if_eq 48 (dX6_name 24 rfl) (by decide) (fun h40 => ?_) (fun h40 => ?_)
    · have n1 : ¬ wcode B s e = 10 := fun z => b01_0.mp h40 ⟨h30, h26, wci_10.mp z⟩
      refine A_aload_n (dX6_name 28 rfl) rfl ?_
      refine A_bipush (103) (dX6_name 29 rfl) (by decide +kernel) ?_
      refine A_bipush (97) (dX6_name 30 rfl) (by decide +kernel) ?_
      refine A_bipush (112) (dX6_name 31 rfl) (by decide +kernel) ?_
      refine A_iconst (0) (dX6_name 32 rfl) (by decide +kernel) ?_
      refine A_iconst (0) (dX6_name 33 rfl) (by decide +kernel) ?_
      refine A_iconst (0) (dX6_name 34 rfl) (by decide +kernel) ?_
      refine A_iconst (0) (dX6_name 35 rfl) (by decide +kernel) ?_
      refine AW.pcq (pc2 := 59) rfl ?_
      refine A_iconst (0) (dX6_name 36 rfl) (by decide +kernel) ?_
      refine A_callVWi 8 (dX6_name 37 rfl) cbX6_isWord cwX6_217 (m_isWord E q g tw a fr n s e B hT hs he hen hsn 103 97 112 0 0 0 0 0) rfl rfl MW_0 rfl rfl (Nat.le_of_ble_eq_true rfl) (Nat.le_of_ble_eq_true rfl) (Nat.le_of_ble_eq_true rfl) (Nat.le_of_ble_eq_true rfl) (Nat.le_of_ble_eq_true rfl) ?_
      rintro r60 w1 ⟨rfl, rfl⟩
      refine AW.pcq (pc2 := 63) rfl ?_
      refine A_if_eq 71 (dX6_name 38 rfl) (by decide) (fun h63 => ?_) (fun h63 => ?_)
      · have n2 : ¬ wcode B s e = 11 := fun z => b01_0.mp h63 ⟨h30, h26, wci_11.mp z⟩
        refine A_aload_n (dX6_name 42 rfl) rfl ?_
        refine A_bipush (101) (dX6_name 43 rfl) (by decide +kernel) ?_
        refine A_bipush (97) (dX6_name 44 rfl) (by decide +kernel) ?_
        refine A_bipush (114) (dX6_name 45 rfl) (by decide +kernel) ?_
        refine A_bipush (115) (dX6_name 46 rfl) (by decide +kernel) ?_
        refine A_iconst (0) (dX6_name 47 rfl) (by decide +kernel) ?_
        refine A_iconst (0) (dX6_name 48 rfl) (by decide +kernel) ?_
        refine A_iconst (0) (dX6_name 49 rfl) (by decide +kernel) ?_
        refine AW.pcq (pc2 := 83) rfl ?_
        refine A_iconst (0) (dX6_name 50 rfl) (by decide +kernel) ?_
        refine A_callVWi 8 (dX6_name 51 rfl) cbX6_isWord cwX6_217 (m_isWord E q g tw a fr n s e B hT hs he hen hsn 101 97 114 115 0 0 0 0) rfl rfl MW_0 rfl rfl (Nat.le_of_ble_eq_true rfl) (Nat.le_of_ble_eq_true rfl) (Nat.le_of_ble_eq_true rfl) (Nat.le_of_ble_eq_true rfl) (Nat.le_of_ble_eq_true rfl) ?_
        rintro r84 w1 ⟨rfl, rfl⟩
        refine AW.pcq (pc2 := 87) rfl ?_
        refine A_if_eq 95 (dX6_name 52 rfl) (by decide) (fun h87 => ?_) (fun h87 => ?_)
        · have n3 : ¬ wcode B s e = 12 := fun z => b01_0.mp h87 ⟨h30, h26, wci_12.mp z⟩
          refine A_aload_n (dX6_name 56 rfl) rfl ?_
          refine A_bipush (114) (dX6_name 57 rfl) (by decide +kernel) ?_
          refine A_bipush (111) (dX6_name 58 rfl) (by decide +kernel) ?_
          refine A_bipush (117) (dX6_name 59 rfl) (by decide +kernel) ?_
          refine A_bipush (110) (dX6_name 60 rfl) (by decide +kernel) ?_
          refine A_bipush (100) (dX6_name 61 rfl) (by decide +kernel) ?_
          refine A_iconst (0) (dX6_name 62 rfl) (by decide +kernel) ?_
          refine A_iconst (0) (dX6_name 63 rfl) (by decide +kernel) ?_
          refine AW.pcq (pc2 := 108) rfl ?_
          refine A_iconst (0) (dX6_name 64 rfl) (by decide +kernel) ?_
          refine A_callVWi 8 (dX6_name 65 rfl) cbX6_isWord cwX6_217 (m_isWord E q g tw a fr n s e B hT hs he hen hsn 114 111 117 110 100 0 0 0) rfl rfl MW_0 rfl rfl (Nat.le_of_ble_eq_true rfl) (Nat.le_of_ble_eq_true rfl) (Nat.le_of_ble_eq_true rfl) (Nat.le_of_ble_eq_true rfl) (Nat.le_of_ble_eq_true rfl) ?_
          rintro r109 w1 ⟨rfl, rfl⟩
          refine AW.pcq (pc2 := 112) rfl ?_
          refine A_if_eq 120 (dX6_name 66 rfl) (by decide) (fun h112 => ?_) (fun h112 => ?_)
          · have n4 : ¬ wcode B s e = 13 := fun z => b01_0.mp h112 ⟨h30, h26, wci_13.mp z⟩
            refine A_aload_n (dX6_name 70 rfl) rfl ?_
            refine A_bipush (116) (dX6_name 71 rfl) (by decide +kernel) ?_
            refine A_bipush (105) (dX6_name 72 rfl) (by decide +kernel) ?_
            refine A_bipush (114) (dX6_name 73 rfl) (by decide +kernel) ?_
            refine A_bipush (101) (dX6_name 74 rfl) (by decide +kernel) ?_
            refine A_bipush (100) (dX6_name 75 rfl) (by decide +kernel) ?_
            refine A_iconst (0) (dX6_name 76 rfl) (by decide +kernel) ?_
            refine A_iconst (0) (dX6_name 77 rfl) (by decide +kernel) ?_
            refine AW.pcq (pc2 := 133) rfl ?_
            refine A_iconst (0) (dX6_name 78 rfl) (by decide +kernel) ?_
            refine A_callVWi 8 (dX6_name 79 rfl) cbX6_isWord cwX6_217 (m_isWord E q g tw a fr n s e B hT hs he hen hsn 116 105 114 101 100 0 0 0) rfl rfl MW_0 rfl rfl (Nat.le_of_ble_eq_true rfl) (Nat.le_of_ble_eq_true rfl) (Nat.le_of_ble_eq_true rfl) (Nat.le_of_ble_eq_true rfl) (Nat.le_of_ble_eq_true rfl) ?_
            rintro r134 w1 ⟨rfl, rfl⟩
            refine AW.pcq (pc2 := 137) rfl ?_
            refine A_if_eq 145 (dX6_name 80 rfl) (by decide) (fun h137 => ?_) (fun h137 => ?_)
            · have n5 : ¬ wcode B s e = 14 := fun z => b01_0.mp h137 ⟨h30, h26, wci_14.mp z⟩
              refine A_aload_n (dX6_name 84 rfl) rfl ?_
              refine A_callVWv 0 (dX6_name 85 rfl) cbX6_fail cwX6_211 (m_fail E q g tw a) rfl rfl MW_0 rfl rfl (Nat.le_of_ble_eq_true rfl) (Nat.le_of_ble_eq_true rfl) (Nat.le_of_ble_eq_true rfl) (Nat.le_of_ble_eq_true rfl) (Nat.le_of_ble_eq_true rfl) ?_
              rintro w1 rfl
              rw [if_pos h30]
              refine AW.pcq (pc2 := 149) rfl ?_
              refine A_iconst (0) (dX6_name 86 rfl) (by decide +kernel) ?_
              refine A_ri (dX6_name 87 rfl) rfl rfl ?_
              exact Or.inr (Or.inr (Or.inr (Or.inr (Or.inr (Or.inr (⟨n0, n1, n2, n3, n4, n5, rfl, rfl⟩))))))
            · have n5 : wcode B s e = 14 := wci_14.mpr (b01_n.mp h137).2.2
              refine A_aload_n (dX6_name 81 rfl) rfl ?_
              refine A_get (dX6_name 82 rfl) fwX6_236 MW_0 MF_22 ?_
              refine A_ri (dX6_name 83 rfl) rfl rfl ?_
              exact Or.inr (Or.inr (Or.inr (Or.inr (Or.inr (Or.inl ⟨n5, rfl, rfl⟩)))))
          · have n4 : wcode B s e = 13 := wci_13.mpr (b01_n.mp h112).2.2
            refine A_aload_n (dX6_name 67 rfl) rfl ?_
            refine A_get (dX6_name 68 rfl) fwX6_233 MW_0 MF_21 ?_
            refine A_ri (dX6_name 69 rfl) rfl rfl ?_
            exact Or.inr (Or.inr (Or.inr (Or.inr (Or.inl ⟨n4, rfl, rfl⟩))))
        · have n3 : wcode B s e = 12 := wci_12.mpr (b01_n.mp h87).2.2
          refine A_aload_n (dX6_name 53 rfl) rfl ?_
          refine A_get (dX6_name 54 rfl) fwX6_230 MW_0 MF_20 ?_
          refine A_ri (dX6_name 55 rfl) rfl rfl ?_
          exact Or.inr (Or.inr (Or.inr (Or.inl ⟨n3, rfl, rfl⟩)))
      · have n2 : wcode B s e = 11 := wci_11.mpr (b01_n.mp h63).2.2
        refine A_aload_n (dX6_name 39 rfl) rfl ?_
        refine A_get (dX6_name 40 rfl) fwX6_227 MW_0 MF_19 ?_
        refine A_ri (dX6_name 41 rfl) rfl rfl ?_
        exact Or.inr (Or.inr (Or.inl ⟨n2, rfl, rfl⟩))
    · have n1 : wcode B s e = 10 := wci_10.mpr (b01_n.mp h40).2.2
      refine A_aload_n (dX6_name 25 rfl) rfl ?_
      refine A_get (dX6_name 26 rfl) fwX6_224 MW_0 MF_18 ?_
      refine A_ri (dX6_name 27 rfl) rfl rfl ?_
      exact Or.inr (Or.inl ⟨n1, rfl, rfl⟩)
  · have n0 : wcode B s e = 9 := wci_9.mpr (b01_n.mp h17).2.2
    refine A_aload_n (dX6_name 11 rfl) rfl ?_
    refine A_get (dX6_name 12 rfl) fwX6_221 MW_0 MF_17 ?_
    refine A_ri (dX6_name 13 rfl) rfl rfl ?_
    exact Or.inl ⟨n0, rfl, rfl⟩
end
section
theorem mkd_in (B : Nat → Int32) (i : Nat) : mkd B i = 0 ∨ mkd B i = 1 ∨ mkd B i = 2 ∨ mkd B i = 3 ∨ mkd B i = 4 := by
  unfold mkd
  split
  · exact Or.inl rfl
  · split
    · exact Or.inr (Or.inl rfl)
    · split
      · split
        · exact Or.inr (Or.inr (Or.inr (Or.inr rfl)))
        · exact Or.inr (Or.inr (Or.inl rfl))
      · split
        · exact Or.inr (Or.inr (Or.inr (Or.inl rfl)))
        · exact Or.inr (Or.inr (Or.inr (Or.inr rfl)))
theorem mkd_sg {B : Nat → Int32} {i : Nat} (h : mkd B i = 3) : isSg (B (lst B i)) := by
  unfold mkd at h
  split at h
  · exact absurd h (by decide)
  · split at h
    · exact absurd h (by decide)
    · split at h
      · split at h
        · exact absurd h (by decide)
        · exact absurd h (by decide)
      · split at h
        · assumption
        · exact absurd h (by decide)
theorem wc_small (B : Nat → Int32) (s e : Nat) : 2 ≤ wcode B s e ∧ wcode B s e ≤ 14 := by
  rcases wc_in B s e with ⟨z, y⟩ | ⟨z, y⟩ | ⟨z, y⟩ | ⟨z, y⟩ | ⟨z, y⟩ | ⟨z, y⟩ | ⟨z, y⟩ | ⟨z, y⟩ | ⟨z, y⟩ | ⟨z, y⟩ | ⟨z, y⟩ | ⟨z, y⟩ | z <;> rw [z] <;> decide
theorem ck0 {B : Nat → Int32} {i : Nat} (h : mkd B i = 0) : ck B i = 0 := by unfold ck; rw [if_pos h]
theorem ck2 {B : Nat → Int32} {i : Nat} (h : mkd B i = 2) : ck B i = 1 := by unfold ck; rw [if_neg (by rw [h]; decide), if_pos h]
theorem ck3 {B : Nat → Int32} {i : Nat} (h : mkd B i = 3) : ck B i = B (lst B i) := by unfold ck; rw [if_neg (by rw [h]; decide), if_neg (by rw [h]; decide), if_pos h]
theorem ck1 {B : Nat → Int32} {i : Nat} (h : mkd B i = 1) : ck B i = wcode B (lst B i) (men B i) := by unfold ck; rw [if_neg (by rw [h]; decide), if_neg (by rw [h]; decide), if_neg (by rw [h]; decide), if_pos h]
theorem ck4 {B : Nat → Int32} {i : Nat} (h : mkd B i = 4) : ck B i = 2 := by unfold ck; rw [if_neg (by rw [h]; decide), if_neg (by rw [h]; decide), if_neg (by rw [h]; decide), if_neg (by rw [h]; decide)]
theorem sg_big {b : Int32} (h : isSg b) : 40 ≤ b := by rcases h with h | h | h | h | h | h | h | h <;> rw [h] <;> decide
/-- a sign is there just if the reference sees it -/
theorem ck_sign {B : Nat → Int32} {i : Nat} {x : Int32} (hx : 40 ≤ x) : ck B i = x ↔ mkd B i = 3 ∧ B (lst B i) = x := by
  constructor
  · intro h
    rcases mkd_in B i with m | m | m | m | m
    · rw [ck0 m] at h; rw [← h] at hx; exact absurd hx (by decide)
    · rw [ck1 m] at h
      have := (wc_small B (lst B i) (men B i)).2
      rw [h] at this
      exact absurd (Int32.le_trans hx this) (by decide)
    · rw [ck2 m] at h; rw [← h] at hx; exact absurd hx (by decide)
    · exact ⟨m, by rw [← ck3 m]; exact h⟩
    · rw [ck4 m] at h; rw [← h] at hx; exact absurd hx (by decide)
  · intro h
    rw [ck3 h.1, h.2]
theorem ck_word {B : Nat → Int32} {i : Nat} {x : Int32} (h3 : 3 ≤ x) (hx : x ≤ 14) : ck B i = x ↔ mkd B i = 1 ∧ wcode B (lst B i) (men B i) = x := by
  constructor
  · intro h
    rcases mkd_in B i with m | m | m | m | m
    · rw [ck0 m] at h; rw [← h] at h3; exact absurd h3 (by decide)
    · exact ⟨m, by rw [← ck1 m]; exact h⟩
    · rw [ck2 m] at h; rw [← h] at h3; exact absurd h3 (by decide)
    · have := sg_big (mkd_sg m)
      rw [← ck3 m, h] at this
      exact absurd (Int32.le_trans this hx) (by decide)
    · rw [ck4 m] at h; rw [← h] at h3; exact absurd h3 (by decide)
  · intro h
    rw [ck1 h.1, h.2]
theorem toI64_inj {x y : Int32} (h : x.toInt64 = y.toInt64) : x = y := by
  have := congrArg Int64.toInt h
  rw [Int32.toInt_toInt64, Int32.toInt_toInt64] at this
  exact Int32.toInt_inj.mp this
theorem PM_sign {B : Nat → Int32} {n : Nat} {g : Nat → Int32} {tw : Int64} {o i : Nat} (hP : PM B n g tw o i) {x : Int32} (hx : 40 ≤ x) : (g 30 = 0 ∧ g 26 = 3 ∧ tw = x.toInt64) ↔ ck B i = x := by
  rw [ck_sign hx, hP.2.1]
  constructor
  · rintro ⟨-, h2, h3⟩
    exact ⟨h2, toI64_inj ((hP.2.2.2.2.1 h2).symm.trans h3)⟩
  · rintro ⟨h2, h3⟩
    exact ⟨hP.2.2.2.2.2.2.1, h2, by rw [hP.2.2.2.2.1 h2, h3]⟩
theorem RM_seq {E : ag} {q : Nat → Nat} {a : Nat → Nat → Int32} {n : Nat} {B : Nat → Int32} {g g2 : Nat → Int32} {o : Nat} {t : Bool × Nat × List Int32} {c1 pre1 pre2 : List Int32} {r : Int32} {w : va_W} (hk : KP g g2) (hpre : ∀ st, evs (ME g) c1 (pre1 ++ st) = pre2 ++ st) (h : RM E q a n B g2 o t pre2 r w) : RM E q a n B g o (t.1, t.2.1, c1 ++ t.2.2) pre1 r w := by
  obtain ⟨g3, tw3, rfl, k3, h1, h2⟩ := h
  refine ⟨g3, tw3, rfl, hk.tr k3, fun z => ⟨(h1 z).1, fun st => ?_⟩, h2⟩
  rw [evs_app, hpre st, ← hk.me]
  exact (h1 z).2 st
theorem RM_bad {E : ag} {q : Nat → Nat} {a : Nat → Nat → Int32} {n : Nat} {B : Nat → Int32} {g g2 : Nat → Int32} {tw2 : Int64} {o i : Nat} {c pre : List Int32} {r : Int32} (hk : KP g g2) (h30 : g2 30 = 1) (h31 : g2 31 = nI (lst B i)) : RM E q a n B g o (false, i, c) pre r (MW E q g2 tw2 a) :=
  ⟨g2, tw2, rfl, hk, fun z => absurd z (by simp), fun _ => ⟨h30, h31⟩⟩
theorem RM_ok {E : ag} {q : Nat → Nat} {a : Nat → Nat → Int32} {n : Nat} {B : Nat → Int32} {g g2 : Nat → Int32} {tw2 : Int64} {o i : Nat} {c pre : List Int32} {r : Int32} (hk : KP g g2) (hP : PM B n g2 tw2 o i) (he : ∀ st, evs (ME g) c (pre ++ st) = r :: st) : RM E q a n B g o (true, i, c) pre r (MW E q g2 tw2 a) :=
  ⟨g2, tw2, rfl, hk, fun _ => ⟨hP, he⟩, fun z => absurd z (by simp)⟩
theorem bnd {α β : Type} {x : Option α} {f : α → Option β} {y : β} (h : x.bind f = some y) : ∃ z, x = some z ∧ f z = some y := by
  cases x with
  | none => cases h
  | some z => exact ⟨z, rfl, h⟩

set_option maxRecDepth 100000 in
set_option maxHeartbeats 400000 in
theorem m_isWordB (E : ag) (q : Nat → Nat) (g : Nat → Int32) (tw : Int64) (a : Nat → Nat → Int32) (x0 x1 x2 x3 x4 x5 x6 x7 : Int32) (hb : ¬ g 30 = 0) : CT E yX6_isWord cX6_isWord 9 mX6_isWord.2.2.2.1 3 0 0 [.ref (q 0), .int x0, .int x1, .int x2, .int x3, .int x4, .int x5, .int x6, .int x7] (MW E q g tw a) (ri (fun r w => r = 0 ∧ w = MW E q g tw a)) := by
  refine CT.of (M := mX6_isWord) (ls := [some (.ref (q 0)), some (.int x0), some (.int x1), some (.int x2), some (.int x3), some (.int x4), some (.int x5), some (.int x6), some (.int x7)]) (by decide) rfl (by decide) rfl (Nat.le_of_ble_eq_true rfl) ?_
  refine A_aload_n (dX6_isWord 0 rfl) rfl ?_
  refine A_get (dX6_isWord 1 rfl) fwX6_197 MW_0 MF_30 ?_
  refine A_if_ne 112 (dX6_isWord 2 rfl) (by decide) (fun h4 => ?_) (fun h4 => absurd h4 hb)
  refine A_iconst (0) (dX6_isWord 56 rfl) (by decide +kernel) ?_
  refine A_ri (dX6_isWord 57 rfl) rfl (by decide) ?_
  exact ⟨rfl, rfl⟩

set_option maxRecDepth 100000 in
set_option maxHeartbeats 400000 in
theorem m_isSignB (E : ag) (q : Nat → Nat) (g : Nat → Int32) (tw : Int64) (a : Nat → Nat → Int32) (x : Int32) (hb : ¬ g 30 = 0) : CT E yX6_isSign cX6_isSign 2 mX6_isSign.2.2.2.1 1 0 0 [.ref (q 0), .int x] (MW E q g tw a) (ri (fun r w => r = 0 ∧ w = MW E q g tw a)) := by
  refine CT.of (M := mX6_isSign) (ls := [some (.ref (q 0)), some (.int x)]) (by decide) rfl (by decide) rfl (Nat.le_of_ble_eq_true rfl) ?_
  refine A_aload_n (dX6_isSign 0 rfl) rfl ?_
  refine A_get (dX6_isSign 1 rfl) fwX6_197 MW_0 MF_30 ?_
  refine A_if_ne 29 (dX6_isSign 2 rfl) (by decide) (fun h4 => ?_) (fun h4 => absurd h4 hb)
  refine A_iconst (0) (dX6_isSign 15 rfl) (by decide +kernel) ?_
  refine A_ri (dX6_isSign 16 rfl) rfl (by decide) ?_
  exact ⟨rfl, rfl⟩

def CM (E : ag) (q : Nat → Nat) (a : Nat → Nat → Int32) (fr n : Nat) (B : Nat → Int32) (y : MethodName) (cc : ByteArray) (nL w k f : Nat) : Prop := ∀ (g : Nat → Int32) (tw : Int64) (o i : Nat) (res : Bool × Nat × List Int32), pp B f w o i = some res → o ≤ 5 → TXC g a fr n B → PM B n g tw o i → CT E y cc nL (some .int) (6 * (5 - o) + k) 0 0 [.ref (q 0)] (MW E q g tw a) (ri (RM E q a n B g o res []))
def LM2 (E : ag) (q : Nat → Nat) (a : Nat → Nat → Int32) (fr n : Nat) (B : Nat → Int32) (M : am) (w k f : Nat) : Prop := ∀ (g : Nat → Int32) (tw : Int64) (o i : Nat) (res : Bool × Nat × List Int32), pp B f w o i = some res → o ≤ 5 → TXC g a fr n B → PM B n g tw o i → ∀ (v : Int32) (x2 : Option Value), noL [x2] = true → AW E M (6 * (5 - o) + k) 0 0 5 [some (.ref (q 0)), some (.int v), x2] [] (MW E q g tw a) (ri (RM E q a n B g o res [v]))
def LM1 (E : ag) (q : Nat → Nat) (a : Nat → Nat → Int32) (fr n : Nat) (B : Nat → Int32) (M : am) (w k f : Nat) : Prop := ∀ (g : Nat → Int32) (tw : Int64) (o i : Nat) (res : Bool × Nat × List Int32), pp B f w o i = some res → o ≤ 5 → TXC g a fr n B → PM B n g tw o i → ∀ (v : Int32), AW E M (6 * (5 - o) + k) 0 0 5 [some (.ref (q 0)), some (.int v)] [] (MW E q g tw a) (ri (RM E q a n B g o res [v]))
def LM3 (E : ag) (q : Nat → Nat) (a : Nat → Nat → Int32) (fr n : Nat) (B : Nat → Int32) (M : am) (w k f : Nat) : Prop := ∀ (g : Nat → Int32) (tw : Int64) (o i : Nat) (res : Bool × Nat × List Int32), pp B f w o i = some res → o ≤ 5 → TXC g a fr n B → PM B n g tw o i → ∀ (v : Int32) (x2 x3 : Option Value), noL [x2, x3] = true → AW E M (6 * (5 - o) + k) 0 0 5 [some (.ref (q 0)), some (.int v), x2, x3] [] (MW E q g tw a) (ri (RM E q a n B g o res [v]))
set_option maxRecDepth 100000 in
set_option maxHeartbeats 400000 in
theorem m_term_bad (E : ag) (q : Nat → Nat) (g : Nat → Int32) (tw : Int64) (a : Nat → Nat → Int32) (hb : ¬ g 30 = 0) (d : Nat) (hd : 5 ≤ d) (v : Int32)  : AW E mX6_term d 0 0 5 [some (.ref (q 0)), some (.int v)] [] (MW E q g tw a) (ri (fun r w => w = MW E q g tw a)) := by
  refine A_aload_n (dX6_term 3 rfl) rfl ?_
  refine A_bipush (42) (dX6_term 4 rfl) (by decide +kernel) ?_
  refine A_callVWi 1 (dX6_term 5 rfl) cbX6_isSign cwX6_239 (m_isSignB E q g tw a 42 hb) rfl rfl MW_0 rfl rfl (by omega) (Nat.le_of_ble_eq_true rfl) (Nat.le_of_ble_eq_true rfl) (Nat.le_of_ble_eq_true rfl) (Nat.le_of_ble_eq_true rfl) ?_
  rintro r8 w1 ⟨rfl, rfl⟩
  refine AW.pcq (pc2 := 11) rfl ?_
  refine A_if_eq 28 (dX6_term 6 rfl) (by decide) (fun h11 => ?_) (fun h11 => absurd rfl h11)
  refine A_iload_n (dX6_term 15 rfl) rfl ?_
  refine A_ri (dX6_term 16 rfl) rfl rfl ?_
  exact rfl
set_option maxRecDepth 100000 in
set_option maxHeartbeats 400000 in
theorem m_added_bad (E : ag) (q : Nat → Nat) (g : Nat → Int32) (tw : Int64) (a : Nat → Nat → Int32) (hb : ¬ g 30 = 0) (d : Nat) (hd : 5 ≤ d) (v : Int32) (x2 x3 : Option Value) : AW E mX6_added d 0 0 5 [some (.ref (q 0)), some (.int v), x2, x3] [] (MW E q g tw a) (ri (fun r w => w = MW E q g tw a)) := by
  refine A_aload_n (dX6_added 3 rfl) rfl ?_
  refine A_bipush (43) (dX6_added 4 rfl) (by decide +kernel) ?_
  refine A_callVWi 1 (dX6_added 5 rfl) cbX6_isSign cwX6_239 (m_isSignB E q g tw a 43 hb) rfl rfl MW_0 rfl rfl (by omega) (Nat.le_of_ble_eq_true rfl) (Nat.le_of_ble_eq_true rfl) (Nat.le_of_ble_eq_true rfl) (Nat.le_of_ble_eq_true rfl) ?_
  rintro r8 w1 ⟨rfl, rfl⟩
  refine AW.pcq (pc2 := 11) rfl ?_
  refine A_if_ne 23 (dX6_added 6 rfl) (by decide) (fun h11 => absurd rfl h11) (fun h11 => ?_)
  refine A_aload_n (dX6_added 7 rfl) rfl ?_
  refine A_bipush (45) (dX6_added 8 rfl) (by decide +kernel) ?_
  refine A_callVWi 1 (dX6_added 9 rfl) cbX6_isSign cwX6_239 (m_isSignB E q g tw a 45 hb) rfl rfl MW_0 rfl rfl (by omega) (Nat.le_of_ble_eq_true rfl) (Nat.le_of_ble_eq_true rfl) (Nat.le_of_ble_eq_true rfl) (Nat.le_of_ble_eq_true rfl) ?_
  rintro r17 w1 ⟨rfl, rfl⟩
  refine AW.pcq (pc2 := 20) rfl ?_
  refine A_if_eq 66 (dX6_added 10 rfl) (by decide) (fun h20 => ?_) (fun h20 => absurd rfl h20)
  refine A_iload_n (dX6_added 36 rfl) rfl ?_
  refine A_ri (dX6_added 37 rfl) rfl rfl ?_
  exact rfl
set_option maxRecDepth 100000 in
set_option maxHeartbeats 400000 in
theorem m_either_bad (E : ag) (q : Nat → Nat) (g : Nat → Int32) (tw : Int64) (a : Nat → Nat → Int32) (hb : ¬ g 30 = 0) (d : Nat) (hd : 5 ≤ d) (v : Int32) (x2 : Option Value) : AW E mX6_either d 0 0 5 [some (.ref (q 0)), some (.int v), x2] [] (MW E q g tw a) (ri (fun r w => w = MW E q g tw a)) := by
  refine A_aload_n (dX6_either 3 rfl) rfl ?_
  refine A_bipush (111) (dX6_either 4 rfl) (by decide +kernel) ?_
  refine A_bipush (114) (dX6_either 5 rfl) (by decide +kernel) ?_
  refine A_iconst (0) (dX6_either 6 rfl) (by decide +kernel) ?_
  refine A_iconst (0) (dX6_either 7 rfl) (by decide +kernel) ?_
  refine A_iconst (0) (dX6_either 8 rfl) (by decide +kernel) ?_
  refine A_iconst (0) (dX6_either 9 rfl) (by decide +kernel) ?_
  refine A_iconst (0) (dX6_either 10 rfl) (by decide +kernel) ?_
  refine AW.pcq (pc2 := 15) rfl ?_
  refine A_iconst (0) (dX6_either 11 rfl) (by decide +kernel) ?_
  refine A_callVWi 8 (dX6_either 12 rfl) cbX6_isWord cwX6_217 (m_isWordB E q g tw a 111 114 0 0 0 0 0 0 hb) rfl rfl MW_0 rfl rfl (by omega) (Nat.le_of_ble_eq_true rfl) (Nat.le_of_ble_eq_true rfl) (Nat.le_of_ble_eq_true rfl) (Nat.le_of_ble_eq_true rfl) ?_
  rintro r16 w1 ⟨rfl, rfl⟩
  refine AW.pcq (pc2 := 19) rfl ?_
  refine A_if_eq 48 (dX6_either 13 rfl) (by decide) (fun h19 => ?_) (fun h19 => absurd rfl h19)
  refine A_iload_n (dX6_either 28 rfl) rfl ?_
  refine A_ri (dX6_either 29 rfl) rfl rfl ?_
  exact rfl
set_option maxRecDepth 100000 in
set_option maxHeartbeats 400000 in
theorem m_both_bad (E : ag) (q : Nat → Nat) (g : Nat → Int32) (tw : Int64) (a : Nat → Nat → Int32) (hb : ¬ g 30 = 0) (d : Nat) (hd : 5 ≤ d) (v : Int32) (x2 : Option Value) : AW E mX6_both d 0 0 5 [some (.ref (q 0)), some (.int v), x2] [] (MW E q g tw a) (ri (fun r w => w = MW E q g tw a)) := by
  refine A_aload_n (dX6_both 3 rfl) rfl ?_
  refine A_bipush (97) (dX6_both 4 rfl) (by decide +kernel) ?_
  refine A_bipush (110) (dX6_both 5 rfl) (by decide +kernel) ?_
  refine A_bipush (100) (dX6_both 6 rfl) (by decide +kernel) ?_
  refine A_iconst (0) (dX6_both 7 rfl) (by decide +kernel) ?_
  refine A_iconst (0) (dX6_both 8 rfl) (by decide +kernel) ?_
  refine A_iconst (0) (dX6_both 9 rfl) (by decide +kernel) ?_
  refine A_iconst (0) (dX6_both 10 rfl) (by decide +kernel) ?_
  refine AW.pcq (pc2 := 16) rfl ?_
  refine A_iconst (0) (dX6_both 11 rfl) (by decide +kernel) ?_
  refine A_callVWi 8 (dX6_both 12 rfl) cbX6_isWord cwX6_217 (m_isWordB E q g tw a 97 110 100 0 0 0 0 0 hb) rfl rfl MW_0 rfl rfl (by omega) (Nat.le_of_ble_eq_true rfl) (Nat.le_of_ble_eq_true rfl) (Nat.le_of_ble_eq_true rfl) (Nat.le_of_ble_eq_true rfl) ?_
  rintro r17 w1 ⟨rfl, rfl⟩
  refine AW.pcq (pc2 := 20) rfl ?_
  refine A_if_eq 49 (dX6_both 13 rfl) (by decide) (fun h20 => ?_) (fun h20 => absurd rfl h20)
  refine A_iload_n (dX6_both 28 rfl) rfl ?_
  refine A_ri (dX6_both 29 rfl) rfl rfl ?_
  exact rfl
end
section
theorem RM_bad2 {E : ag} {q : Nat → Nat} {a : Nat → Nat → Int32} {n : Nat} {B : Nat → Int32} {g g2 : Nat → Int32} {tw2 : Int64} {o : Nat} {res : Bool × Nat × List Int32} {pre : List Int32} {r : Int32} (hb : ¬ res.1 = true) (hk : KP g g2) (h : g2 30 = 1 ∧ g2 31 = nI (lst B res.2.1)) : RM E q a n B g o res pre r (MW E q g2 tw2 a) :=
  ⟨g2, tw2, rfl, hk, fun z => absurd z hb, fun _ => h⟩
theorem ev_or (e : Nat → Int32) (x y : Int32) (st : List Int32) : evs e [-15] (y :: x :: st) = (if x ≠ 0 ∨ y ≠ 0 then 1 else 0) :: st := rfl
theorem ev_and (e : Nat → Int32) (x y : Int32) (st : List Int32) : evs e [-14] (y :: x :: st) = (if x ≠ 0 ∧ y ≠ 0 then 1 else 0) :: st := rfl
theorem ev_add (e : Nat → Int32) (x y : Int32) (st : List Int32) : evs e [-9] (y :: x :: st) = (x + y) :: st := rfl
theorem ev_sub (e : Nat → Int32) (x y : Int32) (st : List Int32) : evs e [-10] (y :: x :: st) = (x - y) :: st := rfl
theorem ev_mul (e : Nat → Int32) (x y : Int32) (st : List Int32) : evs e [-11] (y :: x :: st) = (x * y) :: st := rfl
theorem ev_lt (e : Nat → Int32) (x y : Int32) (st : List Int32) : evs e [-12] (y :: x :: st) = (if x < y then 1 else 0) :: st := rfl
theorem ev_eq (e : Nat → Int32) (x y : Int32) (st : List Int32) : evs e [-13] (y :: x :: st) = (if x = y then 1 else 0) :: st := rfl
theorem ev_neg (e : Nat → Int32) (x : Int32) (st : List Int32) : evs e [-7] (x :: st) = (-x) :: st := rfl
theorem ev_not (e : Nat → Int32) (x : Int32) (st : List Int32) : evs e [-8] (x :: st) = (if x = 0 then 1 else 0) :: st := rfl
set_option maxRecDepth 100000 in
set_option maxHeartbeats 400000 in
theorem s_term_loop (E : ag) (q : Nat → Nat) (a : Nat → Nat → Int32) (fr n : Nat) (B : Nat → Int32) (f : Nat) (h5 : CM E q a fr n B yX6_atom cX6_atom 2 5 6 f) (h9 : LM1 E q a fr n B mX6_term 9 7 f) : LM1 E q a fr n B mX6_term 9 7 (f + 1) := by
  intro g tw o i res hpp ho hT hP v
  simp only [pp] at hpp
  refine A_aload_n (dX6_term 3 rfl) rfl ?_
  refine A_bipush (42) (dX6_term 4 rfl) (by decide +kernel) ?_
  refine A_callVWi 1 (dX6_term 5 rfl) cbX6_isSign cwX6_239 (m_isSign E q g tw a 42) rfl rfl MW_0 rfl rfl (by omega) (Nat.le_of_ble_eq_true rfl) (Nat.le_of_ble_eq_true rfl) (Nat.le_of_ble_eq_true rfl) (Nat.le_of_ble_eq_true rfl) ?_
  rintro r8 w1 ⟨rfl, rfl⟩
  refine AW.pcq (pc2 := 11) rfl ?_
  refine A_if_eq 28 (dX6_term 6 rfl) (by decide) (fun h11 => ?_) (fun h11 => ?_)
  · have hck42 : ¬ ck B i = 42 := fun z => b01_0.mp h11 ((PM_sign hP (by decide)).mpr z)
    rw [if_neg hck42] at hpp
    refine A_iload_n (dX6_term 15 rfl) rfl ?_
    refine A_ri (dX6_term 16 rfl) rfl rfl ?_
    cases hpp
    exact RM_ok KP.rf hP (fun st => rfl)
  · have hck42 : ck B i = 42 := (PM_sign hP (by decide)).mp (b01_n.mp h11)
    rw [if_pos hck42] at hpp
    obtain ⟨r1, hr1, hpp⟩ := bnd hpp
    refine A_aload_n (dX6_term 7 rfl) rfl ?_
    refine A_callVWv 0 (dX6_term 8 rfl) cbX6_next cwX6_214 (m_next E q g tw a fr n B hT (men B i) (men_le hT hP.2.2.2.2.2.2.2).1 hP.1) rfl rfl MW_0 rfl rfl (by omega) (Nat.le_of_ble_eq_true rfl) (Nat.le_of_ble_eq_true rfl) (Nat.le_of_ble_eq_true rfl) (Nat.le_of_ble_eq_true rfl) ?_
    rintro w1 rfl
    refine AW.pcq (pc2 := 18) rfl ?_
    refine A_iload_n (dX6_term 9 rfl) rfl ?_
    refine A_aload_n (dX6_term 10 rfl) rfl ?_
    refine A_callVWi 0 (dX6_term 11 rfl) cbX6_atom cwX6_246 (h5 (nxg B g (men B i)) (mtw B tw (men B i)) o (men B i) r1 hr1 ho (KP.rf.nx.tx hT) (PM_nx hT hP.2.2.2.2.2.2.2 hP.2.2.2.2.2.1 hP.2.2.2.2.2.2.1)) rfl rfl MW_0 rfl rfl (by omega) (Nat.le_of_ble_eq_true rfl) (Nat.le_of_ble_eq_true rfl) (Nat.le_of_ble_eq_true rfl) (Nat.le_of_ble_eq_true rfl) ?_
    rintro x1 w1 ⟨g2, tw2, rfl, hk, hs, hf⟩
    refine AW.pcq (pc2 := 23) rfl ?_
    refine A_imul (dX6_term 12 rfl) ?_
    refine A_istore_n (ls2 := [_, _]) (dX6_term 13 rfl) (by decide) rfl rfl ?_
    refine A_goto 5 (dX6_term 14 rfl) (by decide) ?_
    have hkt : KP g g2 := KP.tr (KP.nx KP.rf) hk
    by_cases hb1 : r1.1 = true
    · rw [if_pos hb1] at hpp
      obtain ⟨t, ht, hpp⟩ := bnd hpp
      cases hpp
      obtain ⟨hP2, he2⟩ := hs hb1
      refine AW.mono (h9 g2 tw2 o r1.2.1 t ht ho (hkt.tx hT) hP2 _) (fun z w hz => ?_)
      obtain ⟨rr, hr, hm⟩ := hz
      refine ⟨rr, hr, ?_⟩
      have h8 := RM_seq (c1 := r1.2.2 ++ [-11]) (pre1 := [v]) hkt (fun st => by
        rw [evs_app]
        have h7 := he2 ([v] ++ st)
        rw [KP.me (KP.nx KP.rf)] at h7
        rw [show evs (ME g) r1.2.2 ([v] ++ st) = x1 :: ([v] ++ st) from h7]
        exact ev_mul _ _ _ _) hm
      rw [List.append_assoc] at h8
      exact h8
    · rw [if_neg hb1] at hpp
      cases hpp
      have h3 := hf (by simpa using hb1)
      refine AW.mono (m_term_bad E q g2 tw2 a (by rw [h3.1]; decide) _ (by omega) _) (fun z w hz => ?_)
      obtain ⟨rr, hr, rfl⟩ := hz
      exact ⟨rr, hr, RM_bad2 hb1 hkt h3⟩
set_option maxRecDepth 100000 in
set_option maxHeartbeats 400000 in
theorem s_term (E : ag) (q : Nat → Nat) (a : Nat → Nat → Int32) (fr n : Nat) (B : Nat → Int32) (f : Nat) (hs0 : CM E q a fr n B yX6_atom cX6_atom 2 5 6 f) (h9 : LM1 E q a fr n B mX6_term 9 7 f) : CM E q a fr n B yX6_term cX6_term 2 4 7 (f + 1) := by
  intro g tw o i res hpp ho hT hP
  simp only [pp] at hpp
  obtain ⟨r1, hr1, hpp⟩ := bnd hpp
  refine CT.of (M := mX6_term) (ls := [some (.ref (q 0)), none]) (by decide) rfl (by decide) rfl (Nat.le_of_ble_eq_true rfl) ?_
  refine A_aload_n (dX6_term 0 rfl) rfl ?_
  refine A_callVWi 0 (dX6_term 1 rfl) cbX6_atom cwX6_246 (hs0 g tw o i r1 hr1 ho hT hP) rfl rfl MW_0 rfl rfl (by omega) (Nat.le_of_ble_eq_true rfl) (Nat.le_of_ble_eq_true rfl) (Nat.le_of_ble_eq_true rfl) (Nat.le_of_ble_eq_true rfl) ?_
  rintro x1 w1 ⟨g2, tw2, rfl, hk, hs, hf⟩
  refine AW.pcq (pc2 := 4) rfl ?_
  refine A_istore_n (ls2 := [_, _]) (dX6_term 2 rfl) (by decide) rfl rfl ?_
  by_cases hb1 : r1.1 = true
  · rw [if_pos hb1] at hpp
    obtain ⟨t, ht, hpp⟩ := bnd hpp
    cases hpp
    obtain ⟨hP2, he2⟩ := hs hb1
    refine AW.mono (h9 g2 tw2 o r1.2.1 t ht ho (hk.tx hT) hP2 _) (fun z w hz => ?_)
    obtain ⟨rr, hr, hm⟩ := hz
    exact ⟨rr, hr, RM_seq (c1 := r1.2.2) (pre1 := []) hk he2 hm⟩
  · rw [if_neg hb1] at hpp
    cases hpp
    have h3 := hf (by simpa using hb1)
    refine AW.mono (m_term_bad E q g2 tw2 a (by rw [h3.1]; decide) _ (by omega) _) (fun z w hz => ?_)
    obtain ⟨rr, hr, rfl⟩ := hz
    exact ⟨rr, hr, RM_bad2 hb1 hk h3⟩
set_option maxRecDepth 100000 in
set_option maxHeartbeats 400000 in
theorem s_added_plus (E : ag) (q : Nat → Nat) (a : Nat → Nat → Int32) (fr n : Nat) (B : Nat → Int32) (f : Nat) (h4 : CM E q a fr n B yX6_term cX6_term 2 4 7 f) (h8 : LM3 E q a fr n B mX6_added 8 8 f) (g : Nat → Int32) (tw : Int64) (o i : Nat) (res : Bool × Nat × List Int32) (hpp : (pp B f 4 o (men B i)).bind (fun r => if r.1 = true then (pp B f 8 o r.2.1).bind (fun t => some (t.1, t.2.1, r.2.2 ++ (-9) :: t.2.2)) else some r) = some res) (ho : o ≤ 5) (hT : TXC g a fr n B) (hP : PM B n g tw o i) (v : Int32) (x2 x3 : Option Value) (hx : noL [x2, x3] = true) (htw : tw = 43) : AW E mX6_added (6 * (5 - o) + 8) 0 0 23 [some (.ref (q 0)), some (.int v), x2, x3] [] (MW E q g tw a) (ri (RM E q a n B g o res [v])) := by
  obtain ⟨r1, hr1, hpp⟩ := bnd hpp
  refine A_aload_n (dX6_added 11 rfl) rfl ?_
  refine A_get (dX6_added 12 rfl) fwX6_191 MW_0 MF_28 ?_
  refine A_ldc2 (dX6_added 13 rfl) kcX6_259 ?_
  refine A_lcmp (dX6_added 14 rfl) ?_
  refine A_if_ne 38 (dX6_added 15 rfl) (by decide) (fun h31 => absurd ((cmp_z _ _).mpr htw) h31) (fun h31 => ?_)
  refine A_iconst (1) (dX6_added 16 rfl) (by decide +kernel) ?_
  refine A_goto 39 (dX6_added 17 rfl) (by decide) ?_
  refine A_istore_n (ls2 := [_, _, _, _]) (dX6_added 19 rfl) (by decide) (by have := hx; simp_all [noL, Value.category]) rfl ?_
  refine A_aload_n (dX6_added 20 rfl) rfl ?_
  refine A_callVWv 0 (dX6_added 21 rfl) cbX6_next cwX6_214 (m_next E q g tw a fr n B hT (men B i) (men_le hT hP.2.2.2.2.2.2.2).1 hP.1) rfl rfl MW_0 rfl rfl (by omega) (Nat.le_of_ble_eq_true rfl) (Nat.le_of_ble_eq_true rfl) (Nat.le_of_ble_eq_true rfl) (Nat.le_of_ble_eq_true rfl) ?_
  rintro w1 rfl
  refine AW.pcq (pc2 := 44) rfl ?_
  refine A_aload_n (dX6_added 22 rfl) rfl ?_
  refine A_callVWi 0 (dX6_added 23 rfl) cbX6_term cwX6_256 (h4 (nxg B g (men B i)) (mtw B tw (men B i)) o (men B i) r1 hr1 ho (KP.rf.nx.tx hT) (PM_nx hT hP.2.2.2.2.2.2.2 hP.2.2.2.2.2.1 hP.2.2.2.2.2.2.1)) rfl rfl MW_0 rfl rfl (by omega) (Nat.le_of_ble_eq_true rfl) (Nat.le_of_ble_eq_true rfl) (Nat.le_of_ble_eq_true rfl) (Nat.le_of_ble_eq_true rfl) ?_
  rintro x1 w1 ⟨g2, tw2, rfl, hk, hs, hf⟩
  refine AW.pcq (pc2 := 48) rfl ?_
  refine A_istore_n (ls2 := [_, _, _, _]) (dX6_added 24 rfl) (by decide) (by have := hx; simp_all [noL, Value.category]) rfl ?_
  refine A_iload_n (dX6_added 25 rfl) rfl ?_
  refine A_if_eq 59 (dX6_added 26 rfl) (by decide) (fun h50 => absurd h50 (by decide)) (fun h50 => ?_)
  refine A_iload_n (dX6_added 27 rfl) rfl ?_
  refine A_iload_n (dX6_added 28 rfl) rfl ?_
  refine A_iadd (dX6_added 29 rfl) ?_
  refine A_goto 62 (dX6_added 30 rfl) (by decide) ?_
  refine A_istore_n (ls2 := [_, _, _, _]) (dX6_added 34 rfl) (by decide) (by have := hx; simp_all [noL, Value.category]) rfl ?_
  refine A_goto 5 (dX6_added 35 rfl) (by decide) ?_
  have hkt : KP g g2 := KP.tr (KP.nx KP.rf) hk
  by_cases hb1 : r1.1 = true
  · rw [if_pos hb1] at hpp
    obtain ⟨t, ht, hpp⟩ := bnd hpp
    cases hpp
    obtain ⟨hP2, he2⟩ := hs hb1
    refine AW.mono (h8 g2 tw2 o r1.2.1 t ht ho (hkt.tx hT) hP2 _ _ _ rfl) (fun z w hz => ?_)
    obtain ⟨rr, hr, hm⟩ := hz
    refine ⟨rr, hr, ?_⟩
    have h8 := RM_seq (c1 := r1.2.2 ++ [-9]) (pre1 := [v]) hkt (fun st => by
      rw [evs_app]
      have h7 := he2 ([v] ++ st)
      rw [KP.me (KP.nx KP.rf)] at h7
      rw [show evs (ME g) r1.2.2 ([v] ++ st) = x1 :: ([v] ++ st) from h7]
      exact ev_add _ _ _ _) hm
    rw [List.append_assoc] at h8
    exact h8
  · rw [if_neg hb1] at hpp
    cases hpp
    have h3 := hf (by simpa using hb1)
    refine AW.mono (m_added_bad E q g2 tw2 a (by rw [h3.1]; decide) _ (by omega) _ _ _) (fun z w hz => ?_)
    obtain ⟨rr, hr, rfl⟩ := hz
    exact ⟨rr, hr, RM_bad2 hb1 hkt h3⟩
set_option maxRecDepth 100000 in
set_option maxHeartbeats 400000 in
theorem s_added_minus (E : ag) (q : Nat → Nat) (a : Nat → Nat → Int32) (fr n : Nat) (B : Nat → Int32) (f : Nat) (h4 : CM E q a fr n B yX6_term cX6_term 2 4 7 f) (h8 : LM3 E q a fr n B mX6_added 8 8 f) (g : Nat → Int32) (tw : Int64) (o i : Nat) (res : Bool × Nat × List Int32) (hpp : (pp B f 4 o (men B i)).bind (fun r => if r.1 = true then (pp B f 8 o r.2.1).bind (fun t => some (t.1, t.2.1, r.2.2 ++ (-10) :: t.2.2)) else some r) = some res) (ho : o ≤ 5) (hT : TXC g a fr n B) (hP : PM B n g tw o i) (v : Int32) (x2 x3 : Option Value) (hx : noL [x2, x3] = true) (htw : ¬ tw = 43) : AW E mX6_added (6 * (5 - o) + 8) 0 0 23 [some (.ref (q 0)), some (.int v), x2, x3] [] (MW E q g tw a) (ri (RM E q a n B g o res [v])) := by
  obtain ⟨r1, hr1, hpp⟩ := bnd hpp
  refine A_aload_n (dX6_added 11 rfl) rfl ?_
  refine A_get (dX6_added 12 rfl) fwX6_191 MW_0 MF_28 ?_
  refine A_ldc2 (dX6_added 13 rfl) kcX6_259 ?_
  refine A_lcmp (dX6_added 14 rfl) ?_
  refine A_if_ne 38 (dX6_added 15 rfl) (by decide) (fun h31 => ?_) (fun h31 => absurd ((cmp_z _ _).mp h31) htw)
  refine A_iconst (0) (dX6_added 18 rfl) (by decide +kernel) ?_
  refine A_istore_n (ls2 := [_, _, _, _]) (dX6_added 19 rfl) (by decide) (by have := hx; simp_all [noL, Value.category]) rfl ?_
  refine A_aload_n (dX6_added 20 rfl) rfl ?_
  refine A_callVWv 0 (dX6_added 21 rfl) cbX6_next cwX6_214 (m_next E q g tw a fr n B hT (men B i) (men_le hT hP.2.2.2.2.2.2.2).1 hP.1) rfl rfl MW_0 rfl rfl (by omega) (Nat.le_of_ble_eq_true rfl) (Nat.le_of_ble_eq_true rfl) (Nat.le_of_ble_eq_true rfl) (Nat.le_of_ble_eq_true rfl) ?_
  rintro w1 rfl
  refine AW.pcq (pc2 := 44) rfl ?_
  refine A_aload_n (dX6_added 22 rfl) rfl ?_
  refine A_callVWi 0 (dX6_added 23 rfl) cbX6_term cwX6_256 (h4 (nxg B g (men B i)) (mtw B tw (men B i)) o (men B i) r1 hr1 ho (KP.rf.nx.tx hT) (PM_nx hT hP.2.2.2.2.2.2.2 hP.2.2.2.2.2.1 hP.2.2.2.2.2.2.1)) rfl rfl MW_0 rfl rfl (by omega) (Nat.le_of_ble_eq_true rfl) (Nat.le_of_ble_eq_true rfl) (Nat.le_of_ble_eq_true rfl) (Nat.le_of_ble_eq_true rfl) ?_
  rintro x1 w1 ⟨g2, tw2, rfl, hk, hs, hf⟩
  refine AW.pcq (pc2 := 48) rfl ?_
  refine A_istore_n (ls2 := [_, _, _, _]) (dX6_added 24 rfl) (by decide) (by have := hx; simp_all [noL, Value.category]) rfl ?_
  refine A_iload_n (dX6_added 25 rfl) rfl ?_
  refine A_if_eq 59 (dX6_added 26 rfl) (by decide) (fun h50 => ?_) (fun h50 => absurd rfl h50)
  refine A_iload_n (dX6_added 31 rfl) rfl ?_
  refine A_iload_n (dX6_added 32 rfl) rfl ?_
  refine A_isub (dX6_added 33 rfl) ?_
  refine A_istore_n (ls2 := [_, _, _, _]) (dX6_added 34 rfl) (by decide) (by have := hx; simp_all [noL, Value.category]) rfl ?_
  refine A_goto 5 (dX6_added 35 rfl) (by decide) ?_
  have hkt : KP g g2 := KP.tr (KP.nx KP.rf) hk
  by_cases hb1 : r1.1 = true
  · rw [if_pos hb1] at hpp
    obtain ⟨t, ht, hpp⟩ := bnd hpp
    cases hpp
    obtain ⟨hP2, he2⟩ := hs hb1
    refine AW.mono (h8 g2 tw2 o r1.2.1 t ht ho (hkt.tx hT) hP2 _ _ _ rfl) (fun z w hz => ?_)
    obtain ⟨rr, hr, hm⟩ := hz
    refine ⟨rr, hr, ?_⟩
    have h8 := RM_seq (c1 := r1.2.2 ++ [-10]) (pre1 := [v]) hkt (fun st => by
      rw [evs_app]
      have h7 := he2 ([v] ++ st)
      rw [KP.me (KP.nx KP.rf)] at h7
      rw [show evs (ME g) r1.2.2 ([v] ++ st) = x1 :: ([v] ++ st) from h7]
      exact ev_sub _ _ _ _) hm
    rw [List.append_assoc] at h8
    exact h8
  · rw [if_neg hb1] at hpp
    cases hpp
    have h3 := hf (by simpa using hb1)
    refine AW.mono (m_added_bad E q g2 tw2 a (by rw [h3.1]; decide) _ (by omega) _ _ _) (fun z w hz => ?_)
    obtain ⟨rr, hr, rfl⟩ := hz
    exact ⟨rr, hr, RM_bad2 hb1 hkt h3⟩
set_option maxRecDepth 100000 in
set_option maxHeartbeats 400000 in
theorem s_added_loop (E : ag) (q : Nat → Nat) (a : Nat → Nat → Int32) (fr n : Nat) (B : Nat → Int32) (f : Nat) (h4 : CM E q a fr n B yX6_term cX6_term 2 4 7 f) (h8 : LM3 E q a fr n B mX6_added 8 8 f) : LM3 E q a fr n B mX6_added 8 8 (f + 1) := by
  intro g tw o i res hpp ho hT hP v x2 x3 hx
  simp only [pp] at hpp
  refine A_aload_n (dX6_added 3 rfl) rfl ?_
  refine A_bipush (43) (dX6_added 4 rfl) (by decide +kernel) ?_
  refine A_callVWi 1 (dX6_added 5 rfl) cbX6_isSign cwX6_239 (m_isSign E q g tw a 43) rfl rfl MW_0 rfl rfl (by omega) (Nat.le_of_ble_eq_true rfl) (Nat.le_of_ble_eq_true rfl) (Nat.le_of_ble_eq_true rfl) (Nat.le_of_ble_eq_true rfl) ?_
  rintro r8 w1 ⟨rfl, rfl⟩
  refine AW.pcq (pc2 := 11) rfl ?_
  refine A_if_ne 23 (dX6_added 6 rfl) (by decide) (fun h11 => ?_) (fun h11 => ?_)
  · have hck43 : ck B i = 43 := (PM_sign hP (by decide)).mp (b01_n.mp h11)
    rw [if_pos (Or.inl hck43), if_pos hck43] at hpp
    first
      | (have hm := (ck_sign (B := B) (i := i) (by decide)).mp hck45
         have htw0 := hP.2.2.2.2.1 hm.1
         rw [hm.2] at htw0
         exact s_added_minus E q a fr n B f h4 h8 g tw o i res hpp ho hT hP v x2 x3 hx (by rw [htw0]; decide))
      | (have hm := (ck_sign (B := B) (i := i) (by decide)).mp hck43
         have htw0 := hP.2.2.2.2.1 hm.1
         rw [hm.2] at htw0
         exact s_added_plus E q a fr n B f h4 h8 g tw o i res (by simpa [hck43] using hpp) ho hT hP v x2 x3 hx (by rw [htw0]; decide))
  · have hck43 : ¬ ck B i = 43 := fun z => b01_0.mp h11 ((PM_sign hP (by decide)).mpr z)
    refine A_aload_n (dX6_added 7 rfl) rfl ?_
    refine A_bipush (45) (dX6_added 8 rfl) (by decide +kernel) ?_
    refine A_callVWi 1 (dX6_added 9 rfl) cbX6_isSign cwX6_239 (m_isSign E q g tw a 45) rfl rfl MW_0 rfl rfl (by omega) (Nat.le_of_ble_eq_true rfl) (Nat.le_of_ble_eq_true rfl) (Nat.le_of_ble_eq_true rfl) (Nat.le_of_ble_eq_true rfl) ?_
    rintro r17 w1 ⟨rfl, rfl⟩
    refine AW.pcq (pc2 := 20) rfl ?_
    refine A_if_eq 66 (dX6_added 10 rfl) (by decide) (fun h20 => ?_) (fun h20 => ?_)
    · have hck45 : ¬ ck B i = 45 := fun z => b01_0.mp h20 ((PM_sign hP (by decide)).mpr z)
      rw [if_neg (fun z => z.elim hck43 hck45)] at hpp
      refine A_iload_n (dX6_added 36 rfl) rfl ?_
      refine A_ri (dX6_added 37 rfl) rfl rfl ?_
      cases hpp
      exact RM_ok KP.rf hP (fun st => rfl)
    · have hck45 : ck B i = 45 := (PM_sign hP (by decide)).mp (b01_n.mp h20)
      rw [if_pos (Or.inr hck45)] at hpp
      simp only [if_neg hck43] at hpp
      first
        | (have hm := (ck_sign (B := B) (i := i) (by decide)).mp hck45
           have htw0 := hP.2.2.2.2.1 hm.1
           rw [hm.2] at htw0
           exact s_added_minus E q a fr n B f h4 h8 g tw o i res hpp ho hT hP v x2 x3 hx (by rw [htw0]; decide))
        | (have hm := (ck_sign (B := B) (i := i) (by decide)).mp hck43
           have htw0 := hP.2.2.2.2.1 hm.1
           rw [hm.2] at htw0
           exact s_added_plus E q a fr n B f h4 h8 g tw o i res (by simpa [hck43] using hpp) ho hT hP v x2 x3 hx (by rw [htw0]; decide))
set_option maxRecDepth 100000 in
set_option maxHeartbeats 400000 in
theorem s_added (E : ag) (q : Nat → Nat) (a : Nat → Nat → Int32) (fr n : Nat) (B : Nat → Int32) (f : Nat) (hs0 : CM E q a fr n B yX6_term cX6_term 2 4 7 f) (h9 : LM3 E q a fr n B mX6_added 8 8 f) : CM E q a fr n B yX6_added cX6_added 4 3 8 (f + 1) := by
  intro g tw o i res hpp ho hT hP
  simp only [pp] at hpp
  obtain ⟨r1, hr1, hpp⟩ := bnd hpp
  refine CT.of (M := mX6_added) (ls := [some (.ref (q 0)), none, none, none]) (by decide) rfl (by decide) rfl (Nat.le_of_ble_eq_true rfl) ?_
  refine A_aload_n (dX6_added 0 rfl) rfl ?_
  refine A_callVWi 0 (dX6_added 1 rfl) cbX6_term cwX6_256 (hs0 g tw o i r1 hr1 ho hT hP) rfl rfl MW_0 rfl rfl (by omega) (Nat.le_of_ble_eq_true rfl) (Nat.le_of_ble_eq_true rfl) (Nat.le_of_ble_eq_true rfl) (Nat.le_of_ble_eq_true rfl) ?_
  rintro x1 w1 ⟨g2, tw2, rfl, hk, hs, hf⟩
  refine AW.pcq (pc2 := 4) rfl ?_
  refine A_istore_n (ls2 := [_, _, _, _]) (dX6_added 2 rfl) (by decide) rfl rfl ?_
  by_cases hb1 : r1.1 = true
  · rw [if_pos hb1] at hpp
    obtain ⟨t, ht, hpp⟩ := bnd hpp
    cases hpp
    obtain ⟨hP2, he2⟩ := hs hb1
    refine AW.mono (h9 g2 tw2 o r1.2.1 t ht ho (hk.tx hT) hP2 _ none none rfl) (fun z w hz => ?_)
    obtain ⟨rr, hr, hm⟩ := hz
    exact ⟨rr, hr, RM_seq (c1 := r1.2.2) (pre1 := []) hk he2 hm⟩
  · rw [if_neg hb1] at hpp
    cases hpp
    have h3 := hf (by simpa using hb1)
    refine AW.mono (m_added_bad E q g2 tw2 a (by rw [h3.1]; decide) _ (by omega) _ _ _) (fun z w hz => ?_)
    obtain ⟨rr, hr, rfl⟩ := hz
    exact ⟨rr, hr, RM_bad2 hb1 hk h3⟩
set_option maxRecDepth 100000 in
set_option maxHeartbeats 400000 in
theorem s_either_loop (E : ag) (q : Nat → Nat) (a : Nat → Nat → Int32) (fr n : Nat) (B : Nat → Int32) (f : Nat) (h1 : CM E q a fr n B yX6_both cX6_both 3 1 10 f) (h6 : LM2 E q a fr n B mX6_either 6 11 f) : LM2 E q a fr n B mX6_either 6 11 (f + 1) := by
  intro g tw o i res hpp ho hT hP v x2 hx2
  simp only [pp] at hpp
  refine A_aload_n (dX6_either 3 rfl) rfl ?_
  refine A_bipush (111) (dX6_either 4 rfl) (by decide +kernel) ?_
  refine A_bipush (114) (dX6_either 5 rfl) (by decide +kernel) ?_
  refine A_iconst (0) (dX6_either 6 rfl) (by decide +kernel) ?_
  refine A_iconst (0) (dX6_either 7 rfl) (by decide +kernel) ?_
  refine A_iconst (0) (dX6_either 8 rfl) (by decide +kernel) ?_
  refine A_iconst (0) (dX6_either 9 rfl) (by decide +kernel) ?_
  refine A_iconst (0) (dX6_either 10 rfl) (by decide +kernel) ?_
  refine AW.pcq (pc2 := 15) rfl ?_
  refine A_iconst (0) (dX6_either 11 rfl) (by decide +kernel) ?_
  refine A_callVWi 8 (dX6_either 12 rfl) cbX6_isWord cwX6_217 (m_isWord E q g tw a fr n (lst B i) (men B i) B hT hP.2.2.1 hP.1 (men_le hT hP.2.2.2.2.2.2.2).1 (lst_le hT hP.2.2.2.2.2.2.2).1 111 114 0 0 0 0 0 0) rfl rfl MW_0 rfl rfl (by omega) (Nat.le_of_ble_eq_true rfl) (Nat.le_of_ble_eq_true rfl) (Nat.le_of_ble_eq_true rfl) (Nat.le_of_ble_eq_true rfl) ?_
  rintro r16 w1 ⟨rfl, rfl⟩
  refine AW.pcq (pc2 := 19) rfl ?_
  refine A_if_eq 48 (dX6_either 13 rfl) (by decide) (fun h19 => ?_) (fun h19 => ?_)
  · have hck : ¬ ck B i = 6 := fun z => b01_0.mp h19 (by have y := (ck_word (by decide) (by decide)).mp z; exact ⟨hP.2.2.2.2.2.2.1, hP.2.1.trans y.1, wci_6.mp y.2⟩)
    rw [if_neg hck] at hpp
    refine A_iload_n (dX6_either 28 rfl) rfl ?_
    refine A_ri (dX6_either 29 rfl) rfl rfl ?_
    cases hpp
    exact RM_ok KP.rf hP (fun st => rfl)
  · have hck : ck B i = 6 := by
      have y := b01_n.mp h19
      exact (ck_word (by decide) (by decide)).mpr ⟨hP.2.1.symm.trans y.2.1, wci_6.mpr y.2.2⟩
    rw [if_pos hck] at hpp
    obtain ⟨r1, hr1, hpp⟩ := bnd hpp
    refine A_aload_n (dX6_either 14 rfl) rfl ?_
    refine A_callVWv 0 (dX6_either 15 rfl) cbX6_next cwX6_214 (m_next E q g tw a fr n B hT (men B i) (men_le hT hP.2.2.2.2.2.2.2).1 hP.1) rfl rfl MW_0 rfl rfl (by omega) (Nat.le_of_ble_eq_true rfl) (Nat.le_of_ble_eq_true rfl) (Nat.le_of_ble_eq_true rfl) (Nat.le_of_ble_eq_true rfl) ?_
    rintro w1 rfl
    refine AW.pcq (pc2 := 26) rfl ?_
    refine A_aload_n (dX6_either 16 rfl) rfl ?_
    refine A_callVWi 0 (dX6_either 17 rfl) cbX6_both cwX6_269 (h1 (nxg B g (men B i)) (mtw B tw (men B i)) o (men B i) r1 hr1 ho (KP.rf.nx.tx hT) (PM_nx hT hP.2.2.2.2.2.2.2 hP.2.2.2.2.2.1 hP.2.2.2.2.2.2.1)) rfl rfl MW_0 rfl rfl (by omega) (Nat.le_of_ble_eq_true rfl) (Nat.le_of_ble_eq_true rfl) (Nat.le_of_ble_eq_true rfl) (Nat.le_of_ble_eq_true rfl) ?_
    rintro x1 w1 ⟨g2, tw2, rfl, hk, hs, hf⟩
    refine AW.pcq (pc2 := 30) rfl ?_
    refine A_istore_n (ls2 := [_, _, _]) (dX6_either 18 rfl) (by decide) (by have := hx2; simp_all [noL, Value.category]) rfl ?_
    refine A_iload_n (dX6_either 19 rfl) rfl ?_
    refine A_if_ne 39 (dX6_either 20 rfl) (by decide) (fun h32 => ?_) (fun h32 => ?_)
    · refine A_iconst (1) (dX6_either 23 rfl) (by decide +kernel) ?_
      refine A_goto 44 (dX6_either 24 rfl) (by decide) ?_
      refine A_istore_n (ls2 := [_, _, _]) (dX6_either 26 rfl) (by decide) (by have := hx2; simp_all [noL, Value.category]) rfl ?_
      refine A_goto 5 (dX6_either 27 rfl) (by decide) ?_
      have hkt : KP g g2 := KP.tr (KP.nx KP.rf) hk
      by_cases hb1 : r1.1 = true
      · rw [if_pos hb1] at hpp
        obtain ⟨t, ht, hpp⟩ := bnd hpp
        cases hpp
        obtain ⟨hP2, he2⟩ := hs hb1
        refine AW.mono (h6 g2 tw2 o r1.2.1 t ht ho (hkt.tx hT) hP2 _ _ rfl) (fun z w hz => ?_)
        obtain ⟨rr, hr, hm⟩ := hz
        refine ⟨rr, hr, ?_⟩
        have h8 := RM_seq (c1 := r1.2.2 ++ [-15]) (pre1 := [v]) hkt (fun st => by
          rw [evs_app]
          have h7 := he2 ([v] ++ st)
          rw [KP.me (KP.nx KP.rf)] at h7
          rw [show evs (ME g) r1.2.2 ([v] ++ st) = x1 :: ([v] ++ st) from h7]
          rw [show x1 :: ([v] ++ st) = x1 :: v :: st from rfl, ev_or]
          simp_all) hm
        rw [List.append_assoc] at h8
        exact h8
      · rw [if_neg hb1] at hpp
        cases hpp
        have h3 := hf (by simpa using hb1)
        refine AW.mono (m_either_bad E q g2 tw2 a (by rw [h3.1]; decide) _ (by omega) _ _) (fun z w hz => ?_)
        obtain ⟨rr, hr, rfl⟩ := hz
        exact ⟨rr, hr, RM_bad2 hb1 hkt h3⟩
    · refine A_iload_n (dX6_either 21 rfl) rfl ?_
      refine A_if_eq 43 (dX6_either 22 rfl) (by decide) (fun h36 => ?_) (fun h36 => ?_)
      · refine A_iconst (0) (dX6_either 25 rfl) (by decide +kernel) ?_
        refine A_istore_n (ls2 := [_, _, _]) (dX6_either 26 rfl) (by decide) (by have := hx2; simp_all [noL, Value.category]) rfl ?_
        refine A_goto 5 (dX6_either 27 rfl) (by decide) ?_
        have hkt : KP g g2 := KP.tr (KP.nx KP.rf) hk
        by_cases hb1 : r1.1 = true
        · rw [if_pos hb1] at hpp
          obtain ⟨t, ht, hpp⟩ := bnd hpp
          cases hpp
          obtain ⟨hP2, he2⟩ := hs hb1
          refine AW.mono (h6 g2 tw2 o r1.2.1 t ht ho (hkt.tx hT) hP2 _ _ rfl) (fun z w hz => ?_)
          obtain ⟨rr, hr, hm⟩ := hz
          refine ⟨rr, hr, ?_⟩
          have h8 := RM_seq (c1 := r1.2.2 ++ [-15]) (pre1 := [v]) hkt (fun st => by
            rw [evs_app]
            have h7 := he2 ([v] ++ st)
            rw [KP.me (KP.nx KP.rf)] at h7
            rw [show evs (ME g) r1.2.2 ([v] ++ st) = x1 :: ([v] ++ st) from h7]
            rw [show x1 :: ([v] ++ st) = x1 :: v :: st from rfl, ev_or]
            simp_all) hm
          rw [List.append_assoc] at h8
          exact h8
        · rw [if_neg hb1] at hpp
          cases hpp
          have h3 := hf (by simpa using hb1)
          refine AW.mono (m_either_bad E q g2 tw2 a (by rw [h3.1]; decide) _ (by omega) _ _) (fun z w hz => ?_)
          obtain ⟨rr, hr, rfl⟩ := hz
          exact ⟨rr, hr, RM_bad2 hb1 hkt h3⟩
      · refine A_iconst (1) (dX6_either 23 rfl) (by decide +kernel) ?_
        refine A_goto 44 (dX6_either 24 rfl) (by decide) ?_
        refine A_istore_n (ls2 := [_, _, _]) (dX6_either 26 rfl) (by decide) (by have := hx2; simp_all [noL, Value.category]) rfl ?_
        refine A_goto 5 (dX6_either 27 rfl) (by decide) ?_
        have hkt : KP g g2 := KP.tr (KP.nx KP.rf) hk
        by_cases hb1 : r1.1 = true
        · rw [if_pos hb1] at hpp
          obtain ⟨t, ht, hpp⟩ := bnd hpp
          cases hpp
          obtain ⟨hP2, he2⟩ := hs hb1
          refine AW.mono (h6 g2 tw2 o r1.2.1 t ht ho (hkt.tx hT) hP2 _ _ rfl) (fun z w hz => ?_)
          obtain ⟨rr, hr, hm⟩ := hz
          refine ⟨rr, hr, ?_⟩
          have h8 := RM_seq (c1 := r1.2.2 ++ [-15]) (pre1 := [v]) hkt (fun st => by
            rw [evs_app]
            have h7 := he2 ([v] ++ st)
            rw [KP.me (KP.nx KP.rf)] at h7
            rw [show evs (ME g) r1.2.2 ([v] ++ st) = x1 :: ([v] ++ st) from h7]
            rw [show x1 :: ([v] ++ st) = x1 :: v :: st from rfl, ev_or]
            simp_all) hm
          rw [List.append_assoc] at h8
          exact h8
        · rw [if_neg hb1] at hpp
          cases hpp
          have h3 := hf (by simpa using hb1)
          refine AW.mono (m_either_bad E q g2 tw2 a (by rw [h3.1]; decide) _ (by omega) _ _) (fun z w hz => ?_)
          obtain ⟨rr, hr, rfl⟩ := hz
          exact ⟨rr, hr, RM_bad2 hb1 hkt h3⟩
set_option maxRecDepth 100000 in
set_option maxHeartbeats 400000 in
theorem s_either (E : ag) (q : Nat → Nat) (a : Nat → Nat → Int32) (fr n : Nat) (B : Nat → Int32) (f : Nat) (hs0 : CM E q a fr n B yX6_both cX6_both 3 1 10 f) (h9 : LM2 E q a fr n B mX6_either 6 11 f) : CM E q a fr n B yX6_either cX6_either 3 0 11 (f + 1) := by
  intro g tw o i res hpp ho hT hP
  simp only [pp] at hpp
  obtain ⟨r1, hr1, hpp⟩ := bnd hpp
  refine CT.of (M := mX6_either) (ls := [some (.ref (q 0)), none, none]) (by decide) rfl (by decide) rfl (Nat.le_of_ble_eq_true rfl) ?_
  refine A_aload_n (dX6_either 0 rfl) rfl ?_
  refine A_callVWi 0 (dX6_either 1 rfl) cbX6_both cwX6_269 (hs0 g tw o i r1 hr1 ho hT hP) rfl rfl MW_0 rfl rfl (by omega) (Nat.le_of_ble_eq_true rfl) (Nat.le_of_ble_eq_true rfl) (Nat.le_of_ble_eq_true rfl) (Nat.le_of_ble_eq_true rfl) ?_
  rintro x1 w1 ⟨g2, tw2, rfl, hk, hs, hf⟩
  refine AW.pcq (pc2 := 4) rfl ?_
  refine A_istore_n (ls2 := [_, _, _]) (dX6_either 2 rfl) (by decide) rfl rfl ?_
  by_cases hb1 : r1.1 = true
  · rw [if_pos hb1] at hpp
    obtain ⟨t, ht, hpp⟩ := bnd hpp
    cases hpp
    obtain ⟨hP2, he2⟩ := hs hb1
    refine AW.mono (h9 g2 tw2 o r1.2.1 t ht ho (hk.tx hT) hP2 _ none rfl) (fun z w hz => ?_)
    obtain ⟨rr, hr, hm⟩ := hz
    exact ⟨rr, hr, RM_seq (c1 := r1.2.2) (pre1 := []) hk he2 hm⟩
  · rw [if_neg hb1] at hpp
    cases hpp
    have h3 := hf (by simpa using hb1)
    refine AW.mono (m_either_bad E q g2 tw2 a (by rw [h3.1]; decide) _ (by omega) _ _) (fun z w hz => ?_)
    obtain ⟨rr, hr, rfl⟩ := hz
    exact ⟨rr, hr, RM_bad2 hb1 hk h3⟩
set_option maxRecDepth 100000 in
set_option maxHeartbeats 400000 in
theorem s_both_loop (E : ag) (q : Nat → Nat) (a : Nat → Nat → Int32) (fr n : Nat) (B : Nat → Int32) (f : Nat) (h1 : CM E q a fr n B yX6_not cX6_not 4 2 9 f) (h6 : LM2 E q a fr n B mX6_both 7 10 f) : LM2 E q a fr n B mX6_both 7 10 (f + 1) := by
  intro g tw o i res hpp ho hT hP v x2 hx2
  simp only [pp] at hpp
  refine A_aload_n (dX6_both 3 rfl) rfl ?_
  refine A_bipush (97) (dX6_both 4 rfl) (by decide +kernel) ?_
  refine A_bipush (110) (dX6_both 5 rfl) (by decide +kernel) ?_
  refine A_bipush (100) (dX6_both 6 rfl) (by decide +kernel) ?_
  refine A_iconst (0) (dX6_both 7 rfl) (by decide +kernel) ?_
  refine A_iconst (0) (dX6_both 8 rfl) (by decide +kernel) ?_
  refine A_iconst (0) (dX6_both 9 rfl) (by decide +kernel) ?_
  refine A_iconst (0) (dX6_both 10 rfl) (by decide +kernel) ?_
  refine AW.pcq (pc2 := 16) rfl ?_
  refine A_iconst (0) (dX6_both 11 rfl) (by decide +kernel) ?_
  refine A_callVWi 8 (dX6_both 12 rfl) cbX6_isWord cwX6_217 (m_isWord E q g tw a fr n (lst B i) (men B i) B hT hP.2.2.1 hP.1 (men_le hT hP.2.2.2.2.2.2.2).1 (lst_le hT hP.2.2.2.2.2.2.2).1 97 110 100 0 0 0 0 0) rfl rfl MW_0 rfl rfl (by omega) (Nat.le_of_ble_eq_true rfl) (Nat.le_of_ble_eq_true rfl) (Nat.le_of_ble_eq_true rfl) (Nat.le_of_ble_eq_true rfl) ?_
  rintro r17 w1 ⟨rfl, rfl⟩
  refine AW.pcq (pc2 := 20) rfl ?_
  refine A_if_eq 49 (dX6_both 13 rfl) (by decide) (fun h20 => ?_) (fun h20 => ?_)
  · have hck : ¬ ck B i = 7 := fun z => b01_0.mp h20 (by have y := (ck_word (by decide) (by decide)).mp z; exact ⟨hP.2.2.2.2.2.2.1, hP.2.1.trans y.1, wci_7.mp y.2⟩)
    rw [if_neg hck] at hpp
    refine A_iload_n (dX6_both 28 rfl) rfl ?_
    refine A_ri (dX6_both 29 rfl) rfl rfl ?_
    cases hpp
    exact RM_ok KP.rf hP (fun st => rfl)
  · have hck : ck B i = 7 := by
      have y := b01_n.mp h20
      exact (ck_word (by decide) (by decide)).mpr ⟨hP.2.1.symm.trans y.2.1, wci_7.mpr y.2.2⟩
    rw [if_pos hck] at hpp
    obtain ⟨r1, hr1, hpp⟩ := bnd hpp
    refine A_aload_n (dX6_both 14 rfl) rfl ?_
    refine A_callVWv 0 (dX6_both 15 rfl) cbX6_next cwX6_214 (m_next E q g tw a fr n B hT (men B i) (men_le hT hP.2.2.2.2.2.2.2).1 hP.1) rfl rfl MW_0 rfl rfl (by omega) (Nat.le_of_ble_eq_true rfl) (Nat.le_of_ble_eq_true rfl) (Nat.le_of_ble_eq_true rfl) (Nat.le_of_ble_eq_true rfl) ?_
    rintro w1 rfl
    refine AW.pcq (pc2 := 27) rfl ?_
    refine A_aload_n (dX6_both 16 rfl) rfl ?_
    refine A_callVWi 0 (dX6_both 17 rfl) cbX6_not cwX6_261 (h1 (nxg B g (men B i)) (mtw B tw (men B i)) o (men B i) r1 hr1 ho (KP.rf.nx.tx hT) (PM_nx hT hP.2.2.2.2.2.2.2 hP.2.2.2.2.2.1 hP.2.2.2.2.2.2.1)) rfl rfl MW_0 rfl rfl (by omega) (Nat.le_of_ble_eq_true rfl) (Nat.le_of_ble_eq_true rfl) (Nat.le_of_ble_eq_true rfl) (Nat.le_of_ble_eq_true rfl) ?_
    rintro x1 w1 ⟨g2, tw2, rfl, hk, hs, hf⟩
    refine AW.pcq (pc2 := 31) rfl ?_
    refine A_istore_n (ls2 := [_, _, _]) (dX6_both 18 rfl) (by decide) (by have := hx2; simp_all [noL, Value.category]) rfl ?_
    refine A_iload_n (dX6_both 19 rfl) rfl ?_
    refine A_if_eq 44 (dX6_both 20 rfl) (by decide) (fun h33 => ?_) (fun h33 => ?_)
    · refine A_iconst (0) (dX6_both 25 rfl) (by decide +kernel) ?_
      refine A_istore_n (ls2 := [_, _, _]) (dX6_both 26 rfl) (by decide) (by have := hx2; simp_all [noL, Value.category]) rfl ?_
      refine A_goto 5 (dX6_both 27 rfl) (by decide) ?_
      have hkt : KP g g2 := KP.tr (KP.nx KP.rf) hk
      by_cases hb1 : r1.1 = true
      · rw [if_pos hb1] at hpp
        obtain ⟨t, ht, hpp⟩ := bnd hpp
        cases hpp
        obtain ⟨hP2, he2⟩ := hs hb1
        refine AW.mono (h6 g2 tw2 o r1.2.1 t ht ho (hkt.tx hT) hP2 _ _ rfl) (fun z w hz => ?_)
        obtain ⟨rr, hr, hm⟩ := hz
        refine ⟨rr, hr, ?_⟩
        have h8 := RM_seq (c1 := r1.2.2 ++ [-14]) (pre1 := [v]) hkt (fun st => by
          rw [evs_app]
          have h7 := he2 ([v] ++ st)
          rw [KP.me (KP.nx KP.rf)] at h7
          rw [show evs (ME g) r1.2.2 ([v] ++ st) = x1 :: ([v] ++ st) from h7]
          rw [show x1 :: ([v] ++ st) = x1 :: v :: st from rfl, ev_and]
          simp_all) hm
        rw [List.append_assoc] at h8
        exact h8
      · rw [if_neg hb1] at hpp
        cases hpp
        have h3 := hf (by simpa using hb1)
        refine AW.mono (m_both_bad E q g2 tw2 a (by rw [h3.1]; decide) _ (by omega) _ _) (fun z w hz => ?_)
        obtain ⟨rr, hr, rfl⟩ := hz
        exact ⟨rr, hr, RM_bad2 hb1 hkt h3⟩
    · refine A_iload_n (dX6_both 21 rfl) rfl ?_
      refine A_if_eq 44 (dX6_both 22 rfl) (by decide) (fun h37 => ?_) (fun h37 => ?_)
      · refine A_iconst (0) (dX6_both 25 rfl) (by decide +kernel) ?_
        refine A_istore_n (ls2 := [_, _, _]) (dX6_both 26 rfl) (by decide) (by have := hx2; simp_all [noL, Value.category]) rfl ?_
        refine A_goto 5 (dX6_both 27 rfl) (by decide) ?_
        have hkt : KP g g2 := KP.tr (KP.nx KP.rf) hk
        by_cases hb1 : r1.1 = true
        · rw [if_pos hb1] at hpp
          obtain ⟨t, ht, hpp⟩ := bnd hpp
          cases hpp
          obtain ⟨hP2, he2⟩ := hs hb1
          refine AW.mono (h6 g2 tw2 o r1.2.1 t ht ho (hkt.tx hT) hP2 _ _ rfl) (fun z w hz => ?_)
          obtain ⟨rr, hr, hm⟩ := hz
          refine ⟨rr, hr, ?_⟩
          have h8 := RM_seq (c1 := r1.2.2 ++ [-14]) (pre1 := [v]) hkt (fun st => by
            rw [evs_app]
            have h7 := he2 ([v] ++ st)
            rw [KP.me (KP.nx KP.rf)] at h7
            rw [show evs (ME g) r1.2.2 ([v] ++ st) = x1 :: ([v] ++ st) from h7]
            rw [show x1 :: ([v] ++ st) = x1 :: v :: st from rfl, ev_and]
            simp_all) hm
          rw [List.append_assoc] at h8
          exact h8
        · rw [if_neg hb1] at hpp
          cases hpp
          have h3 := hf (by simpa using hb1)
          refine AW.mono (m_both_bad E q g2 tw2 a (by rw [h3.1]; decide) _ (by omega) _ _) (fun z w hz => ?_)
          obtain ⟨rr, hr, rfl⟩ := hz
          exact ⟨rr, hr, RM_bad2 hb1 hkt h3⟩
      · refine A_iconst (1) (dX6_both 23 rfl) (by decide +kernel) ?_
        refine A_goto 45 (dX6_both 24 rfl) (by decide) ?_
        refine A_istore_n (ls2 := [_, _, _]) (dX6_both 26 rfl) (by decide) (by have := hx2; simp_all [noL, Value.category]) rfl ?_
        refine A_goto 5 (dX6_both 27 rfl) (by decide) ?_
        have hkt : KP g g2 := KP.tr (KP.nx KP.rf) hk
        by_cases hb1 : r1.1 = true
        · rw [if_pos hb1] at hpp
          obtain ⟨t, ht, hpp⟩ := bnd hpp
          cases hpp
          obtain ⟨hP2, he2⟩ := hs hb1
          refine AW.mono (h6 g2 tw2 o r1.2.1 t ht ho (hkt.tx hT) hP2 _ _ rfl) (fun z w hz => ?_)
          obtain ⟨rr, hr, hm⟩ := hz
          refine ⟨rr, hr, ?_⟩
          have h8 := RM_seq (c1 := r1.2.2 ++ [-14]) (pre1 := [v]) hkt (fun st => by
            rw [evs_app]
            have h7 := he2 ([v] ++ st)
            rw [KP.me (KP.nx KP.rf)] at h7
            rw [show evs (ME g) r1.2.2 ([v] ++ st) = x1 :: ([v] ++ st) from h7]
            rw [show x1 :: ([v] ++ st) = x1 :: v :: st from rfl, ev_and]
            simp_all) hm
          rw [List.append_assoc] at h8
          exact h8
        · rw [if_neg hb1] at hpp
          cases hpp
          have h3 := hf (by simpa using hb1)
          refine AW.mono (m_both_bad E q g2 tw2 a (by rw [h3.1]; decide) _ (by omega) _ _) (fun z w hz => ?_)
          obtain ⟨rr, hr, rfl⟩ := hz
          exact ⟨rr, hr, RM_bad2 hb1 hkt h3⟩
set_option maxRecDepth 100000 in
set_option maxHeartbeats 400000 in
theorem s_both (E : ag) (q : Nat → Nat) (a : Nat → Nat → Int32) (fr n : Nat) (B : Nat → Int32) (f : Nat) (hs0 : CM E q a fr n B yX6_not cX6_not 4 2 9 f) (h9 : LM2 E q a fr n B mX6_both 7 10 f) : CM E q a fr n B yX6_both cX6_both 3 1 10 (f + 1) := by
  intro g tw o i res hpp ho hT hP
  simp only [pp] at hpp
  obtain ⟨r1, hr1, hpp⟩ := bnd hpp
  refine CT.of (M := mX6_both) (ls := [some (.ref (q 0)), none, none]) (by decide) rfl (by decide) rfl (Nat.le_of_ble_eq_true rfl) ?_
  refine A_aload_n (dX6_both 0 rfl) rfl ?_
  refine A_callVWi 0 (dX6_both 1 rfl) cbX6_not cwX6_261 (hs0 g tw o i r1 hr1 ho hT hP) rfl rfl MW_0 rfl rfl (by omega) (Nat.le_of_ble_eq_true rfl) (Nat.le_of_ble_eq_true rfl) (Nat.le_of_ble_eq_true rfl) (Nat.le_of_ble_eq_true rfl) ?_
  rintro x1 w1 ⟨g2, tw2, rfl, hk, hs, hf⟩
  refine AW.pcq (pc2 := 4) rfl ?_
  refine A_istore_n (ls2 := [_, _, _]) (dX6_both 2 rfl) (by decide) rfl rfl ?_
  by_cases hb1 : r1.1 = true
  · rw [if_pos hb1] at hpp
    obtain ⟨t, ht, hpp⟩ := bnd hpp
    cases hpp
    obtain ⟨hP2, he2⟩ := hs hb1
    refine AW.mono (h9 g2 tw2 o r1.2.1 t ht ho (hk.tx hT) hP2 _ none rfl) (fun z w hz => ?_)
    obtain ⟨rr, hr, hm⟩ := hz
    exact ⟨rr, hr, RM_seq (c1 := r1.2.2) (pre1 := []) hk he2 hm⟩
  · rw [if_neg hb1] at hpp
    cases hpp
    have h3 := hf (by simpa using hb1)
    refine AW.mono (m_both_bad E q g2 tw2 a (by rw [h3.1]; decide) _ (by omega) _ _) (fun z w hz => ?_)
    obtain ⟨rr, hr, rfl⟩ := hz
    exact ⟨rr, hr, RM_bad2 hb1 hk h3⟩
end
section
theorem PM_dec {B : Nat → Int32} {n : Nat} {g : Nat → Int32} {tw : Int64} {o i : Nat} (h : PM B n g tw (o + 1) i) : PM B n (upd g 29 (g 29 - 1)) tw o i := by
  obtain ⟨h1, h2, h3, h4, h5, h6, h7, h8⟩ := h
  exact ⟨h1, h2, h3, h4, h5, by show g 29 - 1 = nI o; rw [h6]; exact nI_pred o, h7, h8⟩
theorem RM_kp {E : ag} {q : Nat → Nat} {a : Nat → Nat → Int32} {n : Nat} {B : Nat → Int32} {g g2 : Nat → Int32} {o : Nat} {t : Bool × Nat × List Int32} {pre : List Int32} {r : Int32} {w : va_W} (hk : KP g g2) (h : RM E q a n B g2 o t pre r w) : RM E q a n B g o t pre r w := RM_seq (c1 := []) hk (fun st => rfl) h
set_option maxRecDepth 100000 in
set_option maxHeartbeats 400000 in
theorem s_not_less (E : ag) (q : Nat → Nat) (a : Nat → Nat → Int32) (fr n : Nat) (B : Nat → Int32) (f : Nat) (h3 : CM E q a fr n B yX6_added cX6_added 4 3 8 f) (g : Nat → Int32) (tw : Int64) (o i : Nat) (res : Bool × Nat × List Int32) (c1 : List Int32) (v : Int32) (he1 : ∀ st, evs (ME g) c1 st = v :: st) (hpp : (pp B f 3 o (men B i)).bind (fun t => if t.1 = true then some (true, t.2.1, c1 ++ t.2.2 ++ [-12]) else some t) = some res) (ho : o ≤ 5) (hT : TXC g a fr n B) (hP : PM B n g tw o i) (htw : tw = 60) : AW E mX6_not (6 * (5 - o) + 9) 0 0 77 [some (.ref (q 0)), some (.int v), none, none] [] (MW E q g tw a) (ri (RM E q a n B g o res [])) := by
  obtain ⟨r1, hr1, hpp⟩ := bnd hpp
  refine A_aload_n (dX6_not 44 rfl) rfl ?_
  refine A_get (dX6_not 45 rfl) fwX6_191 MW_0 MF_28 ?_
  refine A_ldc2 (dX6_not 46 rfl) kcX6_267 ?_
  refine A_lcmp (dX6_not 47 rfl) ?_
  refine A_if_ne 92 (dX6_not 48 rfl) (by decide) (fun h85 => absurd ((cmp_z _ _).mpr htw) h85) (fun h85 => ?_)
  refine A_iconst (1) (dX6_not 49 rfl) (by decide +kernel) ?_
  refine A_goto 93 (dX6_not 50 rfl) (by decide) ?_
  refine A_istore_n (ls2 := [_, _, _, _]) (dX6_not 52 rfl) (by decide) rfl rfl ?_
  refine A_aload_n (dX6_not 53 rfl) rfl ?_
  refine A_callVWv 0 (dX6_not 54 rfl) cbX6_next cwX6_214 (m_next E q g tw a fr n B hT (men B i) (men_le hT hP.2.2.2.2.2.2.2).1 hP.1) rfl rfl MW_0 rfl rfl (by omega) (Nat.le_of_ble_eq_true rfl) (Nat.le_of_ble_eq_true rfl) (Nat.le_of_ble_eq_true rfl) (Nat.le_of_ble_eq_true rfl) ?_
  rintro w1 rfl
  refine AW.pcq (pc2 := 98) rfl ?_
  refine A_aload_n (dX6_not 55 rfl) rfl ?_
  refine A_callVWi 0 (dX6_not 56 rfl) cbX6_added cwX6_264 (h3 (nxg B g (men B i)) (mtw B tw (men B i)) o (men B i) r1 hr1 ho (KP.rf.nx.tx hT) (PM_nx hT hP.2.2.2.2.2.2.2 hP.2.2.2.2.2.1 hP.2.2.2.2.2.2.1)) rfl rfl MW_0 rfl rfl (by omega) (Nat.le_of_ble_eq_true rfl) (Nat.le_of_ble_eq_true rfl) (Nat.le_of_ble_eq_true rfl) (Nat.le_of_ble_eq_true rfl) ?_
  rintro x1 w1 ⟨g2, tw2, rfl, hk, hs, hf⟩
  refine AW.pcq (pc2 := 102) rfl ?_
  refine A_istore_n (ls2 := [_, _, _, _]) (dX6_not 57 rfl) (by decide) rfl rfl ?_
  refine A_iload_n (dX6_not 58 rfl) rfl ?_
  refine A_if_eq 115 (dX6_not 59 rfl) (by decide) (fun h104 => absurd h104 (by decide)) (fun h104 => ?_)
  refine A_iload_n (dX6_not 60 rfl) rfl ?_
  refine A_iload_n (dX6_not 61 rfl) rfl ?_
  refine A_icmp_ge 124 (dX6_not 62 rfl) (by decide) (fun h109 => ?_) (fun h109 => ?_)
  · have hlt9 : ¬ v < x1 := Int32.not_lt.mpr h109
    refine A_iconst (0) (dX6_not 69 rfl) (by decide +kernel) ?_
    refine A_ri (dX6_not 70 rfl) rfl rfl ?_
    by_cases hb1 : r1.1 = true
    · rw [if_pos hb1] at hpp
      cases hpp
      obtain ⟨hP2, he2⟩ := hs hb1
      refine RM_ok (KP.tr (KP.nx KP.rf) hk) hP2 (fun st => ?_)
      rw [evs_app, evs_app]
      rw [show evs (ME g) c1 ([] ++ st) = v :: st from he1 st]
      have h7 := he2 (v :: st)
      rw [KP.me (KP.nx KP.rf)] at h7
      rw [show evs (ME g) r1.2.2 (v :: st) = x1 :: v :: st from h7, ev_lt]
      simp_all
    · rw [if_neg hb1] at hpp
      cases hpp
      exact RM_bad2 hb1 (KP.tr (KP.nx KP.rf) hk) (hf (by simpa using hb1))
  · have hlt9 : v < x1 := Int32.not_le.mp h109
    refine A_goto 120 (dX6_not 63 rfl) (by decide) ?_
    refine A_iconst (1) (dX6_not 67 rfl) (by decide +kernel) ?_
    refine A_goto 125 (dX6_not 68 rfl) (by decide) ?_
    refine A_ri (dX6_not 70 rfl) rfl rfl ?_
    by_cases hb1 : r1.1 = true
    · rw [if_pos hb1] at hpp
      cases hpp
      obtain ⟨hP2, he2⟩ := hs hb1
      refine RM_ok (KP.tr (KP.nx KP.rf) hk) hP2 (fun st => ?_)
      rw [evs_app, evs_app]
      rw [show evs (ME g) c1 ([] ++ st) = v :: st from he1 st]
      have h7 := he2 (v :: st)
      rw [KP.me (KP.nx KP.rf)] at h7
      rw [show evs (ME g) r1.2.2 (v :: st) = x1 :: v :: st from h7, ev_lt]
      simp_all
    · rw [if_neg hb1] at hpp
      cases hpp
      exact RM_bad2 hb1 (KP.tr (KP.nx KP.rf) hk) (hf (by simpa using hb1))
set_option maxRecDepth 100000 in
set_option maxHeartbeats 400000 in
theorem s_not_like (E : ag) (q : Nat → Nat) (a : Nat → Nat → Int32) (fr n : Nat) (B : Nat → Int32) (f : Nat) (h3 : CM E q a fr n B yX6_added cX6_added 4 3 8 f) (g : Nat → Int32) (tw : Int64) (o i : Nat) (res : Bool × Nat × List Int32) (c1 : List Int32) (v : Int32) (he1 : ∀ st, evs (ME g) c1 st = v :: st) (hpp : (pp B f 3 o (men B i)).bind (fun t => if t.1 = true then some (true, t.2.1, c1 ++ t.2.2 ++ [-13]) else some t) = some res) (ho : o ≤ 5) (hT : TXC g a fr n B) (hP : PM B n g tw o i) (htw : ¬ tw = 60) : AW E mX6_not (6 * (5 - o) + 9) 0 0 77 [some (.ref (q 0)), some (.int v), none, none] [] (MW E q g tw a) (ri (RM E q a n B g o res [])) := by
  obtain ⟨r1, hr1, hpp⟩ := bnd hpp
  refine A_aload_n (dX6_not 44 rfl) rfl ?_
  refine A_get (dX6_not 45 rfl) fwX6_191 MW_0 MF_28 ?_
  refine A_ldc2 (dX6_not 46 rfl) kcX6_267 ?_
  refine A_lcmp (dX6_not 47 rfl) ?_
  refine A_if_ne 92 (dX6_not 48 rfl) (by decide) (fun h85 => ?_) (fun h85 => absurd ((cmp_z _ _).mp h85) htw)
  refine A_iconst (0) (dX6_not 51 rfl) (by decide +kernel) ?_
  refine A_istore_n (ls2 := [_, _, _, _]) (dX6_not 52 rfl) (by decide) rfl rfl ?_
  refine A_aload_n (dX6_not 53 rfl) rfl ?_
  refine A_callVWv 0 (dX6_not 54 rfl) cbX6_next cwX6_214 (m_next E q g tw a fr n B hT (men B i) (men_le hT hP.2.2.2.2.2.2.2).1 hP.1) rfl rfl MW_0 rfl rfl (by omega) (Nat.le_of_ble_eq_true rfl) (Nat.le_of_ble_eq_true rfl) (Nat.le_of_ble_eq_true rfl) (Nat.le_of_ble_eq_true rfl) ?_
  rintro w1 rfl
  refine AW.pcq (pc2 := 98) rfl ?_
  refine A_aload_n (dX6_not 55 rfl) rfl ?_
  refine A_callVWi 0 (dX6_not 56 rfl) cbX6_added cwX6_264 (h3 (nxg B g (men B i)) (mtw B tw (men B i)) o (men B i) r1 hr1 ho (KP.rf.nx.tx hT) (PM_nx hT hP.2.2.2.2.2.2.2 hP.2.2.2.2.2.1 hP.2.2.2.2.2.2.1)) rfl rfl MW_0 rfl rfl (by omega) (Nat.le_of_ble_eq_true rfl) (Nat.le_of_ble_eq_true rfl) (Nat.le_of_ble_eq_true rfl) (Nat.le_of_ble_eq_true rfl) ?_
  rintro x1 w1 ⟨g2, tw2, rfl, hk, hs, hf⟩
  refine AW.pcq (pc2 := 102) rfl ?_
  refine A_istore_n (ls2 := [_, _, _, _]) (dX6_not 57 rfl) (by decide) rfl rfl ?_
  refine A_iload_n (dX6_not 58 rfl) rfl ?_
  refine A_if_eq 115 (dX6_not 59 rfl) (by decide) (fun h104 => ?_) (fun h104 => absurd rfl h104)
  refine A_iload_n (dX6_not 64 rfl) rfl ?_
  refine A_iload_n (dX6_not 65 rfl) rfl ?_
  refine A_icmp_ne 124 (dX6_not 66 rfl) (by decide) (fun h117 => ?_) (fun h117 => ?_)
  · refine A_iconst (0) (dX6_not 69 rfl) (by decide +kernel) ?_
    refine A_ri (dX6_not 70 rfl) rfl rfl ?_
    by_cases hb1 : r1.1 = true
    · rw [if_pos hb1] at hpp
      cases hpp
      obtain ⟨hP2, he2⟩ := hs hb1
      refine RM_ok (KP.tr (KP.nx KP.rf) hk) hP2 (fun st => ?_)
      rw [evs_app, evs_app]
      rw [show evs (ME g) c1 ([] ++ st) = v :: st from he1 st]
      have h7 := he2 (v :: st)
      rw [KP.me (KP.nx KP.rf)] at h7
      rw [show evs (ME g) r1.2.2 (v :: st) = x1 :: v :: st from h7, ev_eq]
      simp_all
    · rw [if_neg hb1] at hpp
      cases hpp
      exact RM_bad2 hb1 (KP.tr (KP.nx KP.rf) hk) (hf (by simpa using hb1))
  · refine A_iconst (1) (dX6_not 67 rfl) (by decide +kernel) ?_
    refine A_goto 125 (dX6_not 68 rfl) (by decide) ?_
    refine A_ri (dX6_not 70 rfl) rfl rfl ?_
    by_cases hb1 : r1.1 = true
    · rw [if_pos hb1] at hpp
      cases hpp
      obtain ⟨hP2, he2⟩ := hs hb1
      refine RM_ok (KP.tr (KP.nx KP.rf) hk) hP2 (fun st => ?_)
      rw [evs_app, evs_app]
      rw [show evs (ME g) c1 ([] ++ st) = v :: st from he1 st]
      have h7 := he2 (v :: st)
      rw [KP.me (KP.nx KP.rf)] at h7
      rw [show evs (ME g) r1.2.2 (v :: st) = x1 :: v :: st from h7, ev_eq]
      simp_all
    · rw [if_neg hb1] at hpp
      cases hpp
      exact RM_bad2 hb1 (KP.tr (KP.nx KP.rf) hk) (hf (by simpa using hb1))
set_option maxRecDepth 100000 in
set_option maxHeartbeats 400000 in
theorem s_not (E : ag) (q : Nat → Nat) (a : Nat → Nat → Int32) (fr n : Nat) (B : Nat → Int32) (f : Nat) (h2 : CM E q a fr n B yX6_not cX6_not 4 2 9 f) (h3 : CM E q a fr n B yX6_added cX6_added 4 3 8 f) : CM E q a fr n B yX6_not cX6_not 4 2 9 (f + 1) := by
  intro g tw o i res hpp ho hT hP
  simp only [pp] at hpp
  refine CT.of (M := mX6_not) (ls := [some (.ref (q 0)), none, none, none]) (by decide) rfl (by decide) rfl (Nat.le_of_ble_eq_true rfl) ?_
  refine A_aload_n (dX6_not 0 rfl) rfl ?_
  refine A_bipush (110) (dX6_not 1 rfl) (by decide +kernel) ?_
  refine A_bipush (111) (dX6_not 2 rfl) (by decide +kernel) ?_
  refine A_bipush (116) (dX6_not 3 rfl) (by decide +kernel) ?_
  refine A_iconst (0) (dX6_not 4 rfl) (by decide +kernel) ?_
  refine A_iconst (0) (dX6_not 5 rfl) (by decide +kernel) ?_
  refine A_iconst (0) (dX6_not 6 rfl) (by decide +kernel) ?_
  refine A_iconst (0) (dX6_not 7 rfl) (by decide +kernel) ?_
  refine AW.pcq (pc2 := 11) rfl ?_
  refine A_iconst (0) (dX6_not 8 rfl) (by decide +kernel) ?_
  refine A_callVWi 8 (dX6_not 9 rfl) cbX6_isWord cwX6_217 (m_isWord E q g tw a fr n (lst B i) (men B i) B hT hP.2.2.1 hP.1 (men_le hT hP.2.2.2.2.2.2.2).1 (lst_le hT hP.2.2.2.2.2.2.2).1 110 111 116 0 0 0 0 0) rfl rfl MW_0 rfl rfl (by omega) (Nat.le_of_ble_eq_true rfl) (Nat.le_of_ble_eq_true rfl) (Nat.le_of_ble_eq_true rfl) (Nat.le_of_ble_eq_true rfl) ?_
  rintro r12 w1 ⟨rfl, rfl⟩
  refine AW.pcq (pc2 := 15) rfl ?_
  refine A_if_eq 52 (dX6_not 10 rfl) (by decide) (fun h15 => ?_) (fun h15 => ?_)
  · have hck : ¬ ck B i = 8 := fun z => b01_0.mp h15 (by have y := (ck_word (by decide) (by decide)).mp z; exact ⟨hP.2.2.2.2.2.2.1, hP.2.1.trans y.1, wci_8.mp y.2⟩)
    rw [if_neg hck] at hpp
    obtain ⟨r1, hr1, hpp⟩ := bnd hpp
    refine A_aload_n (dX6_not 31 rfl) rfl ?_
    refine A_callVWi 0 (dX6_not 32 rfl) cbX6_added cwX6_264 (h3 g tw o i r1 hr1 ho hT hP) rfl rfl MW_0 rfl rfl (by omega) (Nat.le_of_ble_eq_true rfl) (Nat.le_of_ble_eq_true rfl) (Nat.le_of_ble_eq_true rfl) (Nat.le_of_ble_eq_true rfl) ?_
    rintro x1 w1 ⟨g2, tw2, rfl, hk, hs, hf⟩
    refine AW.pcq (pc2 := 56) rfl ?_
    refine A_istore_n (ls2 := [_, _, _, _]) (dX6_not 33 rfl) (by decide) rfl rfl ?_
    by_cases hb1 : r1.1 = true
    · rw [if_pos hb1] at hpp
      obtain ⟨hP2, he2⟩ := hs hb1
      refine A_aload_n (dX6_not 34 rfl) rfl ?_
      refine A_bipush (60) (dX6_not 35 rfl) (by decide +kernel) ?_
      refine A_callVWi 1 (dX6_not 36 rfl) cbX6_isSign cwX6_239 (m_isSign E q g2 tw2 a 60) rfl rfl MW_0 rfl rfl (by omega) (Nat.le_of_ble_eq_true rfl) (Nat.le_of_ble_eq_true rfl) (Nat.le_of_ble_eq_true rfl) (Nat.le_of_ble_eq_true rfl) ?_
      rintro r60 w1 ⟨rfl, rfl⟩
      refine AW.pcq (pc2 := 63) rfl ?_
      refine A_if_ne 77 (dX6_not 37 rfl) (by decide) (fun h63 => ?_) (fun h63 => ?_)
      · have hcl : ck B r1.2.1 = 60 := (PM_sign hP2 (by decide)).mp (b01_n.mp h63)
        first
          | (rw [if_pos (Or.inl hcl)] at hpp
             simp only [if_pos hcl] at hpp
             have hm := (ck_sign (B := B) (i := r1.2.1) (by decide)).mp hcl
             have htw0 := hP2.2.2.2.2.1 hm.1
             rw [hm.2] at htw0
             refine AW.mono (s_not_less E q a fr n B f h3 g2 tw2 o r1.2.1 res r1.2.2 x1 (fun st => by have h7 := he2 st; rw [← KP.me hk] at h7; exact h7) hpp ho (hk.tx hT) hP2 (by rw [htw0]; decide)) (fun z w hz => ?_)
             obtain ⟨rr, hr, hm2⟩ := hz
             exact ⟨rr, hr, RM_kp hk hm2⟩)
          | (rw [if_pos (Or.inr hce)] at hpp
             simp only [if_neg hcl] at hpp
             have hm := (ck_sign (B := B) (i := r1.2.1) (by decide)).mp hce
             have htw0 := hP2.2.2.2.2.1 hm.1
             rw [hm.2] at htw0
             refine AW.mono (s_not_like E q a fr n B f h3 g2 tw2 o r1.2.1 res r1.2.2 x1 (fun st => by have h7 := he2 st; rw [← KP.me hk] at h7; exact h7) hpp ho (hk.tx hT) hP2 (by rw [htw0]; decide)) (fun z w hz => ?_)
             obtain ⟨rr, hr, hm2⟩ := hz
             exact ⟨rr, hr, RM_kp hk hm2⟩)
      · have hcl : ¬ ck B r1.2.1 = 60 := fun z => b01_0.mp h63 ((PM_sign hP2 (by decide)).mpr z)
        refine A_aload_n (dX6_not 38 rfl) rfl ?_
        refine A_bipush (61) (dX6_not 39 rfl) (by decide +kernel) ?_
        refine A_callVWi 1 (dX6_not 40 rfl) cbX6_isSign cwX6_239 (m_isSign E q g2 tw2 a 61) rfl rfl MW_0 rfl rfl (by omega) (Nat.le_of_ble_eq_true rfl) (Nat.le_of_ble_eq_true rfl) (Nat.le_of_ble_eq_true rfl) (Nat.le_of_ble_eq_true rfl) ?_
        rintro r69 w1 ⟨rfl, rfl⟩
        refine AW.pcq (pc2 := 72) rfl ?_
        refine A_if_ne 77 (dX6_not 41 rfl) (by decide) (fun h72 => ?_) (fun h72 => ?_)
        · have hce : ck B r1.2.1 = 61 := (PM_sign hP2 (by decide)).mp (b01_n.mp h72)
          first
            | (rw [if_pos (Or.inl hcl)] at hpp
               simp only [if_pos hcl] at hpp
               have hm := (ck_sign (B := B) (i := r1.2.1) (by decide)).mp hcl
               have htw0 := hP2.2.2.2.2.1 hm.1
               rw [hm.2] at htw0
               refine AW.mono (s_not_less E q a fr n B f h3 g2 tw2 o r1.2.1 res r1.2.2 x1 (fun st => by have h7 := he2 st; rw [← KP.me hk] at h7; exact h7) hpp ho (hk.tx hT) hP2 (by rw [htw0]; decide)) (fun z w hz => ?_)
               obtain ⟨rr, hr, hm2⟩ := hz
               exact ⟨rr, hr, RM_kp hk hm2⟩)
            | (rw [if_pos (Or.inr hce)] at hpp
               simp only [if_neg hcl] at hpp
               have hm := (ck_sign (B := B) (i := r1.2.1) (by decide)).mp hce
               have htw0 := hP2.2.2.2.2.1 hm.1
               rw [hm.2] at htw0
               refine AW.mono (s_not_like E q a fr n B f h3 g2 tw2 o r1.2.1 res r1.2.2 x1 (fun st => by have h7 := he2 st; rw [← KP.me hk] at h7; exact h7) hpp ho (hk.tx hT) hP2 (by rw [htw0]; decide)) (fun z w hz => ?_)
               obtain ⟨rr, hr, hm2⟩ := hz
               exact ⟨rr, hr, RM_kp hk hm2⟩)
        · have hce : ¬ ck B r1.2.1 = 61 := fun z => b01_0.mp h72 ((PM_sign hP2 (by decide)).mpr z)
          rw [if_neg (fun z => z.elim hcl hce)] at hpp
          cases hpp
          refine A_iload_n (dX6_not 42 rfl) rfl ?_
          refine A_ri (dX6_not 43 rfl) rfl rfl ?_
          exact ⟨g2, tw2, rfl, hk, fun _ => ⟨hP2, he2⟩, fun z => absurd hb1 (by simp [z])⟩
    · rw [if_neg hb1] at hpp
      cases hpp
      have h3b := hf (by simpa using hb1)
      refine A_aload_n (dX6_not 34 rfl) rfl ?_
      refine A_bipush (60) (dX6_not 35 rfl) (by decide +kernel) ?_
      refine A_callVWi 1 (dX6_not 36 rfl) cbX6_isSign cwX6_239 (m_isSignB E q g2 tw2 a 60 (by rw [h3b.1]; decide)) rfl rfl MW_0 rfl rfl (by omega) (Nat.le_of_ble_eq_true rfl) (Nat.le_of_ble_eq_true rfl) (Nat.le_of_ble_eq_true rfl) (Nat.le_of_ble_eq_true rfl) ?_
      rintro r60 w1 ⟨rfl, rfl⟩
      refine AW.pcq (pc2 := 63) rfl ?_
      refine A_if_ne 77 (dX6_not 37 rfl) (by decide) (fun h63 => absurd rfl h63) (fun h63 => ?_)
      refine A_aload_n (dX6_not 38 rfl) rfl ?_
      refine A_bipush (61) (dX6_not 39 rfl) (by decide +kernel) ?_
      refine A_callVWi 1 (dX6_not 40 rfl) cbX6_isSign cwX6_239 (m_isSignB E q g2 tw2 a 61 (by rw [h3b.1]; decide)) rfl rfl MW_0 rfl rfl (by omega) (Nat.le_of_ble_eq_true rfl) (Nat.le_of_ble_eq_true rfl) (Nat.le_of_ble_eq_true rfl) (Nat.le_of_ble_eq_true rfl) ?_
      rintro r69 w1 ⟨rfl, rfl⟩
      refine AW.pcq (pc2 := 72) rfl ?_
      refine A_if_ne 77 (dX6_not 41 rfl) (by decide) (fun h72 => absurd rfl h72) (fun h72 => ?_)
      refine A_iload_n (dX6_not 42 rfl) rfl ?_
      refine A_ri (dX6_not 43 rfl) rfl rfl ?_
      exact RM_bad2 hb1 hk h3b
  · have hck : ck B i = 8 := by
      have y := b01_n.mp h15
      exact (ck_word (by decide) (by decide)).mpr ⟨hP.2.1.symm.trans y.2.1, wci_8.mpr y.2.2⟩
    rw [if_pos hck] at hpp
    refine A_aload_n (dX6_not 11 rfl) rfl ?_
    rcases Nat.lt_or_ge o 5 with ho5 | ho5
    · rw [if_neg (by omega)] at hpp
      obtain ⟨r1, hr1, hpp⟩ := bnd hpp
      refine A_callVWi 0 (dX6_not 12 rfl) cbX6_opens cwX6_242 (m_opens E q g tw a fr n B hT o i ho hP) rfl rfl MW_0 rfl rfl (by omega) (Nat.le_of_ble_eq_true rfl) (Nat.le_of_ble_eq_true rfl) (Nat.le_of_ble_eq_true rfl) (Nat.le_of_ble_eq_true rfl) ?_
      rintro x0 w1 (⟨z, rfl, rfl⟩ | ⟨z, rfl, rfl⟩)
      · omega
      refine AW.pcq (pc2 := 22) rfl ?_
      refine A_if_ne 27 (dX6_not 13 rfl) (by decide) (fun h22 => ?_) (fun h22 => absurd h22 (by decide))
      refine A_aload_n (dX6_not 16 rfl) rfl ?_
      refine A_callVWi 0 (dX6_not 17 rfl) cbX6_not cwX6_261 (h2 (nxg B (upd g 29 (nI (o + 1))) (men B i)) (mtw B tw (men B i)) (o + 1) (men B i) r1 hr1 (by omega) (KP.tx (KP.nx (KP.up KP.rf (by decide))) hT) (PM_nx hT hP.2.2.2.2.2.2.2 rfl hP.2.2.2.2.2.2.1)) rfl rfl MW_0 rfl rfl (by omega) (Nat.le_of_ble_eq_true rfl) (Nat.le_of_ble_eq_true rfl) (Nat.le_of_ble_eq_true rfl) (Nat.le_of_ble_eq_true rfl) ?_
      rintro x1 w1 ⟨g2, tw2, rfl, hk, hs, hf⟩
      refine AW.pcq (pc2 := 31) rfl ?_
      refine A_istore_n (ls2 := [_, _, _, _]) (dX6_not 18 rfl) (by decide) rfl rfl ?_
      refine A_aload_n (dX6_not 19 rfl) rfl ?_
      refine A_dup (dX6_not 20 rfl) rfl ?_
      refine A_get (dX6_not 21 rfl) fwX6_208 MW_0 MF_29 ?_
      refine A_iconst (1) (dX6_not 22 rfl) (by decide +kernel) ?_
      refine A_isub (dX6_not 23 rfl) ?_
      refine A_put (dX6_not 24 rfl) fwX6_208 fcX6 ftX6_29 MW_0 rfl rfl ML_0 (MP_29 _) ?_
      refine A_iload_n (dX6_not 25 rfl) rfl ?_
      refine AW.pcq (pc2 := 43) rfl ?_
      refine A_if_ne 50 (dX6_not 26 rfl) (by decide) (fun h43 => ?_) (fun h43 => ?_)
      · refine A_iconst (0) (dX6_not 29 rfl) (by decide +kernel) ?_
        refine A_ri (dX6_not 30 rfl) rfl rfl ?_
        by_cases hb1 : r1.1 = true
        · rw [if_pos hb1] at hpp
          cases hpp
          obtain ⟨hP2, he2⟩ := hs hb1
          refine RM_ok (KP.up (KP.tr (KP.nx (KP.up KP.rf (by decide))) hk) (by decide)) (PM_dec hP2) (fun st => ?_)
          rw [evs_app]
          have h7 := he2 st
          rw [KP.me (KP.nx (KP.up KP.rf (by decide)))] at h7
          rw [show evs (ME g) r1.2.2 ([] ++ st) = x1 :: st from h7, ev_not]
          simp_all
        · rw [if_neg hb1] at hpp
          cases hpp
          exact RM_bad2 hb1 (KP.up (KP.tr (KP.nx (KP.up KP.rf (by decide))) hk) (by decide)) (hf (by simpa using hb1))
      · refine A_iconst (1) (dX6_not 27 rfl) (by decide +kernel) ?_
        refine A_goto 51 (dX6_not 28 rfl) (by decide) ?_
        refine A_ri (dX6_not 30 rfl) rfl rfl ?_
        by_cases hb1 : r1.1 = true
        · rw [if_pos hb1] at hpp
          cases hpp
          obtain ⟨hP2, he2⟩ := hs hb1
          refine RM_ok (KP.up (KP.tr (KP.nx (KP.up KP.rf (by decide))) hk) (by decide)) (PM_dec hP2) (fun st => ?_)
          rw [evs_app]
          have h7 := he2 st
          rw [KP.me (KP.nx (KP.up KP.rf (by decide)))] at h7
          rw [show evs (ME g) r1.2.2 ([] ++ st) = x1 :: st from h7, ev_not]
          simp_all
        · rw [if_neg hb1] at hpp
          cases hpp
          exact RM_bad2 hb1 (KP.up (KP.tr (KP.nx (KP.up KP.rf (by decide))) hk) (by decide)) (hf (by simpa using hb1))
    · rw [if_pos ho5] at hpp
      cases hpp
      refine A_callVWi 0 (dX6_not 12 rfl) cbX6_opens cwX6_242 (m_opens E q g tw a fr n B hT o i ho hP) rfl rfl MW_0 rfl rfl (by omega) (Nat.le_of_ble_eq_true rfl) (Nat.le_of_ble_eq_true rfl) (Nat.le_of_ble_eq_true rfl) (Nat.le_of_ble_eq_true rfl) ?_
      rintro x0 w1 (⟨z, rfl, rfl⟩ | ⟨z, rfl, rfl⟩)
      rotate_left
      · omega
      refine AW.pcq (pc2 := 22) rfl ?_
      refine A_if_ne 27 (dX6_not 13 rfl) (by decide) (fun h22 => absurd rfl h22) (fun h22 => ?_)
      refine A_iconst (0) (dX6_not 14 rfl) (by decide +kernel) ?_
      refine A_ri (dX6_not 15 rfl) rfl rfl ?_
      exact RM_bad2 (by simp) (KP.up (KP.up KP.rf (by decide)) (by decide)) ⟨rfl, hP.2.2.1⟩
theorem dgp_dig {B : Nat → Int32} : ∀ f s j, s ≤ j → j < dgp B f s → ¬ inI (B j) 48 57 = 0 := by
  intro f
  induction f with
  | zero => intro s j h1 h2; simp only [dgp] at h2; omega
  | succ f ih =>
    intro s j h1 h2
    simp only [dgp] at h2
    split at h2
    · omega
    · rename_i h
      rcases Nat.lt_or_ge s j with z | z
      · exact ih (s + 1) j z h2
      · obtain rfl : j = s := by omega
        exact h
theorem dig_nI {b : Int32} (h : ¬ inI b 48 57 = 0) : ∃ c : Nat, 48 ≤ c ∧ c ≤ 57 ∧ b = nI c := by
  obtain ⟨h1, h2⟩ := inI_yes h
  have e1 : (48 : Int32).toInt = 48 := by decide
  have e2 : (57 : Int32).toInt = 57 := by decide
  have h0 : (0 : Int32).toInt = 0 := by decide
  obtain ⟨j, hj, rfl⟩ := nI_of (x := b) (fun z => by have := Int32.lt_iff_toInt_lt.mp z; omega)
  rw [nI_toInt hj] at h1 h2
  exact ⟨j, by omega, by omega, rfl⟩
theorem dv_N {B : Nat → Int32} {s : Nat} : ∀ k, k ≤ 4 → (∀ j, j < k → ¬ inI (B (s + j)) 48 57 = 0) → ∃ X : Nat, X < 10 ^ k ∧ dv64 B s k = lN X := by
  intro k
  induction k with
  | zero => intro _ _; exact ⟨0, by decide, rfl⟩
  | succ k ih =>
    intro hk hd
    obtain ⟨X, h1, h2⟩ := ih (by omega) (fun j hj => hd j (by omega))
    obtain ⟨c, c1, c2, hc⟩ := dig_nI (hd k (by omega))
    refine ⟨10 * X + c - 48, ?_, ?_⟩
    · rw [Nat.pow_succ]
      omega
    · rw [dv64, if_pos (by omega), h2, hc, nI_l (by omega)]
      rw [show (10 : Int64) = lN 10 from rfl, show (48 : Int64) = lN 48 from rfl, lN_mul, lN_add, lN_sub (by omega)]
theorem mkd2 {B : Nat → Int32} {i : Nat} (h : mkd B i = 2) : dgp B 161 (lst B i) - lst B i ≤ 4 := by
  unfold mkd at h
  split at h
  · exact absurd h (by decide)
  · split at h
    · exact absurd h (by decide)
    · split at h
      · split at h
        · exact absurd h (by decide)
        · omega
      · split at h
        · exact absurd h (by decide)
        · exact absurd h (by decide)
theorem cv_N {B : Nat → Int32} {i : Nat} (hm : mkd B i = 2) : ∃ X : Nat, X < 10000 ∧ cv B i = nI X := by
  obtain ⟨X, h1, h2⟩ := dv_N (B := B) (s := lst B i) (dgp B 161 (lst B i) - lst B i) (mkd2 hm) (fun j hj => dgp_dig 161 (lst B i) _ (by omega) (by omega))
  have h3 : 10 ^ (dgp B 161 (lst B i) - lst B i) ≤ 10 ^ 4 := Nat.pow_le_pow_right (by decide) (mkd2 hm)
  refine ⟨X, by omega, ?_⟩
  unfold cv
  rw [h2, lN_i]
theorem ev_push {e : Nat → Int32} {X : Nat} (h : X < 10000) (st : List Int32) : evs e [nI X] st = nI X :: st := by
  have h0 : (0 : Int32) ≤ nI X := nI_pos' (by omega)
  have h6 : (-6 : Int32) ≤ nI X := Int32.le_trans (by decide) h0
  show ev1 e (nI X) st = _
  unfold ev1
  rw [if_pos h6, if_pos h0]
theorem ev_num {B : Nat → Int32} {i : Nat} (hm : mkd B i = 2) (e : Nat → Int32) (st : List Int32) : evs e [cv B i] ([] ++ st) = (dv64 B (lst B i) (dgp B 161 (lst B i) - lst B i)).toInt32 :: st := by
  obtain ⟨X, h1, h2⟩ := cv_N hm
  show evs e [cv B i] st = cv B i :: st
  rw [h2]
  exact ev_push h1 st
theorem no_name {B : Nat → Int32} {i : Nat} (hm1 : mkd B i = 1) (z0 : ¬ wcode B (lst B i) (men B i) = 9) (z1 : ¬ wcode B (lst B i) (men B i) = 10) (z2 : ¬ wcode B (lst B i) (men B i) = 11) (z3 : ¬ wcode B (lst B i) (men B i) = 12) (z4 : ¬ wcode B (lst B i) (men B i) = 13) (z5 : ¬ wcode B (lst B i) (men B i) = 14) : ¬ ck B i = 1 ∧ ¬ (9 ≤ ck B i ∧ ck B i ≤ 14 ∧ mkd B i = 1) := by
  rw [ck1 hm1]
  rcases wc_in B (lst B i) (men B i) with ⟨u, -⟩ | ⟨u, -⟩ | ⟨u, -⟩ | ⟨u, -⟩ | ⟨u, -⟩ | ⟨u, -⟩ | ⟨u, -⟩ | ⟨u, -⟩ | ⟨u, -⟩ | ⟨u, -⟩ | ⟨u, -⟩ | ⟨u, -⟩ | u
  · rw [u]; exact ⟨by decide, fun z => absurd z.1 (by decide)⟩
  · rw [u]; exact ⟨by decide, fun z => absurd z.1 (by decide)⟩
  · rw [u]; exact ⟨by decide, fun z => absurd z.1 (by decide)⟩
  · rw [u]; exact ⟨by decide, fun z => absurd z.1 (by decide)⟩
  · rw [u]; exact ⟨by decide, fun z => absurd z.1 (by decide)⟩
  · rw [u]; exact ⟨by decide, fun z => absurd z.1 (by decide)⟩
  · exact absurd u z0
  · exact absurd u z1
  · exact absurd u z2
  · exact absurd u z3
  · exact absurd u z4
  · exact absurd u z5
  · rw [u]; exact ⟨by decide, fun z => absurd z.1 (by decide)⟩
set_option maxRecDepth 100000 in
set_option maxHeartbeats 4000000 in
theorem s_atom_par (E : ag) (q : Nat → Nat) (a : Nat → Nat → Int32) (fr n : Nat) (B : Nat → Int32) (f : Nat) (h0 : CM E q a fr n B yX6_either cX6_either 3 0 11 f) (g : Nat → Int32) (tw : Int64) (o i : Nat) (res : Bool × Nat × List Int32) (hpp : (if 5 ≤ o then some (false, i, []) else if ck B i = 45 then (pp B f 5 (o + 1) (men B i)).bind (fun r => if r.1 = true then some (true, r.2.1, r.2.2 ++ [-7]) else some r) else if ck B i = 40 then (pp B f 0 (o + 1) (men B i)).bind (fun r => if r.1 = true then (if ck B r.2.1 = 41 then some (true, men B r.2.1, r.2.2) else some (false, r.2.1, r.2.2)) else some r) else some (false, i, [])) = some res) (ho : o ≤ 5) (hT : TXC g a fr n B) (hP : PM B n g tw o i) (hck40 : ck B i = 40) (hck45 : ¬ ck B i = 45) : AW E mX6_atom (6 * (5 - o) + 6) 0 0 46 [some (.ref (q 0)), some (.int 0)] [] (MW E q g tw a) (ri (RM E q a n B g o res [])) := by
  refine A_aload_n (dX6_atom 24 rfl) rfl ?_
  rcases Nat.lt_or_ge o 5 with ho5 | ho5
  · rw [if_neg (by omega), if_neg hck45, if_pos hck40] at hpp
    obtain ⟨r1, hr1, hpp⟩ := bnd hpp
    refine A_callVWi 0 (dX6_atom 25 rfl) cbX6_opens cwX6_242 (m_opens E q g tw a fr n B hT o i ho hP) rfl rfl MW_0 rfl rfl (by omega) (Nat.le_of_ble_eq_true rfl) (Nat.le_of_ble_eq_true rfl) (Nat.le_of_ble_eq_true rfl) (Nat.le_of_ble_eq_true rfl) ?_
    rintro x0 w1 (⟨z, rfl, rfl⟩ | ⟨z, rfl, rfl⟩)
    · omega
    refine AW.pcq (pc2 := 50) rfl ?_
    refine A_if_eq 161 (dX6_atom 26 rfl) (by decide) (fun h50 => absurd h50 (by decide)) (fun h50 => ?_)
    refine A_aload_n (dX6_atom 27 rfl) rfl ?_
    refine A_callVWi 0 (dX6_atom 28 rfl) cbX6_either cwX6_250 (h0 (nxg B (upd g 29 (nI (o + 1))) (men B i)) (mtw B tw (men B i)) (o + 1) (men B i) r1 hr1 (by omega) (KP.tx (KP.nx (KP.up KP.rf (by decide))) hT) (PM_nx hT hP.2.2.2.2.2.2.2 rfl hP.2.2.2.2.2.2.1)) rfl rfl MW_0 rfl rfl (by omega) (Nat.le_of_ble_eq_true rfl) (Nat.le_of_ble_eq_true rfl) (Nat.le_of_ble_eq_true rfl) (Nat.le_of_ble_eq_true rfl) ?_
    rintro x1 w1 ⟨g2, tw2, rfl, hk, hs, hf⟩
    refine AW.pcq (pc2 := 57) rfl ?_
    refine A_istore_n (ls2 := [_, _]) (dX6_atom 29 rfl) (by decide) rfl rfl ?_
    have hkt : KP g g2 := (KP.tr (KP.nx (KP.up KP.rf (by decide))) hk)
    by_cases hb1 : r1.1 = true
    by_cases hcl : ck B r1.2.1 = 41
    · rw [if_pos hb1, if_pos hcl] at hpp
      cases hpp
      obtain ⟨hP2, he2⟩ := hs hb1
      have hTn : TXC (upd g2 29 (g2 29 - 1)) a fr n B := KP.tx (KP.up hkt (by decide)) hT
      refine A_aload_n (dX6_atom 30 rfl) rfl ?_
      refine A_bipush (41) (dX6_atom 31 rfl) (by decide +kernel) ?_
      refine A_callVWi 1 (dX6_atom 32 rfl) cbX6_isSign cwX6_239 (m_isSign E q g2 tw2 a 41) rfl rfl MW_0 rfl rfl (by omega) (Nat.le_of_ble_eq_true rfl) (Nat.le_of_ble_eq_true rfl) (Nat.le_of_ble_eq_true rfl) (Nat.le_of_ble_eq_true rfl) ?_
      rintro r61 w1 ⟨rfl, rfl⟩
      refine AW.pcq (pc2 := 64) rfl ?_
      refine A_if_ne 71 (dX6_atom 33 rfl) (by decide) (fun h64 => ?_) (fun h64 => absurd h64 (b01_n.mpr ((PM_sign hP2 (by decide)).mpr hcl)))
      refine A_aload_n (dX6_atom 36 rfl) rfl ?_
      refine A_dup (dX6_atom 37 rfl) rfl ?_
      refine A_get (dX6_atom 38 rfl) fwX6_208 MW_0 MF_29 ?_
      refine A_iconst (1) (dX6_atom 39 rfl) (by decide +kernel) ?_
      refine A_isub (dX6_atom 40 rfl) ?_
      refine A_put (dX6_atom 41 rfl) fwX6_208 fcX6 ftX6_29 MW_0 rfl rfl ML_0 (MP_29 _) ?_
      refine A_aload_n (dX6_atom 42 rfl) rfl ?_
      refine A_get (dX6_atom 43 rfl) fwX6_197 MW_0 MF_30 ?_
      refine AW.pcq (pc2 := 85) rfl ?_
      refine A_if_ne 161 (dX6_atom 44 rfl) (by decide) (fun h85 => absurd hP2.2.2.2.2.2.2.1 h85) (fun h85 => ?_)
      refine A_aload_n (dX6_atom 45 rfl) rfl ?_
      refine A_callVWv 0 (dX6_atom 46 rfl) cbX6_next cwX6_214 (m_next E q (upd g2 29 (g2 29 - 1)) tw2 a fr n B hTn (men B r1.2.1) (men_le hT hP2.2.2.2.2.2.2.2).1 hP2.1) rfl rfl MW_0 rfl rfl (by omega) (Nat.le_of_ble_eq_true rfl) (Nat.le_of_ble_eq_true rfl) (Nat.le_of_ble_eq_true rfl) (Nat.le_of_ble_eq_true rfl) ?_
      rintro w1 rfl
      refine AW.pcq (pc2 := 92) rfl ?_
      refine A_goto 161 (dX6_atom 47 rfl) (by decide) ?_
      refine A_iload_n (dX6_atom 80 rfl) rfl ?_
      refine A_ri (dX6_atom 81 rfl) rfl rfl ?_
      refine RM_ok (KP.nx (KP.up hkt (by decide))) (PM_nx hT hP2.2.2.2.2.2.2.2 (PM_dec hP2).2.2.2.2.2.1 (PM_dec hP2).2.2.2.2.2.2.1) (fun st => ?_)
      have h7 := he2 st
      rw [KP.me (KP.nx (KP.up KP.rf (by decide)))] at h7
      exact h7
    · rw [if_pos hb1, if_neg hcl] at hpp
      cases hpp
      obtain ⟨hP2, he2⟩ := hs hb1
      refine A_aload_n (dX6_atom 30 rfl) rfl ?_
      refine A_bipush (41) (dX6_atom 31 rfl) (by decide +kernel) ?_
      refine A_callVWi 1 (dX6_atom 32 rfl) cbX6_isSign cwX6_239 (m_isSign E q g2 tw2 a 41) rfl rfl MW_0 rfl rfl (by omega) (Nat.le_of_ble_eq_true rfl) (Nat.le_of_ble_eq_true rfl) (Nat.le_of_ble_eq_true rfl) (Nat.le_of_ble_eq_true rfl) ?_
      rintro r61 w1 ⟨rfl, rfl⟩
      refine AW.pcq (pc2 := 64) rfl ?_
      refine A_if_ne 71 (dX6_atom 33 rfl) (by decide) (fun h64 => absurd (b01_0.mpr (fun z => hcl ((PM_sign hP2 (by decide)).mp z))) h64) (fun h64 => ?_)
      refine A_aload_n (dX6_atom 34 rfl) rfl ?_
      refine A_callVWv 0 (dX6_atom 35 rfl) cbX6_fail cwX6_211 (m_fail E q g2 tw2 a) rfl rfl MW_0 rfl rfl (by omega) (Nat.le_of_ble_eq_true rfl) (Nat.le_of_ble_eq_true rfl) (Nat.le_of_ble_eq_true rfl) (Nat.le_of_ble_eq_true rfl) ?_
      rintro w1 rfl
      rw [if_pos hP2.2.2.2.2.2.2.1]
      refine AW.pcq (pc2 := 71) rfl ?_
      refine A_aload_n (dX6_atom 36 rfl) rfl ?_
      refine A_dup (dX6_atom 37 rfl) rfl ?_
      refine A_get (dX6_atom 38 rfl) fwX6_208 MW_0 MF_29 ?_
      refine A_iconst (1) (dX6_atom 39 rfl) (by decide +kernel) ?_
      refine A_isub (dX6_atom 40 rfl) ?_
      refine A_put (dX6_atom 41 rfl) fwX6_208 fcX6 ftX6_29 MW_0 rfl rfl ML_0 (MP_29 _) ?_
      refine A_aload_n (dX6_atom 42 rfl) rfl ?_
      refine A_get (dX6_atom 43 rfl) fwX6_197 MW_0 MF_30 ?_
      refine AW.pcq (pc2 := 85) rfl ?_
      refine A_if_ne 161 (dX6_atom 44 rfl) (by decide) (fun h85 => ?_) (fun h85 => absurd h85 (show ¬ (1 : Int32) = 0 by decide))
      refine A_iload_n (dX6_atom 80 rfl) rfl ?_
      refine A_ri (dX6_atom 81 rfl) rfl rfl ?_
      exact RM_bad2 (by simp) (KP.up (KP.up (KP.up hkt (by decide)) (by decide)) (by decide)) ⟨rfl, hP2.2.2.1⟩
    · rw [if_neg hb1] at hpp
      cases hpp
      have h3b := hf (by simpa using hb1)
      have h3c : ¬ g2 30 = 0 := by rw [h3b.1]; decide
      refine A_aload_n (dX6_atom 30 rfl) rfl ?_
      refine A_bipush (41) (dX6_atom 31 rfl) (by decide +kernel) ?_
      refine A_callVWi 1 (dX6_atom 32 rfl) cbX6_isSign cwX6_239 (m_isSignB E q g2 tw2 a 41 h3c) rfl rfl MW_0 rfl rfl (by omega) (Nat.le_of_ble_eq_true rfl) (Nat.le_of_ble_eq_true rfl) (Nat.le_of_ble_eq_true rfl) (Nat.le_of_ble_eq_true rfl) ?_
      rintro r61 w1 ⟨rfl, rfl⟩
      refine AW.pcq (pc2 := 64) rfl ?_
      refine A_if_ne 71 (dX6_atom 33 rfl) (by decide) (fun h64 => absurd rfl h64) (fun h64 => ?_)
      refine A_aload_n (dX6_atom 34 rfl) rfl ?_
      refine A_callVWv 0 (dX6_atom 35 rfl) cbX6_fail cwX6_211 (m_fail E q g2 tw2 a) rfl rfl MW_0 rfl rfl (by omega) (Nat.le_of_ble_eq_true rfl) (Nat.le_of_ble_eq_true rfl) (Nat.le_of_ble_eq_true rfl) (Nat.le_of_ble_eq_true rfl) ?_
      rintro w1 rfl
      rw [if_neg h3c]
      refine AW.pcq (pc2 := 71) rfl ?_
      refine A_aload_n (dX6_atom 36 rfl) rfl ?_
      refine A_dup (dX6_atom 37 rfl) rfl ?_
      refine A_get (dX6_atom 38 rfl) fwX6_208 MW_0 MF_29 ?_
      refine A_iconst (1) (dX6_atom 39 rfl) (by decide +kernel) ?_
      refine A_isub (dX6_atom 40 rfl) ?_
      refine A_put (dX6_atom 41 rfl) fwX6_208 fcX6 ftX6_29 MW_0 rfl rfl ML_0 (MP_29 _) ?_
      refine A_aload_n (dX6_atom 42 rfl) rfl ?_
      refine A_get (dX6_atom 43 rfl) fwX6_197 MW_0 MF_30 ?_
      refine AW.pcq (pc2 := 85) rfl ?_
      refine A_if_ne 161 (dX6_atom 44 rfl) (by decide) (fun h85 => ?_) (fun h85 => absurd h85 h3c)
      refine A_iload_n (dX6_atom 80 rfl) rfl ?_
      refine A_ri (dX6_atom 81 rfl) rfl rfl ?_
      exact RM_bad2 hb1 (KP.up hkt (by decide)) h3b
  · rw [if_pos ho5] at hpp
    cases hpp
    refine A_callVWi 0 (dX6_atom 25 rfl) cbX6_opens cwX6_242 (m_opens E q g tw a fr n B hT o i ho hP) rfl rfl MW_0 rfl rfl (by omega) (Nat.le_of_ble_eq_true rfl) (Nat.le_of_ble_eq_true rfl) (Nat.le_of_ble_eq_true rfl) (Nat.le_of_ble_eq_true rfl) ?_
    rintro x0 w1 (⟨z, rfl, rfl⟩ | ⟨z, rfl, rfl⟩)
    rotate_left
    · omega
    refine AW.pcq (pc2 := 50) rfl ?_
    refine A_if_eq 161 (dX6_atom 26 rfl) (by decide) (fun h50 => ?_) (fun h50 => absurd rfl h50)
    refine A_iload_n (dX6_atom 80 rfl) rfl ?_
    refine A_ri (dX6_atom 81 rfl) rfl rfl ?_
    exact RM_bad2 (by simp) (KP.up (KP.up KP.rf (by decide)) (by decide)) ⟨rfl, hP.2.2.1⟩
set_option maxRecDepth 100000 in
set_option maxHeartbeats 4000000 in
theorem s_atom_name (E : ag) (q : Nat → Nat) (a : Nat → Nat → Int32) (fr n : Nat) (B : Nat → Int32) (f : Nat) (g : Nat → Int32) (tw : Int64) (o i : Nat) (res : Bool × Nat × List Int32) (hpp : (if ck B i = 1 then some (true, men B i, [cv B i]) else if 9 ≤ ck B i ∧ ck B i ≤ 14 ∧ mkd B i = 1 then some (true, men B i, [8 - ck B i]) else if 5 ≤ o then some (false, i, []) else if ck B i = 45 then (pp B f 5 (o + 1) (men B i)).bind (fun r => if r.1 = true then some (true, r.2.1, r.2.2 ++ [-7]) else some r) else if ck B i = 40 then (pp B f 0 (o + 1) (men B i)).bind (fun r => if r.1 = true then (if ck B r.2.1 = 41 then some (true, men B r.2.1, r.2.2) else some (false, r.2.1, r.2.2)) else some r) else some (false, i, [])) = some res) (ho : o ≤ 5) (hT : TXC g a fr n B) (hP : PM B n g tw o i) (hck40 : ¬ ck B i = 40) (hck45 : ¬ ck B i = 45) (h135 : g 26 = 1) (hm1 : mkd B i = 1) : AW E mX6_atom (6 * (5 - o) + 6) 0 0 138 [some (.ref (q 0)), some (.int 0)] [] (MW E q g tw a) (ri (RM E q a n B g o res [])) := by
  refine A_aload_n (dX6_atom 69 rfl) rfl ?_
  refine A_callVWi 0 (dX6_atom 70 rfl) cbX6_name cwX6_253 (m_name E q g tw a fr n (lst B i) (men B i) B hT hP.2.2.1 hP.1 (men_le hT hP.2.2.2.2.2.2.2).1 (lst_le hT hP.2.2.2.2.2.2.2).1 hP.2.2.2.2.2.2.1 h135) rfl rfl MW_0 rfl rfl (by omega) (Nat.le_of_ble_eq_true rfl) (Nat.le_of_ble_eq_true rfl) (Nat.le_of_ble_eq_true rfl) (Nat.le_of_ble_eq_true rfl) ?_
  rintro x1 w1 (hn | hn | hn | hn | hn | hn | hn)
  · obtain ⟨z, rfl, rfl⟩ := hn
    have hck : ck B i = 9 := by rw [ck1 hm1]; exact z
    rw [if_neg (by rw [hck]; decide), if_pos ⟨by rw [hck]; decide, by rw [hck]; decide, hm1⟩] at hpp
    cases hpp
    refine AW.pcq (pc2 := 142) rfl ?_
    refine A_istore_n (ls2 := [_, _]) (dX6_atom 71 rfl) (by decide) rfl rfl ?_
    refine A_aload_n (dX6_atom 72 rfl) rfl ?_
    refine A_get (dX6_atom 73 rfl) fwX6_197 MW_0 MF_30 ?_
    refine A_if_ne 161 (dX6_atom 74 rfl) (by decide) (fun h147 => absurd hP.2.2.2.2.2.2.1 h147) (fun h147 => ?_)
    refine A_aload_n (dX6_atom 75 rfl) rfl ?_
    refine A_callVWv 0 (dX6_atom 76 rfl) cbX6_next cwX6_214 (m_next E q g tw a fr n B hT (men B i) (men_le hT hP.2.2.2.2.2.2.2).1 hP.1) rfl rfl MW_0 rfl rfl (by omega) (Nat.le_of_ble_eq_true rfl) (Nat.le_of_ble_eq_true rfl) (Nat.le_of_ble_eq_true rfl) (Nat.le_of_ble_eq_true rfl) ?_
    rintro w1 rfl
    refine AW.pcq (pc2 := 154) rfl ?_
    refine A_goto 161 (dX6_atom 77 rfl) (by decide) ?_
    refine A_iload_n (dX6_atom 80 rfl) rfl ?_
    refine A_ri (dX6_atom 81 rfl) rfl rfl ?_
    refine RM_ok (KP.nx KP.rf) (PM_nx hT hP.2.2.2.2.2.2.2 hP.2.2.2.2.2.1 hP.2.2.2.2.2.2.1) (fun st => ?_)
    rw [hck]
    rfl
  · obtain ⟨z, rfl, rfl⟩ := hn
    have hck : ck B i = 10 := by rw [ck1 hm1]; exact z
    rw [if_neg (by rw [hck]; decide), if_pos ⟨by rw [hck]; decide, by rw [hck]; decide, hm1⟩] at hpp
    cases hpp
    refine AW.pcq (pc2 := 142) rfl ?_
    refine A_istore_n (ls2 := [_, _]) (dX6_atom 71 rfl) (by decide) rfl rfl ?_
    refine A_aload_n (dX6_atom 72 rfl) rfl ?_
    refine A_get (dX6_atom 73 rfl) fwX6_197 MW_0 MF_30 ?_
    refine A_if_ne 161 (dX6_atom 74 rfl) (by decide) (fun h147 => absurd hP.2.2.2.2.2.2.1 h147) (fun h147 => ?_)
    refine A_aload_n (dX6_atom 75 rfl) rfl ?_
    refine A_callVWv 0 (dX6_atom 76 rfl) cbX6_next cwX6_214 (m_next E q g tw a fr n B hT (men B i) (men_le hT hP.2.2.2.2.2.2.2).1 hP.1) rfl rfl MW_0 rfl rfl (by omega) (Nat.le_of_ble_eq_true rfl) (Nat.le_of_ble_eq_true rfl) (Nat.le_of_ble_eq_true rfl) (Nat.le_of_ble_eq_true rfl) ?_
    rintro w1 rfl
    refine AW.pcq (pc2 := 154) rfl ?_
    refine A_goto 161 (dX6_atom 77 rfl) (by decide) ?_
    refine A_iload_n (dX6_atom 80 rfl) rfl ?_
    refine A_ri (dX6_atom 81 rfl) rfl rfl ?_
    refine RM_ok (KP.nx KP.rf) (PM_nx hT hP.2.2.2.2.2.2.2 hP.2.2.2.2.2.1 hP.2.2.2.2.2.2.1) (fun st => ?_)
    rw [hck]
    rfl
  · obtain ⟨z, rfl, rfl⟩ := hn
    have hck : ck B i = 11 := by rw [ck1 hm1]; exact z
    rw [if_neg (by rw [hck]; decide), if_pos ⟨by rw [hck]; decide, by rw [hck]; decide, hm1⟩] at hpp
    cases hpp
    refine AW.pcq (pc2 := 142) rfl ?_
    refine A_istore_n (ls2 := [_, _]) (dX6_atom 71 rfl) (by decide) rfl rfl ?_
    refine A_aload_n (dX6_atom 72 rfl) rfl ?_
    refine A_get (dX6_atom 73 rfl) fwX6_197 MW_0 MF_30 ?_
    refine A_if_ne 161 (dX6_atom 74 rfl) (by decide) (fun h147 => absurd hP.2.2.2.2.2.2.1 h147) (fun h147 => ?_)
    refine A_aload_n (dX6_atom 75 rfl) rfl ?_
    refine A_callVWv 0 (dX6_atom 76 rfl) cbX6_next cwX6_214 (m_next E q g tw a fr n B hT (men B i) (men_le hT hP.2.2.2.2.2.2.2).1 hP.1) rfl rfl MW_0 rfl rfl (by omega) (Nat.le_of_ble_eq_true rfl) (Nat.le_of_ble_eq_true rfl) (Nat.le_of_ble_eq_true rfl) (Nat.le_of_ble_eq_true rfl) ?_
    rintro w1 rfl
    refine AW.pcq (pc2 := 154) rfl ?_
    refine A_goto 161 (dX6_atom 77 rfl) (by decide) ?_
    refine A_iload_n (dX6_atom 80 rfl) rfl ?_
    refine A_ri (dX6_atom 81 rfl) rfl rfl ?_
    refine RM_ok (KP.nx KP.rf) (PM_nx hT hP.2.2.2.2.2.2.2 hP.2.2.2.2.2.1 hP.2.2.2.2.2.2.1) (fun st => ?_)
    rw [hck]
    rfl
  · obtain ⟨z, rfl, rfl⟩ := hn
    have hck : ck B i = 12 := by rw [ck1 hm1]; exact z
    rw [if_neg (by rw [hck]; decide), if_pos ⟨by rw [hck]; decide, by rw [hck]; decide, hm1⟩] at hpp
    cases hpp
    refine AW.pcq (pc2 := 142) rfl ?_
    refine A_istore_n (ls2 := [_, _]) (dX6_atom 71 rfl) (by decide) rfl rfl ?_
    refine A_aload_n (dX6_atom 72 rfl) rfl ?_
    refine A_get (dX6_atom 73 rfl) fwX6_197 MW_0 MF_30 ?_
    refine A_if_ne 161 (dX6_atom 74 rfl) (by decide) (fun h147 => absurd hP.2.2.2.2.2.2.1 h147) (fun h147 => ?_)
    refine A_aload_n (dX6_atom 75 rfl) rfl ?_
    refine A_callVWv 0 (dX6_atom 76 rfl) cbX6_next cwX6_214 (m_next E q g tw a fr n B hT (men B i) (men_le hT hP.2.2.2.2.2.2.2).1 hP.1) rfl rfl MW_0 rfl rfl (by omega) (Nat.le_of_ble_eq_true rfl) (Nat.le_of_ble_eq_true rfl) (Nat.le_of_ble_eq_true rfl) (Nat.le_of_ble_eq_true rfl) ?_
    rintro w1 rfl
    refine AW.pcq (pc2 := 154) rfl ?_
    refine A_goto 161 (dX6_atom 77 rfl) (by decide) ?_
    refine A_iload_n (dX6_atom 80 rfl) rfl ?_
    refine A_ri (dX6_atom 81 rfl) rfl rfl ?_
    refine RM_ok (KP.nx KP.rf) (PM_nx hT hP.2.2.2.2.2.2.2 hP.2.2.2.2.2.1 hP.2.2.2.2.2.2.1) (fun st => ?_)
    rw [hck]
    rfl
  · obtain ⟨z, rfl, rfl⟩ := hn
    have hck : ck B i = 13 := by rw [ck1 hm1]; exact z
    rw [if_neg (by rw [hck]; decide), if_pos ⟨by rw [hck]; decide, by rw [hck]; decide, hm1⟩] at hpp
    cases hpp
    refine AW.pcq (pc2 := 142) rfl ?_
    refine A_istore_n (ls2 := [_, _]) (dX6_atom 71 rfl) (by decide) rfl rfl ?_
    refine A_aload_n (dX6_atom 72 rfl) rfl ?_
    refine A_get (dX6_atom 73 rfl) fwX6_197 MW_0 MF_30 ?_
    refine A_if_ne 161 (dX6_atom 74 rfl) (by decide) (fun h147 => absurd hP.2.2.2.2.2.2.1 h147) (fun h147 => ?_)
    refine A_aload_n (dX6_atom 75 rfl) rfl ?_
    refine A_callVWv 0 (dX6_atom 76 rfl) cbX6_next cwX6_214 (m_next E q g tw a fr n B hT (men B i) (men_le hT hP.2.2.2.2.2.2.2).1 hP.1) rfl rfl MW_0 rfl rfl (by omega) (Nat.le_of_ble_eq_true rfl) (Nat.le_of_ble_eq_true rfl) (Nat.le_of_ble_eq_true rfl) (Nat.le_of_ble_eq_true rfl) ?_
    rintro w1 rfl
    refine AW.pcq (pc2 := 154) rfl ?_
    refine A_goto 161 (dX6_atom 77 rfl) (by decide) ?_
    refine A_iload_n (dX6_atom 80 rfl) rfl ?_
    refine A_ri (dX6_atom 81 rfl) rfl rfl ?_
    refine RM_ok (KP.nx KP.rf) (PM_nx hT hP.2.2.2.2.2.2.2 hP.2.2.2.2.2.1 hP.2.2.2.2.2.2.1) (fun st => ?_)
    rw [hck]
    rfl
  · obtain ⟨z, rfl, rfl⟩ := hn
    have hck : ck B i = 14 := by rw [ck1 hm1]; exact z
    rw [if_neg (by rw [hck]; decide), if_pos ⟨by rw [hck]; decide, by rw [hck]; decide, hm1⟩] at hpp
    cases hpp
    refine AW.pcq (pc2 := 142) rfl ?_
    refine A_istore_n (ls2 := [_, _]) (dX6_atom 71 rfl) (by decide) rfl rfl ?_
    refine A_aload_n (dX6_atom 72 rfl) rfl ?_
    refine A_get (dX6_atom 73 rfl) fwX6_197 MW_0 MF_30 ?_
    refine A_if_ne 161 (dX6_atom 74 rfl) (by decide) (fun h147 => absurd hP.2.2.2.2.2.2.1 h147) (fun h147 => ?_)
    refine A_aload_n (dX6_atom 75 rfl) rfl ?_
    refine A_callVWv 0 (dX6_atom 76 rfl) cbX6_next cwX6_214 (m_next E q g tw a fr n B hT (men B i) (men_le hT hP.2.2.2.2.2.2.2).1 hP.1) rfl rfl MW_0 rfl rfl (by omega) (Nat.le_of_ble_eq_true rfl) (Nat.le_of_ble_eq_true rfl) (Nat.le_of_ble_eq_true rfl) (Nat.le_of_ble_eq_true rfl) ?_
    rintro w1 rfl
    refine AW.pcq (pc2 := 154) rfl ?_
    refine A_goto 161 (dX6_atom 77 rfl) (by decide) ?_
    refine A_iload_n (dX6_atom 80 rfl) rfl ?_
    refine A_ri (dX6_atom 81 rfl) rfl rfl ?_
    refine RM_ok (KP.nx KP.rf) (PM_nx hT hP.2.2.2.2.2.2.2 hP.2.2.2.2.2.1 hP.2.2.2.2.2.2.1) (fun st => ?_)
    rw [hck]
    rfl
  · obtain ⟨z0, z1, z2, z3, z4, z5, rfl, rfl⟩ := hn
    have hnn := no_name hm1 z0 z1 z2 z3 z4 z5
    rw [if_neg hnn.1, if_neg hnn.2, if_neg hck45, if_neg hck40, ite_self] at hpp
    cases hpp
    refine AW.pcq (pc2 := 142) rfl ?_
    refine A_istore_n (ls2 := [_, _]) (dX6_atom 71 rfl) (by decide) rfl rfl ?_
    refine A_aload_n (dX6_atom 72 rfl) rfl ?_
    refine A_get (dX6_atom 73 rfl) fwX6_197 MW_0 MF_30 ?_
    refine A_if_ne 161 (dX6_atom 74 rfl) (by decide) (fun h147 => ?_) (fun h147 => absurd h147 (show ¬ (1 : Int32) = 0 by decide))
    refine A_iload_n (dX6_atom 80 rfl) rfl ?_
    refine A_ri (dX6_atom 81 rfl) rfl rfl ?_
    exact RM_bad2 (by simp) (KP.up (KP.up KP.rf (by decide)) (by decide)) ⟨rfl, hP.2.2.1⟩
set_option maxRecDepth 100000 in
set_option maxHeartbeats 4000000 in
theorem s_atom (E : ag) (q : Nat → Nat) (a : Nat → Nat → Int32) (fr n : Nat) (B : Nat → Int32) (f : Nat) (h0 : CM E q a fr n B yX6_either cX6_either 3 0 11 f) (h5 : CM E q a fr n B yX6_atom cX6_atom 2 5 6 f) : CM E q a fr n B yX6_atom cX6_atom 2 5 6 (f + 1) := by
  intro g tw o i res hpp ho hT hP
  simp only [pp] at hpp
  refine CT.of (M := mX6_atom) (ls := [some (.ref (q 0)), none]) (by decide) rfl (by decide) rfl (Nat.le_of_ble_eq_true rfl) ?_
  refine A_iconst (0) (dX6_atom 0 rfl) (by decide +kernel) ?_
  refine A_istore_n (ls2 := [_, _]) (dX6_atom 1 rfl) (by decide) rfl rfl ?_
  refine A_aload_n (dX6_atom 2 rfl) rfl ?_
  refine A_bipush (45) (dX6_atom 3 rfl) (by decide +kernel) ?_
  refine A_callVWi 1 (dX6_atom 4 rfl) cbX6_isSign cwX6_239 (m_isSign E q g tw a 45) rfl rfl MW_0 rfl rfl (by omega) (Nat.le_of_ble_eq_true rfl) (Nat.le_of_ble_eq_true rfl) (Nat.le_of_ble_eq_true rfl) (Nat.le_of_ble_eq_true rfl) ?_
  rintro r5 w1 ⟨rfl, rfl⟩
  refine AW.pcq (pc2 := 8) rfl ?_
  refine A_if_eq 37 (dX6_atom 5 rfl) (by decide) (fun h8 => ?_) (fun h8 => ?_)
  · have hck45 : ¬ ck B i = 45 := fun z => b01_0.mp h8 ((PM_sign hP (by decide)).mpr z)
    refine A_aload_n (dX6_atom 20 rfl) rfl ?_
    refine A_bipush (40) (dX6_atom 21 rfl) (by decide +kernel) ?_
    refine A_callVWi 1 (dX6_atom 22 rfl) cbX6_isSign cwX6_239 (m_isSign E q g tw a 40) rfl rfl MW_0 rfl rfl (by omega) (Nat.le_of_ble_eq_true rfl) (Nat.le_of_ble_eq_true rfl) (Nat.le_of_ble_eq_true rfl) (Nat.le_of_ble_eq_true rfl) ?_
    rintro r40 w1 ⟨rfl, rfl⟩
    refine AW.pcq (pc2 := 43) rfl ?_
    refine A_if_eq 95 (dX6_atom 23 rfl) (by decide) (fun h43 => ?_) (fun h43 => ?_)
    · have hck40 : ¬ ck B i = 40 := fun z => b01_0.mp h43 ((PM_sign hP (by decide)).mpr z)
      refine A_aload_n (dX6_atom 48 rfl) rfl ?_
      refine A_get (dX6_atom 49 rfl) fwX6_197 MW_0 MF_30 ?_
      refine A_if_ne 123 (dX6_atom 50 rfl) (by decide) (fun h99 => absurd hP.2.2.2.2.2.2.1 h99) (fun h99 => ?_)
      refine A_aload_n (dX6_atom 51 rfl) rfl ?_
      refine A_get (dX6_atom 52 rfl) fwX6_180 MW_0 MF_26 ?_
      refine A_iconst (2) (dX6_atom 53 rfl) (by decide +kernel) ?_
      refine A_icmp_ne 123 (dX6_atom 54 rfl) (by decide) (fun h107 => ?_) (fun h107 => ?_)
      · have hm2 : ¬ mkd B i = 2 := fun z => h107 (hP.2.1.trans z)
        refine A_aload_n (dX6_atom 62 rfl) rfl ?_
        refine A_get (dX6_atom 63 rfl) fwX6_197 MW_0 MF_30 ?_
        refine A_if_ne 157 (dX6_atom 64 rfl) (by decide) (fun h127 => absurd hP.2.2.2.2.2.2.1 h127) (fun h127 => ?_)
        refine A_aload_n (dX6_atom 65 rfl) rfl ?_
        refine A_get (dX6_atom 66 rfl) fwX6_180 MW_0 MF_26 ?_
        refine A_iconst (1) (dX6_atom 67 rfl) (by decide +kernel) ?_
        refine A_icmp_ne 157 (dX6_atom 68 rfl) (by decide) (fun h135 => ?_) (fun h135 => ?_)
        · have hm1 : ¬ mkd B i = 1 := fun z => h135 (hP.2.1.trans z)
          have hn1 : ¬ ck B i = 1 := fun z => by
            rcases mkd_in B i with y | y | y | y | y
            · rw [ck0 y] at z; exact absurd z (by decide)
            · exact hm1 y
            · exact hm2 y
            · have := sg_big (mkd_sg y); rw [← ck3 y, z] at this; exact absurd this (by decide)
            · rw [ck4 y] at z; exact absurd z (by decide)
          rw [if_neg hn1, if_neg (fun z => hm1 z.2.2), if_neg hck45, if_neg hck40, ite_self] at hpp
          cases hpp
          refine A_aload_n (dX6_atom 78 rfl) rfl ?_
          refine A_callVWv 0 (dX6_atom 79 rfl) cbX6_fail cwX6_211 (m_fail E q g tw a) rfl rfl MW_0 rfl rfl (by omega) (Nat.le_of_ble_eq_true rfl) (Nat.le_of_ble_eq_true rfl) (Nat.le_of_ble_eq_true rfl) (Nat.le_of_ble_eq_true rfl) ?_
          rintro w1 rfl
          rw [if_pos hP.2.2.2.2.2.2.1]
          refine AW.pcq (pc2 := 161) rfl ?_
          refine A_iload_n (dX6_atom 80 rfl) rfl ?_
          refine A_ri (dX6_atom 81 rfl) rfl rfl ?_
          first
            | exact RM_bad2 (by simp) (KP.up (KP.up KP.rf (by decide)) (by decide)) ⟨rfl, hP.2.2.1⟩
            | (refine RM_ok (KP.nx KP.rf) (PM_nx hT hP.2.2.2.2.2.2.2 hP.2.2.2.2.2.1 hP.2.2.2.2.2.2.1) (fun st => ?_)
               rw [hP.2.2.2.1 hm2]
               exact ev_num hm2 _ _)
        · have hm1 : mkd B i = 1 := hP.2.1.symm.trans h135
          exact s_atom_name E q a fr n B f g tw o i res hpp ho hT hP hck40 hck45 h135 hm1
      · have hm2 : mkd B i = 2 := hP.2.1.symm.trans h107
        rw [if_pos (ck2 hm2)] at hpp
        cases hpp
        refine A_aload_n (dX6_atom 55 rfl) rfl ?_
        refine A_get (dX6_atom 56 rfl) fwX6_191 MW_0 MF_28 ?_
        refine A_l2i (dX6_atom 57 rfl) ?_
        refine A_istore_n (ls2 := [_, _]) (dX6_atom 58 rfl) (by decide) rfl rfl ?_
        refine A_aload_n (dX6_atom 59 rfl) rfl ?_
        refine A_callVWv 0 (dX6_atom 60 rfl) cbX6_next cwX6_214 (m_next E q g tw a fr n B hT (men B i) (men_le hT hP.2.2.2.2.2.2.2).1 hP.1) rfl rfl MW_0 rfl rfl (by omega) (Nat.le_of_ble_eq_true rfl) (Nat.le_of_ble_eq_true rfl) (Nat.le_of_ble_eq_true rfl) (Nat.le_of_ble_eq_true rfl) ?_
        rintro w1 rfl
        refine AW.pcq (pc2 := 120) rfl ?_
        refine A_goto 161 (dX6_atom 61 rfl) (by decide) ?_
        refine A_iload_n (dX6_atom 80 rfl) rfl ?_
        refine A_ri (dX6_atom 81 rfl) rfl rfl ?_
        first
          | exact RM_bad2 (by simp) (KP.up (KP.up KP.rf (by decide)) (by decide)) ⟨rfl, hP.2.2.1⟩
          | (refine RM_ok (KP.nx KP.rf) (PM_nx hT hP.2.2.2.2.2.2.2 hP.2.2.2.2.2.1 hP.2.2.2.2.2.2.1) (fun st => ?_)
             rw [hP.2.2.2.1 hm2]
             exact ev_num hm2 _ _)
    · have hck40 : ck B i = 40 := (PM_sign hP (by decide)).mp (b01_n.mp h43)
      rw [if_neg (by rw [hck40]; decide), if_neg (by rw [hck40]; intro z; exact absurd z.2.1 (by decide))] at hpp
      exact s_atom_par E q a fr n B f h0 g tw o i res hpp ho hT hP hck40 hck45
  · have hck45 : ck B i = 45 := (PM_sign hP (by decide)).mp (b01_n.mp h8)
    rw [if_neg (by rw [hck45]; decide), if_neg (by rw [hck45]; intro z; exact absurd z.2.1 (by decide))] at hpp
    refine A_aload_n (dX6_atom 6 rfl) rfl ?_
    rcases Nat.lt_or_ge o 5 with ho5 | ho5
    · rw [if_neg (by omega), if_pos hck45] at hpp
      obtain ⟨r1, hr1, hpp⟩ := bnd hpp
      refine A_callVWi 0 (dX6_atom 7 rfl) cbX6_opens cwX6_242 (m_opens E q g tw a fr n B hT o i ho hP) rfl rfl MW_0 rfl rfl (by omega) (Nat.le_of_ble_eq_true rfl) (Nat.le_of_ble_eq_true rfl) (Nat.le_of_ble_eq_true rfl) (Nat.le_of_ble_eq_true rfl) ?_
      rintro x0 w1 (⟨z, rfl, rfl⟩ | ⟨z, rfl, rfl⟩)
      · omega
      refine AW.pcq (pc2 := 15) rfl ?_
      refine A_if_eq 161 (dX6_atom 8 rfl) (by decide) (fun h15 => absurd h15 (by decide)) (fun h15 => ?_)
      refine A_aload_n (dX6_atom 9 rfl) rfl ?_
      refine A_callVWi 0 (dX6_atom 10 rfl) cbX6_atom cwX6_246 (h5 (nxg B (upd g 29 (nI (o + 1))) (men B i)) (mtw B tw (men B i)) (o + 1) (men B i) r1 hr1 (by omega) (KP.tx (KP.nx (KP.up KP.rf (by decide))) hT) (PM_nx hT hP.2.2.2.2.2.2.2 rfl hP.2.2.2.2.2.2.1)) rfl rfl MW_0 rfl rfl (by omega) (Nat.le_of_ble_eq_true rfl) (Nat.le_of_ble_eq_true rfl) (Nat.le_of_ble_eq_true rfl) (Nat.le_of_ble_eq_true rfl) ?_
      rintro x1 w1 ⟨g2, tw2, rfl, hk, hs, hf⟩
      refine AW.pcq (pc2 := 22) rfl ?_
      refine A_ineg (dX6_atom 11 rfl) ?_
      refine A_istore_n (ls2 := [_, _]) (dX6_atom 12 rfl) (by decide) rfl rfl ?_
      refine A_aload_n (dX6_atom 13 rfl) rfl ?_
      refine A_dup (dX6_atom 14 rfl) rfl ?_
      refine A_get (dX6_atom 15 rfl) fwX6_208 MW_0 MF_29 ?_
      refine A_iconst (1) (dX6_atom 16 rfl) (by decide +kernel) ?_
      refine A_isub (dX6_atom 17 rfl) ?_
      refine A_put (dX6_atom 18 rfl) fwX6_208 fcX6 ftX6_29 MW_0 rfl rfl ML_0 (MP_29 _) ?_
      refine AW.pcq (pc2 := 34) rfl ?_
      refine A_goto 161 (dX6_atom 19 rfl) (by decide) ?_
      refine A_iload_n (dX6_atom 80 rfl) rfl ?_
      refine A_ri (dX6_atom 81 rfl) rfl rfl ?_
      by_cases hb1 : r1.1 = true
      · rw [if_pos hb1] at hpp
        cases hpp
        obtain ⟨hP2, he2⟩ := hs hb1
        refine RM_ok (KP.up (KP.tr (KP.nx (KP.up KP.rf (by decide))) hk) (by decide)) (PM_dec hP2) (fun st => ?_)
        rw [evs_app]
        have h7 := he2 st
        rw [KP.me (KP.nx (KP.up KP.rf (by decide)))] at h7
        rw [show evs (ME g) r1.2.2 ([] ++ st) = x1 :: st from h7, ev_neg]
      · rw [if_neg hb1] at hpp
        cases hpp
        exact RM_bad2 hb1 (KP.up (KP.tr (KP.nx (KP.up KP.rf (by decide))) hk) (by decide)) (hf (by simpa using hb1))
    · rw [if_pos ho5] at hpp
      cases hpp
      refine A_callVWi 0 (dX6_atom 7 rfl) cbX6_opens cwX6_242 (m_opens E q g tw a fr n B hT o i ho hP) rfl rfl MW_0 rfl rfl (by omega) (Nat.le_of_ble_eq_true rfl) (Nat.le_of_ble_eq_true rfl) (Nat.le_of_ble_eq_true rfl) (Nat.le_of_ble_eq_true rfl) ?_
      rintro x0 w1 (⟨z, rfl, rfl⟩ | ⟨z, rfl, rfl⟩)
      rotate_left
      · omega
      refine AW.pcq (pc2 := 15) rfl ?_
      refine A_if_eq 161 (dX6_atom 8 rfl) (by decide) (fun h15 => ?_) (fun h15 => absurd rfl h15)
      refine A_iload_n (dX6_atom 80 rfl) rfl ?_
      refine A_ri (dX6_atom 81 rfl) rfl rfl ?_
      exact RM_bad2 (by simp) (KP.up (KP.up KP.rf (by decide)) (by decide)) ⟨rfl, hP.2.2.1⟩
end
section
def AM (E : ag) (q : Nat → Nat) (a : Nat → Nat → Int32) (fr n : Nat) (B : Nat → Int32) (f : Nat) : Prop := CM E q a fr n B yX6_either cX6_either 3 0 11 f ∧ CM E q a fr n B yX6_both cX6_both 3 1 10 f ∧ CM E q a fr n B yX6_not cX6_not 4 2 9 f ∧ CM E q a fr n B yX6_added cX6_added 4 3 8 f ∧ CM E q a fr n B yX6_term cX6_term 2 4 7 f ∧ CM E q a fr n B yX6_atom cX6_atom 2 5 6 f ∧ LM2 E q a fr n B mX6_either 6 11 f ∧ LM2 E q a fr n B mX6_both 7 10 f ∧ LM3 E q a fr n B mX6_added 8 8 f ∧ LM1 E q a fr n B mX6_term 9 7 f
theorem s_all (E : ag) (q : Nat → Nat) (a : Nat → Nat → Int32) (fr n : Nat) (B : Nat → Int32) : ∀ f, AM E q a fr n B f := by
  intro f
  induction f with
  | zero => exact ⟨fun g tw o i res h => by simp [pp] at h, fun g tw o i res h => by simp [pp] at h, fun g tw o i res h => by simp [pp] at h, fun g tw o i res h => by simp [pp] at h, fun g tw o i res h => by simp [pp] at h, fun g tw o i res h => by simp [pp] at h, fun g tw o i res h => by simp [pp] at h, fun g tw o i res h => by simp [pp] at h, fun g tw o i res h => by simp [pp] at h, fun g tw o i res h => by simp [pp] at h⟩
  | succ f ih =>
    obtain ⟨h0, h1, h2, h3, h4, h5, h6, h7, h8, h9⟩ := ih
    exact ⟨s_either E q a fr n B f h1 h6, s_both E q a fr n B f h2 h7, s_not E q a fr n B f h2 h3, s_added E q a fr n B f h4 h8, s_term E q a fr n B f h5 h9, s_atom E q a fr n B f h0 h5, s_either_loop E q a fr n B f h1 h6, s_both_loop E q a fr n B f h2 h7, s_added_loop E q a fr n B f h4 h8, s_term_loop E q a fr n B f h5 h9⟩
/-- a part of a text: its key (3, 4, 5), what it tells, a semicolon; a whole text -/
def prt (B : Nat → Int32) (f : Nat) (k : Int32) (i : Nat) : Option (Bool × Nat × List Int32) := if ck B i = k then (pp B f 0 0 (men B i)).bind (fun r => if r.1 = true then (if ck B r.2.1 = 59 then some (true, men B r.2.1, r.2.2) else some (false, r.2.1, r.2.2)) else some r) else some (false, i, [])
def txt (B : Nat → Int32) (f : Nat) : Option (Bool × Nat × List Int32 × List Int32 × List Int32) := (prt B f 3 0).bind (fun r0 => if r0.1 = true then (prt B f 4 r0.2.1).bind (fun r1 => if r1.1 = true then (prt B f 5 r1.2.1).bind (fun r2 => if r2.1 = true then some (decide (ck B r2.2.1 = 0), r2.2.1, r0.2.2, r1.2.2, r2.2.2) else some (false, r2.2.1, [], [], [])) else some (false, r1.2.1, [], [], [])) else some (false, r0.2.1, [], [], []))
theorem b01_c {p q : Prop} [Decidable p] [Decidable q] (h : p ↔ q) : b01 p = b01 q := by unfold b01; split <;> split <;> simp_all
theorem PM_n0 {a : Nat → Nat → Int32} {fr n : Nat} {B : Nat → Int32} {g0 g : Nat → Int32} {tw : Int64} {o i : Nat} (hT : TXC g0 a fr n B) (hi : i ≤ n) (h29 : g 29 = nI o) (h30 : g 30 = 0) : PM B n (nxg B g i) (mtw B tw i) o i := by
  refine ⟨rfl, rfl, rfl, fun h => ?_, fun h => ?_, h29, h30, hi⟩
  · unfold mtw
    unfold mkd at h
    split at h
    · exact absurd h (by decide)
    · rename_i h1
      rw [if_neg h1]
      split at h
      · exact absurd h (by decide)
      · rename_i h2
        rw [if_neg h2]
        split at h
        · rename_i h3; rw [if_pos h3]
        · split at h
          · exact absurd h (by decide)
          · exact absurd h (by decide)
  · unfold mtw
    unfold mkd at h
    split at h
    · exact absurd h (by decide)
    · rename_i h1
      rw [if_neg h1]
      split at h
      · exact absurd h (by decide)
      · rename_i h2
        rw [if_neg h2]
        split at h
        · split at h
          · exact absurd h (by decide)
          · exact absurd h (by decide)
        · rename_i h3
          rw [if_neg h3]
          split at h
          · rename_i h4; rw [if_pos h4]
          · exact absurd h (by decide)
theorem PM_key3 {B : Nat → Int32} {n : Nat} {g : Nat → Int32} {tw : Int64} {o i : Nat} (hP : PM B n g tw o i) : (g 30 = 0 ∧ g 26 = 1 ∧ isW8 B (lst B i) (men B i) 103 105 118 101 115 0 0 0) ↔ ck B i = 3 := by
  rw [ck_word (by decide) (by decide), hP.2.1, wci_3]
  exact ⟨fun h => ⟨h.2.1, h.2.2⟩, fun h => ⟨hP.2.2.2.2.2.2.1, h.1, h.2⟩⟩
theorem PM_key4 {B : Nat → Int32} {n : Nat} {g : Nat → Int32} {tw : Int64} {o i : Nat} (hP : PM B n g tw o i) : (g 30 = 0 ∧ g 26 = 1 ∧ isW8 B (lst B i) (men B i) 100 114 105 102 116 115 0 0) ↔ ck B i = 4 := by
  rw [ck_word (by decide) (by decide), hP.2.1, wci_4]
  exact ⟨fun h => ⟨h.2.1, h.2.2⟩, fun h => ⟨hP.2.2.2.2.2.2.1, h.1, h.2⟩⟩
theorem PM_key5 {B : Nat → Int32} {n : Nat} {g : Nat → Int32} {tw : Int64} {o i : Nat} (hP : PM B n g tw o i) : (g 30 = 0 ∧ g 26 = 1 ∧ isW8 B (lst B i) (men B i) 104 117 114 116 115 0 0 0) ↔ ck B i = 5 := by
  rw [ck_word (by decide) (by decide), hP.2.1, wci_5]
  exact ⟨fun h => ⟨h.2.1, h.2.2⟩, fun h => ⟨hP.2.2.2.2.2.2.1, h.1, h.2⟩⟩
theorem ck_end {B : Nat → Int32} {i : Nat} : ck B i = 0 ↔ mkd B i = 0 := by
  constructor
  · intro h
    rcases mkd_in B i with m | m | m | m | m
    · exact m
    · rw [ck1 m] at h; have := (wc_small B (lst B i) (men B i)).1; rw [h] at this; exact absurd this (by decide)
    · rw [ck2 m] at h; exact absurd h (by decide)
    · have := sg_big (mkd_sg m); rw [← ck3 m, h] at this; exact absurd this (by decide)
    · rw [ck4 m] at h; exact absurd h (by decide)
  · exact ck0
set_option maxRecDepth 100000 in
set_option maxHeartbeats 400000 in
theorem m_part1 (E : ag) (q : Nat → Nat) (a : Nat → Nat → Int32) (fr n : Nat) (B : Nat → Int32) (f : Nat) (g : Nat → Int32) (tw : Int64) (i : Nat) (res : Bool × Nat × List Int32) (k : Int32) (hpp : prt B f k i = some res) (hT : TXC g a fr n B) (hP : PM B n g tw 0 i) (hk0 : ck B i = k) : CT E yX6_part cX6_part 3 mX6_part.2.2.2.1 42 0 0 [.ref (q 0), .int 1] (MW E q g tw a) (ri (RM E q a n B g 0 res [])) := by
  unfold prt at hpp
  rw [if_pos hk0] at hpp
  obtain ⟨r1, hr1, hpp⟩ := bnd hpp
  refine CT.of (M := mX6_part) (ls := [some (.ref (q 0)), some (.int 1), none]) (by decide) rfl (by decide) rfl (Nat.le_of_ble_eq_true rfl) ?_
  refine A_iload_n (dX6_part 0 rfl) rfl ?_
  refine A_if_ne 8 (dX6_part 1 rfl) (by decide) (fun h1 => ?_) (fun h1 => absurd h1 (by decide))
  refine A_aload_n (dX6_part 4 rfl) rfl ?_
  refine A_get (dX6_part 5 rfl) fwX6_197 MW_0 MF_30 ?_
  refine A_if_ne 19 (dX6_part 6 rfl) (by decide) (fun h12 => absurd hP.2.2.2.2.2.2.1 h12) (fun h12 => ?_)
  refine A_aload_n (dX6_part 7 rfl) rfl ?_
  refine A_callVWv 0 (dX6_part 8 rfl) cbX6_next cwX6_214 (m_next E q g tw a fr n B hT (men B i) (men_le hT hP.2.2.2.2.2.2.2).1 hP.1) rfl rfl MW_0 rfl rfl (by omega) (Nat.le_of_ble_eq_true rfl) (Nat.le_of_ble_eq_true rfl) (Nat.le_of_ble_eq_true rfl) (Nat.le_of_ble_eq_true rfl) ?_
  rintro w1 rfl
  refine AW.pcq (pc2 := 19) rfl ?_
  refine A_aload_n (dX6_part 9 rfl) rfl ?_
  refine A_get (dX6_part 10 rfl) fwX6_197 MW_0 MF_30 ?_
  refine A_if_eq 30 (dX6_part 11 rfl) (by decide) (fun h23 => ?_) (fun h23 => absurd h23 hP.2.2.2.2.2.2.1)
  refine A_aload_n (dX6_part 14 rfl) rfl ?_
  refine A_callVWi 0 (dX6_part 15 rfl) cbX6_either cwX6_250 ((s_all E q a fr n B f).1 (nxg B g (men B i)) (mtw B tw (men B i)) 0 (men B i) r1 hr1 (by decide) (KP.rf.nx.tx hT) (PM_nx hT hP.2.2.2.2.2.2.2 hP.2.2.2.2.2.1 hP.2.2.2.2.2.2.1)) rfl rfl MW_0 rfl rfl (by omega) (Nat.le_of_ble_eq_true rfl) (Nat.le_of_ble_eq_true rfl) (Nat.le_of_ble_eq_true rfl) (Nat.le_of_ble_eq_true rfl) ?_
  rintro x1 w1 ⟨g2, tw2, rfl, hk, hs, hf⟩
  refine AW.pcq (pc2 := 34) rfl ?_
  have hkt : KP g g2 := KP.tr (KP.nx KP.rf) hk
  by_cases hb1 : r1.1 = true
  by_cases hcs : ck B r1.2.1 = 59
  · rw [if_pos hb1, if_pos hcs] at hpp
    cases hpp
    obtain ⟨hP2, he2⟩ := hs hb1
    have hTn := hkt.tx hT
    refine A_istore_n (ls2 := [_, _, _]) (dX6_part 16 rfl) (by decide) rfl rfl ?_
    refine A_aload_n (dX6_part 17 rfl) rfl ?_
    refine A_bipush (59) (dX6_part 18 rfl) (by decide +kernel) ?_
    refine A_callVWi 1 (dX6_part 19 rfl) cbX6_isSign cwX6_239 (m_isSign E q g2 tw2 a 59) rfl rfl MW_0 rfl rfl (by omega) (Nat.le_of_ble_eq_true rfl) (Nat.le_of_ble_eq_true rfl) (Nat.le_of_ble_eq_true rfl) (Nat.le_of_ble_eq_true rfl) ?_
    rintro r38 w1 ⟨rfl, rfl⟩
    refine AW.pcq (pc2 := 41) rfl ?_
    refine A_if_ne 48 (dX6_part 20 rfl) (by decide) (fun h41 => ?_) (fun h41 => absurd h41 (b01_n.mpr ((PM_sign hP2 (by decide)).mpr hcs)))
    refine A_aload_n (dX6_part 23 rfl) rfl ?_
    refine A_get (dX6_part 24 rfl) fwX6_197 MW_0 MF_30 ?_
    refine A_if_ne 59 (dX6_part 25 rfl) (by decide) (fun h52 => absurd hP2.2.2.2.2.2.2.1 h52) (fun h52 => ?_)
    refine A_aload_n (dX6_part 26 rfl) rfl ?_
    refine A_callVWv 0 (dX6_part 27 rfl) cbX6_next cwX6_214 (m_next E q g2 tw2 a fr n B hTn (men B r1.2.1) (men_le hT hP2.2.2.2.2.2.2.2).1 hP2.1) rfl rfl MW_0 rfl rfl (by omega) (Nat.le_of_ble_eq_true rfl) (Nat.le_of_ble_eq_true rfl) (Nat.le_of_ble_eq_true rfl) (Nat.le_of_ble_eq_true rfl) ?_
    rintro w1 rfl
    refine AW.pcq (pc2 := 59) rfl ?_
    refine A_iload_n (dX6_part 28 rfl) rfl ?_
    refine A_ri (dX6_part 29 rfl) rfl rfl ?_
    refine RM_ok (KP.nx hkt) (PM_nx hT hP2.2.2.2.2.2.2.2 hP2.2.2.2.2.2.1 hP2.2.2.2.2.2.2.1) (fun st => ?_)
    have h7 := he2 st
    rw [KP.me (KP.nx KP.rf)] at h7
    exact h7
  · rw [if_pos hb1, if_neg hcs] at hpp
    cases hpp
    obtain ⟨hP2, he2⟩ := hs hb1
    refine A_istore_n (ls2 := [_, _, _]) (dX6_part 16 rfl) (by decide) rfl rfl ?_
    refine A_aload_n (dX6_part 17 rfl) rfl ?_
    refine A_bipush (59) (dX6_part 18 rfl) (by decide +kernel) ?_
    refine A_callVWi 1 (dX6_part 19 rfl) cbX6_isSign cwX6_239 (m_isSign E q g2 tw2 a 59) rfl rfl MW_0 rfl rfl (by omega) (Nat.le_of_ble_eq_true rfl) (Nat.le_of_ble_eq_true rfl) (Nat.le_of_ble_eq_true rfl) (Nat.le_of_ble_eq_true rfl) ?_
    rintro r38 w1 ⟨rfl, rfl⟩
    refine AW.pcq (pc2 := 41) rfl ?_
    refine A_if_ne 48 (dX6_part 20 rfl) (by decide) (fun h41 => absurd (b01_0.mpr (fun z => hcs ((PM_sign hP2 (by decide)).mp z))) h41) (fun h41 => ?_)
    refine A_aload_n (dX6_part 21 rfl) rfl ?_
    refine A_callVWv 0 (dX6_part 22 rfl) cbX6_fail cwX6_211 (m_fail E q g2 tw2 a) rfl rfl MW_0 rfl rfl (by omega) (Nat.le_of_ble_eq_true rfl) (Nat.le_of_ble_eq_true rfl) (Nat.le_of_ble_eq_true rfl) (Nat.le_of_ble_eq_true rfl) ?_
    rintro w1 rfl
    rw [if_pos hP2.2.2.2.2.2.2.1]
    refine AW.pcq (pc2 := 48) rfl ?_
    refine A_aload_n (dX6_part 23 rfl) rfl ?_
    refine A_get (dX6_part 24 rfl) fwX6_197 MW_0 MF_30 ?_
    refine A_if_ne 59 (dX6_part 25 rfl) (by decide) (fun h52 => ?_) (fun h52 => absurd h52 (show ¬ (1 : Int32) = 0 by decide))
    refine A_iload_n (dX6_part 28 rfl) rfl ?_
    refine A_ri (dX6_part 29 rfl) rfl rfl ?_
    exact RM_bad2 (by simp) (KP.up (KP.up hkt (by decide)) (by decide)) ⟨rfl, hP2.2.2.1⟩
  · rw [if_neg hb1] at hpp
    cases hpp
    have h3b := hf (by simpa using hb1)
    have h3c : ¬ g2 30 = 0 := by rw [h3b.1]; decide
    refine A_istore_n (ls2 := [_, _, _]) (dX6_part 16 rfl) (by decide) rfl rfl ?_
    refine A_aload_n (dX6_part 17 rfl) rfl ?_
    refine A_bipush (59) (dX6_part 18 rfl) (by decide +kernel) ?_
    refine A_callVWi 1 (dX6_part 19 rfl) cbX6_isSign cwX6_239 (m_isSignB E q g2 tw2 a 59 h3c) rfl rfl MW_0 rfl rfl (by omega) (Nat.le_of_ble_eq_true rfl) (Nat.le_of_ble_eq_true rfl) (Nat.le_of_ble_eq_true rfl) (Nat.le_of_ble_eq_true rfl) ?_
    rintro r38 w1 ⟨rfl, rfl⟩
    refine AW.pcq (pc2 := 41) rfl ?_
    refine A_if_ne 48 (dX6_part 20 rfl) (by decide) (fun h41 => absurd rfl h41) (fun h41 => ?_)
    refine A_aload_n (dX6_part 21 rfl) rfl ?_
    refine A_callVWv 0 (dX6_part 22 rfl) cbX6_fail cwX6_211 (m_fail E q g2 tw2 a) rfl rfl MW_0 rfl rfl (by omega) (Nat.le_of_ble_eq_true rfl) (Nat.le_of_ble_eq_true rfl) (Nat.le_of_ble_eq_true rfl) (Nat.le_of_ble_eq_true rfl) ?_
    rintro w1 rfl
    rw [if_neg h3c]
    refine AW.pcq (pc2 := 48) rfl ?_
    refine A_aload_n (dX6_part 23 rfl) rfl ?_
    refine A_get (dX6_part 24 rfl) fwX6_197 MW_0 MF_30 ?_
    refine A_if_ne 59 (dX6_part 25 rfl) (by decide) (fun h52 => ?_) (fun h52 => absurd h52 h3c)
    refine A_iload_n (dX6_part 28 rfl) rfl ?_
    refine A_ri (dX6_part 29 rfl) rfl rfl ?_
    exact RM_bad2 hb1 hkt h3b
set_option maxRecDepth 100000 in
set_option maxHeartbeats 400000 in
theorem m_part0 (E : ag) (q : Nat → Nat) (a : Nat → Nat → Int32) (fr n : Nat) (B : Nat → Int32) (f : Nat) (g : Nat → Int32) (tw : Int64) (i : Nat) (res : Bool × Nat × List Int32) (k : Int32) (hpp : prt B f k i = some res) (hT : TXC g a fr n B) (hP : PM B n g tw 0 i) (hk0 : ¬ ck B i = k) : CT E yX6_part cX6_part 3 mX6_part.2.2.2.1 42 0 0 [.ref (q 0), .int 0] (MW E q g tw a) (ri (RM E q a n B g 0 res [])) := by
  unfold prt at hpp
  rw [if_neg hk0] at hpp
  cases hpp
  refine CT.of (M := mX6_part) (ls := [some (.ref (q 0)), some (.int 0), none]) (by decide) rfl (by decide) rfl (Nat.le_of_ble_eq_true rfl) ?_
  refine A_iload_n (dX6_part 0 rfl) rfl ?_
  refine A_if_ne 8 (dX6_part 1 rfl) (by decide) (fun h1 => absurd rfl h1) (fun h1 => ?_)
  refine A_aload_n (dX6_part 2 rfl) rfl ?_
  refine A_callVWv 0 (dX6_part 3 rfl) cbX6_fail cwX6_211 (m_fail E q g tw a) rfl rfl MW_0 rfl rfl (by omega) (Nat.le_of_ble_eq_true rfl) (Nat.le_of_ble_eq_true rfl) (Nat.le_of_ble_eq_true rfl) (Nat.le_of_ble_eq_true rfl) ?_
  rintro w1 rfl
  rw [if_pos hP.2.2.2.2.2.2.1]
  refine AW.pcq (pc2 := 8) rfl ?_
  refine A_aload_n (dX6_part 4 rfl) rfl ?_
  refine A_get (dX6_part 5 rfl) fwX6_197 MW_0 MF_30 ?_
  refine A_if_ne 19 (dX6_part 6 rfl) (by decide) (fun h12 => ?_) (fun h12 => absurd h12 (show ¬ (1 : Int32) = 0 by decide))
  refine A_aload_n (dX6_part 9 rfl) rfl ?_
  refine A_get (dX6_part 10 rfl) fwX6_197 MW_0 MF_30 ?_
  refine A_if_eq 30 (dX6_part 11 rfl) (by decide) (fun h23 => absurd h23 (show ¬ (1 : Int32) = 0 by decide)) (fun h23 => ?_)
  refine A_iconst (0) (dX6_part 12 rfl) (by decide +kernel) ?_
  refine A_goto 34 (dX6_part 13 rfl) (by decide) ?_
  refine A_istore_n (ls2 := [_, _, _]) (dX6_part 16 rfl) (by decide) rfl rfl ?_
  refine A_aload_n (dX6_part 17 rfl) rfl ?_
  refine A_bipush (59) (dX6_part 18 rfl) (by decide +kernel) ?_
  refine A_callVWi 1 (dX6_part 19 rfl) cbX6_isSign cwX6_239 (m_isSignB E q (upd (upd g 30 1) 31 (g 27)) tw a 59 (show ¬ (1 : Int32) = 0 by decide)) rfl rfl MW_0 rfl rfl (by omega) (Nat.le_of_ble_eq_true rfl) (Nat.le_of_ble_eq_true rfl) (Nat.le_of_ble_eq_true rfl) (Nat.le_of_ble_eq_true rfl) ?_
  rintro r38 w1 ⟨rfl, rfl⟩
  refine AW.pcq (pc2 := 41) rfl ?_
  refine A_if_ne 48 (dX6_part 20 rfl) (by decide) (fun h41 => absurd rfl h41) (fun h41 => ?_)
  refine A_aload_n (dX6_part 21 rfl) rfl ?_
  refine A_callVWv 0 (dX6_part 22 rfl) cbX6_fail cwX6_211 (m_fail E q (upd (upd g 30 1) 31 (g 27)) tw a) rfl rfl MW_0 rfl rfl (by omega) (Nat.le_of_ble_eq_true rfl) (Nat.le_of_ble_eq_true rfl) (Nat.le_of_ble_eq_true rfl) (Nat.le_of_ble_eq_true rfl) ?_
  rintro w1 rfl
  rw [if_neg (show ¬ upd (upd g 30 1) 31 (g 27) 30 = 0 from (show ¬ (1 : Int32) = 0 by decide))]
  refine AW.pcq (pc2 := 48) rfl ?_
  refine A_aload_n (dX6_part 23 rfl) rfl ?_
  refine A_get (dX6_part 24 rfl) fwX6_197 MW_0 MF_30 ?_
  refine A_if_ne 59 (dX6_part 25 rfl) (by decide) (fun h52 => ?_) (fun h52 => absurd h52 (show ¬ (1 : Int32) = 0 by decide))
  refine A_iload_n (dX6_part 28 rfl) rfl ?_
  refine A_ri (dX6_part 29 rfl) rfl rfl ?_
  exact RM_bad2 (by simp) (KP.up (KP.up KP.rf (by decide)) (by decide)) ⟨rfl, hP.2.2.1⟩
theorem m_part (E : ag) (q : Nat → Nat) (a : Nat → Nat → Int32) (fr n : Nat) (B : Nat → Int32) (f : Nat) (g : Nat → Int32) (tw : Int64) (i : Nat) (res : Bool × Nat × List Int32) (k : Int32) (hpp : prt B f k i = some res) (hT : TXC g a fr n B) (hP : PM B n g tw 0 i) : CT E yX6_part cX6_part 3 mX6_part.2.2.2.1 42 0 0 [.ref (q 0), .int (b01 (ck B i = k))] (MW E q g tw a) (ri (RM E q a n B g 0 res [])) := by
  by_cases hk0 : ck B i = k
  · rw [b01_t hk0]; exact m_part1 E q a fr n B f g tw i res k hpp hT hP hk0
  · rw [b01_f hk0]; exact m_part0 E q a fr n B f g tw i res k hpp hT hP hk0
end
