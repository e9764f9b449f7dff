/-! THE REFERENCE AS A WORLD: one object (its ints g by field, tokenWorth tw), 24 rows (a by place) -/
def MF (q : Nat → Nat) (g : Nat → Int32) (tw : Int64) : List Value := [.int (g 0), .ref (q 1), .ref (q 2), .int (g 3), .int (g 4), .ref (q 3), .int (g 6), .ref (q 4), .ref (q 5), .ref (q 6), .ref (q 7), .ref (q 8), .ref (q 9), .int (g 13), .int (g 14), .int (g 15), .int (g 16), .int (g 17), .int (g 18), .int (g 19), .int (g 20), .int (g 21), .int (g 22), .int (g 23), .int (g 24), .int (g 25), .int (g 26), .int (g 27), .long tw, .int (g 29), .int (g 30), .int (g 31), .int (g 32), .int (g 33), .int (g 34), .int (g 35), .int (g 36), .ref (q 10), .ref (q 11), .ref (q 12), .ref (q 13), .ref (q 14), .ref (q 15), .int (g 43), .int (g 44), .int (g 45), .int (g 46), .int (g 47), .int (g 48), .int (g 49), .ref (q 16), .ref (q 17), .ref (q 18), .ref (q 19), .ref (q 20), .int (g 55), .int (g 56), .int (g 57), .int (g 58), .int (g 59), .ref (q 21), .ref (q 22), .ref (q 23), .ref (q 24)]
def MW (E : ag) (q : Nat → Nat) (g : Nat → Int32) (tw : Int64) (a : Nat → Nat → Int32) : va_W := [(q 0, .inr (6, MF q g tw)), (q 1, .inl (E.2.1 0, 960, .inl (a 1))), (q 2, .inl (E.2.1 0, 6, .inl (a 2))), (q 3, .inl (E.2.1 0, 160, .inl (a 3))), (q 4, .inl (E.2.1 0, 12, .inl (a 4))), (q 5, .inl (E.2.1 0, 12, .inl (a 5))), (q 6, .inl (E.2.1 0, 5, .inl (a 6))), (q 7, .inl (E.2.1 0, 5, .inl (a 7))), (q 8, .inl (E.2.1 0, 5, .inl (a 8))), (q 9, .inl (E.2.1 0, 5, .inl (a 9))), (q 10, .inl (E.2.1 0, 12, .inl (a 10))), (q 11, .inl (E.2.1 0, 12, .inl (a 11))), (q 12, .inl (E.2.1 0, 5, .inl (a 12))), (q 13, .inl (E.2.1 0, 5, .inl (a 13))), (q 14, .inl (E.2.1 0, 5, .inl (a 14))), (q 15, .inl (E.2.1 0, 5, .inl (a 15))), (q 16, .inl (E.2.1 0, 12, .inl (a 16))), (q 17, .inl (E.2.1 0, 12, .inl (a 17))), (q 18, .inl (E.2.1 0, 5, .inl (a 18))), (q 19, .inl (E.2.1 0, 5, .inl (a 19))), (q 20, .inl (E.2.1 0, 5, .inl (a 20))), (q 21, .inl (E.2.1 1, 4, .inl (a 21))), (q 22, .inl (E.2.1 0, 4, .inl (a 22))), (q 23, .inl (E.2.1 0, 4, .inl (a 23))), (q 24, .inl (E.2.1 0, 160, .inl (a 24)))]
theorem MW_0 {E : ag} {q : Nat → Nat} {g : Nat → Int32} {tw : Int64} {a : Nat → Nat → Int32} : (MW E q g tw a)[0]? = some (q 0, .inr (6, MF q g tw)) := rfl
theorem MW_1 {E : ag} {q : Nat → Nat} {g : Nat → Int32} {tw : Int64} {a : Nat → Nat → Int32} : (MW E q g tw a)[1]? = some (q 1, .inl (E.2.1 0, 960, .inl (a 1))) := rfl
theorem MS_1 {E : ag} {q : Nat → Nat} {g : Nat → Int32} {tw : Int64} {a : Nat → Nat → Int32} (f : Nat → Int32) : (MW E q g tw a).set 1 (q 1, .inl (E.2.1 0, 960, .inl f)) = MW E q g tw (va_up a 1 f) := rfl
theorem MW_2 {E : ag} {q : Nat → Nat} {g : Nat → Int32} {tw : Int64} {a : Nat → Nat → Int32} : (MW E q g tw a)[2]? = some (q 2, .inl (E.2.1 0, 6, .inl (a 2))) := rfl
theorem MS_2 {E : ag} {q : Nat → Nat} {g : Nat → Int32} {tw : Int64} {a : Nat → Nat → Int32} (f : Nat → Int32) : (MW E q g tw a).set 2 (q 2, .inl (E.2.1 0, 6, .inl f)) = MW E q g tw (va_up a 2 f) := rfl
theorem MW_3 {E : ag} {q : Nat → Nat} {g : Nat → Int32} {tw : Int64} {a : Nat → Nat → Int32} : (MW E q g tw a)[3]? = some (q 3, .inl (E.2.1 0, 160, .inl (a 3))) := rfl
theorem MS_3 {E : ag} {q : Nat → Nat} {g : Nat → Int32} {tw : Int64} {a : Nat → Nat → Int32} (f : Nat → Int32) : (MW E q g tw a).set 3 (q 3, .inl (E.2.1 0, 160, .inl f)) = MW E q g tw (va_up a 3 f) := rfl
theorem MW_4 {E : ag} {q : Nat → Nat} {g : Nat → Int32} {tw : Int64} {a : Nat → Nat → Int32} : (MW E q g tw a)[4]? = some (q 4, .inl (E.2.1 0, 12, .inl (a 4))) := rfl
theorem MS_4 {E : ag} {q : Nat → Nat} {g : Nat → Int32} {tw : Int64} {a : Nat → Nat → Int32} (f : Nat → Int32) : (MW E q g tw a).set 4 (q 4, .inl (E.2.1 0, 12, .inl f)) = MW E q g tw (va_up a 4 f) := rfl
theorem MW_5 {E : ag} {q : Nat → Nat} {g : Nat → Int32} {tw : Int64} {a : Nat → Nat → Int32} : (MW E q g tw a)[5]? = some (q 5, .inl (E.2.1 0, 12, .inl (a 5))) := rfl
theorem MS_5 {E : ag} {q : Nat → Nat} {g : Nat → Int32} {tw : Int64} {a : Nat → Nat → Int32} (f : Nat → Int32) : (MW E q g tw a).set 5 (q 5, .inl (E.2.1 0, 12, .inl f)) = MW E q g tw (va_up a 5 f) := rfl
theorem MW_6 {E : ag} {q : Nat → Nat} {g : Nat → Int32} {tw : Int64} {a : Nat → Nat → Int32} : (MW E q g tw a)[6]? = some (q 6, .inl (E.2.1 0, 5, .inl (a 6))) := rfl
theorem MS_6 {E : ag} {q : Nat → Nat} {g : Nat → Int32} {tw : Int64} {a : Nat → Nat → Int32} (f : Nat → Int32) : (MW E q g tw a).set 6 (q 6, .inl (E.2.1 0, 5, .inl f)) = MW E q g tw (va_up a 6 f) := rfl
theorem MW_7 {E : ag} {q : Nat → Nat} {g : Nat → Int32} {tw : Int64} {a : Nat → Nat → Int32} : (MW E q g tw a)[7]? = some (q 7, .inl (E.2.1 0, 5, .inl (a 7))) := rfl
theorem MS_7 {E : ag} {q : Nat → Nat} {g : Nat → Int32} {tw : Int64} {a : Nat → Nat → Int32} (f : Nat → Int32) : (MW E q g tw a).set 7 (q 7, .inl (E.2.1 0, 5, .inl f)) = MW E q g tw (va_up a 7 f) := rfl
theorem MW_8 {E : ag} {q : Nat → Nat} {g : Nat → Int32} {tw : Int64} {a : Nat → Nat → Int32} : (MW E q g tw a)[8]? = some (q 8, .inl (E.2.1 0, 5, .inl (a 8))) := rfl
theorem MS_8 {E : ag} {q : Nat → Nat} {g : Nat → Int32} {tw : Int64} {a : Nat → Nat → Int32} (f : Nat → Int32) : (MW E q g tw a).set 8 (q 8, .inl (E.2.1 0, 5, .inl f)) = MW E q g tw (va_up a 8 f) := rfl
theorem MW_9 {E : ag} {q : Nat → Nat} {g : Nat → Int32} {tw : Int64} {a : Nat → Nat → Int32} : (MW E q g tw a)[9]? = some (q 9, .inl (E.2.1 0, 5, .inl (a 9))) := rfl
theorem MS_9 {E : ag} {q : Nat → Nat} {g : Nat → Int32} {tw : Int64} {a : Nat → Nat → Int32} (f : Nat → Int32) : (MW E q g tw a).set 9 (q 9, .inl (E.2.1 0, 5, .inl f)) = MW E q g tw (va_up a 9 f) := rfl
theorem MW_10 {E : ag} {q : Nat → Nat} {g : Nat → Int32} {tw : Int64} {a : Nat → Nat → Int32} : (MW E q g tw a)[10]? = some (q 10, .inl (E.2.1 0, 12, .inl (a 10))) := rfl
theorem MS_10 {E : ag} {q : Nat → Nat} {g : Nat → Int32} {tw : Int64} {a : Nat → Nat → Int32} (f : Nat → Int32) : (MW E q g tw a).set 10 (q 10, .inl (E.2.1 0, 12, .inl f)) = MW E q g tw (va_up a 10 f) := rfl
theorem MW_11 {E : ag} {q : Nat → Nat} {g : Nat → Int32} {tw : Int64} {a : Nat → Nat → Int32} : (MW E q g tw a)[11]? = some (q 11, .inl (E.2.1 0, 12, .inl (a 11))) := rfl
theorem MS_11 {E : ag} {q : Nat → Nat} {g : Nat → Int32} {tw : Int64} {a : Nat → Nat → Int32} (f : Nat → Int32) : (MW E q g tw a).set 11 (q 11, .inl (E.2.1 0, 12, .inl f)) = MW E q g tw (va_up a 11 f) := rfl
theorem MW_12 {E : ag} {q : Nat → Nat} {g : Nat → Int32} {tw : Int64} {a : Nat → Nat → Int32} : (MW E q g tw a)[12]? = some (q 12, .inl (E.2.1 0, 5, .inl (a 12))) := rfl
theorem MS_12 {E : ag} {q : Nat → Nat} {g : Nat → Int32} {tw : Int64} {a : Nat → Nat → Int32} (f : Nat → Int32) : (MW E q g tw a).set 12 (q 12, .inl (E.2.1 0, 5, .inl f)) = MW E q g tw (va_up a 12 f) := rfl
theorem MW_13 {E : ag} {q : Nat → Nat} {g : Nat → Int32} {tw : Int64} {a : Nat → Nat → Int32} : (MW E q g tw a)[13]? = some (q 13, .inl (E.2.1 0, 5, .inl (a 13))) := rfl
theorem MS_13 {E : ag} {q : Nat → Nat} {g : Nat → Int32} {tw : Int64} {a : Nat → Nat → Int32} (f : Nat → Int32) : (MW E q g tw a).set 13 (q 13, .inl (E.2.1 0, 5, .inl f)) = MW E q g tw (va_up a 13 f) := rfl
theorem MW_14 {E : ag} {q : Nat → Nat} {g : Nat → Int32} {tw : Int64} {a : Nat → Nat → Int32} : (MW E q g tw a)[14]? = some (q 14, .inl (E.2.1 0, 5, .inl (a 14))) := rfl
theorem MS_14 {E : ag} {q : Nat → Nat} {g : Nat → Int32} {tw : Int64} {a : Nat → Nat → Int32} (f : Nat → Int32) : (MW E q g tw a).set 14 (q 14, .inl (E.2.1 0, 5, .inl f)) = MW E q g tw (va_up a 14 f) := rfl
theorem MW_15 {E : ag} {q : Nat → Nat} {g : Nat → Int32} {tw : Int64} {a : Nat → Nat → Int32} : (MW E q g tw a)[15]? = some (q 15, .inl (E.2.1 0, 5, .inl (a 15))) := rfl
theorem MS_15 {E : ag} {q : Nat → Nat} {g : Nat → Int32} {tw : Int64} {a : Nat → Nat → Int32} (f : Nat → Int32) : (MW E q g tw a).set 15 (q 15, .inl (E.2.1 0, 5, .inl f)) = MW E q g tw (va_up a 15 f) := rfl
theorem MW_16 {E : ag} {q : Nat → Nat} {g : Nat → Int32} {tw : Int64} {a : Nat → Nat → Int32} : (MW E q g tw a)[16]? = some (q 16, .inl (E.2.1 0, 12, .inl (a 16))) := rfl
theorem MS_16 {E : ag} {q : Nat → Nat} {g : Nat → Int32} {tw : Int64} {a : Nat → Nat → Int32} (f : Nat → Int32) : (MW E q g tw a).set 16 (q 16, .inl (E.2.1 0, 12, .inl f)) = MW E q g tw (va_up a 16 f) := rfl
theorem MW_17 {E : ag} {q : Nat → Nat} {g : Nat → Int32} {tw : Int64} {a : Nat → Nat → Int32} : (MW E q g tw a)[17]? = some (q 17, .inl (E.2.1 0, 12, .inl (a 17))) := rfl
theorem MS_17 {E : ag} {q : Nat → Nat} {g : Nat → Int32} {tw : Int64} {a : Nat → Nat → Int32} (f : Nat → Int32) : (MW E q g tw a).set 17 (q 17, .inl (E.2.1 0, 12, .inl f)) = MW E q g tw (va_up a 17 f) := rfl
theorem MW_18 {E : ag} {q : Nat → Nat} {g : Nat → Int32} {tw : Int64} {a : Nat → Nat → Int32} : (MW E q g tw a)[18]? = some (q 18, .inl (E.2.1 0, 5, .inl (a 18))) := rfl
theorem MS_18 {E : ag} {q : Nat → Nat} {g : Nat → Int32} {tw : Int64} {a : Nat → Nat → Int32} (f : Nat → Int32) : (MW E q g tw a).set 18 (q 18, .inl (E.2.1 0, 5, .inl f)) = MW E q g tw (va_up a 18 f) := rfl
theorem MW_19 {E : ag} {q : Nat → Nat} {g : Nat → Int32} {tw : Int64} {a : Nat → Nat → Int32} : (MW E q g tw a)[19]? = some (q 19, .inl (E.2.1 0, 5, .inl (a 19))) := rfl
theorem MS_19 {E : ag} {q : Nat → Nat} {g : Nat → Int32} {tw : Int64} {a : Nat → Nat → Int32} (f : Nat → Int32) : (MW E q g tw a).set 19 (q 19, .inl (E.2.1 0, 5, .inl f)) = MW E q g tw (va_up a 19 f) := rfl
theorem MW_20 {E : ag} {q : Nat → Nat} {g : Nat → Int32} {tw : Int64} {a : Nat → Nat → Int32} : (MW E q g tw a)[20]? = some (q 20, .inl (E.2.1 0, 5, .inl (a 20))) := rfl
theorem MS_20 {E : ag} {q : Nat → Nat} {g : Nat → Int32} {tw : Int64} {a : Nat → Nat → Int32} (f : Nat → Int32) : (MW E q g tw a).set 20 (q 20, .inl (E.2.1 0, 5, .inl f)) = MW E q g tw (va_up a 20 f) := rfl
theorem MW_21 {E : ag} {q : Nat → Nat} {g : Nat → Int32} {tw : Int64} {a : Nat → Nat → Int32} : (MW E q g tw a)[21]? = some (q 21, .inl (E.2.1 1, 4, .inl (a 21))) := rfl
theorem MS_21 {E : ag} {q : Nat → Nat} {g : Nat → Int32} {tw : Int64} {a : Nat → Nat → Int32} (f : Nat → Int32) : (MW E q g tw a).set 21 (q 21, .inl (E.2.1 1, 4, .inl f)) = MW E q g tw (va_up a 21 f) := rfl
theorem MW_22 {E : ag} {q : Nat → Nat} {g : Nat → Int32} {tw : Int64} {a : Nat → Nat → Int32} : (MW E q g tw a)[22]? = some (q 22, .inl (E.2.1 0, 4, .inl (a 22))) := rfl
theorem MS_22 {E : ag} {q : Nat → Nat} {g : Nat → Int32} {tw : Int64} {a : Nat → Nat → Int32} (f : Nat → Int32) : (MW E q g tw a).set 22 (q 22, .inl (E.2.1 0, 4, .inl f)) = MW E q g tw (va_up a 22 f) := rfl
theorem MW_23 {E : ag} {q : Nat → Nat} {g : Nat → Int32} {tw : Int64} {a : Nat → Nat → Int32} : (MW E q g tw a)[23]? = some (q 23, .inl (E.2.1 0, 4, .inl (a 23))) := rfl
theorem MS_23 {E : ag} {q : Nat → Nat} {g : Nat → Int32} {tw : Int64} {a : Nat → Nat → Int32} (f : Nat → Int32) : (MW E q g tw a).set 23 (q 23, .inl (E.2.1 0, 4, .inl f)) = MW E q g tw (va_up a 23 f) := rfl
theorem MW_24 {E : ag} {q : Nat → Nat} {g : Nat → Int32} {tw : Int64} {a : Nat → Nat → Int32} : (MW E q g tw a)[24]? = some (q 24, .inl (E.2.1 0, 160, .inl (a 24))) := rfl
theorem MS_24 {E : ag} {q : Nat → Nat} {g : Nat → Int32} {tw : Int64} {a : Nat → Nat → Int32} (f : Nat → Int32) : (MW E q g tw a).set 24 (q 24, .inl (E.2.1 0, 160, .inl f)) = MW E q g tw (va_up a 24 f) := rfl
theorem MF_0 {q : Nat → Nat} {g : Nat → Int32} {tw : Int64} : (MF q g tw)[0]? = some (.int (g 0)) := rfl
theorem MP_0 {E : ag} {q : Nat → Nat} {g : Nat → Int32} {tw : Int64} {a : Nat → Nat → Int32} (v : Int32) : (MW E q g tw a).set 0 (q 0, .inr (6, (MF q g tw).set 0 (.int v))) = MW E q (upd g 0 v) tw a := rfl
theorem MF_1 {q : Nat → Nat} {g : Nat → Int32} {tw : Int64} : (MF q g tw)[1]? = some (.ref (q 1)) := rfl
theorem MF_2 {q : Nat → Nat} {g : Nat → Int32} {tw : Int64} : (MF q g tw)[2]? = some (.ref (q 2)) := rfl
theorem MF_3 {q : Nat → Nat} {g : Nat → Int32} {tw : Int64} : (MF q g tw)[3]? = some (.int (g 3)) := rfl
theorem MP_3 {E : ag} {q : Nat → Nat} {g : Nat → Int32} {tw : Int64} {a : Nat → Nat → Int32} (v : Int32) : (MW E q g tw a).set 0 (q 0, .inr (6, (MF q g tw).set 3 (.int v))) = MW E q (upd g 3 v) tw a := rfl
theorem MF_4 {q : Nat → Nat} {g : Nat → Int32} {tw : Int64} : (MF q g tw)[4]? = some (.int (g 4)) := rfl
theorem MP_4 {E : ag} {q : Nat → Nat} {g : Nat → Int32} {tw : Int64} {a : Nat → Nat → Int32} (v : Int32) : (MW E q g tw a).set 0 (q 0, .inr (6, (MF q g tw).set 4 (.int v))) = MW E q (upd g 4 v) tw a := rfl
theorem MF_5 {q : Nat → Nat} {g : Nat → Int32} {tw : Int64} : (MF q g tw)[5]? = some (.ref (q 3)) := rfl
theorem MF_6 {q : Nat → Nat} {g : Nat → Int32} {tw : Int64} : (MF q g tw)[6]? = some (.int (g 6)) := rfl
theorem MP_6 {E : ag} {q : Nat → Nat} {g : Nat → Int32} {tw : Int64} {a : Nat → Nat → Int32} (v : Int32) : (MW E q g tw a).set 0 (q 0, .inr (6, (MF q g tw).set 6 (.int v))) = MW E q (upd g 6 v) tw a := rfl
theorem MF_7 {q : Nat → Nat} {g : Nat → Int32} {tw : Int64} : (MF q g tw)[7]? = some (.ref (q 4)) := rfl
theorem MF_8 {q : Nat → Nat} {g : Nat → Int32} {tw : Int64} : (MF q g tw)[8]? = some (.ref (q 5)) := rfl
theorem MF_9 {q : Nat → Nat} {g : Nat → Int32} {tw : Int64} : (MF q g tw)[9]? = some (.ref (q 6)) := rfl
theorem MF_10 {q : Nat → Nat} {g : Nat → Int32} {tw : Int64} : (MF q g tw)[10]? = some (.ref (q 7)) := rfl
theorem MF_11 {q : Nat → Nat} {g : Nat → Int32} {tw : Int64} : (MF q g tw)[11]? = some (.ref (q 8)) := rfl
theorem MF_12 {q : Nat → Nat} {g : Nat → Int32} {tw : Int64} : (MF q g tw)[12]? = some (.ref (q 9)) := rfl
theorem MF_13 {q : Nat → Nat} {g : Nat → Int32} {tw : Int64} : (MF q g tw)[13]? = some (.int (g 13)) := rfl
theorem MP_13 {E : ag} {q : Nat → Nat} {g : Nat → Int32} {tw : Int64} {a : Nat → Nat → Int32} (v : Int32) : (MW E q g tw a).set 0 (q 0, .inr (6, (MF q g tw).set 13 (.int v))) = MW E q (upd g 13 v) tw a := rfl
theorem MF_14 {q : Nat → Nat} {g : Nat → Int32} {tw : Int64} : (MF q g tw)[14]? = some (.int (g 14)) := rfl
theorem MP_14 {E : ag} {q : Nat → Nat} {g : Nat → Int32} {tw : Int64} {a : Nat → Nat → Int32} (v : Int32) : (MW E q g tw a).set 0 (q 0, .inr (6, (MF q g tw).set 14 (.int v))) = MW E q (upd g 14 v) tw a := rfl
theorem MF_15 {q : Nat → Nat} {g : Nat → Int32} {tw : Int64} : (MF q g tw)[15]? = some (.int (g 15)) := rfl
theorem MP_15 {E : ag} {q : Nat → Nat} {g : Nat → Int32} {tw : Int64} {a : Nat → Nat → Int32} (v : Int32) : (MW E q g tw a).set 0 (q 0, .inr (6, (MF q g tw).set 15 (.int v))) = MW E q (upd g 15 v) tw a := rfl
theorem MF_16 {q : Nat → Nat} {g : Nat → Int32} {tw : Int64} : (MF q g tw)[16]? = some (.int (g 16)) := rfl
theorem MP_16 {E : ag} {q : Nat → Nat} {g : Nat → Int32} {tw : Int64} {a : Nat → Nat → Int32} (v : Int32) : (MW E q g tw a).set 0 (q 0, .inr (6, (MF q g tw).set 16 (.int v))) = MW E q (upd g 16 v) tw a := rfl
theorem MF_17 {q : Nat → Nat} {g : Nat → Int32} {tw : Int64} : (MF q g tw)[17]? = some (.int (g 17)) := rfl
theorem MP_17 {E : ag} {q : Nat → Nat} {g : Nat → Int32} {tw : Int64} {a : Nat → Nat → Int32} (v : Int32) : (MW E q g tw a).set 0 (q 0, .inr (6, (MF q g tw).set 17 (.int v))) = MW E q (upd g 17 v) tw a := rfl
theorem MF_18 {q : Nat → Nat} {g : Nat → Int32} {tw : Int64} : (MF q g tw)[18]? = some (.int (g 18)) := rfl
theorem MP_18 {E : ag} {q : Nat → Nat} {g : Nat → Int32} {tw : Int64} {a : Nat → Nat → Int32} (v : Int32) : (MW E q g tw a).set 0 (q 0, .inr (6, (MF q g tw).set 18 (.int v))) = MW E q (upd g 18 v) tw a := rfl
theorem MF_19 {q : Nat → Nat} {g : Nat → Int32} {tw : Int64} : (MF q g tw)[19]? = some (.int (g 19)) := rfl
theorem MP_19 {E : ag} {q : Nat → Nat} {g : Nat → Int32} {tw : Int64} {a : Nat → Nat → Int32} (v : Int32) : (MW E q g tw a).set 0 (q 0, .inr (6, (MF q g tw).set 19 (.int v))) = MW E q (upd g 19 v) tw a := rfl
theorem MF_20 {q : Nat → Nat} {g : Nat → Int32} {tw : Int64} : (MF q g tw)[20]? = some (.int (g 20)) := rfl
theorem MP_20 {E : ag} {q : Nat → Nat} {g : Nat → Int32} {tw : Int64} {a : Nat → Nat → Int32} (v : Int32) : (MW E q g tw a).set 0 (q 0, .inr (6, (MF q g tw).set 20 (.int v))) = MW E q (upd g 20 v) tw a := rfl
theorem MF_21 {q : Nat → Nat} {g : Nat → Int32} {tw : Int64} : (MF q g tw)[21]? = some (.int (g 21)) := rfl
theorem MP_21 {E : ag} {q : Nat → Nat} {g : Nat → Int32} {tw : Int64} {a : Nat → Nat → Int32} (v : Int32) : (MW E q g tw a).set 0 (q 0, .inr (6, (MF q g tw).set 21 (.int v))) = MW E q (upd g 21 v) tw a := rfl
theorem MF_22 {q : Nat → Nat} {g : Nat → Int32} {tw : Int64} : (MF q g tw)[22]? = some (.int (g 22)) := rfl
theorem MP_22 {E : ag} {q : Nat → Nat} {g : Nat → Int32} {tw : Int64} {a : Nat → Nat → Int32} (v : Int32) : (MW E q g tw a).set 0 (q 0, .inr (6, (MF q g tw).set 22 (.int v))) = MW E q (upd g 22 v) tw a := rfl
theorem MF_23 {q : Nat → Nat} {g : Nat → Int32} {tw : Int64} : (MF q g tw)[23]? = some (.int (g 23)) := rfl
theorem MP_23 {E : ag} {q : Nat → Nat} {g : Nat → Int32} {tw : Int64} {a : Nat → Nat → Int32} (v : Int32) : (MW E q g tw a).set 0 (q 0, .inr (6, (MF q g tw).set 23 (.int v))) = MW E q (upd g 23 v) tw a := rfl
theorem MF_24 {q : Nat → Nat} {g : Nat → Int32} {tw : Int64} : (MF q g tw)[24]? = some (.int (g 24)) := rfl
theorem MP_24 {E : ag} {q : Nat → Nat} {g : Nat → Int32} {tw : Int64} {a : Nat → Nat → Int32} (v : Int32) : (MW E q g tw a).set 0 (q 0, .inr (6, (MF q g tw).set 24 (.int v))) = MW E q (upd g 24 v) tw a := rfl
theorem MF_25 {q : Nat → Nat} {g : Nat → Int32} {tw : Int64} : (MF q g tw)[25]? = some (.int (g 25)) := rfl
theorem MP_25 {E : ag} {q : Nat → Nat} {g : Nat → Int32} {tw : Int64} {a : Nat → Nat → Int32} (v : Int32) : (MW E q g tw a).set 0 (q 0, .inr (6, (MF q g tw).set 25 (.int v))) = MW E q (upd g 25 v) tw a := rfl
theorem MF_26 {q : Nat → Nat} {g : Nat → Int32} {tw : Int64} : (MF q g tw)[26]? = some (.int (g 26)) := rfl
theorem MP_26 {E : ag} {q : Nat → Nat} {g : Nat → Int32} {tw : Int64} {a : Nat → Nat → Int32} (v : Int32) : (MW E q g tw a).set 0 (q 0, .inr (6, (MF q g tw).set 26 (.int v))) = MW E q (upd g 26 v) tw a := rfl
theorem MF_27 {q : Nat → Nat} {g : Nat → Int32} {tw : Int64} : (MF q g tw)[27]? = some (.int (g 27)) := rfl
theorem MP_27 {E : ag} {q : Nat → Nat} {g : Nat → Int32} {tw : Int64} {a : Nat → Nat → Int32} (v : Int32) : (MW E q g tw a).set 0 (q 0, .inr (6, (MF q g tw).set 27 (.int v))) = MW E q (upd g 27 v) tw a := rfl
theorem MF_28 {q : Nat → Nat} {g : Nat → Int32} {tw : Int64} : (MF q g tw)[28]? = some (.long tw) := rfl
theorem MP_28 {E : ag} {q : Nat → Nat} {g : Nat → Int32} {tw : Int64} {a : Nat → Nat → Int32} (v : Int64) : (MW E q g tw a).set 0 (q 0, .inr (6, (MF q g tw).set 28 (.long v))) = MW E q g v a := rfl
theorem MF_29 {q : Nat → Nat} {g : Nat → Int32} {tw : Int64} : (MF q g tw)[29]? = some (.int (g 29)) := rfl
theorem MP_29 {E : ag} {q : Nat → Nat} {g : Nat → Int32} {tw : Int64} {a : Nat → Nat → Int32} (v : Int32) : (MW E q g tw a).set 0 (q 0, .inr (6, (MF q g tw).set 29 (.int v))) = MW E q (upd g 29 v) tw a := rfl
theorem MF_30 {q : Nat → Nat} {g : Nat → Int32} {tw : Int64} : (MF q g tw)[30]? = some (.int (g 30)) := rfl
theorem MP_30 {E : ag} {q : Nat → Nat} {g : Nat → Int32} {tw : Int64} {a : Nat → Nat → Int32} (v : Int32) : (MW E q g tw a).set 0 (q 0, .inr (6, (MF q g tw).set 30 (.int v))) = MW E q (upd g 30 v) tw a := rfl
theorem MF_31 {q : Nat → Nat} {g : Nat → Int32} {tw : Int64} : (MF q g tw)[31]? = some (.int (g 31)) := rfl
theorem MP_31 {E : ag} {q : Nat → Nat} {g : Nat → Int32} {tw : Int64} {a : Nat → Nat → Int32} (v : Int32) : (MW E q g tw a).set 0 (q 0, .inr (6, (MF q g tw).set 31 (.int v))) = MW E q (upd g 31 v) tw a := rfl
theorem MF_32 {q : Nat → Nat} {g : Nat → Int32} {tw : Int64} : (MF q g tw)[32]? = some (.int (g 32)) := rfl
theorem MP_32 {E : ag} {q : Nat → Nat} {g : Nat → Int32} {tw : Int64} {a : Nat → Nat → Int32} (v : Int32) : (MW E q g tw a).set 0 (q 0, .inr (6, (MF q g tw).set 32 (.int v))) = MW E q (upd g 32 v) tw a := rfl
theorem MF_33 {q : Nat → Nat} {g : Nat → Int32} {tw : Int64} : (MF q g tw)[33]? = some (.int (g 33)) := rfl
theorem MP_33 {E : ag} {q : Nat → Nat} {g : Nat → Int32} {tw : Int64} {a : Nat → Nat → Int32} (v : Int32) : (MW E q g tw a).set 0 (q 0, .inr (6, (MF q g tw).set 33 (.int v))) = MW E q (upd g 33 v) tw a := rfl
theorem MF_34 {q : Nat → Nat} {g : Nat → Int32} {tw : Int64} : (MF q g tw)[34]? = some (.int (g 34)) := rfl
theorem MP_34 {E : ag} {q : Nat → Nat} {g : Nat → Int32} {tw : Int64} {a : Nat → Nat → Int32} (v : Int32) : (MW E q g tw a).set 0 (q 0, .inr (6, (MF q g tw).set 34 (.int v))) = MW E q (upd g 34 v) tw a := rfl
theorem MF_35 {q : Nat → Nat} {g : Nat → Int32} {tw : Int64} : (MF q g tw)[35]? = some (.int (g 35)) := rfl
theorem MP_35 {E : ag} {q : Nat → Nat} {g : Nat → Int32} {tw : Int64} {a : Nat → Nat → Int32} (v : Int32) : (MW E q g tw a).set 0 (q 0, .inr (6, (MF q g tw).set 35 (.int v))) = MW E q (upd g 35 v) tw a := rfl
theorem MF_36 {q : Nat → Nat} {g : Nat → Int32} {tw : Int64} : (MF q g tw)[36]? = some (.int (g 36)) := rfl
theorem MP_36 {E : ag} {q : Nat → Nat} {g : Nat → Int32} {tw : Int64} {a : Nat → Nat → Int32} (v : Int32) : (MW E q g tw a).set 0 (q 0, .inr (6, (MF q g tw).set 36 (.int v))) = MW E q (upd g 36 v) tw a := rfl
theorem MF_37 {q : Nat → Nat} {g : Nat → Int32} {tw : Int64} : (MF q g tw)[37]? = some (.ref (q 10)) := rfl
theorem MF_38 {q : Nat → Nat} {g : Nat → Int32} {tw : Int64} : (MF q g tw)[38]? = some (.ref (q 11)) := rfl
theorem MF_39 {q : Nat → Nat} {g : Nat → Int32} {tw : Int64} : (MF q g tw)[39]? = some (.ref (q 12)) := rfl
theorem MF_40 {q : Nat → Nat} {g : Nat → Int32} {tw : Int64} : (MF q g tw)[40]? = some (.ref (q 13)) := rfl
theorem MF_41 {q : Nat → Nat} {g : Nat → Int32} {tw : Int64} : (MF q g tw)[41]? = some (.ref (q 14)) := rfl
theorem MF_42 {q : Nat → Nat} {g : Nat → Int32} {tw : Int64} : (MF q g tw)[42]? = some (.ref (q 15)) := rfl
theorem MF_43 {q : Nat → Nat} {g : Nat → Int32} {tw : Int64} : (MF q g tw)[43]? = some (.int (g 43)) := rfl
theorem MP_43 {E : ag} {q : Nat → Nat} {g : Nat → Int32} {tw : Int64} {a : Nat → Nat → Int32} (v : Int32) : (MW E q g tw a).set 0 (q 0, .inr (6, (MF q g tw).set 43 (.int v))) = MW E q (upd g 43 v) tw a := rfl
theorem MF_44 {q : Nat → Nat} {g : Nat → Int32} {tw : Int64} : (MF q g tw)[44]? = some (.int (g 44)) := rfl
theorem MP_44 {E : ag} {q : Nat → Nat} {g : Nat → Int32} {tw : Int64} {a : Nat → Nat → Int32} (v : Int32) : (MW E q g tw a).set 0 (q 0, .inr (6, (MF q g tw).set 44 (.int v))) = MW E q (upd g 44 v) tw a := rfl
theorem MF_45 {q : Nat → Nat} {g : Nat → Int32} {tw : Int64} : (MF q g tw)[45]? = some (.int (g 45)) := rfl
theorem MP_45 {E : ag} {q : Nat → Nat} {g : Nat → Int32} {tw : Int64} {a : Nat → Nat → Int32} (v : Int32) : (MW E q g tw a).set 0 (q 0, .inr (6, (MF q g tw).set 45 (.int v))) = MW E q (upd g 45 v) tw a := rfl
theorem MF_46 {q : Nat → Nat} {g : Nat → Int32} {tw : Int64} : (MF q g tw)[46]? = some (.int (g 46)) := rfl
theorem MP_46 {E : ag} {q : Nat → Nat} {g : Nat → Int32} {tw : Int64} {a : Nat → Nat → Int32} (v : Int32) : (MW E q g tw a).set 0 (q 0, .inr (6, (MF q g tw).set 46 (.int v))) = MW E q (upd g 46 v) tw a := rfl
theorem MF_47 {q : Nat → Nat} {g : Nat → Int32} {tw : Int64} : (MF q g tw)[47]? = some (.int (g 47)) := rfl
theorem MP_47 {E : ag} {q : Nat → Nat} {g : Nat → Int32} {tw : Int64} {a : Nat → Nat → Int32} (v : Int32) : (MW E q g tw a).set 0 (q 0, .inr (6, (MF q g tw).set 47 (.int v))) = MW E q (upd g 47 v) tw a := rfl
theorem MF_48 {q : Nat → Nat} {g : Nat → Int32} {tw : Int64} : (MF q g tw)[48]? = some (.int (g 48)) := rfl
theorem MP_48 {E : ag} {q : Nat → Nat} {g : Nat → Int32} {tw : Int64} {a : Nat → Nat → Int32} (v : Int32) : (MW E q g tw a).set 0 (q 0, .inr (6, (MF q g tw).set 48 (.int v))) = MW E q (upd g 48 v) tw a := rfl
theorem MF_49 {q : Nat → Nat} {g : Nat → Int32} {tw : Int64} : (MF q g tw)[49]? = some (.int (g 49)) := rfl
theorem MP_49 {E : ag} {q : Nat → Nat} {g : Nat → Int32} {tw : Int64} {a : Nat → Nat → Int32} (v : Int32) : (MW E q g tw a).set 0 (q 0, .inr (6, (MF q g tw).set 49 (.int v))) = MW E q (upd g 49 v) tw a := rfl
theorem MF_50 {q : Nat → Nat} {g : Nat → Int32} {tw : Int64} : (MF q g tw)[50]? = some (.ref (q 16)) := rfl
theorem MF_51 {q : Nat → Nat} {g : Nat → Int32} {tw : Int64} : (MF q g tw)[51]? = some (.ref (q 17)) := rfl
theorem MF_52 {q : Nat → Nat} {g : Nat → Int32} {tw : Int64} : (MF q g tw)[52]? = some (.ref (q 18)) := rfl
theorem MF_53 {q : Nat → Nat} {g : Nat → Int32} {tw : Int64} : (MF q g tw)[53]? = some (.ref (q 19)) := rfl
theorem MF_54 {q : Nat → Nat} {g : Nat → Int32} {tw : Int64} : (MF q g tw)[54]? = some (.ref (q 20)) := rfl
theorem MF_55 {q : Nat → Nat} {g : Nat → Int32} {tw : Int64} : (MF q g tw)[55]? = some (.int (g 55)) := rfl
theorem MP_55 {E : ag} {q : Nat → Nat} {g : Nat → Int32} {tw : Int64} {a : Nat → Nat → Int32} (v : Int32) : (MW E q g tw a).set 0 (q 0, .inr (6, (MF q g tw).set 55 (.int v))) = MW E q (upd g 55 v) tw a := rfl
theorem MF_56 {q : Nat → Nat} {g : Nat → Int32} {tw : Int64} : (MF q g tw)[56]? = some (.int (g 56)) := rfl
theorem MP_56 {E : ag} {q : Nat → Nat} {g : Nat → Int32} {tw : Int64} {a : Nat → Nat → Int32} (v : Int32) : (MW E q g tw a).set 0 (q 0, .inr (6, (MF q g tw).set 56 (.int v))) = MW E q (upd g 56 v) tw a := rfl
theorem MF_57 {q : Nat → Nat} {g : Nat → Int32} {tw : Int64} : (MF q g tw)[57]? = some (.int (g 57)) := rfl
theorem MP_57 {E : ag} {q : Nat → Nat} {g : Nat → Int32} {tw : Int64} {a : Nat → Nat → Int32} (v : Int32) : (MW E q g tw a).set 0 (q 0, .inr (6, (MF q g tw).set 57 (.int v))) = MW E q (upd g 57 v) tw a := rfl
theorem MF_58 {q : Nat → Nat} {g : Nat → Int32} {tw : Int64} : (MF q g tw)[58]? = some (.int (g 58)) := rfl
theorem MP_58 {E : ag} {q : Nat → Nat} {g : Nat → Int32} {tw : Int64} {a : Nat → Nat → Int32} (v : Int32) : (MW E q g tw a).set 0 (q 0, .inr (6, (MF q g tw).set 58 (.int v))) = MW E q (upd g 58 v) tw a := rfl
theorem MF_59 {q : Nat → Nat} {g : Nat → Int32} {tw : Int64} : (MF q g tw)[59]? = some (.int (g 59)) := rfl
theorem MP_59 {E : ag} {q : Nat → Nat} {g : Nat → Int32} {tw : Int64} {a : Nat → Nat → Int32} (v : Int32) : (MW E q g tw a).set 0 (q 0, .inr (6, (MF q g tw).set 59 (.int v))) = MW E q (upd g 59 v) tw a := rfl
theorem MF_60 {q : Nat → Nat} {g : Nat → Int32} {tw : Int64} : (MF q g tw)[60]? = some (.ref (q 21)) := rfl
theorem MF_61 {q : Nat → Nat} {g : Nat → Int32} {tw : Int64} : (MF q g tw)[61]? = some (.ref (q 22)) := rfl
theorem MF_62 {q : Nat → Nat} {g : Nat → Int32} {tw : Int64} : (MF q g tw)[62]? = some (.ref (q 23)) := rfl
theorem MF_63 {q : Nat → Nat} {g : Nat → Int32} {tw : Int64} : (MF q g tw)[63]? = some (.ref (q 24)) := rfl
theorem ML_0 {q : Nat → Nat} {g : Nat → Int32} {tw : Int64} {k : Nat} (h : k < 64 := by decide) : k < (MF q g tw).length := h
theorem AW.pcq {E : ag} {M : am} {d bc bs pc : Nat} {pc2 : Nat} {ls : List (Option Value)} {st : List Value} {ws : va_W} {post : Option Value → va_W → Prop} (h : pc = pc2) (k : AW E M d bc bs pc2 ls st ws post) : AW E M d bc bs pc ls st ws post := h ▸ k
