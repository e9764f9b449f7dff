theorem upd_self {f : Nat → Int32} {k : Nat} {x : Int32} (h : f k = x) : upd f k x = f := by funext j; simp only [upd]; split <;> simp_all
theorem nxg_eq {g h : Nat → Int32} {x y z : Int32} (h25 : h 25 = x) (h26 : h 26 = y) (h27 : h 27 = z) (hk : ∀ k, k ≠ 25 → k ≠ 26 → k ≠ 27 → h k = g k) : h = upd (upd (upd g 25 x) 26 y) 27 z := by
  funext k
  simp only [upd]
  split
  · rename_i e; rw [e]; exact h27
  · split
    · rename_i e; rw [e]; exact h26
    · split
      · rename_i e; rw [e]; exact h25
      · exact hk k (by assumption) (by assumption) (by assumption)
section
variable {B : Nat → Int32} {j : Nat} {tw : Int64}
theorem nx_end (h : B (lst B j) < 0) : mkd B j = 0 ∧ men B j = lst B j ∧ mtw B tw j = tw := by simp [mkd, men, mtw, h]
theorem nx_word (h0 : ¬ B (lst B j) < 0) (h : ¬ inI (B (lst B j)) 97 122 = 0) : mkd B j = 1 ∧ men B j = wdp B 161 (lst B j) ∧ mtw B tw j = tw := by simp [mkd, men, mtw, h0, h]
theorem nx_num (h0 : ¬ B (lst B j) < 0) (h1 : inI (B (lst B j)) 97 122 = 0) (h : ¬ inI (B (lst B j)) 48 57 = 0) : mkd B j = (if 4 < dgp B 161 (lst B j) - lst B j then 4 else 2) ∧ men B j = dgp B 161 (lst B j) ∧ mtw B tw j = dv64 B (lst B j) (dgp B 161 (lst B j) - lst B j) := by simp [mkd, men, mtw, h0, h1, h]
theorem nx_sign (h0 : ¬ B (lst B j) < 0) (h1 : inI (B (lst B j)) 97 122 = 0) (h2 : inI (B (lst B j)) 48 57 = 0) (h : isSg (B (lst B j))) : mkd B j = 3 ∧ men B j = lst B j + 1 ∧ mtw B tw j = (B (lst B j)).toInt64 := by
  simp only [mkd, men, mtw, h0, h1, h2, if_pos h]
  simp
theorem nx_wrong (h0 : ¬ B (lst B j) < 0) (h1 : inI (B (lst B j)) 97 122 = 0) (h2 : inI (B (lst B j)) 48 57 = 0) (h : ¬ isSg (B (lst B j))) : mkd B j = 4 ∧ men B j = lst B j ∧ mtw B tw j = tw := by
  simp only [mkd, men, mtw, h0, h1, h2, if_neg h]
  simp
end
set_option maxRecDepth 100000 in
set_option maxHeartbeats 400000 in
theorem m_nx39 (E : ag) (q : Nat → Nat) (g : Nat → Int32) (tw : Int64) (a : Nat → Nat → Int32) (fr n : Nat) (B : Nat → Int32) (hT : TXC g a fr n B) (j : Nat) (hs : lst B j ≤ n) : AW E mX6_next 3 0 0 39 [some (.ref (q 0)), none, none] [] (MW E q (upd g 25 (nI (lst B j))) tw a) (rv (fun w => w = MW E q (nxg B g j) (mtw B tw j) a)) := by
  refine A_aload_n (dX6_next 19 rfl) rfl ?_
  refine A_aload_n (dX6_next 20 rfl) rfl ?_
  refine A_get (dX6_next 21 rfl) fwX6_171 MW_0 MF_25 ?_
  refine A_put (dX6_next 22 rfl) fwX6_177 fcX6 ftX6_27 MW_0 rfl rfl ML_0 (MP_27 _) ?_
  refine A_aload_n (dX6_next 23 rfl) rfl ?_
  refine A_aload_n (dX6_next 24 rfl) rfl ?_
  refine A_get (dX6_next 25 rfl) fwX6_171 MW_0 MF_25 ?_
  refine A_callVWi 1 (dX6_next 26 rfl) cbX6_byteAt cwX6_174 (m_byteAt E q (upd (upd g 25 (nI (lst B j))) 27 (nI (lst B j))) tw a fr n (lst B j) B (TXC.put (TXC.put hT 25 (by decide) (by decide)) 27 (by decide) (by decide)) hs) rfl rfl MW_0 rfl rfl (Nat.le_of_ble_eq_true rfl) (Nat.le_of_ble_eq_true rfl) (Nat.le_of_ble_eq_true rfl) (Nat.le_of_ble_eq_true rfl) (Nat.le_of_ble_eq_true rfl) ?_
  rintro r52 w1 ⟨rfl, rfl⟩
  refine AW.pcq (pc2 := 55) rfl ?_
  refine A_istore_n (ls2 := [_, _, _]) (dX6_next 27 rfl) (by decide) rfl rfl ?_
  refine A_aload_n (dX6_next 28 rfl) rfl ?_
  refine A_iconst (4) (dX6_next 29 rfl) (by decide +kernel) ?_
  refine A_put (dX6_next 30 rfl) fwX6_180 fcX6 ftX6_26 MW_0 rfl rfl ML_0 (MP_26 _) ?_
  refine A_iload_n (dX6_next 31 rfl) rfl ?_
  refine A_if_ge 81 (dX6_next 32 rfl) (by decide) (fun h62 => ?_) (fun h62 => ?_)
  · have g0 : ¬ B (lst B j) < 0 := nlt_ge h62
    refine A_iload_n (dX6_next 41 rfl) rfl ?_
    refine A_i2l (dX6_next 42 rfl) ?_
    refine A_ldc2 (dX6_next 43 rfl) kcX6_183 ?_
    refine A_ldc2 (dX6_next 44 rfl) kcX6_185 ?_
    refine A_callSWi 3 (dX6_next 45 rfl) cbX6_in cwX6_103 (m_in E _ (B (lst B j)) 97 122 _ _ _ rfl (by decide) (by decide)) rfl rfl (Nat.le_of_ble_eq_true rfl) (Nat.le_of_ble_eq_true rfl) (Nat.le_of_ble_eq_true rfl) (Nat.le_of_ble_eq_true rfl) (Nat.le_of_ble_eq_true rfl) ?_
    rintro r89 w1 ⟨rfl, rfl⟩
    refine AW.pcq (pc2 := 92) rfl ?_
    refine A_if_eq 134 (dX6_next 46 rfl) (by decide) (fun h92 => ?_) (fun h92 => ?_)
    · refine A_iload_n (dX6_next 66 rfl) rfl ?_
      refine A_i2l (dX6_next 67 rfl) ?_
      refine A_ldc2 (dX6_next 68 rfl) kcX6_187 ?_
      refine A_ldc2 (dX6_next 69 rfl) kcX6_189 ?_
      refine A_callSWi 3 (dX6_next 70 rfl) cbX6_in cwX6_103 (m_in E _ (B (lst B j)) 48 57 _ _ _ rfl (by decide) (by decide)) rfl rfl (Nat.le_of_ble_eq_true rfl) (Nat.le_of_ble_eq_true rfl) (Nat.le_of_ble_eq_true rfl) (Nat.le_of_ble_eq_true rfl) (Nat.le_of_ble_eq_true rfl) ?_
      rintro r142 w1 ⟨rfl, rfl⟩
      refine AW.pcq (pc2 := 145) rfl ?_
      refine A_if_eq 252 (dX6_next 71 rfl) (by decide) (fun h145 => ?_) (fun h145 => ?_)
      · refine A_iload_n (dX6_next 126 rfl) rfl ?_
        refine A_bipush (40) (dX6_next 127 rfl) (by decide +kernel) ?_
        refine A_icmp_eq 300 (dX6_next 128 rfl) (by decide) (fun h255 => ?_) (fun h255 => ?_)
        · refine A_aload_n (dX6_next 150 rfl) rfl ?_
          refine A_iconst (3) (dX6_next 151 rfl) (by decide +kernel) ?_
          refine A_put (dX6_next 152 rfl) fwX6_180 fcX6 ftX6_26 MW_0 rfl rfl ML_0 (MP_26 _) ?_
          refine A_aload_n (dX6_next 153 rfl) rfl ?_
          refine A_iload_n (dX6_next 154 rfl) rfl ?_
          refine A_i2l (dX6_next 155 rfl) ?_
          refine A_put (dX6_next 156 rfl) fwX6_191 fcX6 ftX6_28 MW_0 rfl rfl ML_0 (MP_28 _) ?_
          refine A_aload_n (dX6_next 157 rfl) rfl ?_
          refine AW.pcq (pc2 := 312) rfl ?_
          refine A_dup (dX6_next 158 rfl) rfl ?_
          refine A_get (dX6_next 159 rfl) fwX6_171 MW_0 MF_25 ?_
          refine A_iconst (1) (dX6_next 160 rfl) (by decide +kernel) ?_
          refine A_iadd (dX6_next 161 rfl) ?_
          refine AW.stack (st2 := [.int (nI (lst B j + 1)), .ref (q 0)]) (by show [Value.int (nI (lst B j) + 1), _] = _; rw [nI_1]) ?_
          refine A_put (dX6_next 162 rfl) fwX6_171 fcX6 ftX6_25 MW_0 rfl rfl ML_0 (MP_25 _) ?_
          refine A_rv (dX6_next 163 rfl) rfl ?_
          first
            | (obtain ⟨e1, e2, e3⟩ := nx_end (tw := tw) g0; unfold nxg; rw [e1, e2, e3]; exact congrArg (fun h => MW E q h _ a) (nxg_eq rfl rfl rfl (fun k z1 z2 z3 => by simp only [upd]; simp [z1, z2, z3])))
            | (obtain ⟨e1, e2, e3⟩ := nx_sign (tw := tw) g0 h92 h145 (by simp_all [isSg]); unfold nxg; rw [e1, e2, e3]; exact congrArg (fun h => MW E q h _ a) (nxg_eq rfl rfl rfl (fun k z1 z2 z3 => by simp only [upd]; simp [z1, z2, z3])))
            | (obtain ⟨e1, e2, e3⟩ := nx_wrong (tw := tw) g0 h92 h145 (by simp_all [isSg]); unfold nxg; rw [e1, e2, e3]; exact congrArg (fun h => MW E q h _ a) (nxg_eq rfl rfl rfl (fun k z1 z2 z3 => by simp only [upd]; simp [z1, z2, z3])))
        · refine A_iload_n (dX6_next 129 rfl) rfl ?_
          refine A_bipush (41) (dX6_next 130 rfl) (by decide +kernel) ?_
          refine A_icmp_eq 300 (dX6_next 131 rfl) (by decide) (fun h261 => ?_) (fun h261 => ?_)
          · refine A_aload_n (dX6_next 150 rfl) rfl ?_
            refine A_iconst (3) (dX6_next 151 rfl) (by decide +kernel) ?_
            refine A_put (dX6_next 152 rfl) fwX6_180 fcX6 ftX6_26 MW_0 rfl rfl ML_0 (MP_26 _) ?_
            refine A_aload_n (dX6_next 153 rfl) rfl ?_
            refine A_iload_n (dX6_next 154 rfl) rfl ?_
            refine A_i2l (dX6_next 155 rfl) ?_
            refine A_put (dX6_next 156 rfl) fwX6_191 fcX6 ftX6_28 MW_0 rfl rfl ML_0 (MP_28 _) ?_
            refine A_aload_n (dX6_next 157 rfl) rfl ?_
            refine AW.pcq (pc2 := 312) rfl ?_
            refine A_dup (dX6_next 158 rfl) rfl ?_
            refine A_get (dX6_next 159 rfl) fwX6_171 MW_0 MF_25 ?_
            refine A_iconst (1) (dX6_next 160 rfl) (by decide +kernel) ?_
            refine A_iadd (dX6_next 161 rfl) ?_
            refine AW.stack (st2 := [.int (nI (lst B j + 1)), .ref (q 0)]) (by show [Value.int (nI (lst B j) + 1), _] = _; rw [nI_1]) ?_
            refine A_put (dX6_next 162 rfl) fwX6_171 fcX6 ftX6_25 MW_0 rfl rfl ML_0 (MP_25 _) ?_
            refine A_rv (dX6_next 163 rfl) rfl ?_
            first
              | (obtain ⟨e1, e2, e3⟩ := nx_end (tw := tw) g0; unfold nxg; rw [e1, e2, e3]; exact congrArg (fun h => MW E q h _ a) (nxg_eq rfl rfl rfl (fun k z1 z2 z3 => by simp only [upd]; simp [z1, z2, z3])))
              | (obtain ⟨e1, e2, e3⟩ := nx_sign (tw := tw) g0 h92 h145 (by simp_all [isSg]); unfold nxg; rw [e1, e2, e3]; exact congrArg (fun h => MW E q h _ a) (nxg_eq rfl rfl rfl (fun k z1 z2 z3 => by simp only [upd]; simp [z1, z2, z3])))
              | (obtain ⟨e1, e2, e3⟩ := nx_wrong (tw := tw) g0 h92 h145 (by simp_all [isSg]); unfold nxg; rw [e1, e2, e3]; exact congrArg (fun h => MW E q h _ a) (nxg_eq rfl rfl rfl (fun k z1 z2 z3 => by simp only [upd]; simp [z1, z2, z3])))
          · refine A_iload_n (dX6_next 132 rfl) rfl ?_
            refine A_bipush (59) (dX6_next 133 rfl) (by decide +kernel) ?_
            refine A_icmp_eq 300 (dX6_next 134 rfl) (by decide) (fun h267 => ?_) (fun h267 => ?_)
            · refine A_aload_n (dX6_next 150 rfl) rfl ?_
              refine A_iconst (3) (dX6_next 151 rfl) (by decide +kernel) ?_
              refine A_put (dX6_next 152 rfl) fwX6_180 fcX6 ftX6_26 MW_0 rfl rfl ML_0 (MP_26 _) ?_
              refine A_aload_n (dX6_next 153 rfl) rfl ?_
              refine A_iload_n (dX6_next 154 rfl) rfl ?_
              refine A_i2l (dX6_next 155 rfl) ?_
              refine A_put (dX6_next 156 rfl) fwX6_191 fcX6 ftX6_28 MW_0 rfl rfl ML_0 (MP_28 _) ?_
              refine A_aload_n (dX6_next 157 rfl) rfl ?_
              refine AW.pcq (pc2 := 312) rfl ?_
              refine A_dup (dX6_next 158 rfl) rfl ?_
              refine A_get (dX6_next 159 rfl) fwX6_171 MW_0 MF_25 ?_
              refine A_iconst (1) (dX6_next 160 rfl) (by decide +kernel) ?_
              refine A_iadd (dX6_next 161 rfl) ?_
              refine AW.stack (st2 := [.int (nI (lst B j + 1)), .ref (q 0)]) (by show [Value.int (nI (lst B j) + 1), _] = _; rw [nI_1]) ?_
              refine A_put (dX6_next 162 rfl) fwX6_171 fcX6 ftX6_25 MW_0 rfl rfl ML_0 (MP_25 _) ?_
              refine A_rv (dX6_next 163 rfl) rfl ?_
              first
                | (obtain ⟨e1, e2, e3⟩ := nx_end (tw := tw) g0; unfold nxg; rw [e1, e2, e3]; exact congrArg (fun h => MW E q h _ a) (nxg_eq rfl rfl rfl (fun k z1 z2 z3 => by simp only [upd]; simp [z1, z2, z3])))
                | (obtain ⟨e1, e2, e3⟩ := nx_sign (tw := tw) g0 h92 h145 (by simp_all [isSg]); unfold nxg; rw [e1, e2, e3]; exact congrArg (fun h => MW E q h _ a) (nxg_eq rfl rfl rfl (fun k z1 z2 z3 => by simp only [upd]; simp [z1, z2, z3])))
                | (obtain ⟨e1, e2, e3⟩ := nx_wrong (tw := tw) g0 h92 h145 (by simp_all [isSg]); unfold nxg; rw [e1, e2, e3]; exact congrArg (fun h => MW E q h _ a) (nxg_eq rfl rfl rfl (fun k z1 z2 z3 => by simp only [upd]; simp [z1, z2, z3])))
            · refine A_iload_n (dX6_next 135 rfl) rfl ?_
              refine A_bipush (43) (dX6_next 136 rfl) (by decide +kernel) ?_
              refine A_icmp_eq 300 (dX6_next 137 rfl) (by decide) (fun h273 => ?_) (fun h273 => ?_)
              · refine A_aload_n (dX6_next 150 rfl) rfl ?_
                refine A_iconst (3) (dX6_next 151 rfl) (by decide +kernel) ?_
                refine A_put (dX6_next 152 rfl) fwX6_180 fcX6 ftX6_26 MW_0 rfl rfl ML_0 (MP_26 _) ?_
                refine A_aload_n (dX6_next 153 rfl) rfl ?_
                refine A_iload_n (dX6_next 154 rfl) rfl ?_
                refine A_i2l (dX6_next 155 rfl) ?_
                refine A_put (dX6_next 156 rfl) fwX6_191 fcX6 ftX6_28 MW_0 rfl rfl ML_0 (MP_28 _) ?_
                refine A_aload_n (dX6_next 157 rfl) rfl ?_
                refine AW.pcq (pc2 := 312) rfl ?_
                refine A_dup (dX6_next 158 rfl) rfl ?_
                refine A_get (dX6_next 159 rfl) fwX6_171 MW_0 MF_25 ?_
                refine A_iconst (1) (dX6_next 160 rfl) (by decide +kernel) ?_
                refine A_iadd (dX6_next 161 rfl) ?_
                refine AW.stack (st2 := [.int (nI (lst B j + 1)), .ref (q 0)]) (by show [Value.int (nI (lst B j) + 1), _] = _; rw [nI_1]) ?_
                refine A_put (dX6_next 162 rfl) fwX6_171 fcX6 ftX6_25 MW_0 rfl rfl ML_0 (MP_25 _) ?_
                refine A_rv (dX6_next 163 rfl) rfl ?_
                first
                  | (obtain ⟨e1, e2, e3⟩ := nx_end (tw := tw) g0; unfold nxg; rw [e1, e2, e3]; exact congrArg (fun h => MW E q h _ a) (nxg_eq rfl rfl rfl (fun k z1 z2 z3 => by simp only [upd]; simp [z1, z2, z3])))
                  | (obtain ⟨e1, e2, e3⟩ := nx_sign (tw := tw) g0 h92 h145 (by simp_all [isSg]); unfold nxg; rw [e1, e2, e3]; exact congrArg (fun h => MW E q h _ a) (nxg_eq rfl rfl rfl (fun k z1 z2 z3 => by simp only [upd]; simp [z1, z2, z3])))
                  | (obtain ⟨e1, e2, e3⟩ := nx_wrong (tw := tw) g0 h92 h145 (by simp_all [isSg]); unfold nxg; rw [e1, e2, e3]; exact congrArg (fun h => MW E q h _ a) (nxg_eq rfl rfl rfl (fun k z1 z2 z3 => by simp only [upd]; simp [z1, z2, z3])))
              · refine A_iload_n (dX6_next 138 rfl) rfl ?_
                refine A_bipush (45) (dX6_next 139 rfl) (by decide +kernel) ?_
                refine A_icmp_eq 300 (dX6_next 140 rfl) (by decide) (fun h279 => ?_) (fun h279 => ?_)
                · refine A_aload_n (dX6_next 150 rfl) rfl ?_
                  refine A_iconst (3) (dX6_next 151 rfl) (by decide +kernel) ?_
                  refine A_put (dX6_next 152 rfl) fwX6_180 fcX6 ftX6_26 MW_0 rfl rfl ML_0 (MP_26 _) ?_
                  refine A_aload_n (dX6_next 153 rfl) rfl ?_
                  refine A_iload_n (dX6_next 154 rfl) rfl ?_
                  refine A_i2l (dX6_next 155 rfl) ?_
                  refine A_put (dX6_next 156 rfl) fwX6_191 fcX6 ftX6_28 MW_0 rfl rfl ML_0 (MP_28 _) ?_
                  refine A_aload_n (dX6_next 157 rfl) rfl ?_
                  refine AW.pcq (pc2 := 312) rfl ?_
                  refine A_dup (dX6_next 158 rfl) rfl ?_
                  refine A_get (dX6_next 159 rfl) fwX6_171 MW_0 MF_25 ?_
                  refine A_iconst (1) (dX6_next 160 rfl) (by decide +kernel) ?_
                  refine A_iadd (dX6_next 161 rfl) ?_
                  refine AW.stack (st2 := [.int (nI (lst B j + 1)), .ref (q 0)]) (by show [Value.int (nI (lst B j) + 1), _] = _; rw [nI_1]) ?_
                  refine A_put (dX6_next 162 rfl) fwX6_171 fcX6 ftX6_25 MW_0 rfl rfl ML_0 (MP_25 _) ?_
                  refine A_rv (dX6_next 163 rfl) rfl ?_
                  first
                    | (obtain ⟨e1, e2, e3⟩ := nx_end (tw := tw) g0; unfold nxg; rw [e1, e2, e3]; exact congrArg (fun h => MW E q h _ a) (nxg_eq rfl rfl rfl (fun k z1 z2 z3 => by simp only [upd]; simp [z1, z2, z3])))
                    | (obtain ⟨e1, e2, e3⟩ := nx_sign (tw := tw) g0 h92 h145 (by simp_all [isSg]); unfold nxg; rw [e1, e2, e3]; exact congrArg (fun h => MW E q h _ a) (nxg_eq rfl rfl rfl (fun k z1 z2 z3 => by simp only [upd]; simp [z1, z2, z3])))
                    | (obtain ⟨e1, e2, e3⟩ := nx_wrong (tw := tw) g0 h92 h145 (by simp_all [isSg]); unfold nxg; rw [e1, e2, e3]; exact congrArg (fun h => MW E q h _ a) (nxg_eq rfl rfl rfl (fun k z1 z2 z3 => by simp only [upd]; simp [z1, z2, z3])))
                · refine A_iload_n (dX6_next 141 rfl) rfl ?_
                  refine A_bipush (42) (dX6_next 142 rfl) (by decide +kernel) ?_
                  refine A_icmp_eq 300 (dX6_next 143 rfl) (by decide) (fun h285 => ?_) (fun h285 => ?_)
                  · refine A_aload_n (dX6_next 150 rfl) rfl ?_
                    refine A_iconst (3) (dX6_next 151 rfl) (by decide +kernel) ?_
                    refine A_put (dX6_next 152 rfl) fwX6_180 fcX6 ftX6_26 MW_0 rfl rfl ML_0 (MP_26 _) ?_
                    refine A_aload_n (dX6_next 153 rfl) rfl ?_
                    refine A_iload_n (dX6_next 154 rfl) rfl ?_
                    refine A_i2l (dX6_next 155 rfl) ?_
                    refine A_put (dX6_next 156 rfl) fwX6_191 fcX6 ftX6_28 MW_0 rfl rfl ML_0 (MP_28 _) ?_
                    refine A_aload_n (dX6_next 157 rfl) rfl ?_
                    refine AW.pcq (pc2 := 312) rfl ?_
                    refine A_dup (dX6_next 158 rfl) rfl ?_
                    refine A_get (dX6_next 159 rfl) fwX6_171 MW_0 MF_25 ?_
                    refine A_iconst (1) (dX6_next 160 rfl) (by decide +kernel) ?_
                    refine A_iadd (dX6_next 161 rfl) ?_
                    refine AW.stack (st2 := [.int (nI (lst B j + 1)), .ref (q 0)]) (by show [Value.int (nI (lst B j) + 1), _] = _; rw [nI_1]) ?_
                    refine A_put (dX6_next 162 rfl) fwX6_171 fcX6 ftX6_25 MW_0 rfl rfl ML_0 (MP_25 _) ?_
                    refine A_rv (dX6_next 163 rfl) rfl ?_
                    first
                      | (obtain ⟨e1, e2, e3⟩ := nx_end (tw := tw) g0; unfold nxg; rw [e1, e2, e3]; exact congrArg (fun h => MW E q h _ a) (nxg_eq rfl rfl rfl (fun k z1 z2 z3 => by simp only [upd]; simp [z1, z2, z3])))
                      | (obtain ⟨e1, e2, e3⟩ := nx_sign (tw := tw) g0 h92 h145 (by simp_all [isSg]); unfold nxg; rw [e1, e2, e3]; exact congrArg (fun h => MW E q h _ a) (nxg_eq rfl rfl rfl (fun k z1 z2 z3 => by simp only [upd]; simp [z1, z2, z3])))
                      | (obtain ⟨e1, e2, e3⟩ := nx_wrong (tw := tw) g0 h92 h145 (by simp_all [isSg]); unfold nxg; rw [e1, e2, e3]; exact congrArg (fun h => MW E q h _ a) (nxg_eq rfl rfl rfl (fun k z1 z2 z3 => by simp only [upd]; simp [z1, z2, z3])))
                  · refine A_iload_n (dX6_next 144 rfl) rfl ?_
                    refine A_bipush (60) (dX6_next 145 rfl) (by decide +kernel) ?_
                    refine A_icmp_eq 300 (dX6_next 146 rfl) (by decide) (fun h291 => ?_) (fun h291 => ?_)
                    · refine A_aload_n (dX6_next 150 rfl) rfl ?_
                      refine A_iconst (3) (dX6_next 151 rfl) (by decide +kernel) ?_
                      refine A_put (dX6_next 152 rfl) fwX6_180 fcX6 ftX6_26 MW_0 rfl rfl ML_0 (MP_26 _) ?_
                      refine A_aload_n (dX6_next 153 rfl) rfl ?_
                      refine A_iload_n (dX6_next 154 rfl) rfl ?_
                      refine A_i2l (dX6_next 155 rfl) ?_
                      refine A_put (dX6_next 156 rfl) fwX6_191 fcX6 ftX6_28 MW_0 rfl rfl ML_0 (MP_28 _) ?_
                      refine A_aload_n (dX6_next 157 rfl) rfl ?_
                      refine AW.pcq (pc2 := 312) rfl ?_
                      refine A_dup (dX6_next 158 rfl) rfl ?_
                      refine A_get (dX6_next 159 rfl) fwX6_171 MW_0 MF_25 ?_
                      refine A_iconst (1) (dX6_next 160 rfl) (by decide +kernel) ?_
                      refine A_iadd (dX6_next 161 rfl) ?_
                      refine AW.stack (st2 := [.int (nI (lst B j + 1)), .ref (q 0)]) (by show [Value.int (nI (lst B j) + 1), _] = _; rw [nI_1]) ?_
                      refine A_put (dX6_next 162 rfl) fwX6_171 fcX6 ftX6_25 MW_0 rfl rfl ML_0 (MP_25 _) ?_
                      refine A_rv (dX6_next 163 rfl) rfl ?_
                      first
                        | (obtain ⟨e1, e2, e3⟩ := nx_end (tw := tw) g0; unfold nxg; rw [e1, e2, e3]; exact congrArg (fun h => MW E q h _ a) (nxg_eq rfl rfl rfl (fun k z1 z2 z3 => by simp only [upd]; simp [z1, z2, z3])))
                        | (obtain ⟨e1, e2, e3⟩ := nx_sign (tw := tw) g0 h92 h145 (by simp_all [isSg]); unfold nxg; rw [e1, e2, e3]; exact congrArg (fun h => MW E q h _ a) (nxg_eq rfl rfl rfl (fun k z1 z2 z3 => by simp only [upd]; simp [z1, z2, z3])))
                        | (obtain ⟨e1, e2, e3⟩ := nx_wrong (tw := tw) g0 h92 h145 (by simp_all [isSg]); unfold nxg; rw [e1, e2, e3]; exact congrArg (fun h => MW E q h _ a) (nxg_eq rfl rfl rfl (fun k z1 z2 z3 => by simp only [upd]; simp [z1, z2, z3])))
                    · refine A_iload_n (dX6_next 147 rfl) rfl ?_
                      refine A_bipush (61) (dX6_next 148 rfl) (by decide +kernel) ?_
                      refine A_icmp_ne 321 (dX6_next 149 rfl) (by decide) (fun h297 => ?_) (fun h297 => ?_)
                      · refine A_rv (dX6_next 163 rfl) rfl ?_
                        first
                          | (obtain ⟨e1, e2, e3⟩ := nx_end (tw := tw) g0; unfold nxg; rw [e1, e2, e3]; exact congrArg (fun h => MW E q h _ a) (nxg_eq rfl rfl rfl (fun k z1 z2 z3 => by simp only [upd]; simp [z1, z2, z3])))
                          | (obtain ⟨e1, e2, e3⟩ := nx_sign (tw := tw) g0 h92 h145 (by simp_all [isSg]); unfold nxg; rw [e1, e2, e3]; exact congrArg (fun h => MW E q h _ a) (nxg_eq rfl rfl rfl (fun k z1 z2 z3 => by simp only [upd]; simp [z1, z2, z3])))
                          | (obtain ⟨e1, e2, e3⟩ := nx_wrong (tw := tw) g0 h92 h145 (by simp_all [isSg]); unfold nxg; rw [e1, e2, e3]; exact congrArg (fun h => MW E q h _ a) (nxg_eq rfl rfl rfl (fun k z1 z2 z3 => by simp only [upd]; simp [z1, z2, z3])))
                      · refine A_aload_n (dX6_next 150 rfl) rfl ?_
                        refine A_iconst (3) (dX6_next 151 rfl) (by decide +kernel) ?_
                        refine A_put (dX6_next 152 rfl) fwX6_180 fcX6 ftX6_26 MW_0 rfl rfl ML_0 (MP_26 _) ?_
                        refine A_aload_n (dX6_next 153 rfl) rfl ?_
                        refine A_iload_n (dX6_next 154 rfl) rfl ?_
                        refine A_i2l (dX6_next 155 rfl) ?_
                        refine A_put (dX6_next 156 rfl) fwX6_191 fcX6 ftX6_28 MW_0 rfl rfl ML_0 (MP_28 _) ?_
                        refine A_aload_n (dX6_next 157 rfl) rfl ?_
                        refine AW.pcq (pc2 := 312) rfl ?_
                        refine A_dup (dX6_next 158 rfl) rfl ?_
                        refine A_get (dX6_next 159 rfl) fwX6_171 MW_0 MF_25 ?_
                        refine A_iconst (1) (dX6_next 160 rfl) (by decide +kernel) ?_
                        refine A_iadd (dX6_next 161 rfl) ?_
                        refine AW.stack (st2 := [.int (nI (lst B j + 1)), .ref (q 0)]) (by show [Value.int (nI (lst B j) + 1), _] = _; rw [nI_1]) ?_
                        refine A_put (dX6_next 162 rfl) fwX6_171 fcX6 ftX6_25 MW_0 rfl rfl ML_0 (MP_25 _) ?_
                        refine A_rv (dX6_next 163 rfl) rfl ?_
                        first
                          | (obtain ⟨e1, e2, e3⟩ := nx_end (tw := tw) g0; unfold nxg; rw [e1, e2, e3]; exact congrArg (fun h => MW E q h _ a) (nxg_eq rfl rfl rfl (fun k z1 z2 z3 => by simp only [upd]; simp [z1, z2, z3])))
                          | (obtain ⟨e1, e2, e3⟩ := nx_sign (tw := tw) g0 h92 h145 (by simp_all [isSg]); unfold nxg; rw [e1, e2, e3]; exact congrArg (fun h => MW E q h _ a) (nxg_eq rfl rfl rfl (fun k z1 z2 z3 => by simp only [upd]; simp [z1, z2, z3])))
                          | (obtain ⟨e1, e2, e3⟩ := nx_wrong (tw := tw) g0 h92 h145 (by simp_all [isSg]); unfold nxg; rw [e1, e2, e3]; exact congrArg (fun h => MW E q h _ a) (nxg_eq rfl rfl rfl (fun k z1 z2 z3 => by simp only [upd]; simp [z1, z2, z3])))
      · refine A_aload_n (dX6_next 72 rfl) rfl ?_
        refine A_iconst (2) (dX6_next 73 rfl) (by decide +kernel) ?_
        refine A_put (dX6_next 74 rfl) fwX6_180 fcX6 ftX6_26 MW_0 rfl rfl ML_0 (MP_26 _) ?_
        refine A_aload_n (dX6_next 75 rfl) rfl ?_
        refine A_lconst (0) (dX6_next 76 rfl) (by decide +kernel) ?_
        refine A_put (dX6_next 77 rfl) fwX6_191 fcX6 ftX6_28 MW_0 rfl rfl ML_0 (MP_28 _) ?_
        refine A_iconst (0) (dX6_next 78 rfl) (by decide +kernel) ?_
        refine A_istore_n (ls2 := [_, _, _]) (dX6_next 79 rfl) (by decide) rfl rfl ?_
        have h9 := m_nxD E q (upd (upd (upd (upd g 25 (nI (lst B j))) 27 (nI (lst B j))) 26 4) 26 2) tw a fr n B (TXC.put (TXC.put (TXC.put (TXC.put hT 25 (by decide) (by decide)) 27 (by decide) (by decide)) 26 (by decide) (by decide)) 26 (by decide) (by decide)) (B (lst B j)) (lst B j) 161 0 hs (by have := hT.2.2.2.1; omega)
        simp only [Nat.add_zero, dv64] at h9
        refine AW.world (ws2 := MW E q (upd (upd (upd (upd (upd g 25 (nI (lst B j))) 27 (nI (lst B j))) 26 4) 26 2) 25 (nI (lst B j))) 0 a) (congrArg (fun h => MW E q h 0 a) (upd_self rfl).symm) ?_
        refine AW.mono h9 (fun v w h => ?_)
        obtain ⟨h1, rfl⟩ := h
        refine ⟨h1, ?_⟩
        obtain ⟨e1, e2, e3⟩ := nx_num (tw := tw) g0 h92 h145
        unfold nxg
        rw [e1, e2, e3]
        exact congrArg (fun h => MW E q h _ a) (nxg_eq rfl rfl rfl (fun k z1 z2 z3 => by simp only [upd]; simp [z1, z2, z3]))
    · refine A_aload_n (dX6_next 47 rfl) rfl ?_
      refine A_iconst (1) (dX6_next 48 rfl) (by decide +kernel) ?_
      refine A_put (dX6_next 49 rfl) fwX6_180 fcX6 ftX6_26 MW_0 rfl rfl ML_0 (MP_26 _) ?_
      have h9 := m_nxL E q (upd (upd (upd (upd g 25 (nI (lst B j))) 27 (nI (lst B j))) 26 4) 26 1) tw a fr n B (TXC.put (TXC.put (TXC.put (TXC.put hT 25 (by decide) (by decide)) 27 (by decide) (by decide)) 26 (by decide) (by decide)) 26 (by decide) (by decide)) (B (lst B j)) 161 (lst B j) hs (by have := hT.2.2.2.1; omega)
      refine AW.world (ws2 := MW E q (upd (upd (upd (upd (upd g 25 (nI (lst B j))) 27 (nI (lst B j))) 26 4) 26 1) 25 (nI (lst B j))) tw a) (congrArg (fun h => MW E q h tw a) (upd_self rfl).symm) ?_
      refine AW.mono h9 (fun v w h => ?_)
      obtain ⟨h1, rfl⟩ := h
      refine ⟨h1, ?_⟩
      obtain ⟨e1, e2, e3⟩ := nx_word (tw := tw) g0 h92
      unfold nxg
      rw [e1, e2, e3]
      exact congrArg (fun h => MW E q h _ a) (nxg_eq rfl rfl rfl (fun k z1 z2 z3 => by simp only [upd]; simp [z1, z2, z3]))
  · have g0 : B (lst B j) < 0 := lt_nge h62
    have hsn : lst B j = n := by
      rcases Nat.lt_or_ge (lst B j) n with z | z
      · exact absurd g0 (hT.2.2.2.2.2.2 _ z)
      · omega
    refine A_aload_n (dX6_next 33 rfl) rfl ?_
    refine A_iconst (0) (dX6_next 34 rfl) (by decide +kernel) ?_
    refine A_put (dX6_next 35 rfl) fwX6_180 fcX6 ftX6_26 MW_0 rfl rfl ML_0 (MP_26 _) ?_
    refine A_aload_n (dX6_next 36 rfl) rfl ?_
    refine A_aload_n (dX6_next 37 rfl) rfl ?_
    refine A_get (dX6_next 38 rfl) fwX6_165 MW_0 MF_24 ?_
    refine AW.stack (st2 := [.int (nI (lst B j)), .ref (q 0)]) (by show [Value.int (g 24), _] = _; rw [hT.2.1, hsn]) ?_
    refine A_put (dX6_next 39 rfl) fwX6_177 fcX6 ftX6_27 MW_0 rfl rfl ML_0 (MP_27 _) ?_
    refine A_goto 321 (dX6_next 40 rfl) (by decide) ?_
    refine A_rv (dX6_next 163 rfl) rfl ?_
    first
      | (obtain ⟨e1, e2, e3⟩ := nx_end (tw := tw) g0; unfold nxg; rw [e1, e2, e3]; exact congrArg (fun h => MW E q h _ a) (nxg_eq rfl rfl rfl (fun k z1 z2 z3 => by simp only [upd]; simp [z1, z2, z3])))
      | (obtain ⟨e1, e2, e3⟩ := nx_sign (tw := tw) g0 h92 h145 (by simp_all [isSg]); unfold nxg; rw [e1, e2, e3]; exact congrArg (fun h => MW E q h _ a) (nxg_eq rfl rfl rfl (fun k z1 z2 z3 => by simp only [upd]; simp [z1, z2, z3])))
      | (obtain ⟨e1, e2, e3⟩ := nx_wrong (tw := tw) g0 h92 h145 (by simp_all [isSg]); unfold nxg; rw [e1, e2, e3]; exact congrArg (fun h => MW E q h _ a) (nxg_eq rfl rfl rfl (fun k z1 z2 z3 => by simp only [upd]; simp [z1, z2, z3])))
set_option maxRecDepth 100000 in
theorem m_next (E : ag) (q : Nat → Nat) (g : Nat → Int32) (tw : Int64) (a : Nat → Nat → Int32) (fr n : Nat) (B : Nat → Int32) (hT : TXC g a fr n B) (j : Nat) (hj : j ≤ n) (hg : g 25 = nI j) : CT E yX6_next cX6_next 3 mX6_next.2.2.2.1 3 0 0 [.ref (q 0)] (MW E q g tw a) (rv (fun w => w = MW E q (nxg B g j) (mtw B tw j) a)) := by
  refine CT.of (M := mX6_next) (ls := [some (.ref (q 0)), none, none]) (by decide) rfl (by decide) rfl (Nat.le_of_ble_eq_true rfl) ?_
  refine AW.world (ws2 := MW E q (upd g 25 (nI j)) tw a) (congrArg (fun h => MW E q h tw a) (upd_self hg).symm) ?_
  exact m_nxW E q g tw a fr n B hT _ 161 j hj (by have := hT.2.2.2.1; omega) (m_nx39 E q g tw a fr n B hT j (skp_le hT.2.2.2.2.2.1 161 j hj).2)
set_option maxRecDepth 100000 in
set_option maxHeartbeats 400000 in
theorem m_fail (E : ag) (q : Nat → Nat) (g : Nat → Int32) (tw : Int64) (a : Nat → Nat → Int32) : CT E yX6_fail cX6_fail 1 mX6_fail.2.2.2.1 1 0 0 [.ref (q 0)] (MW E q g tw a) (rv (fun w => w = (if g 30 = 0 then MW E q (upd (upd g 30 1) 31 (g 27)) tw a else MW E q g tw a))) := by
  refine CT.of (M := mX6_fail) (ls := [some (.ref (q 0))]) (by decide) rfl (by decide) rfl (Nat.le_of_ble_eq_true rfl) ?_
  refine A_aload_n (dX6_fail 0 rfl) rfl ?_
  refine A_get (dX6_fail 1 rfl) fwX6_197 MW_0 MF_30 ?_
  refine A_if_ne 20 (dX6_fail 2 rfl) (by decide) (fun h4 => ?_) (fun h4 => ?_)
  · refine A_rv (dX6_fail 10 rfl) rfl ?_
    simp_all [upd]
  · refine A_aload_n (dX6_fail 3 rfl) rfl ?_
    refine A_iconst (1) (dX6_fail 4 rfl) (by decide +kernel) ?_
    refine A_put (dX6_fail 5 rfl) fwX6_197 fcX6 ftX6_30 MW_0 (by decide) rfl ML_0 (MP_30 _) ?_
    refine A_aload_n (dX6_fail 6 rfl) rfl ?_
    refine A_aload_n (dX6_fail 7 rfl) rfl ?_
    refine A_get (dX6_fail 8 rfl) fwX6_177 MW_0 MF_27 ?_
    refine A_put (dX6_fail 9 rfl) fwX6_201 fcX6 ftX6_31 MW_0 rfl rfl ML_0 (MP_31 _) ?_
    refine A_rv (dX6_fail 10 rfl) rfl ?_
    simp_all [upd]

