theorem rf_next {g : Nat → Int32} {a : Nat → Nat → Int32} : rfs (upd g 15 (if g 15 < 999 then g 15 + 1 else 999)) a = p_next (rfs g a) := by
  refine rfs_eq rfl rfl rfl rfl rfl rfl (fun k hk => ?_) rfl rfl rfl rfl rfl rfl (fun k hk => rfs_az (g := g) hk)
  show upd (rfs g a).1 2 _ k = 0
  simp only [upd]
  rw [if_neg (by omega)]
  exact rfs_z hk
theorem RO.up {g g2 : Nat → Int32} {a a2 : Nat → Nat → Int32} (h : RO g a g2 a2) {k : Nat} (hk : 15 ≤ k ∧ k ≤ 36) {v : Int32} : RO g a (upd g2 k v) a2 := ⟨fun j hj => by simp only [upd]; rw [if_neg (by omega)]; exact h.1 j hj, h.2⟩
theorem rf13 {g g2 : Nat → Int32} {a a2 : Nat → Nat → Int32} (h : RO g a g2 a2) : g2 13 = g 13 := h.1 13 (by decide)
theorem rf15 {g2 : Nat → Int32} {a2 : Nat → Nat → Int32} {s : FS} (h : rfs g2 a2 = s) : g2 15 = s.1 2 := congrArg (fun s => s.1 2) h
theorem rf16 {g2 : Nat → Int32} {a2 : Nat → Nat → Int32} {s : FS} (h : rfs g2 a2 = s) : g2 16 = s.1 3 := congrArg (fun s => s.1 3) h
theorem rf35 {g2 : Nat → Int32} {a2 : Nat → Nat → Int32} {s : FS} (h : rfs g2 a2 = s) : g2 35 = s.1 4 := congrArg (fun s => s.1 4) h
theorem rf36 {g2 : Nat → Int32} {a2 : Nat → Nat → Int32} {s : FS} (h : rfs g2 a2 = s) : g2 36 = s.1 5 := congrArg (fun s => s.1 5) h
theorem rfA0 {g2 : Nat → Int32} {a2 : Nat → Nat → Int32} {s : FS} (h : rfs g2 a2 = s) : a2 4 = s.2 0 := congrArg (fun s => s.2 0) h
theorem rfA3 {g2 : Nat → Int32} {a2 : Nat → Nat → Int32} {s : FS} (h : rfs g2 a2 = s) : a2 7 = s.2 3 := congrArg (fun s => s.2 3) h
set_option maxRecDepth 100000 in
set_option maxHeartbeats 400000 in
theorem m_goesL (E : ag) (q : Nat → Nat) (g : Nat → Int32) (tw : Int64) (a : Nat → Nat → Int32) (t m : Nat) (C : Nat → List Int32) (hg4 : g 4 = nI t) (hK : TOK (a 1) (a 2) t C) (hF : FI (rfs g a) m) : ∀ (n c : Nat), c + n = m → ∀ (g2 : Nat → Int32) (tw2 : Int64) (a2 : Nat → Nat → Int32), rfs g2 a2 = p_turns C zro c (rfs g a) → RO g a g2 a2 → AW E mX6_goes 46 0 0 2 [some (.ref (q 0)), some (.int (nI c))] [] (MW E q g2 tw2 a2) (rv (RW E q g a (p_next (p_turns C zro m (rfs g a))))) := by
  intro n
  induction n with
  | zero =>
    intro c hc
    intro g2 tw2 a2 hf ho
    obtain ⟨hm, hgm, hb, r, hr, hgr⟩ := hF
    obtain rfl : m = c := by omega
    refine A_iload_n (dX6_goes 2 rfl) rfl ?_
    refine A_aload_n (dX6_goes 3 rfl) rfl ?_
    refine A_get (dX6_goes 4 rfl) fwX6_100 MW_0 MF_13 ?_
    refine A_icmp_ge 22 (dX6_goes 5 rfl) (by decide) (fun h7 => ?_) (fun h7 => absurd (show g2 13 ≤ nI m by rw [rf13 ho]; exact Int32.le_iff_toInt_le.mpr (by rw [show g 13 = nI m from hgm]; exact Int.le_refl _)) h7)
    refine A_aload_n (dX6_goes 12 rfl) rfl ?_
    refine A_aload_n (dX6_goes 13 rfl) rfl ?_
    refine A_get (dX6_goes 14 rfl) fwX6_142 MW_0 MF_15 ?_
    refine A_sipush (999) (dX6_goes 15 rfl) (by decide +kernel) ?_
    refine A_icmp_ge 42 (dX6_goes 16 rfl) (by decide) (fun h30 => ?_) (fun h30 => ?_)
    · refine A_sipush (999) (dX6_goes 22 rfl) (by decide +kernel) ?_
      refine A_put (dX6_goes 23 rfl) fwX6_142 fcX6 ftX6_15 MW_0 rfl rfl ML_0 (MP_15 _) ?_
      refine A_rv (dX6_goes 24 rfl) rfl ?_
      refine ⟨_, tw2, a2, rfl, ?_, ho.up (by decide)⟩
      first
        | (have z := rf_next (g := g2) (a := a2); rw [if_pos (Int32.not_le.mp h30)] at z; rw [← hf]; exact z)
        | (have z := rf_next (g := g2) (a := a2); rw [if_neg (Int32.not_lt.mpr h30)] at z; rw [← hf]; exact z)
    · refine A_aload_n (dX6_goes 17 rfl) rfl ?_
      refine A_get (dX6_goes 18 rfl) fwX6_142 MW_0 MF_15 ?_
      refine A_iconst (1) (dX6_goes 19 rfl) (by decide +kernel) ?_
      refine A_iadd (dX6_goes 20 rfl) ?_
      refine A_goto 45 (dX6_goes 21 rfl) (by decide) ?_
      refine A_put (dX6_goes 23 rfl) fwX6_142 fcX6 ftX6_15 MW_0 rfl rfl ML_0 (MP_15 _) ?_
      refine A_rv (dX6_goes 24 rfl) rfl ?_
      refine ⟨_, tw2, a2, rfl, ?_, ho.up (by decide)⟩
      first
        | (have z := rf_next (g := g2) (a := a2); rw [if_pos (Int32.not_le.mp h30)] at z; rw [← hf]; exact z)
        | (have z := rf_next (g := g2) (a := a2); rw [if_neg (Int32.not_lt.mpr h30)] at z; rw [← hf]; exact z)
  | succ n ih =>
    intro c hc
    have hlt : c < m := by omega
    intro g2 tw2 a2 hf ho
    obtain ⟨hm, hgm, hb, r, hr, hgr⟩ := hF
    refine A_iload_n (dX6_goes 2 rfl) rfl ?_
    refine A_aload_n (dX6_goes 3 rfl) rfl ?_
    refine A_get (dX6_goes 4 rfl) fwX6_100 MW_0 MF_13 ?_
    refine A_icmp_ge 22 (dX6_goes 5 rfl) (by decide) (fun h7 => absurd h7 (by rw [rf13 ho, show g 13 = nI m from hgm]; exact nI_ge hlt (by omega))) (fun h7 => ?_)
    refine A_aload_n (dX6_goes 6 rfl) rfl ?_
    refine A_iload_n (dX6_goes 7 rfl) rfl ?_
    refine A_iconst (0) (dX6_goes 8 rfl) (by decide +kernel) ?_
    refine A_callVWv 2 (dX6_goes 9 rfl) cbX6_strikesOnce cwX6_308 (m_strikesOnce E q g2 tw2 a2 t m r c 0 C ((ho.1 4 (by decide)).trans hg4) (ho.tok hK) hm ((rf13 ho).trans hgm) hr ((rf15 hf).trans ((p_turns_G (by decide) c).trans hgr)) (by rw [show g2 14 = g 14 from congrArg (fun s => s.1 1) hf |>.trans (p_turns_G (k := 1) (by decide) c)]; exact hb) hlt) rfl rfl MW_0 rfl rfl (Nat.le_of_ble_eq_true rfl) (Nat.le_of_ble_eq_true rfl) (Nat.le_of_ble_eq_true rfl) (Nat.le_of_ble_eq_true rfl) (Nat.le_of_ble_eq_true rfl) ?_
    rintro w1 ⟨g3, tw3, a3, rfl, hf3, ho3⟩
    refine AW.pcq (pc2 := 16) rfl ?_
    refine A_iinc (ls2 := [_, _]) (nI (c + 1)) (dX6_goes 10 rfl) rfl (nI_1 c) (by decide) rfl rfl ?_
    refine A_goto 2 (dX6_goes 11 rfl) (by decide) ?_
    exact ih (c + 1) (by omega) g3 tw3 a3 (by rw [hf3, hf]; rfl) (ho.tr ho3)

set_option maxRecDepth 100000 in
set_option maxHeartbeats 400000 in
theorem m_goes (E : ag) (q : Nat → Nat) (g : Nat → Int32) (tw : Int64) (a : Nat → Nat → Int32) (t m : Nat) (C : Nat → List Int32) (hg4 : g 4 = nI t) (hK : TOK (a 1) (a 2) t C) (hF : FI (rfs g a) m) : CT E yX6_goes cX6_goes 2 mX6_goes.2.2.2.1 46 0 0 [.ref (q 0)] (MW E q g tw a) (rv (RW E q g a (p_round C zro (rfs g a)))) := by
  refine CT.of (M := mX6_goes) (ls := [some (.ref (q 0)), none]) (by decide) rfl (by decide) rfl (Nat.le_of_ble_eq_true rfl) ?_
  refine A_iconst (0) (dX6_goes 0 rfl) (by decide +kernel) ?_
  refine A_istore_n (ls2 := [_, _]) (dX6_goes 1 rfl) (by decide) rfl rfl ?_
  have h9 := m_goesL E q g tw a t m C hg4 hK hF m 0 (by omega) g tw a rfl RO.rf
  rw [show p_round C zro (rfs g a) = p_next (p_turns C zro m (rfs g a)) by unfold p_round; rw [hF.2.1, nI_clamp (by have := hF.1; omega)]]
  exact h9

set_option maxRecDepth 100000 in
set_option maxHeartbeats 400000 in
theorem m_goesOnL (E : ag) (q : Nat → Nat) (g : Nat → Int32) (tw : Int64) (a : Nat → Nat → Int32) (t m : Nat) (C : Nat → List Int32) (hg4 : g 4 = nI t) (hK : TOK (a 1) (a 2) t C) (hF : FI (rfs g a) m) (nn : Nat) (hnn : nn < 2 ^ 31) : ∀ (n c : Nat), c + n = nn → ∀ (g2 : Nat → Int32) (tw2 : Int64) (a2 : Nat → Nat → Int32), rfs g2 a2 = p_rounds C c (rfs g a) → RO g a g2 a2 → AW E mX6_goesOn 47 0 0 2 [some (.ref (q 0)), some (.int (nI nn)), some (.int (nI c))] [] (MW E q g2 tw2 a2) (rv (RW E q g a (p_rounds C nn (rfs g a)))) := by
  intro n
  induction n with
  | zero =>
    intro c hc
    intro g2 tw2 a2 hf ho
    obtain rfl : nn = c := by omega
    refine A_iload_n (dX6_goesOn 2 rfl) rfl ?_
    refine A_iload_n (dX6_goesOn 3 rfl) rfl ?_
    refine A_icmp_ge 17 (dX6_goesOn 4 rfl) (by decide) (fun h4 => ?_) (fun h4 => absurd (nI_le (a := nn) (b := nn) (Nat.le_refl _) hnn) h4)
    refine A_rv (dX6_goesOn 9 rfl) rfl ?_
    exact ⟨g2, tw2, a2, rfl, hf, ho⟩
  | succ n ih =>
    intro c hc
    have hlt : c < nn := by omega
    intro g2 tw2 a2 hf ho
    refine A_iload_n (dX6_goesOn 2 rfl) rfl ?_
    refine A_iload_n (dX6_goesOn 3 rfl) rfl ?_
    refine A_icmp_ge 17 (dX6_goesOn 4 rfl) (by decide) (fun h4 => absurd h4 (nI_ge hlt (by omega))) (fun h4 => ?_)
    refine A_aload_n (dX6_goesOn 5 rfl) rfl ?_
    refine A_callVWv 0 (dX6_goesOn 6 rfl) cbX6_goes cwX6_312 (m_goes E q g2 tw2 a2 t m C ((ho.1 4 (by decide)).trans hg4) (ho.tok hK) (by rw [hf]; exact hF.rounds C c)) rfl rfl MW_0 rfl rfl (Nat.le_of_ble_eq_true rfl) (Nat.le_of_ble_eq_true rfl) (Nat.le_of_ble_eq_true rfl) (Nat.le_of_ble_eq_true rfl) (Nat.le_of_ble_eq_true rfl) ?_
    rintro w1 ⟨g3, tw3, a3, rfl, hf3, ho3⟩
    refine AW.pcq (pc2 := 11) rfl ?_
    refine A_iinc (ls2 := [_, _, _]) (nI (c + 1)) (dX6_goesOn 7 rfl) rfl (nI_1 c) (by decide) rfl rfl ?_
    refine A_goto 2 (dX6_goesOn 8 rfl) (by decide) ?_
    exact ih (c + 1) (by omega) g3 tw3 a3 (by rw [hf3, hf]; rfl) (ho.tr ho3)

set_option maxRecDepth 100000 in
set_option maxHeartbeats 400000 in
theorem m_goesOn (E : ag) (q : Nat → Nat) (g : Nat → Int32) (tw : Int64) (a : Nat → Nat → Int32) (t m : Nat) (C : Nat → List Int32) (hg4 : g 4 = nI t) (hK : TOK (a 1) (a 2) t C) (hF : FI (rfs g a) m) (nn : Nat) (hnn : nn < 2 ^ 31) : CT E yX6_goesOn cX6_goesOn 3 mX6_goesOn.2.2.2.1 47 0 0 [.ref (q 0), .int (nI nn)] (MW E q g tw a) (rv (RW E q g a (p_rounds C nn (rfs g a)))) := by
  refine CT.of (M := mX6_goesOn) (ls := [some (.ref (q 0)), some (.int (nI nn)), none]) (by decide) rfl (by decide) rfl (Nat.le_of_ble_eq_true rfl) ?_
  refine A_iconst (0) (dX6_goesOn 0 rfl) (by decide +kernel) ?_
  refine A_istore_n (ls2 := [_, _, _]) (dX6_goesOn 1 rfl) (by decide) rfl rfl ?_
  exact m_goesOnL E q g tw a t m C hg4 hK hF nn hnn nn 0 (by omega) g tw a rfl RO.rf

set_option maxRecDepth 100000 in
set_option maxHeartbeats 400000 in
theorem m_round (E : ag) (q : Nat → Nat) (g : Nat → Int32) (tw : Int64) (a : Nat → Nat → Int32) (t m : Nat) (C : Nat → List Int32) (hg4 : g 4 = nI t) (hK : TOK (a 1) (a 2) t C) (hF : FI (rfs g a) m) : CT E yX6_round cX6_round 2 mX6_round.2.2.2.1 47 0 0 [.ref (q 0)] (MW E q g tw a) (ri (fun r w => r = (p_round C zro (rfs g a)).1 3 - g 16 ∧ RW E q g a (p_round C zro (rfs g a)) w)) := by
  refine CT.of (M := mX6_round) (ls := [some (.ref (q 0)), none]) (by decide) rfl (by decide) rfl (Nat.le_of_ble_eq_true rfl) ?_
  refine A_aload_n (dX6_round 0 rfl) rfl ?_
  refine A_get (dX6_round 1 rfl) fwX6_305 MW_0 MF_16 ?_
  refine A_istore_n (ls2 := [_, _]) (dX6_round 2 rfl) (by decide) rfl rfl ?_
  refine A_aload_n (dX6_round 3 rfl) rfl ?_
  refine A_callVWv 0 (dX6_round 4 rfl) cbX6_goes cwX6_312 (m_goes E q g tw a t m C hg4 hK hF) rfl rfl MW_0 rfl rfl (Nat.le_of_ble_eq_true rfl) (Nat.le_of_ble_eq_true rfl) (Nat.le_of_ble_eq_true rfl) (Nat.le_of_ble_eq_true rfl) (Nat.le_of_ble_eq_true rfl) ?_
  rintro w1 ⟨g2, tw2, a2, rfl, hf, ho⟩
  refine AW.pcq (pc2 := 9) rfl ?_
  refine A_aload_n (dX6_round 5 rfl) rfl ?_
  refine A_get (dX6_round 6 rfl) fwX6_305 MW_0 MF_16 ?_
  refine A_iload_n (dX6_round 7 rfl) rfl ?_
  refine A_isub (dX6_round 8 rfl) ?_
  refine A_ri (dX6_round 9 rfl) rfl rfl ?_
  exact ⟨by rw [rf16 hf], g2, tw2, a2, rfl, hf, ho⟩

def p_try (s : FS) : FS := (upd (upd s.1 4 0) 5 0, s.2)
/-- (g, a) is laid aside in (h, b) -/
def AD (g : Nat → Int32) (a : Nat → Nat → Int32) (h : Nat → Int32) (b : Nat → Nat → Int32) : Prop := (h 43 = g 13 ∧ h 44 = g 14 ∧ h 45 = g 15 ∧ h 46 = g 16) ∧ (∀ j, j < 6 → b (10 + j) = a (4 + j)) ∧ (∀ k, k < 13 ∨ 50 ≤ k → h k = g k) ∧ (∀ j, j < 4 ∨ 16 ≤ j → b j = a j)
theorem AD.ro {g h h2 : Nat → Int32} {a b b2 : Nat → Nat → Int32} (d : AD g a h b) (r : RO h b h2 b2) : AD g a h2 b2 := by
  obtain ⟨⟨d1, d2, d3, d4⟩, d5, d6, d7⟩ := d
  exact ⟨⟨(r.1 43 (by decide)).trans d1, (r.1 44 (by decide)).trans d2, (r.1 45 (by decide)).trans d3, (r.1 46 (by decide)).trans d4⟩, fun j hj => (r.2 (10 + j) (by omega) (by omega)).trans (d5 j hj), fun k hk => (r.1 k (by omega)).trans (d6 k hk), fun j hj => (r.2 j (by omega) (by omega)).trans (d7 j hj)⟩
theorem AD.up {g h : Nat → Int32} {a b : Nat → Nat → Int32} (d : AD g a h b) {k : Nat} (hk : (13 ≤ k ∧ k ≤ 36) ∨ (47 ≤ k ∧ k ≤ 49)) {v : Int32} : AD g a (upd h k v) b := by
  obtain ⟨⟨d1, d2, d3, d4⟩, d5, d6, d7⟩ := d
  refine ⟨⟨?_, ?_, ?_, ?_⟩, d5, fun j hj => ?_, d7⟩ <;> simp only [upd] <;> rw [if_neg (by omega)]
  · exact d1
  · exact d2
  · exact d3
  · exact d4
  · exact d6 j hj
theorem AD.ua {g h : Nat → Int32} {a b : Nat → Nat → Int32} (d : AD g a h b) {j : Nat} (hj : 4 ≤ j ∧ j ≤ 9) {f : Nat → Int32} : AD g a h (va_up b j f) := by
  obtain ⟨d4, d5, d6, d7⟩ := d
  refine ⟨d4, fun i hi => ?_, d6, fun i hi => ?_⟩ <;> simp only [va_up] <;> rw [if_neg (by omega)]
  · exact d5 i hi
  · exact d7 i hi
theorem AD.tok {g h : Nat → Int32} {a b : Nat → Nat → Int32} (d : AD g a h b) {t : Nat} {C : Nat → List Int32} (hT : TOK (a 1) (a 2) t C) : TOK (b 1) (b 2) t C := by rw [d.2.2.2 1 (by decide), d.2.2.2 2 (by decide)]; exact hT
theorem AD.g4 {g h : Nat → Int32} {a b : Nat → Nat → Int32} (d : AD g a h b) : h 4 = g 4 := d.2.2.1 4 (by decide)
/-- all laid back: scratch alone may differ -/
def BK (g : Nat → Int32) (a : Nat → Nat → Int32) (h : Nat → Int32) (b : Nat → Nat → Int32) : Prop := (∀ k, k < 17 ∨ 50 ≤ k → h k = g k) ∧ (∀ j, j < 10 ∨ 16 ≤ j → b j = a j)
def QW (E : ag) (q : Nat → Nat) (g : Nat → Int32) (a : Nat → Nat → Int32) (w : va_W) : Prop := ∃ (g2 : Nat → Int32) (tw2 : Int64) (a2 : Nat → Nat → Int32), w = MW E q g2 tw2 a2 ∧ BK g a g2 a2
theorem QW.rf {E : ag} {q : Nat → Nat} {g : Nat → Int32} {a : Nat → Nat → Int32} {tw : Int64} : QW E q g a (MW E q g tw a) := ⟨g, tw, a, rfl, fun _ _ => rfl, fun _ _ => rfl⟩
/-- the trial's world: the floor (g, a) laid aside, s2 made of it -/
def TW (E : ag) (q : Nat → Nat) (g : Nat → Int32) (a : Nat → Nat → Int32) (s2 : FS) (w : va_W) : Prop := ∃ (h : Nat → Int32) (tw2 : Int64) (b : Nat → Nat → Int32), w = MW E q h tw2 b ∧ rfs h b = s2 ∧ AD g a h b
def TB (E : ag) (q : Nat → Nat) (g : Nat → Int32) (a : Nat → Nat → Int32) (w : va_W) : Prop := ∃ (h : Nat → Int32) (tw2 : Int64) (b : Nat → Nat → Int32), w = MW E q h tw2 b ∧ rfs h b = p_try (rfs g a) ∧ AD g a h b ∧ BK g a h b
theorem TB.qw {E : ag} {q : Nat → Nat} {g : Nat → Int32} {a : Nat → Nat → Int32} {w : va_W} (h : TB E q g a w) : QW E q g a w := by obtain ⟨h, tw2, b, e, -, -, r⟩ := h; exact ⟨h, tw2, b, e, r⟩
theorem FI.try {s : FS} {m : Nat} (h : FI s m) : FI (p_try s) m := h
theorem CT.mono {E : ag} {y : MethodName} {cc : ByteArray} {nL : Nat} {ret : Option FieldType} {d mc ms : Nat} {av : List Value} {ws : va_W} {post post2 : Option Value → va_W → Prop} (h : CT E y cc nL ret d mc ms av ws post) (hp : ∀ v w, post v w → post2 v w) : CT E y cc nL ret d mc ms av ws post2 := by
  intro l sz
  intro p e h1 h2 h3 s m args below h4 h5 h6 h7
  obtain ⟨n, oc, k1, k2, k3, k4, L⟩ := h l sz p e h1 h2 h3 s m args below h4 h5 h6 h7
  obtain ⟨⟨v, w, q1, q2, q3⟩, q4⟩ := k4
  exact ⟨n, oc, k1, k2, k3, ⟨⟨v, w, q1, hp v w q2, q3⟩, q4⟩, L⟩
theorem m_asideQ (E : ag) (q : Nat → Nat) (g : Nat → Int32) (tw : Int64) (a : Nat → Nat → Int32) : CT E yX6_laysAside cX6_laysAside 2 mX6_laysAside.2.2.2.1 1 0 0 [.ref (q 0)] (MW E q g tw a) (rv (TB E q g a)) := by
  refine (m_laysAside E q g tw a).mono (fun v w hz => ?_)
  obtain ⟨h1, rfl⟩ := hz
  refine ⟨h1, _, tw, _, rfl, ?_, ⟨⟨rfl, rfl, rfl, rfl⟩, fun j hj => ?_, fun k hk => ?_, fun j hj => ?_⟩, fun k hk => ?_, fun j hj => ?_⟩
  · refine rfs_eq rfl rfl rfl rfl rfl rfl (fun k hk => ?_) rfl rfl rfl rfl rfl rfl (fun k hk => rfs_az (g := g) hk)
    show upd (upd (rfs g a).1 4 0) 5 0 k = 0
    simp only [upd]
    rw [if_neg (by omega), if_neg (by omega)]
    exact rfs_z hk
  · match j with
    | 0 => rfl
    | 1 => rfl
    | 2 => rfl
    | 3 => rfl
    | 4 => rfl
    | 5 => rfl
    | j + 6 => omega
  · simp only [upd]
    repeat rw [if_neg (by omega)]
  · simp only [va_up]
    repeat rw [if_neg (by omega)]
  · simp only [upd]
    repeat rw [if_neg (by omega)]
  · simp only [va_up]
    repeat rw [if_neg (by omega)]
theorem m_backQ (E : ag) (q : Nat → Nat) (g : Nat → Int32) (tw : Int64) (a : Nat → Nat → Int32) (h : Nat → Int32) (b : Nat → Nat → Int32) (hd : AD g a h b) : CT E yX6_laysBack cX6_laysBack 2 mX6_laysBack.2.2.2.1 2 0 0 [.ref (q 0)] (MW E q h tw b) (rv (TB E q g a)) := by
  refine (m_laysBack E q h tw b).mono (fun v w hz => ?_)
  obtain ⟨h1, rfl⟩ := hz
  obtain ⟨⟨d1, d2, d3, d4⟩, d5, d6, d7⟩ := hd
  rw [d1, d2, d3, d4, show b 10 = a 4 from d5 0 (by decide), show b 11 = a 5 from d5 1 (by decide), show b 12 = a 6 from d5 2 (by decide), show b 13 = a 7 from d5 3 (by decide), show b 14 = a 8 from d5 4 (by decide), show b 15 = a 9 from d5 5 (by decide)]
  refine ⟨h1, _, tw, _, rfl, ?_, ⟨⟨?_, ?_, ?_, ?_⟩, fun j hj => ?_, fun k hk => ?_, fun j hj => ?_⟩, fun k hk => ?_, fun j hj => ?_⟩
  · refine rfs_eq rfl rfl rfl rfl rfl rfl (fun k hk => ?_) rfl rfl rfl rfl rfl rfl (fun k hk => rfs_az (g := g) hk)
    show upd (upd (rfs g a).1 4 0) 5 0 k = 0
    simp only [upd]
    rw [if_neg (by omega), if_neg (by omega)]
    exact rfs_z hk
  · exact d1
  · exact d2
  · exact d3
  · exact d4
  · simp only [va_up]
    repeat rw [if_neg (by omega)]
    exact d5 j hj
  · simp only [upd]
    repeat rw [if_neg (by omega)]
    exact d6 k hk
  · simp only [va_up]
    repeat rw [if_neg (by omega)]
    exact d7 j hj
  · by_cases e1 : k = 13
    · rw [e1]; rfl
    by_cases e2 : k = 14
    · rw [e2]; rfl
    by_cases e3 : k = 15
    · rw [e3]; rfl
    by_cases e4 : k = 16
    · rw [e4]; rfl
    simp only [upd]
    repeat rw [if_neg (by omega)]
    exact d6 k (by omega)
  · by_cases e1 : j = 4
    · rw [e1]; rfl
    by_cases e2 : j = 5
    · rw [e2]; rfl
    by_cases e3 : j = 6
    · rw [e3]; rfl
    by_cases e4 : j = 7
    · rw [e4]; rfl
    by_cases e5 : j = 8
    · rw [e5]; rfl
    by_cases e6 : j = 9
    · rw [e6]; rfl
    simp only [va_up]
    repeat rw [if_neg (by omega)]
    exact d7 j (by omega)
