def AM (E : ag) (q : Nat → Nat) (a : Nat → Nat → Int32) (fr n : Nat) (B : Nat → Int32) (f : Nat) : Prop := CM E q a fr n B yX6_either cX6_either 3 0 11 f ∧ CM E q a fr n B yX6_both cX6_both 3 1 10 f ∧ CM E q a fr n B yX6_not cX6_not 4 2 9 f ∧ CM E q a fr n B yX6_added cX6_added 4 3 8 f ∧ CM E q a fr n B yX6_term cX6_term 2 4 7 f ∧ CM E q a fr n B yX6_atom cX6_atom 2 5 6 f ∧ LM2 E q a fr n B mX6_either 6 11 f ∧ LM2 E q a fr n B mX6_both 7 10 f ∧ LM3 E q a fr n B mX6_added 8 8 f ∧ LM1 E q a fr n B mX6_term 9 7 f
theorem s_all (E : ag) (q : Nat → Nat) (a : Nat → Nat → Int32) (fr n : Nat) (B : Nat → Int32) : ∀ f, AM E q a fr n B f := by
  intro f
  induction f with
  | zero => exact ⟨fun g tw o i res h => by simp [pp] at h, fun g tw o i res h => by simp [pp] at h, fun g tw o i res h => by simp [pp] at h, fun g tw o i res h => by simp [pp] at h, fun g tw o i res h => by simp [pp] at h, fun g tw o i res h => by simp [pp] at h, fun g tw o i res h => by simp [pp] at h, fun g tw o i res h => by simp [pp] at h, fun g tw o i res h => by simp [pp] at h, fun g tw o i res h => by simp [pp] at h⟩
  | succ f ih =>
    obtain ⟨h0, h1, h2, h3, h4, h5, h6, h7, h8, h9⟩ := ih
    exact ⟨s_either E q a fr n B f h1 h6, s_both E q a fr n B f h2 h7, s_not E q a fr n B f h2 h3, s_added E q a fr n B f h4 h8, s_term E q a fr n B f h5 h9, s_atom E q a fr n B f h0 h5, s_either_loop E q a fr n B f h1 h6, s_both_loop E q a fr n B f h2 h7, s_added_loop E q a fr n B f h4 h8, s_term_loop E q a fr n B f h5 h9⟩
/-- a part of a text: its key (3, 4, 5), what it tells, a semicolon; a whole text -/
def prt (B : Nat → Int32) (f : Nat) (k : Int32) (i : Nat) : Option (Bool × Nat × List Int32) := if ck B i = k then (pp B f 0 0 (men B i)).bind (fun r => if r.1 = true then (if ck B r.2.1 = 59 then some (true, men B r.2.1, r.2.2) else some (false, r.2.1, r.2.2)) else some r) else some (false, i, [])
def txt (B : Nat → Int32) (f : Nat) : Option (Bool × Nat × List Int32 × List Int32 × List Int32) := (prt B f 3 0).bind (fun r0 => if r0.1 = true then (prt B f 4 r0.2.1).bind (fun r1 => if r1.1 = true then (prt B f 5 r1.2.1).bind (fun r2 => if r2.1 = true then some (decide (ck B r2.2.1 = 0), r2.2.1, r0.2.2, r1.2.2, r2.2.2) else some (false, r2.2.1, [], [], [])) else some (false, r1.2.1, [], [], [])) else some (false, r0.2.1, [], [], []))
theorem b01_c {p q : Prop} [Decidable p] [Decidable q] (h : p ↔ q) : b01 p = b01 q := by unfold b01; split <;> split <;> simp_all
theorem PM_n0 {a : Nat → Nat → Int32} {fr n : Nat} {B : Nat → Int32} {g0 g : Nat → Int32} {tw : Int64} {o i : Nat} (hT : TXC g0 a fr n B) (hi : i ≤ n) (h29 : g 29 = nI o) (h30 : g 30 = 0) : PM B n (nxg B g i) (mtw B tw i) o i := by
  refine ⟨rfl, rfl, rfl, fun h => ?_, fun h => ?_, h29, h30, hi⟩
  · unfold mtw
    unfold mkd at h
    split at h
    · exact absurd h (by decide)
    · rename_i h1
      rw [if_neg h1]
      split at h
      · exact absurd h (by decide)
      · rename_i h2
        rw [if_neg h2]
        split at h
        · rename_i h3; rw [if_pos h3]
        · split at h
          · exact absurd h (by decide)
          · exact absurd h (by decide)
  · unfold mtw
    unfold mkd at h
    split at h
    · exact absurd h (by decide)
    · rename_i h1
      rw [if_neg h1]
      split at h
      · exact absurd h (by decide)
      · rename_i h2
        rw [if_neg h2]
        split at h
        · split at h
          · exact absurd h (by decide)
          · exact absurd h (by decide)
        · rename_i h3
          rw [if_neg h3]
          split at h
          · rename_i h4; rw [if_pos h4]
          · exact absurd h (by decide)
theorem PM_key3 {B : Nat → Int32} {n : Nat} {g : Nat → Int32} {tw : Int64} {o i : Nat} (hP : PM B n g tw o i) : (g 30 = 0 ∧ g 26 = 1 ∧ isW8 B (lst B i) (men B i) 103 105 118 101 115 0 0 0) ↔ ck B i = 3 := by
  rw [ck_word (by decide) (by decide), hP.2.1, wci_3]
  exact ⟨fun h => ⟨h.2.1, h.2.2⟩, fun h => ⟨hP.2.2.2.2.2.2.1, h.1, h.2⟩⟩
theorem PM_key4 {B : Nat → Int32} {n : Nat} {g : Nat → Int32} {tw : Int64} {o i : Nat} (hP : PM B n g tw o i) : (g 30 = 0 ∧ g 26 = 1 ∧ isW8 B (lst B i) (men B i) 100 114 105 102 116 115 0 0) ↔ ck B i = 4 := by
  rw [ck_word (by decide) (by decide), hP.2.1, wci_4]
  exact ⟨fun h => ⟨h.2.1, h.2.2⟩, fun h => ⟨hP.2.2.2.2.2.2.1, h.1, h.2⟩⟩
theorem PM_key5 {B : Nat → Int32} {n : Nat} {g : Nat → Int32} {tw : Int64} {o i : Nat} (hP : PM B n g tw o i) : (g 30 = 0 ∧ g 26 = 1 ∧ isW8 B (lst B i) (men B i) 104 117 114 116 115 0 0 0) ↔ ck B i = 5 := by
  rw [ck_word (by decide) (by decide), hP.2.1, wci_5]
  exact ⟨fun h => ⟨h.2.1, h.2.2⟩, fun h => ⟨hP.2.2.2.2.2.2.1, h.1, h.2⟩⟩
theorem ck_end {B : Nat → Int32} {i : Nat} : ck B i = 0 ↔ mkd B i = 0 := by
  constructor
  · intro h
    rcases mkd_in B i with m | m | m | m | m
    · exact m
    · rw [ck1 m] at h; have := (wc_small B (lst B i) (men B i)).1; rw [h] at this; exact absurd this (by decide)
    · rw [ck2 m] at h; exact absurd h (by decide)
    · have := sg_big (mkd_sg m); rw [← ck3 m, h] at this; exact absurd this (by decide)
    · rw [ck4 m] at h; exact absurd h (by decide)
  · exact ck0
set_option maxRecDepth 100000 in
set_option maxHeartbeats 400000 in
theorem m_part1 (E : ag) (q : Nat → Nat) (a : Nat → Nat → Int32) (fr n : Nat) (B : Nat → Int32) (f : Nat) (g : Nat → Int32) (tw : Int64) (i : Nat) (res : Bool × Nat × List Int32) (k : Int32) (hpp : prt B f k i = some res) (hT : TXC g a fr n B) (hP : PM B n g tw 0 i) (hk0 : ck B i = k) : CT E yX6_part cX6_part 3 mX6_part.2.2.2.1 42 0 0 [.ref (q 0), .int 1] (MW E q g tw a) (ri (RM E q a n B g 0 res [])) := by
  unfold prt at hpp
  rw [if_pos hk0] at hpp
  obtain ⟨r1, hr1, hpp⟩ := bnd hpp
  refine CT.of (M := mX6_part) (ls := [some (.ref (q 0)), some (.int 1), none]) (by decide) rfl (by decide) rfl (Nat.le_of_ble_eq_true rfl) ?_
  refine A_iload_n (dX6_part 0 rfl) rfl ?_
  refine A_if_ne 8 (dX6_part 1 rfl) (by decide) (fun h1 => ?_) (fun h1 => absurd h1 (by decide))
  refine A_aload_n (dX6_part 4 rfl) rfl ?_
  refine A_get (dX6_part 5 rfl) fwX6_197 MW_0 MF_30 ?_
  refine A_if_ne 19 (dX6_part 6 rfl) (by decide) (fun h12 => absurd hP.2.2.2.2.2.2.1 h12) (fun h12 => ?_)
  refine A_aload_n (dX6_part 7 rfl) rfl ?_
  refine A_callVWv 0 (dX6_part 8 rfl) cbX6_next cwX6_214 (m_next E q g tw a fr n B hT (men B i) (men_le hT hP.2.2.2.2.2.2.2).1 hP.1) rfl rfl MW_0 rfl rfl (by omega) (Nat.le_of_ble_eq_true rfl) (Nat.le_of_ble_eq_true rfl) (Nat.le_of_ble_eq_true rfl) (Nat.le_of_ble_eq_true rfl) ?_
  rintro w1 rfl
  refine AW.pcq (pc2 := 19) rfl ?_
  refine A_aload_n (dX6_part 9 rfl) rfl ?_
  refine A_get (dX6_part 10 rfl) fwX6_197 MW_0 MF_30 ?_
  refine A_if_eq 30 (dX6_part 11 rfl) (by decide) (fun h23 => ?_) (fun h23 => absurd hP.2.2.2.2.2.2.1 h23)
  refine A_aload_n (dX6_part 14 rfl) rfl ?_
  refine A_callVWi 0 (dX6_part 15 rfl) cbX6_either cwX6_250 ((s_all E q a fr n B f).1 (nxg B g (men B i)) (mtw B tw (men B i)) 0 (men B i) r1 hr1 (by decide) (KP.rf.nx.tx hT) (PM_nx hT hP.2.2.2.2.2.2.2 hP.2.2.2.2.2.1 hP.2.2.2.2.2.2.1)) rfl rfl MW_0 rfl rfl (by omega) (Nat.le_of_ble_eq_true rfl) (Nat.le_of_ble_eq_true rfl) (Nat.le_of_ble_eq_true rfl) (Nat.le_of_ble_eq_true rfl) ?_
  rintro x1 w1 ⟨g2, tw2, rfl, hk, hs, hf⟩
  refine AW.pcq (pc2 := 34) rfl ?_
  have hkt : KP g g2 := KP.tr (KP.nx KP.rf) hk
  by_cases hb1 : r1.1 = true
  by_cases hcs : ck B r1.2.1 = 59
  · rw [if_pos hb1, if_pos hcs] at hpp
    cases hpp
    obtain ⟨hP2, he2⟩ := hs hb1
    have hTn := hkt.tx hT
    refine A_istore_n (ls2 := [_, _, _]) (dX6_part 16 rfl) (by decide) rfl rfl ?_
    refine A_aload_n (dX6_part 17 rfl) rfl ?_
    refine A_bipush (59) (dX6_part 18 rfl) (by decide +kernel) ?_
    refine A_callVWi 1 (dX6_part 19 rfl) cbX6_isSign cwX6_239 (m_isSign E q g2 tw2 a 59) rfl rfl MW_0 rfl rfl (by omega) (Nat.le_of_ble_eq_true rfl) (Nat.le_of_ble_eq_true rfl) (Nat.le_of_ble_eq_true rfl) (Nat.le_of_ble_eq_true rfl) ?_
    rintro r38 w1 ⟨rfl, rfl⟩
    refine AW.pcq (pc2 := 41) rfl ?_
    refine A_if_ne 48 (dX6_part 20 rfl) (by decide) (fun h41 => ?_) (fun h41 => absurd h41 (b01_n.mpr ((PM_sign hP2 (by decide)).mpr hcs)))
    refine A_aload_n (dX6_part 23 rfl) rfl ?_
    refine A_get (dX6_part 24 rfl) fwX6_197 MW_0 MF_30 ?_
    refine A_if_ne 59 (dX6_part 25 rfl) (by decide) (fun h52 => absurd hP2.2.2.2.2.2.2.1 h52) (fun h52 => ?_)
    refine A_aload_n (dX6_part 26 rfl) rfl ?_
    refine A_callVWv 0 (dX6_part 27 rfl) cbX6_next cwX6_214 (m_next E q g2 tw2 a fr n B hTn (men B r1.2.1) (men_le hT hP2.2.2.2.2.2.2.2).1 hP2.1) rfl rfl MW_0 rfl rfl (by omega) (Nat.le_of_ble_eq_true rfl) (Nat.le_of_ble_eq_true rfl) (Nat.le_of_ble_eq_true rfl) (Nat.le_of_ble_eq_true rfl) ?_
    rintro w1 rfl
    refine AW.pcq (pc2 := 59) rfl ?_
    refine A_iload_n (dX6_part 28 rfl) rfl ?_
    refine A_ri (dX6_part 29 rfl) rfl rfl ?_
    refine RM_ok (KP.nx hkt) (PM_nx hT hP2.2.2.2.2.2.2.2 hP2.2.2.2.2.2.1 hP2.2.2.2.2.2.2.1) (fun st => ?_)
    have h7 := he2 st
    rw [KP.me (KP.nx KP.rf)] at h7
    exact h7
  · rw [if_pos hb1, if_neg hcs] at hpp
    cases hpp
    obtain ⟨hP2, he2⟩ := hs hb1
    refine A_istore_n (ls2 := [_, _, _]) (dX6_part 16 rfl) (by decide) rfl rfl ?_
    refine A_aload_n (dX6_part 17 rfl) rfl ?_
    refine A_bipush (59) (dX6_part 18 rfl) (by decide +kernel) ?_
    refine A_callVWi 1 (dX6_part 19 rfl) cbX6_isSign cwX6_239 (m_isSign E q g2 tw2 a 59) rfl rfl MW_0 rfl rfl (by omega) (Nat.le_of_ble_eq_true rfl) (Nat.le_of_ble_eq_true rfl) (Nat.le_of_ble_eq_true rfl) (Nat.le_of_ble_eq_true rfl) ?_
    rintro r38 w1 ⟨rfl, rfl⟩
    refine AW.pcq (pc2 := 41) rfl ?_
    refine A_if_ne 48 (dX6_part 20 rfl) (by decide) (fun h41 => absurd (b01_0.mpr (fun z => hcs ((PM_sign hP2 (by decide)).mp z))) h41) (fun h41 => ?_)
    refine A_aload_n (dX6_part 21 rfl) rfl ?_
    refine A_callVWv 0 (dX6_part 22 rfl) cbX6_fail cwX6_211 (m_fail E q g2 tw2 a) rfl rfl MW_0 rfl rfl (by omega) (Nat.le_of_ble_eq_true rfl) (Nat.le_of_ble_eq_true rfl) (Nat.le_of_ble_eq_true rfl) (Nat.le_of_ble_eq_true rfl) ?_
    rintro w1 rfl
    rw [if_pos hP2.2.2.2.2.2.2.1]
    refine AW.pcq (pc2 := 48) rfl ?_
    refine A_aload_n (dX6_part 23 rfl) rfl ?_
    refine A_get (dX6_part 24 rfl) fwX6_197 MW_0 MF_30 ?_
    refine A_if_ne 59 (dX6_part 25 rfl) (by decide) (fun h52 => ?_) (fun h52 => absurd h52 (show ¬ (1 : Int32) = 0 by decide))
    refine A_iload_n (dX6_part 28 rfl) rfl ?_
    refine A_ri (dX6_part 29 rfl) rfl rfl ?_
    exact RM_bad2 (by simp) (KP.up (KP.up hkt (by decide)) (by decide)) ⟨rfl, hP2.2.2.1⟩
  · rw [if_neg hb1] at hpp
    cases hpp
    have h3b := hf (by simpa using hb1)
    have h3c : ¬ g2 30 = 0 := by rw [h3b.1]; decide
    refine A_istore_n (ls2 := [_, _, _]) (dX6_part 16 rfl) (by decide) rfl rfl ?_
    refine A_aload_n (dX6_part 17 rfl) rfl ?_
    refine A_bipush (59) (dX6_part 18 rfl) (by decide +kernel) ?_
    refine A_callVWi 1 (dX6_part 19 rfl) cbX6_isSign cwX6_239 (m_isSignB E q g2 tw2 a 59 h3c) rfl rfl MW_0 rfl rfl (by omega) (Nat.le_of_ble_eq_true rfl) (Nat.le_of_ble_eq_true rfl) (Nat.le_of_ble_eq_true rfl) (Nat.le_of_ble_eq_true rfl) ?_
    rintro r38 w1 ⟨rfl, rfl⟩
    refine AW.pcq (pc2 := 41) rfl ?_
    refine A_if_ne 48 (dX6_part 20 rfl) (by decide) (fun h41 => absurd rfl h41) (fun h41 => ?_)
    refine A_aload_n (dX6_part 21 rfl) rfl ?_
    refine A_callVWv 0 (dX6_part 22 rfl) cbX6_fail cwX6_211 (m_fail E q g2 tw2 a) rfl rfl MW_0 rfl rfl (by omega) (Nat.le_of_ble_eq_true rfl) (Nat.le_of_ble_eq_true rfl) (Nat.le_of_ble_eq_true rfl) (Nat.le_of_ble_eq_true rfl) ?_
    rintro w1 rfl
    rw [if_neg h3c]
    refine AW.pcq (pc2 := 48) rfl ?_
    refine A_aload_n (dX6_part 23 rfl) rfl ?_
    refine A_get (dX6_part 24 rfl) fwX6_197 MW_0 MF_30 ?_
    refine A_if_ne 59 (dX6_part 25 rfl) (by decide) (fun h52 => ?_) (fun h52 => absurd h52 h3c)
    refine A_iload_n (dX6_part 28 rfl) rfl ?_
    refine A_ri (dX6_part 29 rfl) rfl rfl ?_
    exact RM_bad2 hb1 hkt h3b
set_option maxRecDepth 100000 in
set_option maxHeartbeats 400000 in
theorem m_part0 (E : ag) (q : Nat → Nat) (a : Nat → Nat → Int32) (fr n : Nat) (B : Nat → Int32) (f : Nat) (g : Nat → Int32) (tw : Int64) (i : Nat) (res : Bool × Nat × List Int32) (k : Int32) (hpp : prt B f k i = some res) (hT : TXC g a fr n B) (hP : PM B n g tw 0 i) (hk0 : ¬ ck B i = k) : CT E yX6_part cX6_part 3 mX6_part.2.2.2.1 42 0 0 [.ref (q 0), .int 0] (MW E q g tw a) (ri (RM E q a n B g 0 res [])) := by
  unfold prt at hpp
  rw [if_neg hk0] at hpp
  cases hpp
  refine CT.of (M := mX6_part) (ls := [some (.ref (q 0)), some (.int 0), none]) (by decide) rfl (by decide) rfl (Nat.le_of_ble_eq_true rfl) ?_
  refine A_iload_n (dX6_part 0 rfl) rfl ?_
  refine A_if_ne 8 (dX6_part 1 rfl) (by decide) (fun h1 => absurd rfl h1) (fun h1 => ?_)
  refine A_aload_n (dX6_part 2 rfl) rfl ?_
  refine A_callVWv 0 (dX6_part 3 rfl) cbX6_fail cwX6_211 (m_fail E q g tw a) rfl rfl MW_0 rfl rfl (by omega) (Nat.le_of_ble_eq_true rfl) (Nat.le_of_ble_eq_true rfl) (Nat.le_of_ble_eq_true rfl) (Nat.le_of_ble_eq_true rfl) ?_
  rintro w1 rfl
  rw [if_pos hP.2.2.2.2.2.2.1]
  refine AW.pcq (pc2 := 8) rfl ?_
  refine A_aload_n (dX6_part 4 rfl) rfl ?_
  refine A_get (dX6_part 5 rfl) fwX6_197 MW_0 MF_30 ?_
  refine A_if_ne 19 (dX6_part 6 rfl) (by decide) (fun h12 => ?_) (fun h12 => absurd h12 (show ¬ (1 : Int32) = 0 by decide))
  refine A_aload_n (dX6_part 9 rfl) rfl ?_
  refine A_get (dX6_part 10 rfl) fwX6_197 MW_0 MF_30 ?_
  refine A_if_eq 30 (dX6_part 11 rfl) (by decide) (fun h23 => absurd h23 (show ¬ (1 : Int32) = 0 by decide)) (fun h23 => ?_)
  refine A_iconst (0) (dX6_part 12 rfl) (by decide +kernel) ?_
  refine A_goto 34 (dX6_part 13 rfl) (by decide) ?_
  refine A_istore_n (ls2 := [_, _, _]) (dX6_part 16 rfl) (by decide) rfl rfl ?_
  refine A_aload_n (dX6_part 17 rfl) rfl ?_
  refine A_bipush (59) (dX6_part 18 rfl) (by decide +kernel) ?_
  refine A_callVWi 1 (dX6_part 19 rfl) cbX6_isSign cwX6_239 (m_isSignB E q (upd (upd g 30 1) 31 (g 27)) tw a 59 (show ¬ (1 : Int32) = 0 by decide)) rfl rfl MW_0 rfl rfl (by omega) (Nat.le_of_ble_eq_true rfl) (Nat.le_of_ble_eq_true rfl) (Nat.le_of_ble_eq_true rfl) (Nat.le_of_ble_eq_true rfl) ?_
  rintro r38 w1 ⟨rfl, rfl⟩
  refine AW.pcq (pc2 := 41) rfl ?_
  refine A_if_ne 48 (dX6_part 20 rfl) (by decide) (fun h41 => absurd rfl h41) (fun h41 => ?_)
  refine A_aload_n (dX6_part 21 rfl) rfl ?_
  refine A_callVWv 0 (dX6_part 22 rfl) cbX6_fail cwX6_211 (m_fail E q (upd (upd g 30 1) 31 (g 27)) tw a) rfl rfl MW_0 rfl rfl (by omega) (Nat.le_of_ble_eq_true rfl) (Nat.le_of_ble_eq_true rfl) (Nat.le_of_ble_eq_true rfl) (Nat.le_of_ble_eq_true rfl) ?_
  rintro w1 rfl
  rw [if_neg (show ¬ upd (upd g 30 1) 31 (g 27) 30 = 0 from (show ¬ (1 : Int32) = 0 by decide))]
  refine AW.pcq (pc2 := 48) rfl ?_
  refine A_aload_n (dX6_part 23 rfl) rfl ?_
  refine A_get (dX6_part 24 rfl) fwX6_197 MW_0 MF_30 ?_
  refine A_if_ne 59 (dX6_part 25 rfl) (by decide) (fun h52 => ?_) (fun h52 => absurd h52 (show ¬ (1 : Int32) = 0 by decide))
  refine A_iload_n (dX6_part 28 rfl) rfl ?_
  refine A_ri (dX6_part 29 rfl) rfl rfl ?_
  exact RM_bad2 (by simp) (KP.up (KP.up KP.rf (by decide)) (by decide)) ⟨rfl, hP.2.2.1⟩
theorem m_part (E : ag) (q : Nat → Nat) (a : Nat → Nat → Int32) (fr n : Nat) (B : Nat → Int32) (f : Nat) (g : Nat → Int32) (tw : Int64) (i : Nat) (res : Bool × Nat × List Int32) (k : Int32) (hpp : prt B f k i = some res) (hT : TXC g a fr n B) (hP : PM B n g tw 0 i) : CT E yX6_part cX6_part 3 mX6_part.2.2.2.1 42 0 0 [.ref (q 0), .int (b01 (ck B i = k))] (MW E q g tw a) (ri (RM E q a n B g 0 res [])) := by
  by_cases hk0 : ck B i = k
  · rw [b01_t hk0]; exact m_part1 E q a fr n B f g tw i res k hpp hT hP hk0
  · rw [b01_f hk0]; exact m_part0 E q a fr n B f g tw i res k hpp hT hP hk0
