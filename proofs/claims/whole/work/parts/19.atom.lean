theorem PM_dec {B : Nat → Int32} {n : Nat} {g : Nat → Int32} {tw : Int64} {o i : Nat} (h : PM B n g tw (o + 1) i) : PM B n (upd g 29 (g 29 - 1)) tw o i := by
  obtain ⟨h1, h2, h3, h4, h5, h6, h7, h8⟩ := h
  exact ⟨h1, h2, h3, h4, h5, by show g 29 - 1 = nI o; rw [h6]; exact nI_pred o, h7, h8⟩
theorem RM_kp {E : ag} {q : Nat → Nat} {a : Nat → Nat → Int32} {n : Nat} {B : Nat → Int32} {g g2 : Nat → Int32} {o : Nat} {t : Bool × Nat × List Int32} {pre : List Int32} {r : Int32} {w : va_W} (hk : KP g g2) (h : RM E q a n B g2 o t pre r w) : RM E q a n B g o t pre r w := RM_seq (c1 := []) hk (fun st => rfl) h
set_option maxRecDepth 100000 in
set_option maxHeartbeats 400000 in
theorem s_not_less (E : ag) (q : Nat → Nat) (a : Nat → Nat → Int32) (fr n : Nat) (B : Nat → Int32) (f : Nat) (h3 : CM E q a fr n B yX6_added cX6_added 4 3 8 f) (g : Nat → Int32) (tw : Int64) (o i : Nat) (res : Bool × Nat × List Int32) (c1 : List Int32) (v : Int32) (he1 : ∀ st, evs (ME g) c1 st = v :: st) (hpp : (pp B f 3 o (men B i)).bind (fun t => if t.1 = true then some (true, t.2.1, c1 ++ t.2.2 ++ [-12]) else some t) = some res) (ho : o ≤ 5) (hT : TXC g a fr n B) (hP : PM B n g tw o i) (htw : tw = 60) : AW E mX6_not (6 * (5 - o) + 9) 0 0 77 [some (.ref (q 0)), some (.int v), none, none] [] (MW E q g tw a) (ri (RM E q a n B g o res [])) := by
  obtain ⟨r1, hr1, hpp⟩ := bnd hpp
  refine A_aload_n (dX6_not 44 rfl) rfl ?_
  refine A_get (dX6_not 45 rfl) fwX6_191 MW_0 MF_28 ?_
  refine A_ldc2 (dX6_not 46 rfl) kcX6_267 ?_
  refine A_lcmp (dX6_not 47 rfl) ?_
  refine A_if_ne 92 (dX6_not 48 rfl) (by decide) (fun h85 => absurd ((cmp_z _ _).mpr htw) h85) (fun h85 => ?_)
  refine A_iconst (1) (dX6_not 49 rfl) (by decide +kernel) ?_
  refine A_goto 93 (dX6_not 50 rfl) (by decide) ?_
  refine A_istore_n (ls2 := [_, _, _, _]) (dX6_not 52 rfl) (by decide) rfl rfl ?_
  refine A_aload_n (dX6_not 53 rfl) rfl ?_
  refine A_callVWv 0 (dX6_not 54 rfl) cbX6_next cwX6_214 (m_next E q g tw a fr n B hT (men B i) (men_le hT hP.2.2.2.2.2.2.2).1 hP.1) rfl rfl MW_0 rfl rfl (by omega) (Nat.le_of_ble_eq_true rfl) (Nat.le_of_ble_eq_true rfl) (Nat.le_of_ble_eq_true rfl) (Nat.le_of_ble_eq_true rfl) ?_
  rintro w1 rfl
  refine AW.pcq (pc2 := 98) rfl ?_
  refine A_aload_n (dX6_not 55 rfl) rfl ?_
  refine A_callVWi 0 (dX6_not 56 rfl) cbX6_added cwX6_264 (h3 (nxg B g (men B i)) (mtw B tw (men B i)) o (men B i) r1 hr1 ho (KP.rf.nx.tx hT) (PM_nx hT hP.2.2.2.2.2.2.2 hP.2.2.2.2.2.1 hP.2.2.2.2.2.2.1)) rfl rfl MW_0 rfl rfl (by omega) (Nat.le_of_ble_eq_true rfl) (Nat.le_of_ble_eq_true rfl) (Nat.le_of_ble_eq_true rfl) (Nat.le_of_ble_eq_true rfl) ?_
  rintro x1 w1 ⟨g2, tw2, rfl, hk, hs, hf⟩
  refine AW.pcq (pc2 := 102) rfl ?_
  refine A_istore_n (ls2 := [_, _, _, _]) (dX6_not 57 rfl) (by decide) rfl rfl ?_
  refine A_iload_n (dX6_not 58 rfl) rfl ?_
  refine A_if_eq 115 (dX6_not 59 rfl) (by decide) (fun h104 => absurd h104 (by decide)) (fun h104 => ?_)
  refine A_iload_n (dX6_not 60 rfl) rfl ?_
  refine A_iload_n (dX6_not 61 rfl) rfl ?_
  refine A_icmp_ge 124 (dX6_not 62 rfl) (by decide) (fun h109 => ?_) (fun h109 => ?_)
  · have hlt9 : ¬ v < x1 := Int32.not_lt.mpr h109
    refine A_iconst (0) (dX6_not 69 rfl) (by decide +kernel) ?_
    refine A_ri (dX6_not 70 rfl) rfl rfl ?_
    by_cases hb1 : r1.1 = true
    · rw [if_pos hb1] at hpp
      cases hpp
      obtain ⟨hP2, he2⟩ := hs hb1
      refine RM_ok (KP.tr (KP.nx KP.rf) hk) hP2 (fun st => ?_)
      rw [evs_app, evs_app]
      rw [show evs (ME g) c1 ([] ++ st) = v :: st from he1 st]
      have h7 := he2 (v :: st)
      rw [KP.me (KP.nx KP.rf)] at h7
      rw [show evs (ME g) r1.2.2 (v :: st) = x1 :: v :: st from h7, ev_lt]
      simp_all
    · rw [if_neg hb1] at hpp
      cases hpp
      exact RM_bad2 hb1 (KP.tr (KP.nx KP.rf) hk) (hf (by simpa using hb1))
  · have hlt9 : v < x1 := Int32.not_le.mp h109
    refine A_goto 120 (dX6_not 63 rfl) (by decide) ?_
    refine A_iconst (1) (dX6_not 67 rfl) (by decide +kernel) ?_
    refine A_goto 125 (dX6_not 68 rfl) (by decide) ?_
    refine A_ri (dX6_not 70 rfl) rfl rfl ?_
    by_cases hb1 : r1.1 = true
    · rw [if_pos hb1] at hpp
      cases hpp
      obtain ⟨hP2, he2⟩ := hs hb1
      refine RM_ok (KP.tr (KP.nx KP.rf) hk) hP2 (fun st => ?_)
      rw [evs_app, evs_app]
      rw [show evs (ME g) c1 ([] ++ st) = v :: st from he1 st]
      have h7 := he2 (v :: st)
      rw [KP.me (KP.nx KP.rf)] at h7
      rw [show evs (ME g) r1.2.2 (v :: st) = x1 :: v :: st from h7, ev_lt]
      simp_all
    · rw [if_neg hb1] at hpp
      cases hpp
      exact RM_bad2 hb1 (KP.tr (KP.nx KP.rf) hk) (hf (by simpa using hb1))
set_option maxRecDepth 100000 in
set_option maxHeartbeats 400000 in
theorem s_not_like (E : ag) (q : Nat → Nat) (a : Nat → Nat → Int32) (fr n : Nat) (B : Nat → Int32) (f : Nat) (h3 : CM E q a fr n B yX6_added cX6_added 4 3 8 f) (g : Nat → Int32) (tw : Int64) (o i : Nat) (res : Bool × Nat × List Int32) (c1 : List Int32) (v : Int32) (he1 : ∀ st, evs (ME g) c1 st = v :: st) (hpp : (pp B f 3 o (men B i)).bind (fun t => if t.1 = true then some (true, t.2.1, c1 ++ t.2.2 ++ [-13]) else some t) = some res) (ho : o ≤ 5) (hT : TXC g a fr n B) (hP : PM B n g tw o i) (htw : ¬ tw = 60) : AW E mX6_not (6 * (5 - o) + 9) 0 0 77 [some (.ref (q 0)), some (.int v), none, none] [] (MW E q g tw a) (ri (RM E q a n B g o res [])) := by
  obtain ⟨r1, hr1, hpp⟩ := bnd hpp
  refine A_aload_n (dX6_not 44 rfl) rfl ?_
  refine A_get (dX6_not 45 rfl) fwX6_191 MW_0 MF_28 ?_
  refine A_ldc2 (dX6_not 46 rfl) kcX6_267 ?_
  refine A_lcmp (dX6_not 47 rfl) ?_
  refine A_if_ne 92 (dX6_not 48 rfl) (by decide) (fun h85 => ?_) (fun h85 => absurd ((cmp_z _ _).mp h85) htw)
  refine A_iconst (0) (dX6_not 51 rfl) (by decide +kernel) ?_
  refine A_istore_n (ls2 := [_, _, _, _]) (dX6_not 52 rfl) (by decide) rfl rfl ?_
  refine A_aload_n (dX6_not 53 rfl) rfl ?_
  refine A_callVWv 0 (dX6_not 54 rfl) cbX6_next cwX6_214 (m_next E q g tw a fr n B hT (men B i) (men_le hT hP.2.2.2.2.2.2.2).1 hP.1) rfl rfl MW_0 rfl rfl (by omega) (Nat.le_of_ble_eq_true rfl) (Nat.le_of_ble_eq_true rfl) (Nat.le_of_ble_eq_true rfl) (Nat.le_of_ble_eq_true rfl) ?_
  rintro w1 rfl
  refine AW.pcq (pc2 := 98) rfl ?_
  refine A_aload_n (dX6_not 55 rfl) rfl ?_
  refine A_callVWi 0 (dX6_not 56 rfl) cbX6_added cwX6_264 (h3 (nxg B g (men B i)) (mtw B tw (men B i)) o (men B i) r1 hr1 ho (KP.rf.nx.tx hT) (PM_nx hT hP.2.2.2.2.2.2.2 hP.2.2.2.2.2.1 hP.2.2.2.2.2.2.1)) rfl rfl MW_0 rfl rfl (by omega) (Nat.le_of_ble_eq_true rfl) (Nat.le_of_ble_eq_true rfl) (Nat.le_of_ble_eq_true rfl) (Nat.le_of_ble_eq_true rfl) ?_
  rintro x1 w1 ⟨g2, tw2, rfl, hk, hs, hf⟩
  refine AW.pcq (pc2 := 102) rfl ?_
  refine A_istore_n (ls2 := [_, _, _, _]) (dX6_not 57 rfl) (by decide) rfl rfl ?_
  refine A_iload_n (dX6_not 58 rfl) rfl ?_
  refine A_if_eq 115 (dX6_not 59 rfl) (by decide) (fun h104 => ?_) (fun h104 => absurd rfl h104)
  refine A_iload_n (dX6_not 64 rfl) rfl ?_
  refine A_iload_n (dX6_not 65 rfl) rfl ?_
  refine A_icmp_ne 124 (dX6_not 66 rfl) (by decide) (fun h117 => ?_) (fun h117 => ?_)
  · refine A_iconst (0) (dX6_not 69 rfl) (by decide +kernel) ?_
    refine A_ri (dX6_not 70 rfl) rfl rfl ?_
    by_cases hb1 : r1.1 = true
    · rw [if_pos hb1] at hpp
      cases hpp
      obtain ⟨hP2, he2⟩ := hs hb1
      refine RM_ok (KP.tr (KP.nx KP.rf) hk) hP2 (fun st => ?_)
      rw [evs_app, evs_app]
      rw [show evs (ME g) c1 ([] ++ st) = v :: st from he1 st]
      have h7 := he2 (v :: st)
      rw [KP.me (KP.nx KP.rf)] at h7
      rw [show evs (ME g) r1.2.2 (v :: st) = x1 :: v :: st from h7, ev_eq]
      simp_all
    · rw [if_neg hb1] at hpp
      cases hpp
      exact RM_bad2 hb1 (KP.tr (KP.nx KP.rf) hk) (hf (by simpa using hb1))
  · refine A_iconst (1) (dX6_not 67 rfl) (by decide +kernel) ?_
    refine A_goto 125 (dX6_not 68 rfl) (by decide) ?_
    refine A_ri (dX6_not 70 rfl) rfl rfl ?_
    by_cases hb1 : r1.1 = true
    · rw [if_pos hb1] at hpp
      cases hpp
      obtain ⟨hP2, he2⟩ := hs hb1
      refine RM_ok (KP.tr (KP.nx KP.rf) hk) hP2 (fun st => ?_)
      rw [evs_app, evs_app]
      rw [show evs (ME g) c1 ([] ++ st) = v :: st from he1 st]
      have h7 := he2 (v :: st)
      rw [KP.me (KP.nx KP.rf)] at h7
      rw [show evs (ME g) r1.2.2 (v :: st) = x1 :: v :: st from h7, ev_eq]
      simp_all
    · rw [if_neg hb1] at hpp
      cases hpp
      exact RM_bad2 hb1 (KP.tr (KP.nx KP.rf) hk) (hf (by simpa using hb1))
set_option maxRecDepth 100000 in
set_option maxHeartbeats 400000 in
theorem s_not (E : ag) (q : Nat → Nat) (a : Nat → Nat → Int32) (fr n : Nat) (B : Nat → Int32) (f : Nat) (h2 : CM E q a fr n B yX6_not cX6_not 4 2 9 f) (h3 : CM E q a fr n B yX6_added cX6_added 4 3 8 f) : CM E q a fr n B yX6_not cX6_not 4 2 9 (f + 1) := by
  intro g tw o i res hpp ho hT hP
  simp only [pp] at hpp
  refine CT.of (M := mX6_not) (ls := [some (.ref (q 0)), none, none, none]) (by decide) rfl (by decide) rfl (Nat.le_of_ble_eq_true rfl) ?_
  refine A_aload_n (dX6_not 0 rfl) rfl ?_
  refine A_bipush (110) (dX6_not 1 rfl) (by decide +kernel) ?_
  refine A_bipush (111) (dX6_not 2 rfl) (by decide +kernel) ?_
  refine A_bipush (116) (dX6_not 3 rfl) (by decide +kernel) ?_
  refine A_iconst (0) (dX6_not 4 rfl) (by decide +kernel) ?_
  refine A_iconst (0) (dX6_not 5 rfl) (by decide +kernel) ?_
  refine A_iconst (0) (dX6_not 6 rfl) (by decide +kernel) ?_
  refine A_iconst (0) (dX6_not 7 rfl) (by decide +kernel) ?_
  refine AW.pcq (pc2 := 11) rfl ?_
  refine A_iconst (0) (dX6_not 8 rfl) (by decide +kernel) ?_
  refine A_callVWi 8 (dX6_not 9 rfl) cbX6_isWord cwX6_217 (m_isWord E q g tw a fr n (lst B i) (men B i) B hT hP.2.2.1 hP.1 (men_le hT hP.2.2.2.2.2.2.2).1 (lst_le hT hP.2.2.2.2.2.2.2).1 110 111 116 0 0 0 0 0) rfl rfl MW_0 rfl rfl (by omega) (Nat.le_of_ble_eq_true rfl) (Nat.le_of_ble_eq_true rfl) (Nat.le_of_ble_eq_true rfl) (Nat.le_of_ble_eq_true rfl) ?_
  rintro r12 w1 ⟨rfl, rfl⟩
  refine AW.pcq (pc2 := 15) rfl ?_
  refine A_if_eq 52 (dX6_not 10 rfl) (by decide) (fun h15 => ?_) (fun h15 => ?_)
  · have hck : ¬ ck B i = 8 := fun z => b01_0.mp h15 (by have y := (ck_word (by decide) (by decide)).mp z; exact ⟨hP.2.2.2.2.2.2.1, hP.2.1.trans y.1, wci_8.mp y.2⟩)
    rw [if_neg hck] at hpp
    obtain ⟨r1, hr1, hpp⟩ := bnd hpp
    refine A_aload_n (dX6_not 31 rfl) rfl ?_
    refine A_callVWi 0 (dX6_not 32 rfl) cbX6_added cwX6_264 (h3 g tw o i r1 hr1 ho hT hP) rfl rfl MW_0 rfl rfl (by omega) (Nat.le_of_ble_eq_true rfl) (Nat.le_of_ble_eq_true rfl) (Nat.le_of_ble_eq_true rfl) (Nat.le_of_ble_eq_true rfl) ?_
    rintro x1 w1 ⟨g2, tw2, rfl, hk, hs, hf⟩
    refine AW.pcq (pc2 := 56) rfl ?_
    refine A_istore_n (ls2 := [_, _, _, _]) (dX6_not 33 rfl) (by decide) rfl rfl ?_
    by_cases hb1 : r1.1 = true
    · rw [if_pos hb1] at hpp
      obtain ⟨hP2, he2⟩ := hs hb1
      refine A_aload_n (dX6_not 34 rfl) rfl ?_
      refine A_bipush (60) (dX6_not 35 rfl) (by decide +kernel) ?_
      refine A_callVWi 1 (dX6_not 36 rfl) cbX6_isSign cwX6_239 (m_isSign E q g2 tw2 a 60) rfl rfl MW_0 rfl rfl (by omega) (Nat.le_of_ble_eq_true rfl) (Nat.le_of_ble_eq_true rfl) (Nat.le_of_ble_eq_true rfl) (Nat.le_of_ble_eq_true rfl) ?_
      rintro r60 w1 ⟨rfl, rfl⟩
      refine AW.pcq (pc2 := 63) rfl ?_
      refine A_if_ne 77 (dX6_not 37 rfl) (by decide) (fun h63 => ?_) (fun h63 => ?_)
      · have hcl : ck B r1.2.1 = 60 := (PM_sign hP2 (by decide)).mp (b01_n.mp h63)
        first
          | (rw [if_pos (Or.inl hcl)] at hpp
             simp only [if_pos hcl] at hpp
             have hm := (ck_sign (B := B) (i := r1.2.1) (by decide)).mp hcl
             have htw0 := hP2.2.2.2.2.1 hm.1
             rw [hm.2] at htw0
             refine AW.mono (s_not_less E q a fr n B f h3 g2 tw2 o r1.2.1 res r1.2.2 x1 (fun st => by have h7 := he2 st; rw [← KP.me hk] at h7; exact h7) hpp ho (hk.tx hT) hP2 (by rw [htw0]; decide)) (fun z w hz => ?_)
             obtain ⟨rr, hr, hm2⟩ := hz
             exact ⟨rr, hr, RM_kp hk hm2⟩)
          | (rw [if_pos (Or.inr hce)] at hpp
             simp only [if_neg hcl] at hpp
             have hm := (ck_sign (B := B) (i := r1.2.1) (by decide)).mp hce
             have htw0 := hP2.2.2.2.2.1 hm.1
             rw [hm.2] at htw0
             refine AW.mono (s_not_like E q a fr n B f h3 g2 tw2 o r1.2.1 res r1.2.2 x1 (fun st => by have h7 := he2 st; rw [← KP.me hk] at h7; exact h7) hpp ho (hk.tx hT) hP2 (by rw [htw0]; decide)) (fun z w hz => ?_)
             obtain ⟨rr, hr, hm2⟩ := hz
             exact ⟨rr, hr, RM_kp hk hm2⟩)
      · have hcl : ¬ ck B r1.2.1 = 60 := fun z => b01_0.mp h63 ((PM_sign hP2 (by decide)).mpr z)
        refine A_aload_n (dX6_not 38 rfl) rfl ?_
        refine A_bipush (61) (dX6_not 39 rfl) (by decide +kernel) ?_
        refine A_callVWi 1 (dX6_not 40 rfl) cbX6_isSign cwX6_239 (m_isSign E q g2 tw2 a 61) rfl rfl MW_0 rfl rfl (by omega) (Nat.le_of_ble_eq_true rfl) (Nat.le_of_ble_eq_true rfl) (Nat.le_of_ble_eq_true rfl) (Nat.le_of_ble_eq_true rfl) ?_
        rintro r69 w1 ⟨rfl, rfl⟩
        refine AW.pcq (pc2 := 72) rfl ?_
        refine A_if_ne 77 (dX6_not 41 rfl) (by decide) (fun h72 => ?_) (fun h72 => ?_)
        · have hce : ck B r1.2.1 = 61 := (PM_sign hP2 (by decide)).mp (b01_n.mp h72)
          first
            | (rw [if_pos (Or.inl hcl)] at hpp
               simp only [if_pos hcl] at hpp
               have hm := (ck_sign (B := B) (i := r1.2.1) (by decide)).mp hcl
               have htw0 := hP2.2.2.2.2.1 hm.1
               rw [hm.2] at htw0
               refine AW.mono (s_not_less E q a fr n B f h3 g2 tw2 o r1.2.1 res r1.2.2 x1 (fun st => by have h7 := he2 st; rw [← KP.me hk] at h7; exact h7) hpp ho (hk.tx hT) hP2 (by rw [htw0]; decide)) (fun z w hz => ?_)
               obtain ⟨rr, hr, hm2⟩ := hz
               exact ⟨rr, hr, RM_kp hk hm2⟩)
            | (rw [if_pos (Or.inr hce)] at hpp
               simp only [if_neg hcl] at hpp
               have hm := (ck_sign (B := B) (i := r1.2.1) (by decide)).mp hce
               have htw0 := hP2.2.2.2.2.1 hm.1
               rw [hm.2] at htw0
               refine AW.mono (s_not_like E q a fr n B f h3 g2 tw2 o r1.2.1 res r1.2.2 x1 (fun st => by have h7 := he2 st; rw [← KP.me hk] at h7; exact h7) hpp ho (hk.tx hT) hP2 (by rw [htw0]; decide)) (fun z w hz => ?_)
               obtain ⟨rr, hr, hm2⟩ := hz
               exact ⟨rr, hr, RM_kp hk hm2⟩)
        · have hce : ¬ ck B r1.2.1 = 61 := fun z => b01_0.mp h72 ((PM_sign hP2 (by decide)).mpr z)
          rw [if_neg (fun z => z.elim hcl hce)] at hpp
          cases hpp
          refine A_iload_n (dX6_not 42 rfl) rfl ?_
          refine A_ri (dX6_not 43 rfl) rfl rfl ?_
          exact ⟨g2, tw2, rfl, hk, fun _ => ⟨hP2, he2⟩, fun z => absurd hb1 (by simp [z])⟩
    · rw [if_neg hb1] at hpp
      cases hpp
      have h3b := hf (by simpa using hb1)
      refine A_aload_n (dX6_not 34 rfl) rfl ?_
      refine A_bipush (60) (dX6_not 35 rfl) (by decide +kernel) ?_
      refine A_callVWi 1 (dX6_not 36 rfl) cbX6_isSign cwX6_239 (m_isSignB E q g2 tw2 a 60 (by rw [h3b.1]; decide)) rfl rfl MW_0 rfl rfl (by omega) (Nat.le_of_ble_eq_true rfl) (Nat.le_of_ble_eq_true rfl) (Nat.le_of_ble_eq_true rfl) (Nat.le_of_ble_eq_true rfl) ?_
      rintro r60 w1 ⟨rfl, rfl⟩
      refine AW.pcq (pc2 := 63) rfl ?_
      refine A_if_ne 77 (dX6_not 37 rfl) (by decide) (fun h63 => absurd rfl h63) (fun h63 => ?_)
      refine A_aload_n (dX6_not 38 rfl) rfl ?_
      refine A_bipush (61) (dX6_not 39 rfl) (by decide +kernel) ?_
      refine A_callVWi 1 (dX6_not 40 rfl) cbX6_isSign cwX6_239 (m_isSignB E q g2 tw2 a 61 (by rw [h3b.1]; decide)) rfl rfl MW_0 rfl rfl (by omega) (Nat.le_of_ble_eq_true rfl) (Nat.le_of_ble_eq_true rfl) (Nat.le_of_ble_eq_true rfl) (Nat.le_of_ble_eq_true rfl) ?_
      rintro r69 w1 ⟨rfl, rfl⟩
      refine AW.pcq (pc2 := 72) rfl ?_
      refine A_if_ne 77 (dX6_not 41 rfl) (by decide) (fun h72 => absurd rfl h72) (fun h72 => ?_)
      refine A_iload_n (dX6_not 42 rfl) rfl ?_
      refine A_ri (dX6_not 43 rfl) rfl rfl ?_
      exact RM_bad2 hb1 hk h3b
  · have hck : ck B i = 8 := by
      have y := b01_n.mp h15
      exact (ck_word (by decide) (by decide)).mpr ⟨hP.2.1.symm.trans y.2.1, wci_8.mpr y.2.2⟩
    rw [if_pos hck] at hpp
    refine A_aload_n (dX6_not 11 rfl) rfl ?_
    rcases Nat.lt_or_ge o 5 with ho5 | ho5
    · rw [if_neg (by omega)] at hpp
      obtain ⟨r1, hr1, hpp⟩ := bnd hpp
      refine A_callVWi 0 (dX6_not 12 rfl) cbX6_opens cwX6_242 (m_opens E q g tw a fr n B hT o i ho hP) rfl rfl MW_0 rfl rfl (by omega) (Nat.le_of_ble_eq_true rfl) (Nat.le_of_ble_eq_true rfl) (Nat.le_of_ble_eq_true rfl) (Nat.le_of_ble_eq_true rfl) ?_
      rintro x0 w1 (⟨z, rfl, rfl⟩ | ⟨z, rfl, rfl⟩)
      · omega
      refine AW.pcq (pc2 := 22) rfl ?_
      refine A_if_ne 27 (dX6_not 13 rfl) (by decide) (fun h22 => ?_) (fun h22 => absurd h22 (by decide))
      refine A_aload_n (dX6_not 16 rfl) rfl ?_
      refine A_callVWi 0 (dX6_not 17 rfl) cbX6_not cwX6_261 (h2 (nxg B (upd g 29 (nI (o + 1))) (men B i)) (mtw B tw (men B i)) (o + 1) (men B i) r1 hr1 (by omega) (KP.tx (KP.nx (KP.up KP.rf (by decide))) hT) (PM_nx hT hP.2.2.2.2.2.2.2 rfl hP.2.2.2.2.2.2.1)) rfl rfl MW_0 rfl rfl (by omega) (Nat.le_of_ble_eq_true rfl) (Nat.le_of_ble_eq_true rfl) (Nat.le_of_ble_eq_true rfl) (Nat.le_of_ble_eq_true rfl) ?_
      rintro x1 w1 ⟨g2, tw2, rfl, hk, hs, hf⟩
      refine AW.pcq (pc2 := 31) rfl ?_
      refine A_istore_n (ls2 := [_, _, _, _]) (dX6_not 18 rfl) (by decide) rfl rfl ?_
      refine A_aload_n (dX6_not 19 rfl) rfl ?_
      refine A_dup (dX6_not 20 rfl) rfl ?_
      refine A_get (dX6_not 21 rfl) fwX6_208 MW_0 MF_29 ?_
      refine A_iconst (1) (dX6_not 22 rfl) (by decide +kernel) ?_
      refine A_isub (dX6_not 23 rfl) ?_
      refine A_put (dX6_not 24 rfl) fwX6_208 fcX6 ftX6_29 MW_0 rfl rfl ML_0 (MP_29 _) ?_
      refine A_iload_n (dX6_not 25 rfl) rfl ?_
      refine AW.pcq (pc2 := 43) rfl ?_
      refine A_if_ne 50 (dX6_not 26 rfl) (by decide) (fun h43 => ?_) (fun h43 => ?_)
      · refine A_iconst (0) (dX6_not 29 rfl) (by decide +kernel) ?_
        refine A_ri (dX6_not 30 rfl) rfl rfl ?_
        by_cases hb1 : r1.1 = true
        · rw [if_pos hb1] at hpp
          cases hpp
          obtain ⟨hP2, he2⟩ := hs hb1
          refine RM_ok (KP.up (KP.tr (KP.nx (KP.up KP.rf (by decide))) hk) (by decide)) (PM_dec hP2) (fun st => ?_)
          rw [evs_app]
          have h7 := he2 st
          rw [KP.me (KP.nx (KP.up KP.rf (by decide)))] at h7
          rw [show evs (ME g) r1.2.2 ([] ++ st) = x1 :: st from h7, ev_not]
          simp_all
        · rw [if_neg hb1] at hpp
          cases hpp
          exact RM_bad2 hb1 (KP.up (KP.tr (KP.nx (KP.up KP.rf (by decide))) hk) (by decide)) (hf (by simpa using hb1))
      · refine A_iconst (1) (dX6_not 27 rfl) (by decide +kernel) ?_
        refine A_goto 51 (dX6_not 28 rfl) (by decide) ?_
        refine A_ri (dX6_not 30 rfl) rfl rfl ?_
        by_cases hb1 : r1.1 = true
        · rw [if_pos hb1] at hpp
          cases hpp
          obtain ⟨hP2, he2⟩ := hs hb1
          refine RM_ok (KP.up (KP.tr (KP.nx (KP.up KP.rf (by decide))) hk) (by decide)) (PM_dec hP2) (fun st => ?_)
          rw [evs_app]
          have h7 := he2 st
          rw [KP.me (KP.nx (KP.up KP.rf (by decide)))] at h7
          rw [show evs (ME g) r1.2.2 ([] ++ st) = x1 :: st from h7, ev_not]
          simp_all
        · rw [if_neg hb1] at hpp
          cases hpp
          exact RM_bad2 hb1 (KP.up (KP.tr (KP.nx (KP.up KP.rf (by decide))) hk) (by decide)) (hf (by simpa using hb1))
    · rw [if_pos ho5] at hpp
      cases hpp
      refine A_callVWi 0 (dX6_not 12 rfl) cbX6_opens cwX6_242 (m_opens E q g tw a fr n B hT o i ho hP) rfl rfl MW_0 rfl rfl (by omega) (Nat.le_of_ble_eq_true rfl) (Nat.le_of_ble_eq_true rfl) (Nat.le_of_ble_eq_true rfl) (Nat.le_of_ble_eq_true rfl) ?_
      rintro x0 w1 (⟨z, rfl, rfl⟩ | ⟨z, rfl, rfl⟩)
      rotate_left
      · omega
      refine AW.pcq (pc2 := 22) rfl ?_
      refine A_if_ne 27 (dX6_not 13 rfl) (by decide) (fun h22 => absurd rfl h22) (fun h22 => ?_)
      refine A_iconst (0) (dX6_not 14 rfl) (by decide +kernel) ?_
      refine A_ri (dX6_not 15 rfl) rfl rfl ?_
      exact RM_bad2 (by simp) (KP.up (KP.up KP.rf (by decide)) (by decide)) ⟨rfl, hP.2.2.1⟩
theorem dgp_dig {B : Nat → Int32} : ∀ f s j, s ≤ j → j < dgp B f s → ¬ inI (B j) 48 57 = 0 := by
  intro f
  induction f with
  | zero => intro s j h1 h2; simp only [dgp] at h2; omega
  | succ f ih =>
    intro s j h1 h2
    simp only [dgp] at h2
    split at h2
    · omega
    · rename_i h
      rcases Nat.lt_or_ge s j with z | z
      · exact ih (s + 1) j z h2
      · obtain rfl : j = s := by omega
        exact h
theorem dig_nI {b : Int32} (h : ¬ inI b 48 57 = 0) : ∃ c : Nat, 48 ≤ c ∧ c ≤ 57 ∧ b = nI c := by
  obtain ⟨h1, h2⟩ := inI_yes h
  have e1 : (48 : Int32).toInt = 48 := by decide
  have e2 : (57 : Int32).toInt = 57 := by decide
  have h0 : (0 : Int32).toInt = 0 := by decide
  obtain ⟨j, hj, rfl⟩ := nI_of (x := b) (fun z => by have := Int32.lt_iff_toInt_lt.mp z; omega)
  rw [nI_toInt hj] at h1 h2
  exact ⟨j, by omega, by omega, rfl⟩
theorem dv_N {B : Nat → Int32} {s : Nat} : ∀ k, k ≤ 4 → (∀ j, j < k → ¬ inI (B (s + j)) 48 57 = 0) → ∃ X : Nat, X < 10 ^ k ∧ dv64 B s k = lN X := by
  intro k
  induction k with
  | zero => intro _ _; exact ⟨0, by decide, rfl⟩
  | succ k ih =>
    intro hk hd
    obtain ⟨X, h1, h2⟩ := ih (by omega) (fun j hj => hd j (by omega))
    obtain ⟨c, c1, c2, hc⟩ := dig_nI (hd k (by omega))
    refine ⟨10 * X + c - 48, ?_, ?_⟩
    · rw [Nat.pow_succ]
      omega
    · rw [dv64, if_pos (by omega), h2, hc, nI_l (by omega)]
      rw [show (10 : Int64) = lN 10 from rfl, show (48 : Int64) = lN 48 from rfl, lN_mul, lN_add, lN_sub (by omega)]
theorem mkd2 {B : Nat → Int32} {i : Nat} (h : mkd B i = 2) : dgp B 161 (lst B i) - lst B i ≤ 4 := by
  unfold mkd at h
  split at h
  · exact absurd h (by decide)
  · split at h
    · exact absurd h (by decide)
    · split at h
      · split at h
        · exact absurd h (by decide)
        · omega
      · split at h
        · exact absurd h (by decide)
        · exact absurd h (by decide)
theorem cv_N {B : Nat → Int32} {i : Nat} (hm : mkd B i = 2) : ∃ X : Nat, X < 10000 ∧ cv B i = nI X := by
  obtain ⟨X, h1, h2⟩ := dv_N (B := B) (s := lst B i) (dgp B 161 (lst B i) - lst B i) (mkd2 hm) (fun j hj => dgp_dig 161 (lst B i) _ (by omega) (by omega))
  have h3 : 10 ^ (dgp B 161 (lst B i) - lst B i) ≤ 10 ^ 4 := Nat.pow_le_pow_right (by decide) (mkd2 hm)
  refine ⟨X, by omega, ?_⟩
  unfold cv
  rw [h2, lN_i]
theorem ev_push {e : Nat → Int32} {X : Nat} (h : X < 10000) (st : List Int32) : evs e [nI X] st = nI X :: st := by
  have h0 : (0 : Int32) ≤ nI X := nI_pos' (by omega)
  have h6 : (-6 : Int32) ≤ nI X := Int32.le_trans (by decide) h0
  show ev1 e (nI X) st = _
  unfold ev1
  rw [if_pos h6, if_pos h0]
theorem ev_num {B : Nat → Int32} {i : Nat} (hm : mkd B i = 2) (e : Nat → Int32) (st : List Int32) : evs e [cv B i] ([] ++ st) = (dv64 B (lst B i) (dgp B 161 (lst B i) - lst B i)).toInt32 :: st := by
  obtain ⟨X, h1, h2⟩ := cv_N hm
  show evs e [cv B i] st = cv B i :: st
  rw [h2]
  exact ev_push h1 st
theorem no_name {B : Nat → Int32} {i : Nat} (hm1 : mkd B i = 1) (z0 : ¬ wcode B (lst B i) (men B i) = 9) (z1 : ¬ wcode B (lst B i) (men B i) = 10) (z2 : ¬ wcode B (lst B i) (men B i) = 11) (z3 : ¬ wcode B (lst B i) (men B i) = 12) (z4 : ¬ wcode B (lst B i) (men B i) = 13) (z5 : ¬ wcode B (lst B i) (men B i) = 14) : ¬ ck B i = 1 ∧ ¬ (9 ≤ ck B i ∧ ck B i ≤ 14 ∧ mkd B i = 1) := by
  rw [ck1 hm1]
  rcases wc_in B (lst B i) (men B i) with ⟨u, -⟩ | ⟨u, -⟩ | ⟨u, -⟩ | ⟨u, -⟩ | ⟨u, -⟩ | ⟨u, -⟩ | ⟨u, -⟩ | ⟨u, -⟩ | ⟨u, -⟩ | ⟨u, -⟩ | ⟨u, -⟩ | ⟨u, -⟩ | u
  · rw [u]; exact ⟨by decide, fun z => absurd z.1 (by decide)⟩
  · rw [u]; exact ⟨by decide, fun z => absurd z.1 (by decide)⟩
  · rw [u]; exact ⟨by decide, fun z => absurd z.1 (by decide)⟩
  · rw [u]; exact ⟨by decide, fun z => absurd z.1 (by decide)⟩
  · rw [u]; exact ⟨by decide, fun z => absurd z.1 (by decide)⟩
  · rw [u]; exact ⟨by decide, fun z => absurd z.1 (by decide)⟩
  · exact absurd u z0
  · exact absurd u z1
  · exact absurd u z2
  · exact absurd u z3
  · exact absurd u z4
  · exact absurd u z5
  · rw [u]; exact ⟨by decide, fun z => absurd z.1 (by decide)⟩
set_option maxRecDepth 100000 in
set_option maxHeartbeats 4000000 in
theorem s_atom_par (E : ag) (q : Nat → Nat) (a : Nat → Nat → Int32) (fr n : Nat) (B : Nat → Int32) (f : Nat) (h0 : CM E q a fr n B yX6_either cX6_either 3 0 11 f) (g : Nat → Int32) (tw : Int64) (o i : Nat) (res : Bool × Nat × List Int32) (hpp : (if 5 ≤ o then some (false, i, []) else if ck B i = 45 then (pp B f 5 (o + 1) (men B i)).bind (fun r => if r.1 = true then some (true, r.2.1, r.2.2 ++ [-7]) else some r) else if ck B i = 40 then (pp B f 0 (o + 1) (men B i)).bind (fun r => if r.1 = true then (if ck B r.2.1 = 41 then some (true, men B r.2.1, r.2.2) else some (false, r.2.1, r.2.2)) else some r) else some (false, i, [])) = some res) (ho : o ≤ 5) (hT : TXC g a fr n B) (hP : PM B n g tw o i) (hck40 : ck B i = 40) (hck45 : ¬ ck B i = 45) : AW E mX6_atom (6 * (5 - o) + 6) 0 0 46 [some (.ref (q 0)), some (.int 0)] [] (MW E q g tw a) (ri (RM E q a n B g o res [])) := by
  refine A_aload_n (dX6_atom 24 rfl) rfl ?_
  rcases Nat.lt_or_ge o 5 with ho5 | ho5
  · rw [if_neg (by omega), if_neg hck45, if_pos hck40] at hpp
    obtain ⟨r1, hr1, hpp⟩ := bnd hpp
    refine A_callVWi 0 (dX6_atom 25 rfl) cbX6_opens cwX6_242 (m_opens E q g tw a fr n B hT o i ho hP) rfl rfl MW_0 rfl rfl (by omega) (Nat.le_of_ble_eq_true rfl) (Nat.le_of_ble_eq_true rfl) (Nat.le_of_ble_eq_true rfl) (Nat.le_of_ble_eq_true rfl) ?_
    rintro x0 w1 (⟨z, rfl, rfl⟩ | ⟨z, rfl, rfl⟩)
    · omega
    refine AW.pcq (pc2 := 50) rfl ?_
    refine A_if_eq 161 (dX6_atom 26 rfl) (by decide) (fun h50 => absurd h50 (by decide)) (fun h50 => ?_)
    refine A_aload_n (dX6_atom 27 rfl) rfl ?_
    refine A_callVWi 0 (dX6_atom 28 rfl) cbX6_either cwX6_250 (h0 (nxg B (upd g 29 (nI (o + 1))) (men B i)) (mtw B tw (men B i)) (o + 1) (men B i) r1 hr1 (by omega) (KP.tx (KP.nx (KP.up KP.rf (by decide))) hT) (PM_nx hT hP.2.2.2.2.2.2.2 rfl hP.2.2.2.2.2.2.1)) rfl rfl MW_0 rfl rfl (by omega) (Nat.le_of_ble_eq_true rfl) (Nat.le_of_ble_eq_true rfl) (Nat.le_of_ble_eq_true rfl) (Nat.le_of_ble_eq_true rfl) ?_
    rintro x1 w1 ⟨g2, tw2, rfl, hk, hs, hf⟩
    refine AW.pcq (pc2 := 57) rfl ?_
    refine A_istore_n (ls2 := [_, _]) (dX6_atom 29 rfl) (by decide) rfl rfl ?_
    have hkt : KP g g2 := (KP.tr (KP.nx (KP.up KP.rf (by decide))) hk)
    by_cases hb1 : r1.1 = true
    by_cases hcl : ck B r1.2.1 = 41
    · rw [if_pos hb1, if_pos hcl] at hpp
      cases hpp
      obtain ⟨hP2, he2⟩ := hs hb1
      have hTn : TXC (upd g2 29 (g2 29 - 1)) a fr n B := KP.tx (KP.up hkt (by decide)) hT
      refine A_aload_n (dX6_atom 30 rfl) rfl ?_
      refine A_bipush (41) (dX6_atom 31 rfl) (by decide +kernel) ?_
      refine A_callVWi 1 (dX6_atom 32 rfl) cbX6_isSign cwX6_239 (m_isSign E q g2 tw2 a 41) rfl rfl MW_0 rfl rfl (by omega) (Nat.le_of_ble_eq_true rfl) (Nat.le_of_ble_eq_true rfl) (Nat.le_of_ble_eq_true rfl) (Nat.le_of_ble_eq_true rfl) ?_
      rintro r61 w1 ⟨rfl, rfl⟩
      refine AW.pcq (pc2 := 64) rfl ?_
      refine A_if_ne 71 (dX6_atom 33 rfl) (by decide) (fun h64 => ?_) (fun h64 => absurd h64 (b01_n.mpr ((PM_sign hP2 (by decide)).mpr hcl)))
      refine A_aload_n (dX6_atom 36 rfl) rfl ?_
      refine A_dup (dX6_atom 37 rfl) rfl ?_
      refine A_get (dX6_atom 38 rfl) fwX6_208 MW_0 MF_29 ?_
      refine A_iconst (1) (dX6_atom 39 rfl) (by decide +kernel) ?_
      refine A_isub (dX6_atom 40 rfl) ?_
      refine A_put (dX6_atom 41 rfl) fwX6_208 fcX6 ftX6_29 MW_0 rfl rfl ML_0 (MP_29 _) ?_
      refine A_aload_n (dX6_atom 42 rfl) rfl ?_
      refine A_get (dX6_atom 43 rfl) fwX6_197 MW_0 MF_30 ?_
      refine AW.pcq (pc2 := 85) rfl ?_
      refine A_if_ne 161 (dX6_atom 44 rfl) (by decide) (fun h85 => absurd hP2.2.2.2.2.2.2.1 h85) (fun h85 => ?_)
      refine A_aload_n (dX6_atom 45 rfl) rfl ?_
      refine A_callVWv 0 (dX6_atom 46 rfl) cbX6_next cwX6_214 (m_next E q (upd g2 29 (g2 29 - 1)) tw2 a fr n B hTn (men B r1.2.1) (men_le hT hP2.2.2.2.2.2.2.2).1 hP2.1) rfl rfl MW_0 rfl rfl (by omega) (Nat.le_of_ble_eq_true rfl) (Nat.le_of_ble_eq_true rfl) (Nat.le_of_ble_eq_true rfl) (Nat.le_of_ble_eq_true rfl) ?_
      rintro w1 rfl
      refine AW.pcq (pc2 := 92) rfl ?_
      refine A_goto 161 (dX6_atom 47 rfl) (by decide) ?_
      refine A_iload_n (dX6_atom 80 rfl) rfl ?_
      refine A_ri (dX6_atom 81 rfl) rfl rfl ?_
      refine RM_ok (KP.nx (KP.up hkt (by decide))) (PM_nx hT hP2.2.2.2.2.2.2.2 (PM_dec hP2).2.2.2.2.2.1 (PM_dec hP2).2.2.2.2.2.2.1) (fun st => ?_)
      have h7 := he2 st
      rw [KP.me (KP.nx (KP.up KP.rf (by decide)))] at h7
      exact h7
    · rw [if_pos hb1, if_neg hcl] at hpp
      cases hpp
      obtain ⟨hP2, he2⟩ := hs hb1
      refine A_aload_n (dX6_atom 30 rfl) rfl ?_
      refine A_bipush (41) (dX6_atom 31 rfl) (by decide +kernel) ?_
      refine A_callVWi 1 (dX6_atom 32 rfl) cbX6_isSign cwX6_239 (m_isSign E q g2 tw2 a 41) rfl rfl MW_0 rfl rfl (by omega) (Nat.le_of_ble_eq_true rfl) (Nat.le_of_ble_eq_true rfl) (Nat.le_of_ble_eq_true rfl) (Nat.le_of_ble_eq_true rfl) ?_
      rintro r61 w1 ⟨rfl, rfl⟩
      refine AW.pcq (pc2 := 64) rfl ?_
      refine A_if_ne 71 (dX6_atom 33 rfl) (by decide) (fun h64 => absurd (b01_0.mpr (fun z => hcl ((PM_sign hP2 (by decide)).mp z))) h64) (fun h64 => ?_)
      refine A_aload_n (dX6_atom 34 rfl) rfl ?_
      refine A_callVWv 0 (dX6_atom 35 rfl) cbX6_fail cwX6_211 (m_fail E q g2 tw2 a) rfl rfl MW_0 rfl rfl (by omega) (Nat.le_of_ble_eq_true rfl) (Nat.le_of_ble_eq_true rfl) (Nat.le_of_ble_eq_true rfl) (Nat.le_of_ble_eq_true rfl) ?_
      rintro w1 rfl
      rw [if_pos hP2.2.2.2.2.2.2.1]
      refine AW.pcq (pc2 := 71) rfl ?_
      refine A_aload_n (dX6_atom 36 rfl) rfl ?_
      refine A_dup (dX6_atom 37 rfl) rfl ?_
      refine A_get (dX6_atom 38 rfl) fwX6_208 MW_0 MF_29 ?_
      refine A_iconst (1) (dX6_atom 39 rfl) (by decide +kernel) ?_
      refine A_isub (dX6_atom 40 rfl) ?_
      refine A_put (dX6_atom 41 rfl) fwX6_208 fcX6 ftX6_29 MW_0 rfl rfl ML_0 (MP_29 _) ?_
      refine A_aload_n (dX6_atom 42 rfl) rfl ?_
      refine A_get (dX6_atom 43 rfl) fwX6_197 MW_0 MF_30 ?_
      refine AW.pcq (pc2 := 85) rfl ?_
      refine A_if_ne 161 (dX6_atom 44 rfl) (by decide) (fun h85 => ?_) (fun h85 => absurd h85 (show ¬ (1 : Int32) = 0 by decide))
      refine A_iload_n (dX6_atom 80 rfl) rfl ?_
      refine A_ri (dX6_atom 81 rfl) rfl rfl ?_
      exact RM_bad2 (by simp) (KP.up (KP.up (KP.up hkt (by decide)) (by decide)) (by decide)) ⟨rfl, hP2.2.2.1⟩
    · rw [if_neg hb1] at hpp
      cases hpp
      have h3b := hf (by simpa using hb1)
      have h3c : ¬ g2 30 = 0 := by rw [h3b.1]; decide
      refine A_aload_n (dX6_atom 30 rfl) rfl ?_
      refine A_bipush (41) (dX6_atom 31 rfl) (by decide +kernel) ?_
      refine A_callVWi 1 (dX6_atom 32 rfl) cbX6_isSign cwX6_239 (m_isSignB E q g2 tw2 a 41 h3c) rfl rfl MW_0 rfl rfl (by omega) (Nat.le_of_ble_eq_true rfl) (Nat.le_of_ble_eq_true rfl) (Nat.le_of_ble_eq_true rfl) (Nat.le_of_ble_eq_true rfl) ?_
      rintro r61 w1 ⟨rfl, rfl⟩
      refine AW.pcq (pc2 := 64) rfl ?_
      refine A_if_ne 71 (dX6_atom 33 rfl) (by decide) (fun h64 => absurd rfl h64) (fun h64 => ?_)
      refine A_aload_n (dX6_atom 34 rfl) rfl ?_
      refine A_callVWv 0 (dX6_atom 35 rfl) cbX6_fail cwX6_211 (m_fail E q g2 tw2 a) rfl rfl MW_0 rfl rfl (by omega) (Nat.le_of_ble_eq_true rfl) (Nat.le_of_ble_eq_true rfl) (Nat.le_of_ble_eq_true rfl) (Nat.le_of_ble_eq_true rfl) ?_
      rintro w1 rfl
      rw [if_neg h3c]
      refine AW.pcq (pc2 := 71) rfl ?_
      refine A_aload_n (dX6_atom 36 rfl) rfl ?_
      refine A_dup (dX6_atom 37 rfl) rfl ?_
      refine A_get (dX6_atom 38 rfl) fwX6_208 MW_0 MF_29 ?_
      refine A_iconst (1) (dX6_atom 39 rfl) (by decide +kernel) ?_
      refine A_isub (dX6_atom 40 rfl) ?_
      refine A_put (dX6_atom 41 rfl) fwX6_208 fcX6 ftX6_29 MW_0 rfl rfl ML_0 (MP_29 _) ?_
      refine A_aload_n (dX6_atom 42 rfl) rfl ?_
      refine A_get (dX6_atom 43 rfl) fwX6_197 MW_0 MF_30 ?_
      refine AW.pcq (pc2 := 85) rfl ?_
      refine A_if_ne 161 (dX6_atom 44 rfl) (by decide) (fun h85 => ?_) (fun h85 => absurd h85 h3c)
      refine A_iload_n (dX6_atom 80 rfl) rfl ?_
      refine A_ri (dX6_atom 81 rfl) rfl rfl ?_
      exact RM_bad2 hb1 (KP.up hkt (by decide)) h3b
  · rw [if_pos ho5] at hpp
    cases hpp
    refine A_callVWi 0 (dX6_atom 25 rfl) cbX6_opens cwX6_242 (m_opens E q g tw a fr n B hT o i ho hP) rfl rfl MW_0 rfl rfl (by omega) (Nat.le_of_ble_eq_true rfl) (Nat.le_of_ble_eq_true rfl) (Nat.le_of_ble_eq_true rfl) (Nat.le_of_ble_eq_true rfl) ?_
    rintro x0 w1 (⟨z, rfl, rfl⟩ | ⟨z, rfl, rfl⟩)
    rotate_left
    · omega
    refine AW.pcq (pc2 := 50) rfl ?_
    refine A_if_eq 161 (dX6_atom 26 rfl) (by decide) (fun h50 => ?_) (fun h50 => absurd rfl h50)
    refine A_iload_n (dX6_atom 80 rfl) rfl ?_
    refine A_ri (dX6_atom 81 rfl) rfl rfl ?_
    exact RM_bad2 (by simp) (KP.up (KP.up KP.rf (by decide)) (by decide)) ⟨rfl, hP.2.2.1⟩
set_option maxRecDepth 100000 in
set_option maxHeartbeats 4000000 in
theorem s_atom_name (E : ag) (q : Nat → Nat) (a : Nat → Nat → Int32) (fr n : Nat) (B : Nat → Int32) (f : Nat) (g : Nat → Int32) (tw : Int64) (o i : Nat) (res : Bool × Nat × List Int32) (hpp : (if ck B i = 1 then some (true, men B i, [cv B i]) else if 9 ≤ ck B i ∧ ck B i ≤ 14 ∧ mkd B i = 1 then some (true, men B i, [8 - ck B i]) else if 5 ≤ o then some (false, i, []) else if ck B i = 45 then (pp B f 5 (o + 1) (men B i)).bind (fun r => if r.1 = true then some (true, r.2.1, r.2.2 ++ [-7]) else some r) else if ck B i = 40 then (pp B f 0 (o + 1) (men B i)).bind (fun r => if r.1 = true then (if ck B r.2.1 = 41 then some (true, men B r.2.1, r.2.2) else some (false, r.2.1, r.2.2)) else some r) else some (false, i, [])) = some res) (ho : o ≤ 5) (hT : TXC g a fr n B) (hP : PM B n g tw o i) (hck40 : ¬ ck B i = 40) (hck45 : ¬ ck B i = 45) (h135 : g 26 = 1) (hm1 : mkd B i = 1) : AW E mX6_atom (6 * (5 - o) + 6) 0 0 138 [some (.ref (q 0)), some (.int 0)] [] (MW E q g tw a) (ri (RM E q a n B g o res [])) := by
  refine A_aload_n (dX6_atom 69 rfl) rfl ?_
  refine A_callVWi 0 (dX6_atom 70 rfl) cbX6_name cwX6_253 (m_name E q g tw a fr n (lst B i) (men B i) B hT hP.2.2.1 hP.1 (men_le hT hP.2.2.2.2.2.2.2).1 (lst_le hT hP.2.2.2.2.2.2.2).1 hP.2.2.2.2.2.2.1 h135) rfl rfl MW_0 rfl rfl (by omega) (Nat.le_of_ble_eq_true rfl) (Nat.le_of_ble_eq_true rfl) (Nat.le_of_ble_eq_true rfl) (Nat.le_of_ble_eq_true rfl) ?_
  rintro x1 w1 (hn | hn | hn | hn | hn | hn | hn)
  · obtain ⟨z, rfl, rfl⟩ := hn
    have hck : ck B i = 9 := by rw [ck1 hm1]; exact z
    rw [if_neg (by rw [hck]; decide), if_pos ⟨by rw [hck]; decide, by rw [hck]; decide, hm1⟩] at hpp
    cases hpp
    refine AW.pcq (pc2 := 142) rfl ?_
    refine A_istore_n (ls2 := [_, _]) (dX6_atom 71 rfl) (by decide) rfl rfl ?_
    refine A_aload_n (dX6_atom 72 rfl) rfl ?_
    refine A_get (dX6_atom 73 rfl) fwX6_197 MW_0 MF_30 ?_
    refine A_if_ne 161 (dX6_atom 74 rfl) (by decide) (fun h147 => absurd hP.2.2.2.2.2.2.1 h147) (fun h147 => ?_)
    refine A_aload_n (dX6_atom 75 rfl) rfl ?_
    refine A_callVWv 0 (dX6_atom 76 rfl) cbX6_next cwX6_214 (m_next E q g tw a fr n B hT (men B i) (men_le hT hP.2.2.2.2.2.2.2).1 hP.1) rfl rfl MW_0 rfl rfl (by omega) (Nat.le_of_ble_eq_true rfl) (Nat.le_of_ble_eq_true rfl) (Nat.le_of_ble_eq_true rfl) (Nat.le_of_ble_eq_true rfl) ?_
    rintro w1 rfl
    refine AW.pcq (pc2 := 154) rfl ?_
    refine A_goto 161 (dX6_atom 77 rfl) (by decide) ?_
    refine A_iload_n (dX6_atom 80 rfl) rfl ?_
    refine A_ri (dX6_atom 81 rfl) rfl rfl ?_
    refine RM_ok (KP.nx KP.rf) (PM_nx hT hP.2.2.2.2.2.2.2 hP.2.2.2.2.2.1 hP.2.2.2.2.2.2.1) (fun st => ?_)
    rw [hck]
    rfl
  · obtain ⟨z, rfl, rfl⟩ := hn
    have hck : ck B i = 10 := by rw [ck1 hm1]; exact z
    rw [if_neg (by rw [hck]; decide), if_pos ⟨by rw [hck]; decide, by rw [hck]; decide, hm1⟩] at hpp
    cases hpp
    refine AW.pcq (pc2 := 142) rfl ?_
    refine A_istore_n (ls2 := [_, _]) (dX6_atom 71 rfl) (by decide) rfl rfl ?_
    refine A_aload_n (dX6_atom 72 rfl) rfl ?_
    refine A_get (dX6_atom 73 rfl) fwX6_197 MW_0 MF_30 ?_
    refine A_if_ne 161 (dX6_atom 74 rfl) (by decide) (fun h147 => absurd hP.2.2.2.2.2.2.1 h147) (fun h147 => ?_)
    refine A_aload_n (dX6_atom 75 rfl) rfl ?_
    refine A_callVWv 0 (dX6_atom 76 rfl) cbX6_next cwX6_214 (m_next E q g tw a fr n B hT (men B i) (men_le hT hP.2.2.2.2.2.2.2).1 hP.1) rfl rfl MW_0 rfl rfl (by omega) (Nat.le_of_ble_eq_true rfl) (Nat.le_of_ble_eq_true rfl) (Nat.le_of_ble_eq_true rfl) (Nat.le_of_ble_eq_true rfl) ?_
    rintro w1 rfl
    refine AW.pcq (pc2 := 154) rfl ?_
    refine A_goto 161 (dX6_atom 77 rfl) (by decide) ?_
    refine A_iload_n (dX6_atom 80 rfl) rfl ?_
    refine A_ri (dX6_atom 81 rfl) rfl rfl ?_
    refine RM_ok (KP.nx KP.rf) (PM_nx hT hP.2.2.2.2.2.2.2 hP.2.2.2.2.2.1 hP.2.2.2.2.2.2.1) (fun st => ?_)
    rw [hck]
    rfl
  · obtain ⟨z, rfl, rfl⟩ := hn
    have hck : ck B i = 11 := by rw [ck1 hm1]; exact z
    rw [if_neg (by rw [hck]; decide), if_pos ⟨by rw [hck]; decide, by rw [hck]; decide, hm1⟩] at hpp
    cases hpp
    refine AW.pcq (pc2 := 142) rfl ?_
    refine A_istore_n (ls2 := [_, _]) (dX6_atom 71 rfl) (by decide) rfl rfl ?_
    refine A_aload_n (dX6_atom 72 rfl) rfl ?_
    refine A_get (dX6_atom 73 rfl) fwX6_197 MW_0 MF_30 ?_
    refine A_if_ne 161 (dX6_atom 74 rfl) (by decide) (fun h147 => absurd hP.2.2.2.2.2.2.1 h147) (fun h147 => ?_)
    refine A_aload_n (dX6_atom 75 rfl) rfl ?_
    refine A_callVWv 0 (dX6_atom 76 rfl) cbX6_next cwX6_214 (m_next E q g tw a fr n B hT (men B i) (men_le hT hP.2.2.2.2.2.2.2).1 hP.1) rfl rfl MW_0 rfl rfl (by omega) (Nat.le_of_ble_eq_true rfl) (Nat.le_of_ble_eq_true rfl) (Nat.le_of_ble_eq_true rfl) (Nat.le_of_ble_eq_true rfl) ?_
    rintro w1 rfl
    refine AW.pcq (pc2 := 154) rfl ?_
    refine A_goto 161 (dX6_atom 77 rfl) (by decide) ?_
    refine A_iload_n (dX6_atom 80 rfl) rfl ?_
    refine A_ri (dX6_atom 81 rfl) rfl rfl ?_
    refine RM_ok (KP.nx KP.rf) (PM_nx hT hP.2.2.2.2.2.2.2 hP.2.2.2.2.2.1 hP.2.2.2.2.2.2.1) (fun st => ?_)
    rw [hck]
    rfl
  · obtain ⟨z, rfl, rfl⟩ := hn
    have hck : ck B i = 12 := by rw [ck1 hm1]; exact z
    rw [if_neg (by rw [hck]; decide), if_pos ⟨by rw [hck]; decide, by rw [hck]; decide, hm1⟩] at hpp
    cases hpp
    refine AW.pcq (pc2 := 142) rfl ?_
    refine A_istore_n (ls2 := [_, _]) (dX6_atom 71 rfl) (by decide) rfl rfl ?_
    refine A_aload_n (dX6_atom 72 rfl) rfl ?_
    refine A_get (dX6_atom 73 rfl) fwX6_197 MW_0 MF_30 ?_
    refine A_if_ne 161 (dX6_atom 74 rfl) (by decide) (fun h147 => absurd hP.2.2.2.2.2.2.1 h147) (fun h147 => ?_)
    refine A_aload_n (dX6_atom 75 rfl) rfl ?_
    refine A_callVWv 0 (dX6_atom 76 rfl) cbX6_next cwX6_214 (m_next E q g tw a fr n B hT (men B i) (men_le hT hP.2.2.2.2.2.2.2).1 hP.1) rfl rfl MW_0 rfl rfl (by omega) (Nat.le_of_ble_eq_true rfl) (Nat.le_of_ble_eq_true rfl) (Nat.le_of_ble_eq_true rfl) (Nat.le_of_ble_eq_true rfl) ?_
    rintro w1 rfl
    refine AW.pcq (pc2 := 154) rfl ?_
    refine A_goto 161 (dX6_atom 77 rfl) (by decide) ?_
    refine A_iload_n (dX6_atom 80 rfl) rfl ?_
    refine A_ri (dX6_atom 81 rfl) rfl rfl ?_
    refine RM_ok (KP.nx KP.rf) (PM_nx hT hP.2.2.2.2.2.2.2 hP.2.2.2.2.2.1 hP.2.2.2.2.2.2.1) (fun st => ?_)
    rw [hck]
    rfl
  · obtain ⟨z, rfl, rfl⟩ := hn
    have hck : ck B i = 13 := by rw [ck1 hm1]; exact z
    rw [if_neg (by rw [hck]; decide), if_pos ⟨by rw [hck]; decide, by rw [hck]; decide, hm1⟩] at hpp
    cases hpp
    refine AW.pcq (pc2 := 142) rfl ?_
    refine A_istore_n (ls2 := [_, _]) (dX6_atom 71 rfl) (by decide) rfl rfl ?_
    refine A_aload_n (dX6_atom 72 rfl) rfl ?_
    refine A_get (dX6_atom 73 rfl) fwX6_197 MW_0 MF_30 ?_
    refine A_if_ne 161 (dX6_atom 74 rfl) (by decide) (fun h147 => absurd hP.2.2.2.2.2.2.1 h147) (fun h147 => ?_)
    refine A_aload_n (dX6_atom 75 rfl) rfl ?_
    refine A_callVWv 0 (dX6_atom 76 rfl) cbX6_next cwX6_214 (m_next E q g tw a fr n B hT (men B i) (men_le hT hP.2.2.2.2.2.2.2).1 hP.1) rfl rfl MW_0 rfl rfl (by omega) (Nat.le_of_ble_eq_true rfl) (Nat.le_of_ble_eq_true rfl) (Nat.le_of_ble_eq_true rfl) (Nat.le_of_ble_eq_true rfl) ?_
    rintro w1 rfl
    refine AW.pcq (pc2 := 154) rfl ?_
    refine A_goto 161 (dX6_atom 77 rfl) (by decide) ?_
    refine A_iload_n (dX6_atom 80 rfl) rfl ?_
    refine A_ri (dX6_atom 81 rfl) rfl rfl ?_
    refine RM_ok (KP.nx KP.rf) (PM_nx hT hP.2.2.2.2.2.2.2 hP.2.2.2.2.2.1 hP.2.2.2.2.2.2.1) (fun st => ?_)
    rw [hck]
    rfl
  · obtain ⟨z, rfl, rfl⟩ := hn
    have hck : ck B i = 14 := by rw [ck1 hm1]; exact z
    rw [if_neg (by rw [hck]; decide), if_pos ⟨by rw [hck]; decide, by rw [hck]; decide, hm1⟩] at hpp
    cases hpp
    refine AW.pcq (pc2 := 142) rfl ?_
    refine A_istore_n (ls2 := [_, _]) (dX6_atom 71 rfl) (by decide) rfl rfl ?_
    refine A_aload_n (dX6_atom 72 rfl) rfl ?_
    refine A_get (dX6_atom 73 rfl) fwX6_197 MW_0 MF_30 ?_
    refine A_if_ne 161 (dX6_atom 74 rfl) (by decide) (fun h147 => absurd hP.2.2.2.2.2.2.1 h147) (fun h147 => ?_)
    refine A_aload_n (dX6_atom 75 rfl) rfl ?_
    refine A_callVWv 0 (dX6_atom 76 rfl) cbX6_next cwX6_214 (m_next E q g tw a fr n B hT (men B i) (men_le hT hP.2.2.2.2.2.2.2).1 hP.1) rfl rfl MW_0 rfl rfl (by omega) (Nat.le_of_ble_eq_true rfl) (Nat.le_of_ble_eq_true rfl) (Nat.le_of_ble_eq_true rfl) (Nat.le_of_ble_eq_true rfl) ?_
    rintro w1 rfl
    refine AW.pcq (pc2 := 154) rfl ?_
    refine A_goto 161 (dX6_atom 77 rfl) (by decide) ?_
    refine A_iload_n (dX6_atom 80 rfl) rfl ?_
    refine A_ri (dX6_atom 81 rfl) rfl rfl ?_
    refine RM_ok (KP.nx KP.rf) (PM_nx hT hP.2.2.2.2.2.2.2 hP.2.2.2.2.2.1 hP.2.2.2.2.2.2.1) (fun st => ?_)
    rw [hck]
    rfl
  · obtain ⟨z0, z1, z2, z3, z4, z5, rfl, rfl⟩ := hn
    have hnn := no_name hm1 z0 z1 z2 z3 z4 z5
    rw [if_neg hnn.1, if_neg hnn.2, if_neg hck45, if_neg hck40, ite_self] at hpp
    cases hpp
    refine AW.pcq (pc2 := 142) rfl ?_
    refine A_istore_n (ls2 := [_, _]) (dX6_atom 71 rfl) (by decide) rfl rfl ?_
    refine A_aload_n (dX6_atom 72 rfl) rfl ?_
    refine A_get (dX6_atom 73 rfl) fwX6_197 MW_0 MF_30 ?_
    refine A_if_ne 161 (dX6_atom 74 rfl) (by decide) (fun h147 => ?_) (fun h147 => absurd h147 (show ¬ (1 : Int32) = 0 by decide))
    refine A_iload_n (dX6_atom 80 rfl) rfl ?_
    refine A_ri (dX6_atom 81 rfl) rfl rfl ?_
    exact RM_bad2 (by simp) (KP.up (KP.up KP.rf (by decide)) (by decide)) ⟨rfl, hP.2.2.1⟩
set_option maxRecDepth 100000 in
set_option maxHeartbeats 4000000 in
theorem s_atom (E : ag) (q : Nat → Nat) (a : Nat → Nat → Int32) (fr n : Nat) (B : Nat → Int32) (f : Nat) (h0 : CM E q a fr n B yX6_either cX6_either 3 0 11 f) (h5 : CM E q a fr n B yX6_atom cX6_atom 2 5 6 f) : CM E q a fr n B yX6_atom cX6_atom 2 5 6 (f + 1) := by
  intro g tw o i res hpp ho hT hP
  simp only [pp] at hpp
  refine CT.of (M := mX6_atom) (ls := [some (.ref (q 0)), none]) (by decide) rfl (by decide) rfl (Nat.le_of_ble_eq_true rfl) ?_
  refine A_iconst (0) (dX6_atom 0 rfl) (by decide +kernel) ?_
  refine A_istore_n (ls2 := [_, _]) (dX6_atom 1 rfl) (by decide) rfl rfl ?_
  refine A_aload_n (dX6_atom 2 rfl) rfl ?_
  refine A_bipush (45) (dX6_atom 3 rfl) (by decide +kernel) ?_
  refine A_callVWi 1 (dX6_atom 4 rfl) cbX6_isSign cwX6_239 (m_isSign E q g tw a 45) rfl rfl MW_0 rfl rfl (by omega) (Nat.le_of_ble_eq_true rfl) (Nat.le_of_ble_eq_true rfl) (Nat.le_of_ble_eq_true rfl) (Nat.le_of_ble_eq_true rfl) ?_
  rintro r5 w1 ⟨rfl, rfl⟩
  refine AW.pcq (pc2 := 8) rfl ?_
  refine A_if_eq 37 (dX6_atom 5 rfl) (by decide) (fun h8 => ?_) (fun h8 => ?_)
  · have hck45 : ¬ ck B i = 45 := fun z => b01_0.mp h8 ((PM_sign hP (by decide)).mpr z)
    refine A_aload_n (dX6_atom 20 rfl) rfl ?_
    refine A_bipush (40) (dX6_atom 21 rfl) (by decide +kernel) ?_
    refine A_callVWi 1 (dX6_atom 22 rfl) cbX6_isSign cwX6_239 (m_isSign E q g tw a 40) rfl rfl MW_0 rfl rfl (by omega) (Nat.le_of_ble_eq_true rfl) (Nat.le_of_ble_eq_true rfl) (Nat.le_of_ble_eq_true rfl) (Nat.le_of_ble_eq_true rfl) ?_
    rintro r40 w1 ⟨rfl, rfl⟩
    refine AW.pcq (pc2 := 43) rfl ?_
    refine A_if_eq 95 (dX6_atom 23 rfl) (by decide) (fun h43 => ?_) (fun h43 => ?_)
    · have hck40 : ¬ ck B i = 40 := fun z => b01_0.mp h43 ((PM_sign hP (by decide)).mpr z)
      refine A_aload_n (dX6_atom 48 rfl) rfl ?_
      refine A_get (dX6_atom 49 rfl) fwX6_197 MW_0 MF_30 ?_
      refine A_if_ne 123 (dX6_atom 50 rfl) (by decide) (fun h99 => absurd hP.2.2.2.2.2.2.1 h99) (fun h99 => ?_)
      refine A_aload_n (dX6_atom 51 rfl) rfl ?_
      refine A_get (dX6_atom 52 rfl) fwX6_180 MW_0 MF_26 ?_
      refine A_iconst (2) (dX6_atom 53 rfl) (by decide +kernel) ?_
      refine A_icmp_ne 123 (dX6_atom 54 rfl) (by decide) (fun h107 => ?_) (fun h107 => ?_)
      · have hm2 : ¬ mkd B i = 2 := fun z => h107 (hP.2.1.trans z)
        refine A_aload_n (dX6_atom 62 rfl) rfl ?_
        refine A_get (dX6_atom 63 rfl) fwX6_197 MW_0 MF_30 ?_
        refine A_if_ne 157 (dX6_atom 64 rfl) (by decide) (fun h127 => absurd hP.2.2.2.2.2.2.1 h127) (fun h127 => ?_)
        refine A_aload_n (dX6_atom 65 rfl) rfl ?_
        refine A_get (dX6_atom 66 rfl) fwX6_180 MW_0 MF_26 ?_
        refine A_iconst (1) (dX6_atom 67 rfl) (by decide +kernel) ?_
        refine A_icmp_ne 157 (dX6_atom 68 rfl) (by decide) (fun h135 => ?_) (fun h135 => ?_)
        · have hm1 : ¬ mkd B i = 1 := fun z => h135 (hP.2.1.trans z)
          have hn1 : ¬ ck B i = 1 := fun z => by
            rcases mkd_in B i with y | y | y | y | y
            · rw [ck0 y] at z; exact absurd z (by decide)
            · exact hm1 y
            · exact hm2 y
            · have := sg_big (mkd_sg y); rw [← ck3 y, z] at this; exact absurd this (by decide)
            · rw [ck4 y] at z; exact absurd z (by decide)
          rw [if_neg hn1, if_neg (fun z => hm1 z.2.2), if_neg hck45, if_neg hck40, ite_self] at hpp
          cases hpp
          refine A_aload_n (dX6_atom 78 rfl) rfl ?_
          refine A_callVWv 0 (dX6_atom 79 rfl) cbX6_fail cwX6_211 (m_fail E q g tw a) rfl rfl MW_0 rfl rfl (by omega) (Nat.le_of_ble_eq_true rfl) (Nat.le_of_ble_eq_true rfl) (Nat.le_of_ble_eq_true rfl) (Nat.le_of_ble_eq_true rfl) ?_
          rintro w1 rfl
          rw [if_pos hP.2.2.2.2.2.2.1]
          refine AW.pcq (pc2 := 161) rfl ?_
          refine A_iload_n (dX6_atom 80 rfl) rfl ?_
          refine A_ri (dX6_atom 81 rfl) rfl rfl ?_
          first
            | exact RM_bad2 (by simp) (KP.up (KP.up KP.rf (by decide)) (by decide)) ⟨rfl, hP.2.2.1⟩
            | (refine RM_ok (KP.nx KP.rf) (PM_nx hT hP.2.2.2.2.2.2.2 hP.2.2.2.2.2.1 hP.2.2.2.2.2.2.1) (fun st => ?_)
               rw [hP.2.2.2.1 hm2]
               exact ev_num hm2 _ _)
        · have hm1 : mkd B i = 1 := hP.2.1.symm.trans h135
          exact s_atom_name E q a fr n B f g tw o i res hpp ho hT hP hck40 hck45 h135 hm1
      · have hm2 : mkd B i = 2 := hP.2.1.symm.trans h107
        rw [if_pos (ck2 hm2)] at hpp
        cases hpp
        refine A_aload_n (dX6_atom 55 rfl) rfl ?_
        refine A_get (dX6_atom 56 rfl) fwX6_191 MW_0 MF_28 ?_
        refine A_l2i (dX6_atom 57 rfl) ?_
        refine A_istore_n (ls2 := [_, _]) (dX6_atom 58 rfl) (by decide) rfl rfl ?_
        refine A_aload_n (dX6_atom 59 rfl) rfl ?_
        refine A_callVWv 0 (dX6_atom 60 rfl) cbX6_next cwX6_214 (m_next E q g tw a fr n B hT (men B i) (men_le hT hP.2.2.2.2.2.2.2).1 hP.1) rfl rfl MW_0 rfl rfl (by omega) (Nat.le_of_ble_eq_true rfl) (Nat.le_of_ble_eq_true rfl) (Nat.le_of_ble_eq_true rfl) (Nat.le_of_ble_eq_true rfl) ?_
        rintro w1 rfl
        refine AW.pcq (pc2 := 120) rfl ?_
        refine A_goto 161 (dX6_atom 61 rfl) (by decide) ?_
        refine A_iload_n (dX6_atom 80 rfl) rfl ?_
        refine A_ri (dX6_atom 81 rfl) rfl rfl ?_
        first
          | exact RM_bad2 (by simp) (KP.up (KP.up KP.rf (by decide)) (by decide)) ⟨rfl, hP.2.2.1⟩
          | (refine RM_ok (KP.nx KP.rf) (PM_nx hT hP.2.2.2.2.2.2.2 hP.2.2.2.2.2.1 hP.2.2.2.2.2.2.1) (fun st => ?_)
             rw [hP.2.2.2.1 hm2]
             exact ev_num hm2 _ _)
    · have hck40 : ck B i = 40 := (PM_sign hP (by decide)).mp (b01_n.mp h43)
      rw [if_neg (by rw [hck40]; decide), if_neg (by rw [hck40]; intro z; exact absurd z.2.1 (by decide))] at hpp
      exact s_atom_par E q a fr n B f h0 g tw o i res hpp ho hT hP hck40 hck45
  · have hck45 : ck B i = 45 := (PM_sign hP (by decide)).mp (b01_n.mp h8)
    rw [if_neg (by rw [hck45]; decide), if_neg (by rw [hck45]; intro z; exact absurd z.2.1 (by decide))] at hpp
    refine A_aload_n (dX6_atom 6 rfl) rfl ?_
    rcases Nat.lt_or_ge o 5 with ho5 | ho5
    · rw [if_neg (by omega), if_pos hck45] at hpp
      obtain ⟨r1, hr1, hpp⟩ := bnd hpp
      refine A_callVWi 0 (dX6_atom 7 rfl) cbX6_opens cwX6_242 (m_opens E q g tw a fr n B hT o i ho hP) rfl rfl MW_0 rfl rfl (by omega) (Nat.le_of_ble_eq_true rfl) (Nat.le_of_ble_eq_true rfl) (Nat.le_of_ble_eq_true rfl) (Nat.le_of_ble_eq_true rfl) ?_
      rintro x0 w1 (⟨z, rfl, rfl⟩ | ⟨z, rfl, rfl⟩)
      · omega
      refine AW.pcq (pc2 := 15) rfl ?_
      refine A_if_eq 161 (dX6_atom 8 rfl) (by decide) (fun h15 => absurd h15 (by decide)) (fun h15 => ?_)
      refine A_aload_n (dX6_atom 9 rfl) rfl ?_
      refine A_callVWi 0 (dX6_atom 10 rfl) cbX6_atom cwX6_246 (h5 (nxg B (upd g 29 (nI (o + 1))) (men B i)) (mtw B tw (men B i)) (o + 1) (men B i) r1 hr1 (by omega) (KP.tx (KP.nx (KP.up KP.rf (by decide))) hT) (PM_nx hT hP.2.2.2.2.2.2.2 rfl hP.2.2.2.2.2.2.1)) rfl rfl MW_0 rfl rfl (by omega) (Nat.le_of_ble_eq_true rfl) (Nat.le_of_ble_eq_true rfl) (Nat.le_of_ble_eq_true rfl) (Nat.le_of_ble_eq_true rfl) ?_
      rintro x1 w1 ⟨g2, tw2, rfl, hk, hs, hf⟩
      refine AW.pcq (pc2 := 22) rfl ?_
      refine A_ineg (dX6_atom 11 rfl) ?_
      refine A_istore_n (ls2 := [_, _]) (dX6_atom 12 rfl) (by decide) rfl rfl ?_
      refine A_aload_n (dX6_atom 13 rfl) rfl ?_
      refine A_dup (dX6_atom 14 rfl) rfl ?_
      refine A_get (dX6_atom 15 rfl) fwX6_208 MW_0 MF_29 ?_
      refine A_iconst (1) (dX6_atom 16 rfl) (by decide +kernel) ?_
      refine A_isub (dX6_atom 17 rfl) ?_
      refine A_put (dX6_atom 18 rfl) fwX6_208 fcX6 ftX6_29 MW_0 rfl rfl ML_0 (MP_29 _) ?_
      refine AW.pcq (pc2 := 34) rfl ?_
      refine A_goto 161 (dX6_atom 19 rfl) (by decide) ?_
      refine A_iload_n (dX6_atom 80 rfl) rfl ?_
      refine A_ri (dX6_atom 81 rfl) rfl rfl ?_
      by_cases hb1 : r1.1 = true
      · rw [if_pos hb1] at hpp
        cases hpp
        obtain ⟨hP2, he2⟩ := hs hb1
        refine RM_ok (KP.up (KP.tr (KP.nx (KP.up KP.rf (by decide))) hk) (by decide)) (PM_dec hP2) (fun st => ?_)
        rw [evs_app]
        have h7 := he2 st
        rw [KP.me (KP.nx (KP.up KP.rf (by decide)))] at h7
        rw [show evs (ME g) r1.2.2 ([] ++ st) = x1 :: st from h7, ev_neg]
      · rw [if_neg hb1] at hpp
        cases hpp
        exact RM_bad2 hb1 (KP.up (KP.tr (KP.nx (KP.up KP.rf (by decide))) hk) (by decide)) (hf (by simpa using hb1))
    · rw [if_pos ho5] at hpp
      cases hpp
      refine A_callVWi 0 (dX6_atom 7 rfl) cbX6_opens cwX6_242 (m_opens E q g tw a fr n B hT o i ho hP) rfl rfl MW_0 rfl rfl (by omega) (Nat.le_of_ble_eq_true rfl) (Nat.le_of_ble_eq_true rfl) (Nat.le_of_ble_eq_true rfl) (Nat.le_of_ble_eq_true rfl) ?_
      rintro x0 w1 (⟨z, rfl, rfl⟩ | ⟨z, rfl, rfl⟩)
      rotate_left
      · omega
      refine AW.pcq (pc2 := 15) rfl ?_
      refine A_if_eq 161 (dX6_atom 8 rfl) (by decide) (fun h15 => ?_) (fun h15 => absurd rfl h15)
      refine A_iload_n (dX6_atom 80 rfl) rfl ?_
      refine A_ri (dX6_atom 81 rfl) rfl rfl ?_
      exact RM_bad2 (by simp) (KP.up (KP.up KP.rf (by decide)) (by decide)) ⟨rfl, hP.2.2.1⟩
