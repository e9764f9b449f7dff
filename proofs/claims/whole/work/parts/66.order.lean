set_option maxRecDepth 100000 in
set_option maxHeartbeats 1000000 in
theorem K_seek1 (E : ag) (kq : Nat) (cg : Nat → Int32) (qf : Nat → Nat) (gf : Nat → Int32) (af : Nat → Nat → Int32) (qd : Nat → Nat) (gd : Nat → Int32) (ad : Nat → Nat → Int32) (qk : Nat → Nat) (gk : Nat → Int32) (ak : Nat → Nat → Int32) (ql : Nat → Nat) (gl : Nat → Int32) (al : Nat → Nat → Int32) (qr : Nat → Nat) (gr : Nat → Int32) (ar : Nat → Nat → Int32) (rx : Nat) (qm : Nat) (qx : Nat → Nat → Nat) (gx : Nat → Nat → Int32) (ax : Nat → Nat → Nat → Int32) (qs : Nat) (sx : Nat → Option Nat) (qo : Nat → Nat) (go : Nat → Int32) (ao : Nat → Nat → Int32) (qp : Nat → Nat) (gp_ : Nat → Int32) (ap : Nat → Nat → Int32) (L : va_W) (t m : Nat) (ht : t < 6) (C : Nat → List Int32) (hr4 : gf 4 = nI t) (hC : TKC (ax t) C) (hG : GOOD (cfs gf af gl) m) (d c : Nat) (l : List Nat) (B : BT) (gd1 : Nat → Int32) (ad1 : Nat → Nat → Int32) (gl1 : Nat → Int32) (al1 : Nat → Nat → Int32) (f g : Nat → Int32) (post : Option Value → va_W → Prop) (hcl : c + (l.length + 1) ≤ 120) (hck : chk m (d :: l) = true) (hf : RWS f (dv m d) m) (hb0 : c = 0 → B.1 = -1) (hbc : 0 < c → ∃ e, e < 100000 ∧ B.1 = nI e ∧ RWS g (dv m e) m) (K0 : l = [] → ∀ (gd2 : Nat → Int32) (ad2 : Nat → Nat → Int32) (gl2 : Nat → Int32) (al2 : Nat → Nat → Int32) (f2 f3 : Nat → Int32) (e : Nat), e < 100000 → (p_bs C m (p_beg (cfs gf af gl)) B d).1 = nI e → RWS f3 (dv m e) m → post (some (.int (p_bs C m (p_beg (cfs gf af gl)) B d).2.1)) (wK E kq cg qf gf af qd gd2 ad2 qk gk ak ql gl2 al2 qr gr ar rx qm qx gx ax qs sx qo go (va_up ao 0 f2) qp gp_ (va_up ap 0 f3) L)) (K1 : ∀ e2 l2, l = e2 :: l2 → ∀ (gd2 : Nat → Int32) (ad2 : Nat → Nat → Int32) (gl2 : Nat → Int32) (al2 : Nat → Nat → Int32) (f2 f3 : Nat → Int32) (e : Nat), e < 100000 → (p_bs C m (p_beg (cfs gf af gl)) B d).1 = nI e → RWS f3 (dv m e) m → RWS f2 (dv m e2) m → AW E mX5_seekOrder 6 0 0 38 [some (.ref kq), some (.int (nI m)), some (.int ((p_bs C m (p_beg (cfs gf af gl)) B d).2.1)), some (.int ((p_bs C m (p_beg (cfs gf af gl)) B d).2.2)), some (.int (1)), some (.int (nI (c + 1)))] [] (wK E kq cg qf gf af qd gd2 ad2 qk gk ak ql gl2 al2 qr gr ar rx qm qx gx ax qs sx qo go (va_up ao 0 f2) qp gp_ (va_up ap 0 f3) L) post) : AW E mX5_seekOrder 6 0 0 38 [some (.ref kq), some (.int (nI m)), some (.int (B.2.1)), some (.int (B.2.2)), some (.int (1)), some (.int (nI c))] [] (wK E kq cg qf gf af qd gd1 ad1 qk gk ak ql gl1 al1 qr gr ar rx qm qx gx ax qs sx qo go (va_up ao 0 f) qp gp_ (va_up ap 0 g) L) post := by
  have hm5 := hG.1.1
  have hdg := hf.dg
  refine A_iload (dX5_seekOrder 24 rfl) rfl ?_
  refine A_bipush (120) (dX5_seekOrder 25 rfl) (by decide +kernel) ?_
  refine A_icmp_ge 156 (dX5_seekOrder 26 rfl) (by decide) (fun h42 => absurd h42 (nI_ge (a := c) (b := 120) (by omega) (by decide))) (fun h42 => ?_)
  refine A_iload (dX5_seekOrder 27 rfl) rfl ?_
  refine A_if_eq 156 (dX5_seekOrder 28 rfl) (by decide) (fun h47 => absurd h47 (by decide)) (fun h47 => ?_)
  refine A_aload_n (dX5_seekOrder 29 rfl) rfl ?_
  refine A_callVWv 0 (dX5_seekOrder 30 rfl) cbX5_beginTrial cwX5_165 (K_begin E kq cg qf gf af qd gd1 ad1 qk gk ak ql gl1 al1 qr gr ar rx qm qx gx ax qs sx qo go (va_up ao 0 f) qp gp_ (va_up ap 0 g) L) rfl rfl wK_0 rfl rfl (Nat.le_of_ble_eq_true rfl) (Nat.le_of_ble_eq_true rfl) (Nat.le_of_ble_eq_true rfl) (Nat.le_of_ble_eq_true rfl) (Nat.le_of_ble_eq_true rfl) ?_
  rintro w1 rfl
  refine AW.pcq (pc2 := 54) rfl ?_
  refine A_aload_n (dX5_seekOrder 31 rfl) rfl ?_
  refine A_get (dX5_seekOrder 32 rfl) fwX5_16 wK_0 cK_f0_1 ?_
  refine A_aload_n (dX5_seekOrder 33 rfl) rfl ?_
  refine A_get (dX5_seekOrder 34 rfl) fwX5_10 wK_0 cK_f0_0 ?_
  refine A_aload_n (dX5_seekOrder 35 rfl) rfl ?_
  refine A_get (dX5_seekOrder 36 rfl) fwX5_56 wK_0 cK_f0_9 ?_
  refine A_callVv 2 (dX5_seekOrder 37 rfl) cbX1_standAs cwX5_255 (f_standAs E qd (kbG gd1 gf) (kbA ad1 af) qf gf af qo go (va_up ao 0 f) m (dv m d) hm5 (show gf 0 = nI m from hG.1.2.1) (fun k hk => ⟨by have := (hf k hk).1; omega, (hf k hk).2⟩)) rfl rfl wFO_0 rfl rfl [8, 9, 10, 11, 12, 13, 14, 1, 2, 3, 4, 5, 6, 7, 47] rfl rfl (Nat.le_of_ble_eq_true rfl) (Nat.le_of_ble_eq_true rfl) (Nat.le_of_ble_eq_true rfl) (Nat.le_of_ble_eq_true rfl) (Nat.le_of_ble_eq_true rfl) (by rintro _ rfl; exact (Nat.le_of_ble_eq_true rfl)) ?_
  rintro w1 rfl
  have hE3 := cf_stand (gd := gd1) (gf := gf) (gl := gl1) (gl0 := gl) (ad := ad1) (af := af) (d := d) hm5
  have hG3 := (hG.beg.stand hdg).eq hE3
  refine AW.world (ws2 := wK E kq cg qf gf af qd (kbG gd1 gf) (va_up (va_up (va_up (va_up (kbA ad1 af) 2 (cp m (fun k => af 2 (dv m d k)) ((kbA ad1 af) 2))) 3 (cp m (fun k => af 3 (dv m d k)) ((kbA ad1 af) 3))) 4 (cp m (fun k => af 4 (dv m d k)) ((kbA ad1 af) 4))) 5 (cp m (fun k => af 5 (dv m d k)) ((kbA ad1 af) 5))) qk gk ak ql (kbL gl1) al1 qr gr ar rx qm qx gx ax qs sx qo go (va_up ao 0 f) qp gp_ (va_up ap 0 g) L) mK_dfo ?_
  refine AW.pcq (pc2 := 69) rfl ?_
  refine A_aload_n (dX5_seekOrder 38 rfl) rfl ?_
  refine A_bipush (12) (dX5_seekOrder 39 rfl) (by decide +kernel) ?_
  refine A_callVWv 1 (dX5_seekOrder 40 rfl) cbX5_tryRounds cwX5_168 (K_tryT E kq cg qf gf af qd (kbG gd1 gf) (va_up (va_up (va_up (va_up (kbA ad1 af) 2 (cp m (fun k => af 2 (dv m d k)) ((kbA ad1 af) 2))) 3 (cp m (fun k => af 3 (dv m d k)) ((kbA ad1 af) 3))) 4 (cp m (fun k => af 4 (dv m d k)) ((kbA ad1 af) 4))) 5 (cp m (fun k => af 5 (dv m d k)) ((kbA ad1 af) 5))) qk gk ak ql (kbL gl1) al1 qr gr ar rx qm qx gx ax qs sx qo go (va_up ao 0 f) qp gp_ (va_up ap 0 g) L t m ht C hr4 hC 12 (by decide) _ rfl rfl hG3) rfl rfl wK_0 rfl rfl (Nat.le_of_ble_eq_true rfl) (Nat.le_of_ble_eq_true rfl) (Nat.le_of_ble_eq_true rfl) (Nat.le_of_ble_eq_true rfl) (Nat.le_of_ble_eq_true rfl) ?_
  rintro w1 ⟨gd2, ad2, gl2, al2, rfl, h2, hl2⟩
  have hE4 := hE3.rounds (C := C) hG3.1 12
  rw [← h2] at hE4
  have ho : gd2 3 = (p_rounds C 12 (p_stand m d (p_beg (cfs gf af gl)))).1 3 := hE4.o0
  have hk : gl2 2 = (p_rounds C 12 (p_stand m d (p_beg (cfs gf af gl)))).1 4 := hE4.1.2.2.2.2.1
  refine AW.pcq (pc2 := 75) rfl ?_
  refine A_iload (dX5_seekOrder 41 rfl) rfl ?_
  refine A_if_eq 113 (dX5_seekOrder 42 rfl) (by decide) (fun h77 => ?_) (fun h77 => ?_)
  · have hp : (p_bs C m (p_beg (cfs gf af gl)) B d) = (nI d, gl2 2, gd2 3) := by
      rw [pbs_S, ← hk, ← ho]
      refine if_pos ?_
      first
        | exact Or.inr (Or.inr ⟨h99, Int32.not_le.mp h110⟩)
        | exact Or.inr (Or.inl h88)
        | exact Or.inl (hb0 (by rcases Nat.eq_zero_or_pos c with z | z; exact z; exact absurd h77 (nI_ne0 (by omega) (by omega))))
    refine K_seekC E kq cg qf gf af qd gd2 ad2 qk gk ak ql gl2 al2 qr gr ar rx qm qx gx ax qs sx qo go (va_up ao 0 f) qp gp_ (va_up ap 0 g) L m hm5 _ _ _ _ rfl post ?_
    refine K_seekT E kq cg qf gf af qd gd2 ad2 qk gk ak ql gl2 al2 qr gr ar rx qm qx gx ax qs sx qo go (va_up ao 0 f) qp gp_ (va_up (va_up ap 0 g) 0 (va_cpy (va_up ao 0 f 0) (va_up ap 0 g 0) 0 0 m)) L m hm5 d c l _ _ _ post hf hck hcl ?_ ?_
    · intro hl f2
      have hz := K0 hl gd2 ad2 gl2 al2 f2 (va_cpy f g 0 0 m) d (chk_d hck) (by rw [hp]) hf.cpy
      rw [hp] at hz
      rw [up24, up24]
      exact hz
    · intro e2 l2 hl f2 hr2
      have hz := K1 e2 l2 hl gd2 ad2 gl2 al2 f2 (va_cpy f g 0 0 m) d (chk_d hck) (by rw [hp]) hf.cpy hr2
      rw [hp] at hz
      rw [up24, up24]
      exact hz
  · refine A_aload_n (dX5_seekOrder 43 rfl) rfl ?_
    refine A_get (dX5_seekOrder 44 rfl) fwX5_29 wK_0 cK_f0_4 ?_
    refine A_get (dX5_seekOrder 45 rfl) fwX5_172 wK_22 cL_f0_4 ?_
    refine A_iload_n (dX5_seekOrder 46 rfl) rfl ?_
    refine A_icmp_lt 113 (dX5_seekOrder 47 rfl) (by decide) (fun h88 => ?_) (fun h88 => ?_)
    · have hp : (p_bs C m (p_beg (cfs gf af gl)) B d) = (nI d, gl2 2, gd2 3) := by
        rw [pbs_S, ← hk, ← ho]
        refine if_pos ?_
        first
          | exact Or.inr (Or.inr ⟨h99, Int32.not_le.mp h110⟩)
          | exact Or.inr (Or.inl h88)
          | exact Or.inl (hb0 (by rcases Nat.eq_zero_or_pos c with z | z; exact z; exact absurd h77 (nI_ne0 (by omega) (by omega))))
      refine K_seekC E kq cg qf gf af qd gd2 ad2 qk gk ak ql gl2 al2 qr gr ar rx qm qx gx ax qs sx qo go (va_up ao 0 f) qp gp_ (va_up ap 0 g) L m hm5 _ _ _ _ rfl post ?_
      refine K_seekT E kq cg qf gf af qd gd2 ad2 qk gk ak ql gl2 al2 qr gr ar rx qm qx gx ax qs sx qo go (va_up ao 0 f) qp gp_ (va_up (va_up ap 0 g) 0 (va_cpy (va_up ao 0 f 0) (va_up ap 0 g 0) 0 0 m)) L m hm5 d c l _ _ _ post hf hck hcl ?_ ?_
      · intro hl f2
        have hz := K0 hl gd2 ad2 gl2 al2 f2 (va_cpy f g 0 0 m) d (chk_d hck) (by rw [hp]) hf.cpy
        rw [hp] at hz
        rw [up24, up24]
        exact hz
      · intro e2 l2 hl f2 hr2
        have hz := K1 e2 l2 hl gd2 ad2 gl2 al2 f2 (va_cpy f g 0 0 m) d (chk_d hck) (by rw [hp]) hf.cpy hr2
        rw [hp] at hz
        rw [up24, up24]
        exact hz
    · refine A_aload_n (dX5_seekOrder 48 rfl) rfl ?_
      refine A_get (dX5_seekOrder 49 rfl) fwX5_29 wK_0 cK_f0_4 ?_
      refine A_get (dX5_seekOrder 50 rfl) fwX5_172 wK_22 cL_f0_4 ?_
      refine A_iload_n (dX5_seekOrder 51 rfl) rfl ?_
      refine A_icmp_ne 143 (dX5_seekOrder 52 rfl) (by decide) (fun h99 => ?_) (fun h99 => ?_)
      · have hc0 : 0 < c := by
          rcases Nat.eq_zero_or_pos c with z | z
          · exact absurd (show nI c = 0 by rw [z]; rfl) h77
          · exact z
        obtain ⟨e, he, hBe, hg⟩ := hbc hc0
        have hp : (p_bs C m (p_beg (cfs gf af gl)) B d) = B := by
          rw [pbs_S, ← hk, ← ho]
          refine if_neg ?_
          rintro (z | z | ⟨z1, z2⟩)
          · exact nIm1n (by omega) (hBe.symm.trans z)
          · exact h88 z
          · first
              | exact h99 z1
              | exact absurd z2 (Int32.not_lt.mpr h110)
        refine K_seekT E kq cg qf gf af qd gd2 ad2 qk gk ak ql gl2 al2 qr gr ar rx qm qx gx ax qs sx qo go (va_up ao 0 f) qp gp_ (va_up ap 0 g) L m hm5 d c l _ _ _ post hf hck hcl ?_ ?_
        · intro hl f2
          have hz := K0 hl gd2 ad2 gl2 al2 f2 g e he (by rw [hp]; exact hBe) hg
          rw [hp] at hz
          rw [up24]
          exact hz
        · intro e2 l2 hl f2 hr2
          have hz := K1 e2 l2 hl gd2 ad2 gl2 al2 f2 g e he (by rw [hp]; exact hBe) hg hr2
          rw [hp] at hz
          rw [up24]
          exact hz
      · refine A_aload_n (dX5_seekOrder 53 rfl) rfl ?_
        refine A_get (dX5_seekOrder 54 rfl) fwX5_16 wK_0 cK_f0_1 ?_
        refine A_get (dX5_seekOrder 55 rfl) fwX5_155 wK_8 cF_f0_9 ?_
        refine A_iload_n (dX5_seekOrder 56 rfl) rfl ?_
        refine A_icmp_le 143 (dX5_seekOrder 57 rfl) (by decide) (fun h110 => ?_) (fun h110 => ?_)
        · have hc0 : 0 < c := by
            rcases Nat.eq_zero_or_pos c with z | z
            · exact absurd (show nI c = 0 by rw [z]; rfl) h77
            · exact z
          obtain ⟨e, he, hBe, hg⟩ := hbc hc0
          have hp : (p_bs C m (p_beg (cfs gf af gl)) B d) = B := by
            rw [pbs_S, ← hk, ← ho]
            refine if_neg ?_
            rintro (z | z | ⟨z1, z2⟩)
            · exact nIm1n (by omega) (hBe.symm.trans z)
            · exact h88 z
            · first
                | exact h99 z1
                | exact absurd z2 (Int32.not_lt.mpr h110)
          refine K_seekT E kq cg qf gf af qd gd2 ad2 qk gk ak ql gl2 al2 qr gr ar rx qm qx gx ax qs sx qo go (va_up ao 0 f) qp gp_ (va_up ap 0 g) L m hm5 d c l _ _ _ post hf hck hcl ?_ ?_
          · intro hl f2
            have hz := K0 hl gd2 ad2 gl2 al2 f2 g e he (by rw [hp]; exact hBe) hg
            rw [hp] at hz
            rw [up24]
            exact hz
          · intro e2 l2 hl f2 hr2
            have hz := K1 e2 l2 hl gd2 ad2 gl2 al2 f2 g e he (by rw [hp]; exact hBe) hg hr2
            rw [hp] at hz
            rw [up24]
            exact hz
        · have hp : (p_bs C m (p_beg (cfs gf af gl)) B d) = (nI d, gl2 2, gd2 3) := by
            rw [pbs_S, ← hk, ← ho]
            refine if_pos ?_
            first
              | exact Or.inr (Or.inr ⟨h99, Int32.not_le.mp h110⟩)
              | exact Or.inr (Or.inl h88)
              | exact Or.inl (hb0 (by rcases Nat.eq_zero_or_pos c with z | z; exact z; exact absurd h77 (nI_ne0 (by omega) (by omega))))
          refine K_seekC E kq cg qf gf af qd gd2 ad2 qk gk ak ql gl2 al2 qr gr ar rx qm qx gx ax qs sx qo go (va_up ao 0 f) qp gp_ (va_up ap 0 g) L m hm5 _ _ _ _ rfl post ?_
          refine K_seekT E kq cg qf gf af qd gd2 ad2 qk gk ak ql gl2 al2 qr gr ar rx qm qx gx ax qs sx qo go (va_up ao 0 f) qp gp_ (va_up (va_up ap 0 g) 0 (va_cpy (va_up ao 0 f 0) (va_up ap 0 g 0) 0 0 m)) L m hm5 d c l _ _ _ post hf hck hcl ?_ ?_
          · intro hl f2
            have hz := K0 hl gd2 ad2 gl2 al2 f2 (va_cpy f g 0 0 m) d (chk_d hck) (by rw [hp]) hf.cpy
            rw [hp] at hz
            rw [up24, up24]
            exact hz
          · intro e2 l2 hl f2 hr2
            have hz := K1 e2 l2 hl gd2 ad2 gl2 al2 f2 (va_cpy f g 0 0 m) d (chk_d hck) (by rw [hp]) hf.cpy hr2
            rw [hp] at hz
            rw [up24, up24]
            exact hz
set_option maxRecDepth 100000 in
set_option maxHeartbeats 400000 in
theorem K_seekL (E : ag) (kq : Nat) (cg : Nat → Int32) (qf : Nat → Nat) (gf : Nat → Int32) (af : Nat → Nat → Int32) (qd : Nat → Nat) (gd : Nat → Int32) (ad : Nat → Nat → Int32) (qk : Nat → Nat) (gk : Nat → Int32) (ak : Nat → Nat → Int32) (ql : Nat → Nat) (gl : Nat → Int32) (al : Nat → Nat → Int32) (qr : Nat → Nat) (gr : Nat → Int32) (ar : Nat → Nat → Int32) (rx : Nat) (qm : Nat) (qx : Nat → Nat → Nat) (gx : Nat → Nat → Int32) (ax : Nat → Nat → Nat → Int32) (qs : Nat) (sx : Nat → Option Nat) (qo : Nat → Nat) (go : Nat → Int32) (ao : Nat → Nat → Int32) (qp : Nat → Nat) (gp_ : Nat → Int32) (ap : Nat → Nat → Int32) (L : va_W) (t m : Nat) (ht : t < 6) (C : Nat → List Int32) (hr4 : gf 4 = nI t) (hC : TKC (ax t) C) (hG : GOOD (cfs gf af gl) m) : ∀ (l : List Nat) (d c : Nat) (B : BT) (gd1 : Nat → Int32) (ad1 : Nat → Nat → Int32) (gl1 : Nat → Int32) (al1 : Nat → Nat → Int32) (f g : Nat → Int32), c + (l.length + 1) ≤ 120 → chk m (d :: l) = true → RWS f (dv m d) m → (c = 0 → B.1 = -1) → (0 < c → ∃ e, e < 100000 ∧ B.1 = nI e ∧ RWS g (dv m e) m) → AW E mX5_seekOrder 6 0 0 38 [some (.ref kq), some (.int (nI m)), some (.int (B.2.1)), some (.int (B.2.2)), some (.int (1)), some (.int (nI c))] [] (wK E kq cg qf gf af qd gd1 ad1 qk gk ak ql gl1 al1 qr gr ar rx qm qx gx ax qs sx qo go (va_up ao 0 f) qp gp_ (va_up ap 0 g) L) (ri (fun r w => ∃ (gd2 : Nat → Int32) (ad2 : Nat → Nat → Int32) (gl2 : Nat → Int32) (al2 : Nat → Nat → Int32) (f2 f3 : Nat → Int32), w = wK E kq cg qf gf af qd gd2 ad2 qk gk ak ql gl2 al2 qr gr ar rx qm qx gx ax qs sx qo go (va_up ao 0 f2) qp gp_ (va_up ap 0 f3) L ∧ r = (p_fold C m (p_beg (cfs gf af gl)) (d :: l) B).2.1 ∧ ∃ e, e < 100000 ∧ (p_fold C m (p_beg (cfs gf af gl)) (d :: l) B).1 = nI e ∧ RWS f3 (dv m e) m)) := by
  intro l
  induction l with
  | nil =>
    intro d c B gd1 ad1 gl1 al1 f g hcl hck hf hb0 hbc
    refine K_seek1 E kq cg qf gf af qd gd ad qk gk ak ql gl al qr gr ar rx qm qx gx ax qs sx qo go ao qp gp_ ap L t m ht C hr4 hC hG d c [] B gd1 ad1 gl1 al1 f g _ hcl hck hf hb0 hbc ?_ (fun e2 l2 z => by cases z)
    intro _ gd2 ad2 gl2 al2 f2 f3 e he h1 h2
    exact ⟨_, rfl, gd2, ad2, gl2, al2, f2, f3, rfl, rfl, e, he, h1, h2⟩
  | cons e1 l1 ih =>
    intro d c B gd1 ad1 gl1 al1 f g hcl hck hf hb0 hbc
    refine K_seek1 E kq cg qf gf af qd gd ad qk gk ak ql gl al qr gr ar rx qm qx gx ax qs sx qo go ao qp gp_ ap L t m ht C hr4 hC hG d c (e1 :: l1) B gd1 ad1 gl1 al1 f g _ hcl hck hf hb0 hbc (fun z => by cases z) ?_
    intro e2 l2 hl gd2 ad2 gl2 al2 f2 f3 e he h1 h2 h3
    obtain ⟨rfl, rfl⟩ := List.cons.inj hl
    exact ih e1 (c + 1) _ gd2 ad2 gl2 al2 f2 f3 (by simp only [List.length_cons] at hcl; omega) (chk_2 hck).2.2 h3 (by omega) (fun _ => ⟨e, he, h1, h2⟩)
set_option maxRecDepth 100000 in
set_option maxHeartbeats 400000 in
theorem K_seek (E : ag) (kq : Nat) (cg : Nat → Int32) (qf : Nat → Nat) (gf : Nat → Int32) (af : Nat → Nat → Int32) (qd : Nat → Nat) (gd : Nat → Int32) (ad : Nat → Nat → Int32) (qk : Nat → Nat) (gk : Nat → Int32) (ak : Nat → Nat → Int32) (ql : Nat → Nat) (gl : Nat → Int32) (al : Nat → Nat → Int32) (qr : Nat → Nat) (gr : Nat → Int32) (ar : Nat → Nat → Int32) (rx : Nat) (qm : Nat) (qx : Nat → Nat → Nat) (gx : Nat → Nat → Int32) (ax : Nat → Nat → Nat → Int32) (qs : Nat) (sx : Nat → Option Nat) (qo : Nat → Nat) (go : Nat → Int32) (ao : Nat → Nat → Int32) (qp : Nat → Nat) (gp_ : Nat → Int32) (ap : Nat → Nat → Int32) (L : va_W) (t m : Nat) (ht : t < 6) (C : Nat → List Int32) (hr4 : gf 4 = nI t) (hC : TKC (ax t) C) (hG : GOOD (cfs gf af gl) m) : CT E yX5_seekOrder cX5_seekOrder 6 mX5_seekOrder.2.2.2.1 6 0 0 [.ref kq] (wK E kq cg qf gf af qd gd ad qk gk ak ql gl al qr gr ar rx qm qx gx ax qs sx qo go ao qp gp_ ap L) (ri (fun r w => ∃ (gd2 : Nat → Int32) (ad2 : Nat → Nat → Int32) (gl2 : Nat → Int32) (al2 : Nat → Nat → Int32) (f2 f3 : Nat → Int32), w = wK E kq cg qf gf af qd gd2 ad2 qk gk ak ql gl2 al2 qr gr ar rx qm qx gx ax qs sx qo go (va_up ao 0 f2) qp gp_ (va_up ap 0 f3) L ∧ r = (p_fold C m (p_beg (cfs gf af gl)) (lvs m m 0 0) (-1, 0, 0)).2.1 ∧ ∃ e, e < 100000 ∧ (p_fold C m (p_beg (cfs gf af gl)) (lvs m m 0 0) (-1, 0, 0)).1 = nI e ∧ RWS f3 (dv m e) m)) := by
  refine CT.of (M := mX5_seekOrder) (ls := [some (.ref kq), none, none, none, none, none]) (by decide) rfl (by decide) rfl (Nat.le_of_ble_eq_true rfl) ?_
  refine A_aload_n (dX5_seekOrder 0 rfl) rfl ?_
  refine A_get (dX5_seekOrder 1 rfl) fwX5_10 wK_0 cK_f0_0 ?_
  refine A_get (dX5_seekOrder 2 rfl) fwX5_91 wK_1 cF_f0_6 ?_
  have hm5 := hG.1.1
  rw [show gf 0 = nI m from hG.1.2.1]
  refine A_istore_n (ls2 := [_, _, _, _, _, _]) (dX5_seekOrder 3 rfl) (by decide) rfl rfl ?_
  refine A_iconst (0) (dX5_seekOrder 4 rfl) (by decide +kernel) ?_
  refine A_istore_n (ls2 := [_, _, _, _, _, _]) (dX5_seekOrder 5 rfl) (by decide) rfl rfl ?_
  refine AW.world (ws2 := wK E kq cg qf gf af qd gd ad qk gk ak ql gl al qr gr ar rx qm qx gx ax qs sx qo go (va_up ao 0 (ao 0)) qp gp_ ap L) (by rw [up_same]) ?_
  refine K_fillL E kq cg qf gf af qd gd ad qk gk ak ql gl al qr gr ar rx qm qx gx ax qs sx qo go ao qp gp_ ap L m hm5 _ (fun f hf => ?_) m 0 (by omega) (ao 0) (fun k hk => by omega)
  obtain ⟨k1, k2, d, l, k3, k4⟩ := chk_all m hm5
  rw [k3] at k1 k2 ⊢
  refine A_iconst (0) (dX5_seekOrder 16 rfl) (by decide +kernel) ?_
  refine A_istore_n (ls2 := [_, _, _, _, _, _]) (dX5_seekOrder 17 rfl) (by decide) rfl rfl ?_
  refine A_iconst (0) (dX5_seekOrder 18 rfl) (by decide +kernel) ?_
  refine A_istore_n (ls2 := [_, _, _, _, _, _]) (dX5_seekOrder 19 rfl) (by decide) rfl rfl ?_
  refine A_iconst (1) (dX5_seekOrder 20 rfl) (by decide +kernel) ?_
  refine A_istore (ls2 := [_, _, _, _, _, _]) (dX5_seekOrder 21 rfl) (by decide) rfl rfl ?_
  refine A_iconst (0) (dX5_seekOrder 22 rfl) (by decide +kernel) ?_
  refine A_istore (ls2 := [_, _, _, _, _, _]) (dX5_seekOrder 23 rfl) (by decide) rfl rfl ?_
  refine AW.world (ws2 := wK E kq cg qf gf af qd gd ad qk gk ak ql gl al qr gr ar rx qm qx gx ax qs sx qo go (va_up ao 0 f) qp gp_ (va_up ap 0 (ap 0)) L) (by rw [up_same]) ?_
  refine K_seekL E kq cg qf gf af qd gd ad qk gk ak ql gl al qr gr ar rx qm qx gx ax qs sx qo go ao qp gp_ ap L t m ht C hr4 hC hG l d 0 (-1, 0, 0) gd ad gl al f (ap 0) (by simp only [List.length_cons] at k2; omega) k1 (hf.same ?_) (fun _ => rfl) (fun z => absurd z (by omega))
  intro k hk
  have := (List.all_eq_true.mp k4) k (List.mem_range.mpr hk)
  exact (of_decide_eq_true this).symm

theorem ord_x {m : Nat} {x : Int32} (hm : m ≤ 5) (h1 : ¬ x < -1) (h2 : ¬ nI m ≤ x) : x = -1 ∨ ∃ j, j < m ∧ x = nI j := by
  by_cases hz : x = -1
  · exact Or.inl hz
  · refine Or.inr (inI_m1 hm (inI_of (Int32.not_lt.mp h1) ((le_m1 hm).mp (Int32.not_le.mp h2)) ▸ (by decide)) hz)
set_option maxRecDepth 100000 in
set_option maxHeartbeats 400000 in
theorem K_order (E : ag) (kq : Nat) (cg : Nat → Int32) (qf : Nat → Nat) (gf : Nat → Int32) (af : Nat → Nat → Int32) (qd : Nat → Nat) (gd : Nat → Int32) (ad : Nat → Nat → Int32) (qk : Nat → Nat) (gk : Nat → Int32) (ak : Nat → Nat → Int32) (ql : Nat → Nat) (gl : Nat → Int32) (al : Nat → Nat → Int32) (qr : Nat → Nat) (gr : Nat → Int32) (ar : Nat → Nat → Int32) (rx : Nat) (qm : Nat) (qx : Nat → Nat → Nat) (gx : Nat → Nat → Int32) (ax : Nat → Nat → Nat → Int32) (qs : Nat) (sx : Nat → Option Nat) (qo : Nat → Nat) (go : Nat → Int32) (ao : Nat → Nat → Int32) (qp : Nat → Nat) (gp_ : Nat → Int32) (ap : Nat → Nat → Int32) (L : va_W) (t m : Nat) (ht : t < 6) (C : Nat → List Int32) (hr4 : gf 4 = nI t) (hC : TKC (ax t) C) (hG : GOOD (cfs gf af gl) m) (place : Int32) : CT E yX5_order cX5_order 3 mX5_order.2.2.2.1 7 0 0 [.ref kq, .int place] (wK E kq cg qf gf af qd gd ad qk gk ak ql gl al qr gr ar rx qm qx gx ax qs sx qo go ao qp gp_ ap L) (ri (fun r w => ((inI place (-1) (gf 0 - 1) = 0 ∧ r = -2) ∨ (¬ inI place (-1) (gf 0 - 1) = 0 ∧ ∃ e, e < 100000 ∧ (∀ p, p < m → dgt e p < m) ∧ (p_fold C m (p_beg (cfs gf af gl)) (lvs m m 0 0) (-1, 0, 0)).1 = nI e ∧ r = (if place = -1 then (p_fold C m (p_beg (cfs gf af gl)) (lvs m m 0 0) (-1, 0, 0)).2.1 else nI (dgt e (m - 1 - place.toNatClampNeg))))) ∧ QK E kq cg qf gf af qd gd ad qk gk ak ql gl al qr gr ar rx qm qx gx ax qs sx qo go ao qp gp_ ap L w)) := by
  refine CT.of (M := mX5_order) (ls := [some (.ref kq), some (.int place), none]) (by decide) rfl (by decide) rfl (Nat.le_of_ble_eq_true rfl) ?_
  refine A_iload_n (dX5_order 0 rfl) rfl ?_
  refine A_iconst (-1) (dX5_order 1 rfl) (by decide +kernel) ?_
  refine A_icmp_lt 16 (dX5_order 2 rfl) (by decide) (fun h2 => ?_) (fun h2 => ?_)
  · have hb : inI place (-1) (gf 0 - 1) = 0 := inI_lo (fun z => absurd z (Int32.not_le.mpr h2))
    refine A_bipush (-2) (dX5_order 8 rfl) (by decide +kernel) ?_
    refine A_ri (dX5_order 9 rfl) rfl rfl ?_
    exact ⟨Or.inl ⟨hb, rfl⟩, ⟨gd, ad, gl, al, go, ao, gp_, ap, rfl⟩⟩
  · refine A_iload_n (dX5_order 3 rfl) rfl ?_
    refine A_aload_n (dX5_order 4 rfl) rfl ?_
    refine A_get (dX5_order 5 rfl) fwX5_10 wK_0 cK_f0_0 ?_
    refine A_get (dX5_order 6 rfl) fwX5_91 wK_1 cF_f0_6 ?_
    refine A_icmp_lt 19 (dX5_order 7 rfl) (by decide) (fun h13 => ?_) (fun h13 => ?_)
    · have hb : inI place (-1) (gf 0 - 1) = 0 := by
        rw [show gf 0 = nI m from hG.1.2.1] at h13 ⊢
        exact inI_hi (fun z => absurd ((le_m1 hG.1.1).mpr z) (Int32.not_lt.mpr h13))
      have hm5 := hG.1.1
      have hb : ¬ inI place (-1) (gf 0 - 1) = 0 := by
        rw [show gf 0 = nI m from hG.1.2.1] at h13 ⊢
        rw [inI_of (Int32.not_lt.mp h2) ((le_m1 hG.1.1).mp (Int32.not_le.mp h13))]; decide
      have hpl := ord_x hm5 h2 (by rw [← show gf 0 = nI m from hG.1.2.1]; exact h13)
      refine A_aload_n (dX5_order 10 rfl) rfl ?_
      refine A_callVWi 0 (dX5_order 11 rfl) cbX5_seekOrder cwX5_181 (K_seek E kq cg qf gf af qd gd ad qk gk ak ql gl al qr gr ar rx qm qx gx ax qs sx qo go ao qp gp_ ap L t m ht C hr4 hC hG) rfl rfl wK_0 rfl rfl (Nat.le_of_ble_eq_true rfl) (Nat.le_of_ble_eq_true rfl) (Nat.le_of_ble_eq_true rfl) (Nat.le_of_ble_eq_true rfl) (Nat.le_of_ble_eq_true rfl) ?_
      rintro r1 w1 ⟨gd2, ad2, gl2, al2, f2, f3, rfl, hr, e, he, hq, hrw⟩
      subst hr
      refine AW.pcq (pc2 := 23) rfl ?_
      refine A_istore_n (ls2 := [_, _, _]) (dX5_order 12 rfl) (by decide) rfl rfl ?_
      refine A_iload_n (dX5_order 13 rfl) rfl ?_
      refine A_if_ge 32 (dX5_order 14 rfl) (by decide) (fun h25 => ?_) (fun h25 => ?_)
      · obtain ⟨j, hj, rfl⟩ : ∃ j, j < m ∧ place = nI j := hpl.resolve_left (fun z => absurd h25 (by rw [z]; decide))
        refine A_aload_n (dX5_order 17 rfl) rfl ?_
        refine A_get (dX5_order 18 rfl) fwX5_60 wK_0 cK_f0_10 ?_
        refine A_iload_n (dX5_order 19 rfl) rfl ?_
        refine A_iald (dX5_order 20 rfl) wK_48 (vp_in_nI (n := j) (by omega) (by decide)) ?_
        refine A_ri (dX5_order 21 rfl) rfl rfl ?_
        first
          | exact ⟨Or.inr ⟨hb, e, he, hrw.dg, hq, (if_pos hp1).symm⟩, ⟨gd2, ad2, gl2, al2, go, (va_up ao 0 f2), gp_, (va_up ap 0 f3), rfl⟩⟩
          | (refine ⟨Or.inr ⟨hb, e, he, hrw.dg, hq, ?_⟩, ⟨gd2, ad2, gl2, al2, go, (va_up ao 0 f2), gp_, (va_up ap 0 f3), rfl⟩⟩
             rw [if_neg (nIm1n (by omega)), nI_clamp (n := j) (by omega)]
             exact (hrw j hj).2)
      · have hp1 : place = -1 := hpl.resolve_right (fun ⟨j, hj, hz⟩ => h25 (by rw [hz]; exact Int32.not_lt.mp (nI_pos (by omega))))
        refine A_iload_n (dX5_order 15 rfl) rfl ?_
        refine A_goto 38 (dX5_order 16 rfl) (by decide) ?_
        refine A_ri (dX5_order 21 rfl) rfl rfl ?_
        first
          | exact ⟨Or.inr ⟨hb, e, he, hrw.dg, hq, (if_pos hp1).symm⟩, ⟨gd2, ad2, gl2, al2, go, (va_up ao 0 f2), gp_, (va_up ap 0 f3), rfl⟩⟩
          | (refine ⟨Or.inr ⟨hb, e, he, hrw.dg, hq, ?_⟩, ⟨gd2, ad2, gl2, al2, go, (va_up ao 0 f2), gp_, (va_up ap 0 f3), rfl⟩⟩
             rw [if_neg (nIm1n (by omega)), nI_clamp (n := j) (by omega)]
             exact (hrw j hj).2)
    · refine A_bipush (-2) (dX5_order 8 rfl) (by decide +kernel) ?_
      refine A_ri (dX5_order 9 rfl) rfl rfl ?_
      exact ⟨Or.inl ⟨hb, rfl⟩, ⟨gd, ad, gl, al, go, ao, gp_, ap, rfl⟩⟩

