theorem pf_cons {C : Nat → List Int32} {m : Nat} {s : FS} {d : Nat} {l : List Nat} {B : BT} : p_fold C m s (d :: l) B = p_fold C m s l (p_bs C m s B d) := by
  unfold p_fold
  rw [List.foldl_cons]
theorem pf_nil {C : Nat → List Int32} {m : Nat} {s : FS} {B : BT} : p_fold C m s [] B = B := by
  unfold p_fold
  rw [List.foldl_nil]
theorem up_at {α : Type} {a : Nat → α} {i : Nat} {f : α} : va_up a i f i = f := by unfold va_up; exact if_pos rfl
set_option maxRecDepth 100000 in
set_option maxHeartbeats 400000 in
theorem K_seek1 (E : ag) (kq : Nat) (cg : Nat → Int32) (qf : Nat → Nat) (gf : Nat → Int32) (af : Nat → Nat → Int32) (qd : Nat → Nat) (gd : Nat → Int32) (ad : Nat → Nat → Int32) (qk : Nat → Nat) (gk : Nat → Int32) (ak : Nat → Nat → Int32) (ql : Nat → Nat) (gl : Nat → Int32) (al : Nat → Nat → Int32) (qr : Nat → Nat) (gr : Nat → Int32) (ar : Nat → Nat → Int32) (rx : Nat) (qm : Nat) (qx : Nat → Nat → Nat) (gx : Nat → Nat → Int32) (ax : Nat → Nat → Nat → Int32) (qs : Nat) (sx : Nat → Option Nat) (qo : Nat → Nat) (go : Nat → Int32) (ao : Nat → Nat → Int32) (qp : Nat → Nat) (gp_ : Nat → Int32) (ap : Nat → Nat → Int32) (L : va_W) (t m : Nat) (ht : t < 6) (C : Nat → List Int32) (hr4 : gf 4 = nI t) (hC : TKC (ax t) C) (hG : GOOD (cfs gf af gl) m) (d c : Nat) (l : List Nat) (B : BT) (gd1 : Nat → Int32) (ad1 : Nat → Nat → Int32) (gl1 : Nat → Int32) (al1 : Nat → Nat → Int32) (f g : Nat → Int32) (F : Int32 → va_W → Prop) (hcl : c + (l.length + 1) ≤ 120) (hck : chk m (d :: l) = true) (hf : RWS f (dv m d) m) (hb0 : c = 0 → B.1 = -1) (hbc : 0 < c → ∃ e, e < 100000 ∧ B.1 = nI e ∧ RWS g (dv m e) m) (K0 : l = [] → ∀ (gd2 : Nat → Int32) (ad2 : Nat → Nat → Int32) (gl2 : Nat → Int32) (al2 : Nat → Nat → Int32) (f2 f3 : Nat → Int32) (e : Nat), e < 100000 → (p_bs C m (p_beg (cfs gf af gl)) B d).1 = nI e → RWS f3 (dv m e) m → F (p_bs C m (p_beg (cfs gf af gl)) B d).2.1 (wK E kq cg qf gf af qd gd2 ad2 qk gk ak ql gl2 al2 qr gr ar rx qm qx gx ax qs sx qo go (va_up ao 0 f2) qp gp_ (va_up ap 0 f3) L)) (K1 : ∀ e2 l2, l = e2 :: l2 → ∀ (gd2 : Nat → Int32) (ad2 : Nat → Nat → Int32) (gl2 : Nat → Int32) (al2 : Nat → Nat → Int32) (f2 f3 : Nat → Int32) (e : Nat), e < 100000 → (p_bs C m (p_beg (cfs gf af gl)) B d).1 = nI e → RWS f3 (dv m e) m → RWS f2 (dv m e2) m → AW E mX5_seekOrder 6 0 0 38 [some (.ref kq), some (.int (nI m)), some (.int ((p_bs C m (p_beg (cfs gf af gl)) B d).2.1)), some (.int ((p_bs C m (p_beg (cfs gf af gl)) B d).2.2)), some (.int (1)), some (.int (nI (c + 1)))] [] (wK E kq cg qf gf af qd gd2 ad2 qk gk ak ql gl2 al2 qr gr ar rx qm qx gx ax qs sx qo go (va_up ao 0 f2) qp gp_ (va_up ap 0 f3) L) (ri F)) : AW E mX5_seekOrder 6 0 0 38 [some (.ref kq), some (.int (nI m)), some (.int (B.2.1)), some (.int (B.2.2)), some (.int (1)), some (.int (nI c))] [] (wK E kq cg qf gf af qd gd1 ad1 qk gk ak ql gl1 al1 qr gr ar rx qm qx gx ax qs sx qo go (va_up ao 0 f) qp gp_ (va_up ap 0 g) L) (ri F) := by
  have hm5 := hG.1.1
  have hdg := hf.dg
  refine A_iload (dX5_seekOrder 24 rfl) rfl ?_
  refine A_bipush (120) (dX5_seekOrder 25 rfl) (by decide +kernel) ?_
  refine A_icmp_ge 156 (dX5_seekOrder 26 rfl) (by decide) (fun h42 => absurd h42 (nI_ge (a := c) (b := 120) (by omega) (by decide))) (fun h42 => ?_)
  refine A_iload (dX5_seekOrder 27 rfl) rfl ?_
  refine A_if_eq 156 (dX5_seekOrder 28 rfl) (by decide) (fun h47 => absurd h47 (by decide)) (fun h47 => ?_)
  refine A_aload_n (dX5_seekOrder 29 rfl) rfl ?_
  refine A_callVWv 0 (dX5_seekOrder 30 rfl) cbX5_beginTrial cwX5_165 (K_begin E kq cg qf gf af qd gd1 ad1 qk gk ak ql gl1 al1 qr gr ar rx qm qx gx ax qs sx qo go (va_up ao 0 f) qp gp_ (va_up ap 0 g) L) rfl rfl wK_0 rfl rfl (Nat.le_of_ble_eq_true rfl) (Nat.le_of_ble_eq_true rfl) (Nat.le_of_ble_eq_true rfl) (Nat.le_of_ble_eq_true rfl) (Nat.le_of_ble_eq_true rfl) ?_
  rintro w1 rfl
  refine AW.pcq (pc2 := 54) rfl ?_
  refine A_aload_n (dX5_seekOrder 31 rfl) rfl ?_
  refine A_get (dX5_seekOrder 32 rfl) fwX5_16 wK_0 cK_f0_1 ?_
  refine A_aload_n (dX5_seekOrder 33 rfl) rfl ?_
  refine A_get (dX5_seekOrder 34 rfl) fwX5_10 wK_0 cK_f0_0 ?_
  refine A_aload_n (dX5_seekOrder 35 rfl) rfl ?_
  refine A_get (dX5_seekOrder 36 rfl) fwX5_56 wK_0 cK_f0_9 ?_
  refine A_callVv 2 (dX5_seekOrder 37 rfl) cbX1_standAs cwX5_255 (f_standAs E qd (kbG gd1 gf) (kbA ad1 af) qf gf af qo go (va_up ao 0 f) m (dv m d) hm5 (show gf 0 = nI m from hG.1.2.1) (fun k hk => ⟨by have := (hf k hk).1; omega, (hf k hk).2⟩)) rfl rfl wFO_0 rfl rfl [8, 9, 10, 11, 12, 13, 14, 1, 2, 3, 4, 5, 6, 7, 47] rfl rfl (Nat.le_of_ble_eq_true rfl) (Nat.le_of_ble_eq_true rfl) (Nat.le_of_ble_eq_true rfl) (Nat.le_of_ble_eq_true rfl) (Nat.le_of_ble_eq_true rfl) (by rintro _ rfl; exact (Nat.le_of_ble_eq_true rfl)) ?_
  rintro w1 rfl
  have hE3 := cf_stand (gd := gd1) (gf := gf) (gl := gl1) (gl0 := gl) (ad := ad1) (af := af) (d := d) hm5
  have hG3 := (hG.beg.stand hdg).eq hE3
  refine AW.world (ws2 := wK E kq cg qf gf af qd (kbG gd1 gf) (va_up (va_up (va_up (va_up (kbA ad1 af) 2 (cp m (fun k => af 2 (dv m d k)) ((kbA ad1 af) 2))) 3 (cp m (fun k => af 3 (dv m d k)) ((kbA ad1 af) 3))) 4 (cp m (fun k => af 4 (dv m d k)) ((kbA ad1 af) 4))) 5 (cp m (fun k => af 5 (dv m d k)) ((kbA ad1 af) 5))) qk gk ak ql (kbL gl1) al1 qr gr ar rx qm qx gx ax qs sx qo go (va_up ao 0 f) qp gp_ (va_up ap 0 g) L) mK_dfo ?_
  refine AW.pcq (pc2 := 69) rfl ?_
  refine A_aload_n (dX5_seekOrder 38 rfl) rfl ?_
  refine A_bipush (12) (dX5_seekOrder 39 rfl) (by decide +kernel) ?_
  refine A_callVWv 1 (dX5_seekOrder 40 rfl) cbX5_tryRounds cwX5_168 (K_tryT E kq cg qf gf af qd (kbG gd1 gf) (va_up (va_up (va_up (va_up (kbA ad1 af) 2 (cp m (fun k => af 2 (dv m d k)) ((kbA ad1 af) 2))) 3 (cp m (fun k => af 3 (dv m d k)) ((kbA ad1 af) 3))) 4 (cp m (fun k => af 4 (dv m d k)) ((kbA ad1 af) 4))) 5 (cp m (fun k => af 5 (dv m d k)) ((kbA ad1 af) 5))) qk gk ak ql (kbL gl1) al1 qr gr ar rx qm qx gx ax qs sx qo go (va_up ao 0 f) qp gp_ (va_up ap 0 g) L t m ht C hr4 hC 12 (by decide) _ rfl rfl hG3) rfl rfl wK_0 rfl rfl (Nat.le_of_ble_eq_true rfl) (Nat.le_of_ble_eq_true rfl) (Nat.le_of_ble_eq_true rfl) (Nat.le_of_ble_eq_true rfl) (Nat.le_of_ble_eq_true rfl) ?_
  rintro w1 ⟨gd2, ad2, gl2, al2, rfl, h2, hl2⟩
  have hE4 := hE3.rounds (C := C) hG3.1 12
  rw [← h2] at hE4
  have ho : gd2 3 = (p_rounds C 12 (p_stand m d (p_beg (cfs gf af gl)))).1 3 := hE4.o0
  have hk : gl2 2 = (p_rounds C 12 (p_stand m d (p_beg (cfs gf af gl)))).1 4 := hE4.1.2.2.2.2.1
  refine AW.pcq (pc2 := 75) rfl ?_
  refine A_iload (dX5_seekOrder 41 rfl) rfl ?_
  refine A_if_eq 113 (dX5_seekOrder 42 rfl) (by decide) (fun h77 => ?_) (fun h77 => ?_)
  · have hp : (p_bs C m (p_beg (cfs gf af gl)) B d) = (nI d, gl2 2, gd2 3) := by
      rw [pbs_S, ← hk, ← ho]
      refine if_pos ?_
      first
        | exact Or.inr (Or.inr ⟨h99, Int32.not_le.mp h110⟩)
        | exact Or.inr (Or.inl h88)
        | exact Or.inl (hb0 (by rcases Nat.eq_zero_or_pos c with z | z; exact z; exact absurd h77 (nI_ne0 (by omega) (by omega))))
    refine K_seekC E kq cg qf gf af qd gd2 ad2 qk gk ak ql gl2 al2 qr gr ar rx qm qx gx ax qs sx qo go (va_up ao 0 f) qp gp_ (va_up ap 0 g) L m hm5 _ _ _ _ rfl F ?_
    refine K_seekT E kq cg qf gf af qd gd2 ad2 qk gk ak ql gl2 al2 qr gr ar rx qm qx gx ax qs sx qo go (va_up ao 0 f) qp gp_ (va_up (va_up ap 0 g) 0 (va_cpy (va_up ao 0 f 0) (va_up ap 0 g 0) 0 0 m)) L m hm5 d c l _ _ _ F hf hck hcl ?_ ?_
    · intro hl f2
      have hz := K0 hl gd2 ad2 gl2 al2 f2 (va_cpy f g 0 0 m) d (chk_d hck) (by rw [hp]) hf.cpy
      rw [hp] at hz
      rw [up24, up24, up_at, up_at]
      exact hz
    · intro e2 l2 hl f2 hr2
      have hz := K1 e2 l2 hl gd2 ad2 gl2 al2 f2 (va_cpy f g 0 0 m) d (chk_d hck) (by rw [hp]) hf.cpy hr2
      rw [hp] at hz
      rw [up24, up24, up_at, up_at]
      exact hz
  · refine A_aload_n (dX5_seekOrder 43 rfl) rfl ?_
    refine A_get (dX5_seekOrder 44 rfl) fwX5_29 wK_0 cK_f0_4 ?_
    refine A_get (dX5_seekOrder 45 rfl) fwX5_172 wK_22 cL_f0_4 ?_
    refine A_iload_n (dX5_seekOrder 46 rfl) rfl ?_
    refine A_icmp_lt 113 (dX5_seekOrder 47 rfl) (by decide) (fun h88 => ?_) (fun h88 => ?_)
    · have hp : (p_bs C m (p_beg (cfs gf af gl)) B d) = (nI d, gl2 2, gd2 3) := by
        rw [pbs_S, ← hk, ← ho]
        refine if_pos ?_
        first
          | exact Or.inr (Or.inr ⟨h99, Int32.not_le.mp h110⟩)
          | exact Or.inr (Or.inl h88)
          | exact Or.inl (hb0 (by rcases Nat.eq_zero_or_pos c with z | z; exact z; exact absurd h77 (nI_ne0 (by omega) (by omega))))
      refine K_seekC E kq cg qf gf af qd gd2 ad2 qk gk ak ql gl2 al2 qr gr ar rx qm qx gx ax qs sx qo go (va_up ao 0 f) qp gp_ (va_up ap 0 g) L m hm5 _ _ _ _ rfl F ?_
      refine K_seekT E kq cg qf gf af qd gd2 ad2 qk gk ak ql gl2 al2 qr gr ar rx qm qx gx ax qs sx qo go (va_up ao 0 f) qp gp_ (va_up (va_up ap 0 g) 0 (va_cpy (va_up ao 0 f 0) (va_up ap 0 g 0) 0 0 m)) L m hm5 d c l _ _ _ F hf hck hcl ?_ ?_
      · intro hl f2
        have hz := K0 hl gd2 ad2 gl2 al2 f2 (va_cpy f g 0 0 m) d (chk_d hck) (by rw [hp]) hf.cpy
        rw [hp] at hz
        rw [up24, up24, up_at, up_at]
        exact hz
      · intro e2 l2 hl f2 hr2
        have hz := K1 e2 l2 hl gd2 ad2 gl2 al2 f2 (va_cpy f g 0 0 m) d (chk_d hck) (by rw [hp]) hf.cpy hr2
        rw [hp] at hz
        rw [up24, up24, up_at, up_at]
        exact hz
    · refine A_aload_n (dX5_seekOrder 48 rfl) rfl ?_
      refine A_get (dX5_seekOrder 49 rfl) fwX5_29 wK_0 cK_f0_4 ?_
      refine A_get (dX5_seekOrder 50 rfl) fwX5_172 wK_22 cL_f0_4 ?_
      refine A_iload_n (dX5_seekOrder 51 rfl) rfl ?_
      refine A_icmp_ne 143 (dX5_seekOrder 52 rfl) (by decide) (fun h99 => ?_) (fun h99 => ?_)
      · have hc0 : 0 < c := by
          rcases Nat.eq_zero_or_pos c with z | z
          · exact absurd (show nI c = 0 by rw [z]; rfl) h77
          · exact z
        obtain ⟨e, he, hBe, hg⟩ := hbc hc0
        have hp : (p_bs C m (p_beg (cfs gf af gl)) B d) = B := by
          rw [pbs_S, ← hk, ← ho]
          refine if_neg ?_
          rintro (z | z | ⟨z1, z2⟩)
          · exact nIm1n (by omega) (hBe.symm.trans z)
          · exact h88 z
          · first
              | exact h99 z1
              | exact absurd z2 (Int32.not_lt.mpr h110)
        refine K_seekT E kq cg qf gf af qd gd2 ad2 qk gk ak ql gl2 al2 qr gr ar rx qm qx gx ax qs sx qo go (va_up ao 0 f) qp gp_ (va_up ap 0 g) L m hm5 d c l _ _ _ F hf hck hcl ?_ ?_
        · intro hl f2
          have hz := K0 hl gd2 ad2 gl2 al2 f2 g e he (by rw [hp]; exact hBe) hg
          rw [hp] at hz
          rw [up24]
          exact hz
        · intro e2 l2 hl f2 hr2
          have hz := K1 e2 l2 hl gd2 ad2 gl2 al2 f2 g e he (by rw [hp]; exact hBe) hg hr2
          rw [hp] at hz
          rw [up24]
          exact hz
      · refine A_aload_n (dX5_seekOrder 53 rfl) rfl ?_
        refine A_get (dX5_seekOrder 54 rfl) fwX5_16 wK_0 cK_f0_1 ?_
        refine A_get (dX5_seekOrder 55 rfl) fwX5_155 wK_8 cF_f0_9 ?_
        refine A_iload_n (dX5_seekOrder 56 rfl) rfl ?_
        refine A_icmp_le 143 (dX5_seekOrder 57 rfl) (by decide) (fun h110 => ?_) (fun h110 => ?_)
        · have hc0 : 0 < c := by
            rcases Nat.eq_zero_or_pos c with z | z
            · exact absurd (show nI c = 0 by rw [z]; rfl) h77
            · exact z
          obtain ⟨e, he, hBe, hg⟩ := hbc hc0
          have hp : (p_bs C m (p_beg (cfs gf af gl)) B d) = B := by
            rw [pbs_S, ← hk, ← ho]
            refine if_neg ?_
            rintro (z | z | ⟨z1, z2⟩)
            · exact nIm1n (by omega) (hBe.symm.trans z)
            · exact h88 z
            · first
                | exact h99 z1
                | exact absurd z2 (Int32.not_lt.mpr h110)
          refine K_seekT E kq cg qf gf af qd gd2 ad2 qk gk ak ql gl2 al2 qr gr ar rx qm qx gx ax qs sx qo go (va_up ao 0 f) qp gp_ (va_up ap 0 g) L m hm5 d c l _ _ _ F hf hck hcl ?_ ?_
          · intro hl f2
            have hz := K0 hl gd2 ad2 gl2 al2 f2 g e he (by rw [hp]; exact hBe) hg
            rw [hp] at hz
            rw [up24]
            exact hz
          · intro e2 l2 hl f2 hr2
            have hz := K1 e2 l2 hl gd2 ad2 gl2 al2 f2 g e he (by rw [hp]; exact hBe) hg hr2
            rw [hp] at hz
            rw [up24]
            exact hz
        · have hp : (p_bs C m (p_beg (cfs gf af gl)) B d) = (nI d, gl2 2, gd2 3) := by
            rw [pbs_S, ← hk, ← ho]
            refine if_pos ?_
            first
              | exact Or.inr (Or.inr ⟨h99, Int32.not_le.mp h110⟩)
              | exact Or.inr (Or.inl h88)
              | exact Or.inl (hb0 (by rcases Nat.eq_zero_or_pos c with z | z; exact z; exact absurd h77 (nI_ne0 (by omega) (by omega))))
          refine K_seekC E kq cg qf gf af qd gd2 ad2 qk gk ak ql gl2 al2 qr gr ar rx qm qx gx ax qs sx qo go (va_up ao 0 f) qp gp_ (va_up ap 0 g) L m hm5 _ _ _ _ rfl F ?_
          refine K_seekT E kq cg qf gf af qd gd2 ad2 qk gk ak ql gl2 al2 qr gr ar rx qm qx gx ax qs sx qo go (va_up ao 0 f) qp gp_ (va_up (va_up ap 0 g) 0 (va_cpy (va_up ao 0 f 0) (va_up ap 0 g 0) 0 0 m)) L m hm5 d c l _ _ _ F hf hck hcl ?_ ?_
          · intro hl f2
            have hz := K0 hl gd2 ad2 gl2 al2 f2 (va_cpy f g 0 0 m) d (chk_d hck) (by rw [hp]) hf.cpy
            rw [hp] at hz
            rw [up24, up24, up_at, up_at]
            exact hz
          · intro e2 l2 hl f2 hr2
            have hz := K1 e2 l2 hl gd2 ad2 gl2 al2 f2 (va_cpy f g 0 0 m) d (chk_d hck) (by rw [hp]) hf.cpy hr2
            rw [hp] at hz
            rw [up24, up24, up_at, up_at]
            exact hz
