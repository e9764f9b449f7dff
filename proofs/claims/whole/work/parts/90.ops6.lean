theorem op_copy (E : ag) (q : Nat → Nat) (kq : Nat) (cg : Nat → Int32) (qf : Nat → Nat) (gf : Nat → Int32) (af : Nat → Nat → Int32) (qd : Nat → Nat) (gd : Nat → Int32) (ad : Nat → Nat → Int32) (qk : Nat → Nat) (gk : Nat → Int32) (ak : Nat → Nat → Int32) (ql : Nat → Nat) (gl : Nat → Int32) (al : Nat → Nat → Int32) (qr : Nat → Nat) (gr : Nat → Int32) (ar : Nat → Nat → Int32) (rx : Nat) (qm : Nat) (qx : Nat → Nat → Nat) (gx : Nat → Nat → Int32) (ax : Nat → Nat → Nat → Int32) (qs : Nat) (sx : Nat → Option Nat) (qo : Nat → Nat) (go : Nat → Int32) (ao : Nat → Nat → Int32) (qp : Nat → Nat) (gp_ : Nat → Int32) (ap : Nat → Nat → Int32) (T : List SE) (ix : Nat → Nat) (g : Nat → Int32) (tw : Int64) (a : Nat → Nat → Int32) (m tr tc n : Nat) (h : RLA cg gf af gk ak gl gr ar ax sx T ix g a m tr tc n) (x1 x2 x3 x4 x5 : Int32) : ∃ Pc Pr : Int32 → va_W → Prop, CT E yX5_copy cX5_copy 8 mX5_copy.2.2.2.1 2 0 0 [.ref kq, .int x1, .int x2, .int x3, .int x4, .int x5] (wK E kq cg qf gf af qd gd ad qk gk ak ql gl al qr gr ar rx qm qx gx ax qs sx qo go ao qp gp_ ap (shl E T)) (ri Pc) ∧ CT E yX6_copy cX6_copy 9 mX6_copy.2.2.2.1 3 0 0 [.ref (q 0), .int x1, .int x2, .int x3, .int x4, .int x5] (MW E q g tw a) (ri Pr) ∧ ∀ r1 w1 r2 w2, Pc r1 w1 → Pr r2 w2 → r1 = r2 ∧ REL E q kq w1 w2 := by
  obtain ⟨C, hC, hO, ht, hr4, hg4, hG, hF, hE, h0⟩ := h.data
  have hm5 := hG.1.1
  have hgm : gf 0 = nI m := hG.1.2.1
  have h13 : g 13 = nI m := h0.symm.trans hgm
  have h1b : gf 1 = g 14 := h.2.1.g.2.1
  have h2b : gf 2 = g 15 := h.2.1.g.2.2.1
  have hb : ¬ gf 1 ≤ 0 := hG.2.1
  have hb14 : ¬ g 14 = 0 := fun z => hb (by rw [h1b, z]; decide)
  have hM : ∀ i, i < m → MOK (af 2 i) (af 4 i) (af 5 i) := hG.2.2
  refine ⟨_, _, K_copy E kq cg qf gf af qd gd ad qk gk ak ql gl al qr gr ar rx qm qx gx ax qs sx qo go ao qp gp_ ap T ix h.hsx x1 x2 x3 x4 x5, m_copy E q g tw a x1 x2 x3 x4 x5 h.shi, fun r1 w1 r2 w2 h1 h2 => ?_⟩
  rcases h1 with ⟨b1, e1, rfl⟩ | ⟨S, O, hS, hO', s1, s3, h1⟩
  · rcases h2 with ⟨d1, e2, rfl⟩ | ⟨S2, O2, hS2, hO2, s2, s4, -⟩
    · exact ⟨e1.trans e2.symm, REL.s h⟩
    · rw [s2, s4] at b1; exact absurd b1 (fun z => z.elim (sh_in hS2) (sh_in hO2))
  · rcases h2 with ⟨d1, -⟩ | ⟨S2, O2, hS2, hO2, s2, s4, h2⟩
    · rw [s1, s3] at d1; exact absurd d1 (fun z => z.elim (sh_in hS) (sh_in hO'))
    · obtain rfl := nI_ej hS hS2 (s1.symm.trans s2)
      obtain rfl := nI_ej hO' hO2 (s3.symm.trans s4)
      rcases h.2.2.2.2.2.2.1 S hS with ⟨q1, q2⟩ | ⟨q1, x, b, k, N, f, q2, q3, q4, q5, q6, q7⟩
      · rcases h1 with ⟨-, e1, rfl⟩ | ⟨_, _, _, _, _, _, _, _, _, _, -, z, -⟩
        · rcases h2 with ⟨-, e2, rfl⟩ | ⟨z, -⟩
          · exact ⟨e1.trans e2.symm, REL.s h⟩
          · exact absurd q2 z
        · rw [q1] at z; cases z
      rcases h.2.2.2.2.2.2.1 O hO' with ⟨p1, p2⟩ | ⟨p1, x4', b4, k4, N4, f4, p2, p3, p4, p5, p6, p7⟩
      · rcases h1 with ⟨-, e1, rfl⟩ | ⟨_, _, _, _, _, _, _, _, _, _, -, -, -, -, z, -⟩
        · rcases h2 with ⟨-, e2, rfl⟩ | ⟨-, z, -⟩
          · exact ⟨e1.trans e2.symm, REL.s h⟩
          · exact absurd p2 z
        · rw [p1] at z; cases z
      rcases h1 with ⟨z, -⟩ | ⟨x5', b5, k5, N5, f5, x6, b6, k6, N6, f6, z1, z2, z3, z4, z5, z6, h1⟩
      · rw [q3, p3] at z; exact absurd z (fun z => z.elim (Option.some_ne_none _) (Option.some_ne_none _))
      rw [q2] at z1
      cases z1
      rw [p2] at z4
      cases z4
      rcases h2 with ⟨z, -⟩ | ⟨-, -, N7, N8, hN7, hN8, y1, y2, h2⟩
      · exact absurd z (fun z => z.elim q1 p1)
      obtain rfl : N = N7 := (nI_eq (by omega) (by omega)).mp (q6.symm.trans y1)
      obtain rfl : N4 = N8 := (nI_eq (by omega) (by omega)).mp (p6.symm.trans y2)
      rw [q5, p5] at h2
      rcases h1 with ⟨c1, e1, rfl⟩ | ⟨c1, c2, e1, rfl⟩ | ⟨c1, c2, I, J, L, i1, i2, i3, i4, i5, e1, rfl⟩
      · rcases h2 with ⟨d1, e2, rfl⟩ | ⟨d1, -⟩ | ⟨d1, -⟩
        · exact ⟨e1.trans e2.symm, REL.s h⟩
        · exact absurd d1 c1
        · exact absurd d1 c1
      · rcases h2 with ⟨d1, -⟩ | ⟨d1, d2, e2, rfl⟩ | ⟨d1, d2, -⟩
        · exact absurd c1 d1
        · exact ⟨e1.trans e2.symm, REL.s h⟩
        · exact absurd c2 d2
      · rcases h2 with ⟨d1, -⟩ | ⟨d1, d2, -⟩ | ⟨d1, d2, I2, J2, L2, j1, j2, j3, j4, j5, e2, rfl⟩
        · exact absurd c1 d1
        · exact absurd d2 c2
        · obtain rfl : I = I2 := (nI_eq (by omega) (by omega)).mp (i1.symm.trans j1)
          obtain rfl : J = J2 := (nI_eq (by omega) (by omega)).mp (i2.symm.trans j2)
          obtain rfl : L = L2 := (nI_eq (by omega) (by omega)).mp (i3.symm.trans j3)
          refine ⟨e1.trans e2.symm, ⟨cg, qf, gf, af, qd, gd, ad, qk, gk, ak, ql, gl, al, qr, gr, ar, rx, qm, qx, gx, ax, qs, sx, qo, go, ao, qp, gp_, ap, (T.set (ix O) (x4', b4, k4, N4, va_cpy f f4 I J L)), ix, g, tw, (va_up a 24 (va_cpy (a 24) (a 24) (40 * S + I) (40 * O + J) L)), m, tr, tc, n, rfl, rfl, h.shts (fun j3 h3 => up_o (by omega)) ?_⟩⟩
          refine h.2.2.2.2.2.2.put hO' p2 p3 (fun i hi => ?_) (fun j2 i hj2 hne hi => ?_)
          · by_cases e : J ≤ i ∧ i < J + L
            · rw [pk_cpy_in e.1 e.2, pk_cpy_in (by omega) (by omega), q7 _ (by omega)]
              congr 1
              omega
            · rw [pk_cpy_out (by omega), pk_cpy_out (by omega)]
              exact p7 i hi
          · exact pk_cpy_out (by omega)
theorem op_men (E : ag) (q : Nat → Nat) (kq : Nat) (cg : Nat → Int32) (qf : Nat → Nat) (gf : Nat → Int32) (af : Nat → Nat → Int32) (qd : Nat → Nat) (gd : Nat → Int32) (ad : Nat → Nat → Int32) (qk : Nat → Nat) (gk : Nat → Int32) (ak : Nat → Nat → Int32) (ql : Nat → Nat) (gl : Nat → Int32) (al : Nat → Nat → Int32) (qr : Nat → Nat) (gr : Nat → Int32) (ar : Nat → Nat → Int32) (rx : Nat) (qm : Nat) (qx : Nat → Nat → Nat) (gx : Nat → Nat → Int32) (ax : Nat → Nat → Nat → Int32) (qs : Nat) (sx : Nat → Option Nat) (qo : Nat → Nat) (go : Nat → Int32) (ao : Nat → Nat → Int32) (qp : Nat → Nat) (gp_ : Nat → Int32) (ap : Nat → Nat → Int32) (T : List SE) (ix : Nat → Nat) (g : Nat → Int32) (tw : Int64) (a : Nat → Nat → Int32) (m tr tc n : Nat) (h : RLA cg gf af gk ak gl gr ar ax sx T ix g a m tr tc n) (x1 x2 x3 x4 : Int32) : ∃ Pc Pr : Int32 → va_W → Prop, CT E yX5_men cX5_men 9 mX5_men.2.2.2.1 5 0 0 [.ref kq, .int x1, .int x2, .int x3, .int x4] (wK E kq cg qf gf af qd gd ad qk gk ak ql gl al qr gr ar rx qm qx gx ax qs sx qo go ao qp gp_ ap (shl E T)) (ri Pc) ∧ CT E yX6_men cX6_men 8 mX6_men.2.2.2.1 3 0 0 [.ref (q 0), .int x1, .int x2, .int x3, .int x4] (MW E q g tw a) (ri Pr) ∧ ∀ r1 w1 r2 w2, Pc r1 w1 → Pr r2 w2 → r1 = r2 ∧ REL E q kq w1 w2 := by
  obtain ⟨C, hC, hO, ht, hr4, hg4, hG, hF, hE, h0⟩ := h.data
  have hm5 := hG.1.1
  have hgm : gf 0 = nI m := hG.1.2.1
  have h13 : g 13 = nI m := h0.symm.trans hgm
  have h1b : gf 1 = g 14 := h.2.1.g.2.1
  have h2b : gf 2 = g 15 := h.2.1.g.2.2.1
  have hb : ¬ gf 1 ≤ 0 := hG.2.1
  have hb14 : ¬ g 14 = 0 := fun z => hb (by rw [h1b, z]; decide)
  have hM : ∀ i, i < m → MOK (af 2 i) (af 4 i) (af 5 i) := hG.2.2
  obtain ⟨V, v1, v2, v3⟩ := h.2.2.1.2.2.2.2
  have v3 : gf 1 = nI V := v3
  refine ⟨_, _, K_men E kq cg qf gf af qd gd ad qk gk ak ql gl al qr gr ar rx qm qx gx ax qs sx qo go ao qp gp_ ap T ix h.hsx V v3 v1 v2 m hm5 hgm x1 x2 x3 x4, m_men E q g tw a x1 x2 x3 x4 h.shi m hF, fun r1 w1 r2 w2 h1 h2 => ?_⟩
  rcases h1 with ⟨b1, e1, rfl⟩ | ⟨b1, j, hj, s1, h1⟩
  · rcases h2 with ⟨d1, e2, rfl⟩ | ⟨d1, -⟩
    · exact ⟨e1.trans e2.symm, REL.s h⟩
    · exact absurd b1 d1
  · rcases h2 with ⟨d1, -⟩ | ⟨-, j2, hj2, s2, h2⟩
    · exact absurd d1 b1
    · obtain rfl := nI_ej hj hj2 (s1.symm.trans s2)
      rcases h.2.2.2.2.2.2.1 j hj with ⟨q1, q2⟩ | ⟨q1, x, b, k, N, f, q2, q3, q4, q5, q6, q7⟩
      · rcases h1 with ⟨-, e1, rfl⟩ | ⟨_, _, _, _, _, -, z, -⟩
        · rcases h2 with ⟨z, -⟩ | ⟨-, e2, rfl⟩ | ⟨z, -⟩
          · exact absurd q2 z
          · exact ⟨e1.trans e2.symm, REL.s h⟩
          · exact absurd q2 z
        · rw [q1] at z; cases z
      rcases h1 with ⟨z, -⟩ | ⟨x5', b5, k5, N5, f5, z1, z2, z3, h1⟩
      · rw [q3] at z; cases z
      rw [q2] at z1
      cases z1
      rw [q5] at h2
      rcases h1 with ⟨c1, e1, rfl⟩ | ⟨c1, nn, hnn, n1, gf3, af3, rfl, h43, hp3⟩
      · rcases h2 with ⟨-, d1, e2, rfl⟩ | ⟨z, -⟩ | ⟨-, d1, -⟩
        · exact ⟨e1.trans e2.symm, REL.s h⟩
        · exact absurd z q1
        · exact absurd d1 c1
      · rcases h2 with ⟨-, d1, -⟩ | ⟨z, -⟩ | ⟨-, -, N7, nn2, hN7, hnn2, y1, n2, g3, a3, rfl, hMM, hr3, e2⟩
        · exact absurd c1 d1
        · exact absurd z q1
        · obtain rfl : N = N7 := (nI_eq (by omega) (by omega)).mp (q6.symm.trans y1)
          obtain rfl : nn = nn2 := (nI_eq (by omega) (by omega)).mp (n1.symm.trans n2)
          obtain ⟨m2, l1, l2, l3, l4⟩ := mens_E (at0 := x3) q7 nn 0 (cfs gf af gl) (rfs g a) m 0 h.2.1 h.2.2.1
          have l5 := mens_k (f := fun k => a 24 (40 * j + k)) (at0 := x3) (N := N) nn 0 (rfs g a) m 0 hm5 h13
          rw [← hp3] at l2 l3 l4
          rw [← hr3] at l2 l5
          rw [← e2] at l3
          exact ⟨l3, ⟨cg, qf, gf3, af3, qd, gd, ad, qk, gk, ak, ql, gl, al, qr, gr, ar, rx, qm, qx, gx, ax, qs, sx, qo, go, ao, qp, gp_, ap, T, ix, g3, tw, a3, m2, tr, tc, n, rfl, rfl, h.floor l2 l4 l1 (h43.trans hr4) ((hMM.1 4 (by decide)).trans hg4) h.1.2.2.2.2.2 (fun k hk => hMM.1 k (by omega)) (fun j hj => hMM.2 j (by omega)) l5⟩⟩
theorem RTx.new {tc n : Nat} {ax : Nat → Nat → Nat → Int32} {a : Nat → Nat → Int32} {ax2 : Nat → Nat → Int32} (h : RTx tc ax a) (ht : tc < 6) (hn : n ≤ 160) (hb : ∀ k, k < n → ¬ a 3 k < 0) (he : ax2 1 0 = 0) : (∀ t, t < 6 → va_up ax tc ax2 t 1 0 = 0) ∧ (∀ t, t < tc → ∃ C, TKC (va_up ax tc ax2 t) C ∧ TOK (txA a tc n 1) (txA a tc n 2) t C) := by
  refine ⟨fun t h1 => ?_, fun t h1 => ?_⟩
  · by_cases e : t = tc
    · rw [e, up_at]; exact he
    · rw [up_o e]; exact h.1 t h1
  · obtain ⟨C, c1, c2⟩ := h.2 t h1
    refine ⟨C, by rw [up_o (by omega)]; exact c1, c2.keep (fun k hk => ?_) ?_⟩
    · show va_cpy (a 3) (a 1) 0 (160 * tc) n (160 * t + k) = a 1 (160 * t + k)
      exact pk_cpy_out (by omega)
    · show upd (a 2) tc (nI n) t = a 2 t
      exact pk_un (by omega)
theorem txA_o {a : Nat → Nat → Int32} {t n j : Nat} (h : 3 ≤ j) : txA a t n j = a j := by
  unfold txA
  rw [up_o (by omega), up_o (by omega)]
theorem op_text (E : ag) (q : Nat → Nat) (kq : Nat) (cg : Nat → Int32) (qf : Nat → Nat) (gf : Nat → Int32) (af : Nat → Nat → Int32) (qd : Nat → Nat) (gd : Nat → Int32) (ad : Nat → Nat → Int32) (qk : Nat → Nat) (gk : Nat → Int32) (ak : Nat → Nat → Int32) (ql : Nat → Nat) (gl : Nat → Int32) (al : Nat → Nat → Int32) (qr : Nat → Nat) (gr : Nat → Int32) (ar : Nat → Nat → Int32) (rx : Nat) (qm : Nat) (qx : Nat → Nat → Nat) (gx : Nat → Nat → Int32) (ax : Nat → Nat → Nat → Int32) (qs : Nat) (sx : Nat → Option Nat) (qo : Nat → Nat) (go : Nat → Int32) (ao : Nat → Nat → Int32) (qp : Nat → Nat) (gp_ : Nat → Int32) (ap : Nat → Nat → Int32) (T : List SE) (ix : Nat → Nat) (g : Nat → Int32) (tw : Int64) (a : Nat → Nat → Int32) (m tr tc n : Nat) (h : RLA cg gf af gk ak gl gr ar ax sx T ix g a m tr tc n) : ∃ Pc Pr : Int32 → va_W → Prop, CT E yX5_text cX5_text 2 mX5_text.2.2.2.1 46 0 0 [.ref kq] (wK E kq cg qf gf af qd gd ad qk gk ak ql gl al qr gr ar rx qm qx gx ax qs sx qo go ao qp gp_ ap (shl E T)) (ri Pc) ∧ CT E yX6_text cX6_text 2 mX6_text.2.2.2.1 44 0 0 [.ref (q 0)] (MW E q g tw a) (ri Pr) ∧ ∀ r1 w1 r2 w2, Pc r1 w1 → Pr r2 w2 → r1 = r2 ∧ REL E q kq w1 w2 := by
  have hc := h.1
  obtain ⟨p0, p1, p2, p3⟩ := h.2.2.2.2.2.1
  by_cases h6 : tc = 6
  · refine ⟨_, _, K_textF E kq cg qf gf af qd gd ad qk gk ak ql gl al qr gr ar rx qm qx gx ax qs sx qo go ao qp gp_ ap (shl E T) (by rw [hc.1, h6]), m_textF E q g tw a (by rw [hc.2.1, h6]; rfl), fun r1 w1 r2 w2 h1 h2 => ?_⟩
    obtain ⟨e1, rfl⟩ := h1
    obtain ⟨e2, rfl⟩ := h2
    exact ⟨e1.trans e2.symm, REL.s h⟩
  · have ht : tc < 6 := by have := hc.2.2.1; omega
    have hB : ∀ k, n ≤ k → Bof (a 3) 0 n k = -1 := fun k hk => if_neg (by omega)
    have hB2 : ∀ k, k < n → Bof (a 3) 0 n k = a 3 k := fun k hk => (if_pos hk).trans (by rw [Nat.zero_add])
    obtain ⟨⟨b, j, c0, c1, c2⟩, hpp⟩ := txt_ex hB p0
    have hL : LXC gr ar n (Bof (a 3) 0 n) := ⟨p1, p0, fun k hk => (hB2 k hk).trans (p3 k hk).1.symm, hB, fun k hk => by rw [hB2 k hk]; exact (p3 k hk).2⟩
    refine ⟨_, _, K_text E kq cg qf gf af qd gd ad qk gk ak ql gl al qr gr ar rx qm qx gx ax qs sx qo go ao qp gp_ ap (shl E T) n (Bof (a 3) 0 n) 1200 _ hpp hL tc ht hc.1 (h.2.2.2.2.1.1 tc ht), m_text E q g tw a tc n 1200 ht p0 hc.2.1 p2 (fun k hk => (p3 k hk).2) _ hpp, fun r1 w1 r2 w2 h1 h2 => ?_⟩
    obtain ⟨gr2, gx2, ax2, cg2, rfl, q1, q2, q3, h1⟩ := h1
    obtain ⟨g2, tw2, rfl, s1, s2, h2⟩ := h2
    obtain ⟨x1, x2⟩ := h.2.2.2.2.1.new ht p0 (fun k hk => (p3 k hk).2) q2
    have hp : RTp 0 gr2 ar g2 (txA a tc n) := ⟨by omega, q1, s2, fun k hk => absurd hk (by omega)⟩
    have hg : ∀ k, k = 4 ∨ (13 ≤ k ∧ k ≤ 16) ∨ (55 ≤ k ∧ k ≤ 59) → g2 k = g k := fun k hk => s1 k (by omega) (by omega) (by omega)
    rcases h1 with ⟨t1, e1, e3, e4⟩ | ⟨t1, e1, e3⟩
    · rcases h2 with ⟨t2, e2, e5⟩ | ⟨t2, -⟩
      · refine ⟨e1.trans e2.symm, ⟨cg2, qf, gf, af, qd, gd, ad, qk, gk, ak, ql, gl, al, qr, gr2, ar, (qx tc 0), qm, qx, (va_up gx tc gx2), (va_up ax tc ax2), qs, sx, qo, go, ao, qp, gp_, ap, T, ix, g2, tw2, (txA a tc n), m, tr, (tc + 1), 0, rfl, rfl, h.tape q3 e3 e5 (by omega) (by omega) hg (fun j hj => txA_o (by omega)) ⟨x1, ?_⟩ hp⟩⟩
        intro t h1
        by_cases e : t = tc
        · subst e
          have t1 : b = true := t1
          subst t1
          refine ⟨fun k => if k = 0 then c0 else if k = 1 then c1 else c2, by rw [up_at]; exact e4 _ rfl rfl rfl, ht, n, 1200, j, p0, pk_us (f := a 2), fun k hk => by rw [txA_1 hk]; exact (p3 k hk).2, ?_⟩
          have e9 : Bof (txA a t n 1) (160 * t) n = Bof (a 3) 0 n := by
            funext k
            unfold Bof
            by_cases hk : k < n
            · rw [if_pos hk, if_pos hk, txA_1 hk, Nat.zero_add]
            · rw [if_neg hk, if_neg hk]
          rw [e9]
          exact hpp
        · exact x2 t (by omega)
      · exact absurd (t1.symm.trans t2) (by decide)
    · rcases h2 with ⟨t2, -⟩ | ⟨t2, e2, e5⟩
      · exact absurd (t1.symm.trans t2) (by decide)
      · exact ⟨e1.trans e2.symm, ⟨cg2, qf, gf, af, qd, gd, ad, qk, gk, ak, ql, gl, al, qr, gr2, ar, (qx tc 0), qm, qx, (va_up gx tc gx2), (va_up ax tc ax2), qs, sx, qo, go, ao, qp, gp_, ap, T, ix, g2, tw2, (txA a tc n), m, tr, tc, 0, rfl, rfl, h.tape q3 e3 e5 hc.2.2.1 (Nat.le_refl _) hg (fun j hj => txA_o (by omega)) ⟨x1, x2⟩ hp⟩⟩
