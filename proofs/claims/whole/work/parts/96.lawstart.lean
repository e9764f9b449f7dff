set_option maxRecDepth 100000 in
set_option maxHeartbeats 1000000 in
theorem law_begin {E : ag} {b L : Nat} {xs : Nat → Int32} (hL : L ≤ 3072) : LW E b L xs 600000 7302250 0 [some (.ref b), none, none, none] [] [] := by
  refine L_new (dL0 0 rfl) nwL_7 (by omega) (by omega) (fun qa => ?_)
  refine LW.world (ws2 := [(qa, .inr (5, [.null, .null, .null, .int 0, .null, .null, .null, .int 0, .null, .null, .null]))] ++ []) rfl ?_
  refine L_dup (dL0 1 rfl) rfl ?_
  refine L_callI 0 (dL0 2 rfl) cbX5_init cwL_9 (K_init E qa) rfl rfl (by omega) (by omega) (Nat.le_of_ble_eq_true rfl) (by omega) (by omega) ?_
  rintro v u ⟨rfl, hu⟩
  obtain ⟨cg, qf, qd, qk, ql, qr, gr, ar, rx, qm, qx, gx, ax, qs, qo, qp, rfl, a1, a2, a3, a4, a5⟩ := hu
  refine LW.world (ws2 := wK E qa cg qf f_ig f_ia qd f_ig f_ia qk f_ig f_ia ql (fun _ => (0 : Int32)) (fun _ _ => (0 : Int32)) qr gr ar rx qm qx gx ax qs (fun _ => none) qo (fun _ => (0 : Int32)) (fun _ _ => (0 : Int32)) qp (fun _ => (0 : Int32)) (fun _ _ => (0 : Int32)) []) rfl ?_
  refine LW.pcq (pc2 := 7) rfl ?_
  refine L_astore_n (ls2 := [some (.ref b), some (.ref qa), none, none]) (dL0 3 rfl) (by decide) rfl rfl ?_
  refine L_new (dL0 4 rfl) nwL_10 (by omega) (by omega) (fun qb => ?_)
  refine L_dup (dL0 5 rfl) rfl ?_
  refine LW.swap ?_
  refine L_callI 0 (dL0 6 rfl) cbX6_init cwL_12 (m_init E qb) rfl rfl (by omega) (by omega) (Nat.le_of_ble_eq_true rfl) (by omega) (by omega) ?_
  rintro v u ⟨rfl, q, hq, rfl⟩
  subst hq
  refine LW.pcq (pc2 := 15) rfl ?_
  refine L_astore_n (ls2 := [some (.ref b), some (.ref qa), some (.ref (q 0)), none]) (dL0 7 rfl) (by decide) rfl rfl ?_
  refine L_iconst (0) (dL0 8 rfl) (by decide +kernel) ?_
  refine L_istore_n (ls2 := [some (.ref b), some (.ref qa), some (.ref (q 0)), some (.int 0)]) (dL0 9 rfl) (by decide) rfl rfl ?_
  exact law_loop q qa hL 513 0 (by omega) (by omega) _ _ _ _ (by omega) (by omega) (REL.init a1 a2 a3 a4 a5)
/-- YOUR PART: from the entry, for every script of at most 3072 ints, the law comes to its end with true -/
theorem whole_start {p : Program} {e : Env} {s : State} {m : MethodId} {below : List Frame} {meth : Method} {c : Code} (l : Launch) (hflags : l.flags = flags0) {b L : Nat} {xs : Nat → Int32} (hL : L ≤ 3072) (C0 : lw_At p s m meth c b L xs) : W p l e room_1 s m #[Value.ref b] below meth c s.heap [] 0 0 (lw_Z below #[Value.ref b] s) (entryFrame m ([Value.ref b] : List Value).toArray 4) := by
  obtain ⟨hx, hb, hr, hml, hown, hts, hX, hbl, hlocks, hgv⟩ := C0
  obtain ⟨E, hE⟩ := ac_start hts hgv
  have hl := lv_entry ([.ref b]) (n := 4) (Nat.le_of_ble_eq_true rfl)
  rw [lg_entry_eq]
  generalize (lg_sl ([.ref b]) ++ List.replicate (4 - (lg_sl ([.ref b])).length) Slot.unset).toArray = ls at hl ⊢
  have hl : lv_has ls 4 (ps 0 [some (.ref b), none, none, none]) := hl
  have hP : va_P E.1 vwCl [] s.heap := fun k q h => by simp at h
  have hD : va_D (fun q : Nat => s.heap.size ≤ q) [] := ⟨fun i j p q h => by simp at h, fun k q h => by simp at h⟩
  exact law_begin (E := E) hL p l e s m below meth c s.heap [] 0 0 ls ⟨hx, hb, hml, hown, fun w hw => hts w (List.mem_filter.mp hw).1, hr, hlocks, hE, hX, hbl⟩ hl hP hD va_S.rf (by omega) (by omega)
