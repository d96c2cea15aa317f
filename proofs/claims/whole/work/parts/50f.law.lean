/-! ===== the law's loop, its start, the claim ===== -/
set_option maxHeartbeats 4000000 in
set_option maxRecDepth 100000 in
theorem law_acts {p : Program} {l : Launch} {e : Env} {s : State} {m : MethodId} {below : List Frame} {meth : Method} {c : Code} {b L : Nat} {xs : Nat → Int32} {D : va_G} {ck : Nat → ClassId} {tt : Nat → Nat} {ca : Nat → Nat → Nat} {ma : Nat → Nat} {i : Nat} {C : CS} {Z : MS} (h : LX p s m meth c b L xs D ck tt) (hL : L ≤ 2560) (hi : i + 5 ≤ L) (hR : RR C Z) (kk : ∀ (C1 : CS) (Z1 : MS), RR C1 Z1 → LW p l e s m below meth c b D ck ca ma i 603 C1 Z1) : LW p l e s m below meth c b D ck ca ma i 26 C Z := by
  obtain ⟨hx, hb, hr, hml, hown, hts, hX, hbl, hlk, hN, hK, hC, hZ⟩ := id h
  have hbA : ¬ (fun q : Nat => s.heap.size ≤ q) b := Nat.not_le.mpr hbl
  intro H locs ls hP hD hS hl
  refine lv_aload_n hx hb dL_law_26 rfl (lv_at hl 3 rfl) ?_
  refine lv_iload_n hx hb dL_law_27 rfl (lv_at hl 0 rfl) ?_
  refine xsld (j := i) (nI_clamp (by omega)) hx hb hX hbl hbA hS (vp_in_nI (by omega) (by omega)) dL_law_28 ?_
  refine lv_bipush (v := 31) hx hb dL_law_29 (by decide) ?_
  refine lv_iand hx hb dL_law_31 ?_
  generalize xs i &&& 31 = x
  by_cases c0 : x = 0
  · refine lv_tableIn (tgt := 124) (off := 92) hx hb dL_law_32 (by rw [c0]; decide) (by rw [c0]; decide) (by rw [c0]; decide) (by decide) ?_
    exact lc_ask h hL hi hR kk H locs ls hP hD hS hl
  by_cases c1 : x = 1
  · refine lv_tableIn (tgt := 167) (off := 135) hx hb dL_law_32 (by rw [c1]; decide) (by rw [c1]; decide) (by rw [c1]; decide) (by decide) ?_
    exact lc_askAll h hL hi hR kk H locs ls hP hD hS hl
  by_cases c2 : x = 2
  · refine lv_tableIn (tgt := 180) (off := 148) hx hb dL_law_32 (by rw [c2]; decide) (by rw [c2]; decide) (by rw [c2]; decide) (by decide) ?_
    exact lc_cancel h hL hi hR kk H locs ls hP hD hS hl
  by_cases c3 : x = 3
  · refine lv_tableIn (tgt := 203) (off := 171) hx hb dL_law_32 (by rw [c3]; decide) (by rw [c3]; decide) (by rw [c3]; decide) (by decide) ?_
    exact lc_change h hL hi hR kk H locs ls hP hD hS hl
  by_cases c4 : x = 4
  · refine lv_tableIn (tgt := 236) (off := 204) hx hb dL_law_32 (by rw [c4]; decide) (by rw [c4]; decide) (by rw [c4]; decide) (by decide) ?_
    exact lc_step h hL hi hR kk H locs ls hP hD hS hl
  by_cases c5 : x = 5
  · refine lv_tableIn (tgt := 259) (off := 227) hx hb dL_law_32 (by rw [c5]; decide) (by rw [c5]; decide) (by rw [c5]; decide) (by decide) ?_
    exact lc_set h hL hi hR kk H locs ls hP hD hS hl
  by_cases c6 : x = 6
  · refine lv_tableIn (tgt := 292) (off := 260) hx hb dL_law_32 (by rw [c6]; decide) (by rw [c6]; decide) (by rw [c6]; decide) (by decide) ?_
    exact lc_type h hL hi hR kk H locs ls hP hD hS hl
  by_cases c7 : x = 7
  · refine lv_tableIn (tgt := 317) (off := 285) hx hb dL_law_32 (by rw [c7]; decide) (by rw [c7]; decide) (by rw [c7]; decide) (by decide) ?_
    exact lc_clearText h hL hi hR kk H locs ls hP hD hS hl
  by_cases c8 : x = 8
  · refine lv_tableIn (tgt := 330) (off := 298) hx hb dL_law_32 (by rw [c8]; decide) (by rw [c8]; decide) (by rw [c8]; decide) (by decide) ?_
    exact lc_undo h hL hi hR kk H locs ls hP hD hS hl
  by_cases c9 : x = 9
  · refine lv_tableIn (tgt := 343) (off := 311) hx hb dL_law_32 (by rw [c9]; decide) (by rw [c9]; decide) (by rw [c9]; decide) (by decide) ?_
    exact lc_keep h hL hi hR kk H locs ls hP hD hS hl
  by_cases c10 : x = 10
  · refine lv_tableIn (tgt := 356) (off := 324) hx hb dL_law_32 (by rw [c10]; decide) (by rw [c10]; decide) (by rw [c10]; decide) (by decide) ?_
    exact lc_restore h hL hi hR kk H locs ls hP hD hS hl
  by_cases c11 : x = 11
  · refine lv_tableIn (tgt := 369) (off := 337) hx hb dL_law_32 (by rw [c11]; decide) (by rw [c11]; decide) (by rw [c11]; decide) (by decide) ?_
    exact lc_join h hL hi hR kk H locs ls hP hD hS hl
  by_cases c12 : x = 12
  · refine lv_tableIn (tgt := 402) (off := 370) hx hb dL_law_32 (by rw [c12]; decide) (by rw [c12]; decide) (by rw [c12]; decide) (by decide) ?_
    exact lc_why h hL hi hR kk H locs ls hP hD hS hl
  by_cases c13 : x = 13
  · refine lv_tableIn (tgt := 425) (off := 393) hx hb dL_law_32 (by rw [c13]; decide) (by rw [c13]; decide) (by rw [c13]; decide) (by decide) ?_
    exact lc_queue h hL hi hR kk H locs ls hP hD hS hl
  by_cases c14 : x = 14
  · refine lv_tableIn (tgt := 448) (off := 416) hx hb dL_law_32 (by rw [c14]; decide) (by rw [c14]; decide) (by rw [c14]; decide) (by decide) ?_
    exact lc_work h hL hi hR kk H locs ls hP hD hS hl
  by_cases c15 : x = 15
  · refine lv_tableIn (tgt := 501) (off := 469) hx hb dL_law_32 (by rw [c15]; decide) (by rw [c15]; decide) (by rw [c15]; decide) (by decide) ?_
    exact lc_bestWay h hL hi hR kk H locs ls hP hD hS hl
  by_cases c16 : x = 16
  · refine lv_tableIn (tgt := 544) (off := 512) hx hb dL_law_32 (by rw [c16]; decide) (by rw [c16]; decide) (by rw [c16]; decide) (by decide) ?_
    exact lc_doneIn h hL hi hR kk H locs ls hP hD hS hl
  by_cases c17 : x = 17
  · refine lv_tableIn (tgt := 567) (off := 535) hx hb dL_law_32 (by rw [c17]; decide) (by rw [c17]; decide) (by rw [c17]; decide) (by decide) ?_
    exact lc_count h hL hi hR kk H locs ls hP hD hS hl
  by_cases c18 : x = 18
  · refine lv_tableIn (tgt := 590) (off := 558) hx hb dL_law_32 (by rw [c18]; decide) (by rw [c18]; decide) (by rw [c18]; decide) (by decide) ?_
    exact lc_spare h hL hi hR kk H locs ls hP hD hS hl
  have z0 : x.toInt ≠ 0 := fun e => c0 (Int32.toInt_inj.mp e)
  have z1 : x.toInt ≠ 1 := fun e => c1 (Int32.toInt_inj.mp e)
  have z2 : x.toInt ≠ 2 := fun e => c2 (Int32.toInt_inj.mp e)
  have z3 : x.toInt ≠ 3 := fun e => c3 (Int32.toInt_inj.mp e)
  have z4 : x.toInt ≠ 4 := fun e => c4 (Int32.toInt_inj.mp e)
  have z5 : x.toInt ≠ 5 := fun e => c5 (Int32.toInt_inj.mp e)
  have z6 : x.toInt ≠ 6 := fun e => c6 (Int32.toInt_inj.mp e)
  have z7 : x.toInt ≠ 7 := fun e => c7 (Int32.toInt_inj.mp e)
  have z8 : x.toInt ≠ 8 := fun e => c8 (Int32.toInt_inj.mp e)
  have z9 : x.toInt ≠ 9 := fun e => c9 (Int32.toInt_inj.mp e)
  have z10 : x.toInt ≠ 10 := fun e => c10 (Int32.toInt_inj.mp e)
  have z11 : x.toInt ≠ 11 := fun e => c11 (Int32.toInt_inj.mp e)
  have z12 : x.toInt ≠ 12 := fun e => c12 (Int32.toInt_inj.mp e)
  have z13 : x.toInt ≠ 13 := fun e => c13 (Int32.toInt_inj.mp e)
  have z14 : x.toInt ≠ 14 := fun e => c14 (Int32.toInt_inj.mp e)
  have z15 : x.toInt ≠ 15 := fun e => c15 (Int32.toInt_inj.mp e)
  have z16 : x.toInt ≠ 16 := fun e => c16 (Int32.toInt_inj.mp e)
  have z17 : x.toInt ≠ 17 := fun e => c17 (Int32.toInt_inj.mp e)
  have z18 : x.toInt ≠ 18 := fun e => c18 (Int32.toInt_inj.mp e)
  refine lv_tableOut (tgt := 603) hx hb dL_law_32 (by omega) (by decide) ?_
  exact kk C Z hR H locs ls hP hD hS hl
set_option maxHeartbeats 4000000 in
set_option maxRecDepth 100000 in
theorem law_loop {p : Program} {l : Launch} {e : Env} {s : State} {m : MethodId} {below : List Frame} {meth : Method} {c : Code} {b L : Nat} {xs : Nat → Int32} {D : va_G} {ck : Nat → ClassId} {tt : Nat → Nat} {ca : Nat → Nat → Nat} {ma : Nat → Nat} (h : LX p s m meth c b L xs D ck tt) (hL : L ≤ 2560) : ∀ (fu i : Nat) (C : CS) (Z : MS), i ≤ L + 4 → L < i + 5 * fu → RR C Z → LW p l e s m below meth c b D ck ca ma i 18 C Z := by
  obtain ⟨hx, hb, hr, hml, hown, hts, hX, hbl, hlk, hN, hK, hC, hZ⟩ := id h
  have hbA : ¬ (fun q : Nat => s.heap.size ≤ q) b := Nat.not_le.mpr hbl
  intro fu
  induction fu with
  | zero =>
    intro i C Z hi hf hR H locs ls hP hD hS hl
    refine lv_iload_n hx hb dL_law_18 rfl (lv_at hl 0 rfl) ?_
    refine lv_aload_n hx hb dL_law_19 rfl (lv_at hl 3 rfl) ?_
    refine va_slen hx hb hX hbl hbA hS dL_law_20 ?_
    refine lv_iconst (v := 5) hx hb dL_law_21 (by decide) ?_
    refine lv_isub hx hb dL_law_22 ?_
    refine lv_icmp_gt (tgt := 609) hx hb dL_law_23 (by decide) (fun c1 => ?_) (fun c1 => ?_)
    · refine lv_iconst (v := 1) hx hb dL_law_609 (by decide) ?_
      refine va_forget (fun q hq => hS.2.2 q hq) ?_
      exact lw_ret hx hb hr hlk dL_law_610
    · exact absurd ((law_gt (by omega) hL).mpr (by omega)) c1
  | succ fu ih =>
    intro i C Z hi hf hR H locs ls hP hD hS hl
    refine lv_iload_n hx hb dL_law_18 rfl (lv_at hl 0 rfl) ?_
    refine lv_aload_n hx hb dL_law_19 rfl (lv_at hl 3 rfl) ?_
    refine va_slen hx hb hX hbl hbA hS dL_law_20 ?_
    refine lv_iconst (v := 5) hx hb dL_law_21 (by decide) ?_
    refine lv_isub hx hb dL_law_22 ?_
    refine lv_icmp_gt (tgt := 609) hx hb dL_law_23 (by decide) (fun c1 => ?_) (fun c1 => ?_)
    · refine lv_iconst (v := 1) hx hb dL_law_609 (by decide) ?_
      refine va_forget (fun q hq => hS.2.2 q hq) ?_
      exact lw_ret hx hb hr hlk dL_law_610
    · have hlt : i + 5 ≤ L := Nat.not_lt.mp fun q => c1 ((law_gt (by omega) hL).mpr q)
      refine law_acts h hL hlt hR (fun C1 Z1 hR1 H locs ls hP hD hS hl => ?_) H locs ls hP hD hS hl
      refine lv_iinc (v := nI (i + 5)) (lv' := [(3, .int (nI (i + 5))), (2, .ref (ma 0)), (1, .ref (ca 0 0)), (0, .ref b)]) hx hb dL_law_603 hl (k := 0) rfl (nI_add i 5) (by decide) rfl (fun ls hl => ?_)
      refine lv_goto (tgt := 18) hx hb dL_law_606 (by decide) ?_
      exact ih (i + 5) C1 Z1 (by omega) (by omega) hR1 H locs ls hP hD hS hl
set_option maxHeartbeats 4000000 in
set_option maxRecDepth 100000 in
theorem whole_start {p : Program} {e : Env} {s : State} {m : MethodId} {below : List Frame} {meth : Method} {c : Code} (l : Launch) (hflags : l.flags = flags0) {b L : Nat} {xs : Nat → Int32} (hL : L ≤ 2560) (hAt : lw_At p s m meth c b L xs) : W p l e room_1 s m #[Value.ref b] below meth c s.heap [] 0 0 (lw_Z below #[Value.ref b] s) (entryFrame m ([Value.ref b] : List Value).toArray 4) := by
  obtain ⟨D, ck, tt, h⟩ := lw_LX hAt
  obtain ⟨hx, hb, hr, hml, hown, hts, hX, hbl, hlk, hN, hK, hC, hZ⟩ := id h
  have hA : ∀ q : Nat, s.heap.size ≤ q → (fun q : Nat => s.heap.size ≤ q) q := fun _ h => h
  have hS : va_S (fun q : Nat => s.heap.size ≤ q) s.heap s.heap [] := va_S.rf
  have hP : va_P D vwCl [] s.heap := fun k q h => by simp at h
  have hD : va_D (fun q : Nat => s.heap.size ≤ q) [] := ⟨fun i j p q h => by simp at h, fun k q h => by simp at h⟩
  have hl := lv_entry ([.ref b]) (n := 4) (Nat.le_of_ble_eq_true rfl)
  rw [lg_entry_eq]
  generalize (lg_sl ([.ref b]) ++ List.replicate (4 - (lg_sl ([.ref b])).length) Slot.unset).toArray = ls at hl ⊢
  have hl : lv_has ls 4 [(0, .ref b)] := hl
  refine va_new (ci := 5) (fs := [.null, .null, .null, .null, .int 0, .null, .null]) (C := RX5) (T := TX5) (N := 7) hx hb hts inlX5 tyX5 tyX5_ok hown (hts (.classLink RL 7 RX5) (by decide +kernel)) (hts (.instantiable RX5 7) (by decide +kernel)) (hts (.initialized RX5) (by decide +kernel)) hK hP hD hS hA rfl (fun j hj => by rcases (show j = 0 ∨ j = 1 ∨ j = 2 ∨ j = 3 ∨ j = 4 ∨ j = 5 ∨ j = 6 by omega) with rfl | rfl | rfl | rfl | rfl | rfl | rfl <;> rfl) (Nat.le_of_ble_eq_true rfl) (Nat.le_of_ble_eq_true rfl) dL_law_0 (fun q1 H hP hD hS => ?_)
  refine lv_dup hx hb dL_law_3 rfl ?_
  refine xretn (va_runI (As := []) (rest := [.ref q1]) ⟨hx, hb, hml, hown, hts⟩ (mX5_init l D ck tt q1 H.size) (cwI 0 hts gL_law_X5_init rfl rfl rfl (hts (.initialized RX5) (by decide +kernel)) (hts (.methodLink RL 9 yX5_init) (by decide +kernel)) (hts (.instanceMethod yX5_init) (by decide +kernel)) rfl (by decide +kernel) ⟨Nat.le_of_ble_eq_true rfl, Nat.le_of_ble_eq_true rfl⟩) (xpreSC (As := [.ref q1]) hC hS hA hN hK hP hD List.perm_append_comm) rfl rfl hl.1 rfl (lv_room (Nat.le_of_ble_eq_true rfl)) dL_law_4 ⟨Nat.le_of_ble_eq_true rfl, Nat.le_of_ble_eq_true rfl⟩) hP hD hS hA List.perm_append_comm (fun u => List.perm_append_comm) (fun u H locs hP hD hS => ?_)
  have hP : va_P D vwCl (clW ck (cf q1 u.1) (C0 u.2)) H := hP
  have hD : va_D (fun q => s.heap.size ≤ q) (clW ck (cf q1 u.1) (C0 u.2)) := hD
  refine lv_astore_n (lv' := [(1, .ref q1), (0, .ref b)]) hx hb dL_law_7 rfl hl (by decide) rfl (fun ls hl => ?_)
  refine va_new (ci := 6) (fs := [.null, .null, .null, .null, .int 0, .null, .int 0, .null, .int 0, .int 0, .int 0, .null, .int 0]) (C := RX6) (T := TX6) (N := 13) hx hb hts inlX6 tyX6 tyX6_ok hown (hts (.classLink RL 10 RX6) (by decide +kernel)) (hts (.instantiable RX6 13) (by decide +kernel)) (hts (.initialized RX6) (by decide +kernel)) hK hP hD hS hA rfl (fun j hj => by rcases (show j = 0 ∨ j = 1 ∨ j = 2 ∨ j = 3 ∨ j = 4 ∨ j = 5 ∨ j = 6 ∨ j = 7 ∨ j = 8 ∨ j = 9 ∨ j = 10 ∨ j = 11 ∨ j = 12 by omega) with rfl | rfl | rfl | rfl | rfl | rfl | rfl | rfl | rfl | rfl | rfl | rfl | rfl <;> rfl) (Nat.le_of_ble_eq_true rfl) (Nat.le_of_ble_eq_true rfl) dL_law_8 (fun q2 H hP hD hS => ?_)
  refine lv_dup hx hb dL_law_11 rfl ?_
  refine xretn (va_runI (As := []) (rest := [.ref q2]) ⟨hx, hb, hml, hown, hts⟩ (mX6_init l D ck q2 H.size) (cwI 0 hts gL_law_X6_init rfl rfl rfl (hts (.initialized RX6) (by decide +kernel)) (hts (.methodLink RL 12 yX6_init) (by decide +kernel)) (hts (.instanceMethod yX6_init) (by decide +kernel)) rfl (by decide +kernel) ⟨Nat.le_of_ble_eq_true rfl, Nat.le_of_ble_eq_true rfl⟩) (xpreS (As := [.ref q2]) hN hK hP hD List.perm_append_comm) rfl rfl hl.1 rfl (lv_room (Nat.le_of_ble_eq_true rfl)) dL_law_12 ⟨Nat.le_of_ble_eq_true rfl, Nat.le_of_ble_eq_true rfl⟩) hP hD hS hA List.perm_append_comm (fun w => List.perm_append_comm) (fun w H locs hP hD hS => ?_)
  refine lv_astore_n (lv' := [(2, .ref q2), (1, .ref q1), (0, .ref b)]) hx hb dL_law_15 rfl hl (by decide) rfl (fun ls hl => ?_)
  refine lv_iconst (v := nI 0) hx hb dL_law_16 (by decide) ?_
  refine lv_istore_n (lv' := [(3, .int (nI 0)), (2, .ref q2), (1, .ref q1), (0, .ref b)]) hx hb dL_law_17 rfl hl (by decide) rfl (fun ls hl => ?_)
  refine W.widen (k := 600000) (n := 7302250) (Nat.le_of_ble_eq_true rfl) (Nat.le_of_ble_eq_true rfl) ?_
  exact law_loop (ca := cf q1 u.1) (ma := pf q2 w) h hL (L + 1) 0 _ _ (by omega) (by omega) RR_0 H locs ls hP hD hS hl
