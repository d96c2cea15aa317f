set_option maxHeartbeats 16000000 in
set_option maxRecDepth 100000 in
theorem s_cancelA {zp : Program} {l : Launch} {ze : Env} {s : State} {zm : MethodId} {zb : List Frame} {zt : Method} {zc : Code} {D : va_G} {ck : Nat → ClassId} {tt : Nat → Nat} {ca cb : Nat → Nat → Nat} {C E : CS} {f : FS} {N : Nat} {x y : Int32} (hx : zp.tables.exec = Jvm.exec) (hb : zc.code = cL_isStep) (hr : zt.sig.returnType = some .boolean) (hml : zc.maxLocals = 15) (hown : s.vm.findClass RL = some zm.cls) (hts : ∀ w ∈ wsL_isStep, w.before ([.ref (ca 0 0), .ref (cb 0 0), .int x, .int y] : List Value).toArray s = true) (hlk : zt.locks = false) (hN : xN s) (hK : va_K D vwCl (xT ck) s) (hZ : xStat tt (va_A (clW ck ca C ++ clW ck cb E) s.heap.size) s s.heap) (hA : ∀ zq : Nat, s.heap.size ≤ zq → (va_A (clW ck ca C ++ clW ck cb E) s.heap.size) zq) (hC : LR C f) (hE : LR E f) (hW : WI f N) (hT : TX E) (hb6 : N + 150 ≤ 1000000)  : ∀ (H : Heap) (locs : List Loc) (ls : Array Slot), va_P D vwCl (clW ck ca C ++ clW ck cb E) H → va_D (va_A (clW ck ca C ++ clW ck cb E) s.heap.size) (clW ck ca C ++ clW ck cb E) → va_S (va_A (clW ck ca C ++ clW ck cb E) s.heap.size) s.heap H locs → lv_has ls 15 [(0, .ref (ca 0 0)), (1, .ref (cb 0 0)), (2, .int x), (3, .int y), (4, .int (x >>> 4)), (5, .int (nI (nF f))), (6, .int (nI (nF f))), (7, .int (-1))] → W zp l ze rmL_isStep s zm ([.ref (ca 0 0), .ref (cb 0 0), .int x, .int y] : List Value).toArray zb zt zc H locs 0 0 (MQ zb (xQe D (clW ck ca C ++ clW ck cb E) (fun u : CS × CS × FS => clW ck ca u.1 ++ clW ck cb u.2.1) (fun u : CS × CS × FS => LR u.1 u.2.2 ∧ LR u.2.1 u.2.2 ∧ WI u.2.2 (N + 150) ∧ TX u.2.1) (fun _ => 1) s.heap.size) ([.ref (ca 0 0), .ref (cb 0 0), .int x, .int y] : List Value).toArray s 150 2400 (va_A (clW ck ca C ++ clW ck cb E) s.heap.size)) (F0 zm 339 ls []) := by
  intro H locs ls hP hD hS hl
  have hm := hC.1.2
  have hn := n_le hm
  refine lv_aload_n hx hb dL_isStep_339 rfl (lv_at hl 0 rfl) ?_
  refine lv_iload hx hb dL_isStep_340 (lv_at hl 6 rfl) ?_
  refine lv_bipush (v := 6) hx hb dL_isStep_342 (by decide) ?_
  refine xreti (va_runV (As := [.int (nI (nF f)), .int 6]) (rest := []) ⟨hx, hb, hml, hown, hts⟩ (mX5_join l D ck ca C (nI (nF f)) 6 _) (cwV 2 hts gL_isStep_X5_join rfl rfl rfl (by decide +kernel) ⟨Nat.le_of_ble_eq_true rfl, Nat.le_of_ble_eq_true rfl⟩) (xpreV hN hK hP hD (List.Perm.refl _) 0 rfl rfl rfl) rfl rfl hl.1 rfl (lv_room (Nat.le_of_ble_eq_true rfl)) dL_isStep_344 ⟨Nat.le_of_ble_eq_true rfl, Nat.le_of_ble_eq_true rfl⟩) hP hD hS hA (List.Perm.refl _) (List.Perm.refl _) (fun H locs hP hD hS => ?_)
  have hP : va_P D vwCl (clW ck ca C ++ clW ck cb E) H := hP
  have hD : va_D (va_A (clW ck ca C ++ clW ck cb E) s.heap.size) (clW ck ca C ++ clW ck cb E) := hD
  rw [jn_n hC]
  refine lv_istore (lv' := [(9, .int (-1)), (0, .ref (ca 0 0)), (1, .ref (cb 0 0)), (2, .int x), (3, .int y), (4, .int (x >>> 4)), (5, .int (nI (nF f))), (6, .int (nI (nF f))), (7, .int (-1))]) hx hb dL_isStep_347 hl (by decide) rfl (fun ls hl => ?_)
  refine lv_aload_n hx hb dL_isStep_349 rfl (lv_at hl 1 rfl) ?_
  refine lv_iload hx hb dL_isStep_350 (lv_at hl 7 rfl) ?_
  refine xreti (va_runV (As := [.int (nI (nF f))]) (rest := []) ⟨hx, hb, hml, hown, hts⟩ (mX5_cancel l D ck ca C (nI (nF f)) (LR_hz hC) _) (cwV 1 hts gL_isStep_X5_cancel rfl rfl rfl (by decide +kernel) ⟨Nat.le_of_ble_eq_true rfl, Nat.le_of_ble_eq_true rfl⟩) (xpreV hN hK hP hD (List.Perm.refl _) 0 rfl rfl rfl) rfl rfl hl.1 rfl (lv_room (Nat.le_of_ble_eq_true rfl)) dL_isStep_352 ⟨Nat.le_of_ble_eq_true rfl, Nat.le_of_ble_eq_true rfl⟩) hP hD hS hA (List.Perm.refl _) (List.Perm.refl _) (fun H locs hP hD hS => ?_)
  have hP : va_P D vwCl (clW ck ca ((gX5_cancel C (nI (nF f))).2) ++ clW ck cb E) H := hP
  have hD : va_D (va_A (clW ck ca C ++ clW ck cb E) s.heap.size) (clW ck ca ((gX5_cancel C (nI (nF f))).2) ++ clW ck cb E) := hD
  have eaC352 : (gX5_cancel C (nI (nF f))) = ((-1), C) := (l_cancel_n hC)
  have ebC352 : (gX5_cancel C (nI (nF f))).1 = (-1) := by rw [eaC352]
  have ecC352 : (gX5_cancel C (nI (nF f))).2 = C := by rw [eaC352]
  rw [ebC352]
  rw [ecC352] at hP hD
  refine lv_istore (lv' := [(10, .int (-1)), (9, .int (-1)), (0, .ref (ca 0 0)), (1, .ref (cb 0 0)), (2, .int x), (3, .int y), (4, .int (x >>> 4)), (5, .int (nI (nF f))), (6, .int (nI (nF f))), (7, .int (-1))]) hx hb dL_isStep_355 hl (by decide) rfl (fun ls hl => ?_)
  refine lv_iload hx hb dL_isStep_357 (lv_at hl 0 rfl) ?_
  refine lv_aload_n hx hb dL_isStep_359 rfl (lv_at hl 3 rfl) ?_
  refine lv_iload hx hb dL_isStep_360 (lv_at hl 8 rfl) ?_
  refine xreti (va_runV (As := [.int (nI (nF f))]) (rest := [.int (-1)]) ⟨hx, hb, hml, hown, hts⟩ (mX5_cancel l D ck cb E (nI (nF f)) (LR_hz hE) _) (cwV 1 hts gL_isStep_X5_cancel rfl rfl rfl (by decide +kernel) ⟨Nat.le_of_ble_eq_true rfl, Nat.le_of_ble_eq_true rfl⟩) (xpreV hN hK hP hD List.perm_append_comm 0 rfl rfl rfl) rfl rfl hl.1 rfl (lv_room (Nat.le_of_ble_eq_true rfl)) dL_isStep_362 ⟨Nat.le_of_ble_eq_true rfl, Nat.le_of_ble_eq_true rfl⟩) hP hD hS hA List.perm_append_comm List.perm_append_comm (fun H locs hP hD hS => ?_)
  have hP : va_P D vwCl (clW ck ca C ++ clW ck cb ((gX5_cancel E (nI (nF f))).2)) H := hP
  have hD : va_D (va_A (clW ck ca C ++ clW ck cb E) s.heap.size) (clW ck ca C ++ clW ck cb ((gX5_cancel E (nI (nF f))).2)) := hD
  have eaE362 : (gX5_cancel E (nI (nF f))) = ((-1), E) := (l_cancel_n hE)
  have ebE362 : (gX5_cancel E (nI (nF f))).1 = (-1) := by rw [eaE362]
  have ecE362 : (gX5_cancel E (nI (nF f))).2 = E := by rw [eaE362]
  rw [ebE362]
  rw [ecE362] at hP hD
  refine lv_icmp_ne (tgt := 429) hx hb dL_isStep_365 (by decide) (fun c_365 => ?_) (fun c_365 => ?_)
  · --t
    exact absurd (by decide) c_365
  · --f
    refine lv_iload hx hb dL_isStep_368 (lv_at hl 0 rfl) ?_
    refine lv_iload hx hb dL_isStep_370 (lv_at hl 8 rfl) ?_
    refine lv_iload hx hb dL_isStep_372 (lv_at hl 7 rfl) ?_
    refine lv_icmp_ne (tgt := 381) hx hb dL_isStep_374 (by decide) (fun c_374 => ?_) (fun c_374 => ?_)
    · --t
      exact absurd rfl c_374
    · --f
      refine lv_iconst (v := (-1)) hx hb dL_isStep_377 (by decide) ?_
      refine lv_goto (tgt := 394) hx hb dL_isStep_378 (by decide) ?_
      refine lv_icmp_ne (tgt := 429) hx hb dL_isStep_394 (by decide) (fun c_394 => ?_) (fun c_394 => ?_)
      · --t
        exact absurd (by decide) c_394
      · --f
        refine lv_iload hx hb dL_isStep_397 (lv_at hl 8 rfl) ?_
        refine lv_iload hx hb dL_isStep_399 (lv_at hl 7 rfl) ?_
        refine lv_icmp_eq (tgt := 425) hx hb dL_isStep_401 (by decide) (fun c_401 => ?_) (fun c_401 => ?_)
        · --t
          refine lv_iconst (v := 1) hx hb dL_isStep_425 (by decide) ?_
          refine lv_goto (tgt := 430) hx hb dL_isStep_426 (by decide) ?_
          refine W.widen (k := 150) (n := 2400) (by omega) (by omega) ?_
          exact xezret (C, E, f) ⟨hC, hE, (WI_le hW (by omega)), hT⟩ hx hb hr hlk hP hD hS (Or.inr rfl) rfl rfl dL_isStep_430
        · --f
          exact absurd rfl c_401
set_option maxHeartbeats 16000000 in
set_option maxRecDepth 100000 in
theorem s_cancelB0 {zp : Program} {l : Launch} {ze : Env} {s : State} {zm : MethodId} {zb : List Frame} {zt : Method} {zc : Code} {D : va_G} {ck : Nat → ClassId} {tt : Nat → Nat} {ca cb : Nat → Nat → Nat} {C E : CS} {f : FS} {N : Nat} {x y : Int32} (hx : zp.tables.exec = Jvm.exec) (hb : zc.code = cL_isStep) (hr : zt.sig.returnType = some .boolean) (hml : zc.maxLocals = 15) (hown : s.vm.findClass RL = some zm.cls) (hts : ∀ w ∈ wsL_isStep, w.before ([.ref (ca 0 0), .ref (cb 0 0), .int x, .int y] : List Value).toArray s = true) (hlk : zt.locks = false) (hN : xN s) (hK : va_K D vwCl (xT ck) s) (hZ : xStat tt (va_A (clW ck ca C ++ clW ck cb E) s.heap.size) s s.heap) (hA : ∀ zq : Nat, s.heap.size ≤ zq → (va_A (clW ck ca C ++ clW ck cb E) s.heap.size) zq) (hC : LR C f) (hE : LR E f) (hW : WI f N) (hT : TX E) (hb6 : N + 150 ≤ 1000000) {J : Nat} (hJ : J < nF f) (hs : oF f J 3 = 0) : ∀ (H : Heap) (locs : List Loc) (ls : Array Slot), va_P D vwCl (clW ck ca C ++ clW ck cb E) H → va_D (va_A (clW ck ca C ++ clW ck cb E) s.heap.size) (clW ck ca C ++ clW ck cb E) → va_S (va_A (clW ck ca C ++ clW ck cb E) s.heap.size) s.heap H locs → lv_has ls 15 [(0, .ref (ca 0 0)), (1, .ref (cb 0 0)), (2, .int x), (3, .int y), (4, .int (x >>> 4)), (5, .int (nI (nF f))), (6, .int (nI J)), (7, .int 0)] → W zp l ze rmL_isStep s zm ([.ref (ca 0 0), .ref (cb 0 0), .int x, .int y] : List Value).toArray zb zt zc H locs 0 0 (MQ zb (xQe D (clW ck ca C ++ clW ck cb E) (fun u : CS × CS × FS => clW ck ca u.1 ++ clW ck cb u.2.1) (fun u : CS × CS × FS => LR u.1 u.2.2 ∧ LR u.2.1 u.2.2 ∧ WI u.2.2 (N + 150) ∧ TX u.2.1) (fun _ => 1) s.heap.size) ([.ref (ca 0 0), .ref (cb 0 0), .int x, .int y] : List Value).toArray s 150 2400 (va_A (clW ck ca C ++ clW ck cb E) s.heap.size)) (F0 zm 339 ls []) := by
  intro H locs ls hP hD hS hl
  have hm := hC.1.2
  have hn := n_le hm
  refine lv_aload_n hx hb dL_isStep_339 rfl (lv_at hl 0 rfl) ?_
  refine lv_iload hx hb dL_isStep_340 (lv_at hl 6 rfl) ?_
  refine lv_bipush (v := 6) hx hb dL_isStep_342 (by decide) ?_
  refine xreti (va_runV (As := [.int (nI J), .int 6]) (rest := []) ⟨hx, hb, hml, hown, hts⟩ (mX5_join l D ck ca C (nI J) 6 _) (cwV 2 hts gL_isStep_X5_join rfl rfl rfl (by decide +kernel) ⟨Nat.le_of_ble_eq_true rfl, Nat.le_of_ble_eq_true rfl⟩) (xpreV hN hK hP hD (List.Perm.refl _) 0 rfl rfl rfl) rfl rfl hl.1 rfl (lv_room (Nat.le_of_ble_eq_true rfl)) dL_isStep_344 ⟨Nat.le_of_ble_eq_true rfl, Nat.le_of_ble_eq_true rfl⟩) hP hD hS hA (List.Perm.refl _) (List.Perm.refl _) (fun H locs hP hD hS => ?_)
  have hP : va_P D vwCl (clW ck ca C ++ clW ck cb E) H := hP
  have hD : va_D (va_A (clW ck ca C ++ clW ck cb E) s.heap.size) (clW ck ca C ++ clW ck cb E) := hD
  rw [jn_6 hC hJ]
  refine lv_istore (lv' := [(9, .int (oF f J 4)), (0, .ref (ca 0 0)), (1, .ref (cb 0 0)), (2, .int x), (3, .int y), (4, .int (x >>> 4)), (5, .int (nI (nF f))), (6, .int (nI J)), (7, .int 0)]) hx hb dL_isStep_347 hl (by decide) rfl (fun ls hl => ?_)
  refine lv_aload_n hx hb dL_isStep_349 rfl (lv_at hl 1 rfl) ?_
  refine lv_iload hx hb dL_isStep_350 (lv_at hl 7 rfl) ?_
  refine xreti (va_runV (As := [.int (nI J)]) (rest := []) ⟨hx, hb, hml, hown, hts⟩ (mX5_cancel l D ck ca C (nI J) (LR_hz hC) _) (cwV 1 hts gL_isStep_X5_cancel rfl rfl rfl (by decide +kernel) ⟨Nat.le_of_ble_eq_true rfl, Nat.le_of_ble_eq_true rfl⟩) (xpreV hN hK hP hD (List.Perm.refl _) 0 rfl rfl rfl) rfl rfl hl.1 rfl (lv_room (Nat.le_of_ble_eq_true rfl)) dL_isStep_352 ⟨Nat.le_of_ble_eq_true rfl, Nat.le_of_ble_eq_true rfl⟩) hP hD hS hA (List.Perm.refl _) (List.Perm.refl _) (fun H locs hP hD hS => ?_)
  have hP : va_P D vwCl (clW ck ca ((gX5_cancel C (nI J)).2) ++ clW ck cb E) H := hP
  have hD : va_D (va_A (clW ck ca C ++ clW ck cb E) s.heap.size) (clW ck ca ((gX5_cancel C (nI J)).2) ++ clW ck cb E) := hD
  obtain ⟨ebC352, hC352⟩ := ((l_cancel hC hJ).2 (Or.inl hs))
  rw [ebC352]
  have tkC352 : (gX5_cancel C (nI J)).2.2.2.1 = C.2.2.1 := tx_cancel
  generalize (gX5_cancel C (nI J)).2 = C352 at hP hD hC352 tkC352
  have hP : va_P D vwCl (clW ck ca C352 ++ clW ck cb E) H := hP
  have hD : va_D (va_A (clW ck ca C ++ clW ck cb E) s.heap.size) (clW ck ca C352 ++ clW ck cb E) := hD
  refine lv_istore (lv' := [(10, .int (oF f J 4)), (9, .int (oF f J 4)), (0, .ref (ca 0 0)), (1, .ref (cb 0 0)), (2, .int x), (3, .int y), (4, .int (x >>> 4)), (5, .int (nI (nF f))), (6, .int (nI J)), (7, .int 0)]) hx hb dL_isStep_355 hl (by decide) rfl (fun ls hl => ?_)
  refine lv_iload hx hb dL_isStep_357 (lv_at hl 0 rfl) ?_
  refine lv_aload_n hx hb dL_isStep_359 rfl (lv_at hl 3 rfl) ?_
  refine lv_iload hx hb dL_isStep_360 (lv_at hl 8 rfl) ?_
  refine xreti (va_runV (As := [.int (nI J)]) (rest := [.int (oF f J 4)]) ⟨hx, hb, hml, hown, hts⟩ (mX5_cancel l D ck cb E (nI J) (LR_hz hE) _) (cwV 1 hts gL_isStep_X5_cancel rfl rfl rfl (by decide +kernel) ⟨Nat.le_of_ble_eq_true rfl, Nat.le_of_ble_eq_true rfl⟩) (xpreV hN hK hP hD List.perm_append_comm 0 rfl rfl rfl) rfl rfl hl.1 rfl (lv_room (Nat.le_of_ble_eq_true rfl)) dL_isStep_362 ⟨Nat.le_of_ble_eq_true rfl, Nat.le_of_ble_eq_true rfl⟩) hP hD hS hA List.perm_append_comm List.perm_append_comm (fun H locs hP hD hS => ?_)
  have hP : va_P D vwCl (clW ck ca C352 ++ clW ck cb ((gX5_cancel E (nI J)).2)) H := hP
  have hD : va_D (va_A (clW ck ca C ++ clW ck cb E) s.heap.size) (clW ck ca C352 ++ clW ck cb ((gX5_cancel E (nI J)).2)) := hD
  obtain ⟨ebE362, hE362⟩ := ((l_cancel hE hJ).2 (Or.inl hs))
  rw [ebE362]
  have tkE362 : (gX5_cancel E (nI J)).2.2.2.1 = E.2.2.1 := tx_cancel
  generalize (gX5_cancel E (nI J)).2 = E362 at hP hD hE362 tkE362
  have hP : va_P D vwCl (clW ck ca C352 ++ clW ck cb E362) H := hP
  have hD : va_D (va_A (clW ck ca C ++ clW ck cb E) s.heap.size) (clW ck ca C352 ++ clW ck cb E362) := hD
  refine lv_icmp_ne (tgt := 429) hx hb dL_isStep_365 (by decide) (fun c_365 => ?_) (fun c_365 => ?_)
  · --t
    exact absurd rfl c_365
  · --f
    refine lv_iload hx hb dL_isStep_368 (lv_at hl 0 rfl) ?_
    refine lv_iload hx hb dL_isStep_370 (lv_at hl 8 rfl) ?_
    refine lv_iload hx hb dL_isStep_372 (lv_at hl 7 rfl) ?_
    refine lv_icmp_ne (tgt := 381) hx hb dL_isStep_374 (by decide) (fun c_374 => ?_) (fun c_374 => ?_)
    · --t
      refine lv_iload hx hb dL_isStep_381 (lv_at hl 9 rfl) ?_
      refine lv_iconst (v := 1) hx hb dL_isStep_383 (by decide) ?_
      refine lv_icmp_le (tgt := 392) hx hb dL_isStep_384 (by decide) (fun c_384 => ?_) (fun c_384 => ?_)
      · --t
        refine lv_iload hx hb dL_isStep_392 (lv_at hl 1 rfl) ?_
        refine lv_icmp_ne (tgt := 429) hx hb dL_isStep_394 (by decide) (fun c_394 => ?_) (fun c_394 => ?_)
        · --t
          exact absurd rfl c_394
        · --f
          refine lv_iload hx hb dL_isStep_397 (lv_at hl 8 rfl) ?_
          refine lv_iload hx hb dL_isStep_399 (lv_at hl 7 rfl) ?_
          refine lv_icmp_eq (tgt := 425) hx hb dL_isStep_401 (by decide) (fun c_401 => ?_) (fun c_401 => ?_)
          · --t
            exact absurd ((nI_eq (by omega) (by omega)).mp c_401) (by omega)
          · --f
            refine lv_aload_n hx hb dL_isStep_404 rfl (lv_at hl 2 rfl) ?_
            refine lv_iload hx hb dL_isStep_405 (lv_at hl 8 rfl) ?_
            refine lv_iconst (v := 3) hx hb dL_isStep_407 (by decide) ?_
            refine xreti (va_runV (As := [.int (nI J), .int 3]) (rest := []) ⟨hx, hb, hml, hown, hts⟩ (mX5_join l D ck ca C352 (nI J) 3 _) (cwV 2 hts gL_isStep_X5_join rfl rfl rfl (by decide +kernel) ⟨Nat.le_of_ble_eq_true rfl, Nat.le_of_ble_eq_true rfl⟩) (xpreV hN hK hP hD (List.Perm.refl _) 0 rfl rfl rfl) rfl rfl hl.1 rfl (lv_room (Nat.le_of_ble_eq_true rfl)) dL_isStep_408 ⟨Nat.le_of_ble_eq_true rfl, Nat.le_of_ble_eq_true rfl⟩) hP hD hS hA (List.Perm.refl _) (List.Perm.refl _) (fun H locs hP hD hS => ?_)
            have hP : va_P D vwCl (clW ck ca C352 ++ clW ck cb E362) H := hP
            have hD : va_D (va_A (clW ck ca C ++ clW ck cb E) s.heap.size) (clW ck ca C352 ++ clW ck cb E362) := hD
            rw [jn_3 hC352 (cn_n hm hJ)]
            rw [show ((oF (gX6_goesThrough (gX6_ends f J 3)) J 3) : Int32) = 3 from (cn_3 hm hJ)]
            refine lv_iload hx hb dL_isStep_411 (lv_at hl 9 rfl) ?_
            refine lv_iconst (v := 2) hx hb dL_isStep_413 (by decide) ?_
            refine lv_icmp_ne (tgt := 421) hx hb dL_isStep_414 (by decide) (fun c_414 => ?_) (fun c_414 => ?_)
            · --t
              refine lv_iconst (v := 3) hx hb dL_isStep_421 (by decide) ?_
              refine lv_icmp_ne (tgt := 429) hx hb dL_isStep_422 (by decide) (fun c_422 => ?_) (fun c_422 => ?_)
              · --t
                exact absurd (by decide) c_422
              · --f
                refine lv_iconst (v := 1) hx hb dL_isStep_425 (by decide) ?_
                refine lv_goto (tgt := 430) hx hb dL_isStep_426 (by decide) ?_
                refine W.widen (k := 150) (n := 2400) (by omega) (by omega) ?_
                exact xezret (C352, E362, (gX6_goesThrough (gX6_ends f J 3))) ⟨hC352, hE362, (WI_le (cn_WI hW hJ) (by omega)), (TX_e hT tkE362)⟩ hx hb hr hlk hP hD hS (Or.inr rfl) rfl rfl dL_isStep_430
            · --f
              exact absurd c_414 (by decide)
      · --f
        exact absurd (by decide) c_384
    · --f
      exact absurd ((nI_eq (by omega) (by omega)).mp c_374) (by omega)
set_option maxHeartbeats 16000000 in
set_option maxRecDepth 100000 in
theorem s_cancelB1 {zp : Program} {l : Launch} {ze : Env} {s : State} {zm : MethodId} {zb : List Frame} {zt : Method} {zc : Code} {D : va_G} {ck : Nat → ClassId} {tt : Nat → Nat} {ca cb : Nat → Nat → Nat} {C E : CS} {f : FS} {N : Nat} {x y : Int32} (hx : zp.tables.exec = Jvm.exec) (hb : zc.code = cL_isStep) (hr : zt.sig.returnType = some .boolean) (hml : zc.maxLocals = 15) (hown : s.vm.findClass RL = some zm.cls) (hts : ∀ w ∈ wsL_isStep, w.before ([.ref (ca 0 0), .ref (cb 0 0), .int x, .int y] : List Value).toArray s = true) (hlk : zt.locks = false) (hN : xN s) (hK : va_K D vwCl (xT ck) s) (hZ : xStat tt (va_A (clW ck ca C ++ clW ck cb E) s.heap.size) s s.heap) (hA : ∀ zq : Nat, s.heap.size ≤ zq → (va_A (clW ck ca C ++ clW ck cb E) s.heap.size) zq) (hC : LR C f) (hE : LR E f) (hW : WI f N) (hT : TX E) (hb6 : N + 150 ≤ 1000000) {J : Nat} (hJ : J < nF f) (hs : oF f J 3 = 1) : ∀ (H : Heap) (locs : List Loc) (ls : Array Slot), va_P D vwCl (clW ck ca C ++ clW ck cb E) H → va_D (va_A (clW ck ca C ++ clW ck cb E) s.heap.size) (clW ck ca C ++ clW ck cb E) → va_S (va_A (clW ck ca C ++ clW ck cb E) s.heap.size) s.heap H locs → lv_has ls 15 [(0, .ref (ca 0 0)), (1, .ref (cb 0 0)), (2, .int x), (3, .int y), (4, .int (x >>> 4)), (5, .int (nI (nF f))), (6, .int (nI J)), (7, .int 1)] → W zp l ze rmL_isStep s zm ([.ref (ca 0 0), .ref (cb 0 0), .int x, .int y] : List Value).toArray zb zt zc H locs 0 0 (MQ zb (xQe D (clW ck ca C ++ clW ck cb E) (fun u : CS × CS × FS => clW ck ca u.1 ++ clW ck cb u.2.1) (fun u : CS × CS × FS => LR u.1 u.2.2 ∧ LR u.2.1 u.2.2 ∧ WI u.2.2 (N + 150) ∧ TX u.2.1) (fun _ => 1) s.heap.size) ([.ref (ca 0 0), .ref (cb 0 0), .int x, .int y] : List Value).toArray s 150 2400 (va_A (clW ck ca C ++ clW ck cb E) s.heap.size)) (F0 zm 339 ls []) := by
  intro H locs ls hP hD hS hl
  have hm := hC.1.2
  have hn := n_le hm
  refine lv_aload_n hx hb dL_isStep_339 rfl (lv_at hl 0 rfl) ?_
  refine lv_iload hx hb dL_isStep_340 (lv_at hl 6 rfl) ?_
  refine lv_bipush (v := 6) hx hb dL_isStep_342 (by decide) ?_
  refine xreti (va_runV (As := [.int (nI J), .int 6]) (rest := []) ⟨hx, hb, hml, hown, hts⟩ (mX5_join l D ck ca C (nI J) 6 _) (cwV 2 hts gL_isStep_X5_join rfl rfl rfl (by decide +kernel) ⟨Nat.le_of_ble_eq_true rfl, Nat.le_of_ble_eq_true rfl⟩) (xpreV hN hK hP hD (List.Perm.refl _) 0 rfl rfl rfl) rfl rfl hl.1 rfl (lv_room (Nat.le_of_ble_eq_true rfl)) dL_isStep_344 ⟨Nat.le_of_ble_eq_true rfl, Nat.le_of_ble_eq_true rfl⟩) hP hD hS hA (List.Perm.refl _) (List.Perm.refl _) (fun H locs hP hD hS => ?_)
  have hP : va_P D vwCl (clW ck ca C ++ clW ck cb E) H := hP
  have hD : va_D (va_A (clW ck ca C ++ clW ck cb E) s.heap.size) (clW ck ca C ++ clW ck cb E) := hD
  rw [jn_6 hC hJ]
  refine lv_istore (lv' := [(9, .int (oF f J 4)), (0, .ref (ca 0 0)), (1, .ref (cb 0 0)), (2, .int x), (3, .int y), (4, .int (x >>> 4)), (5, .int (nI (nF f))), (6, .int (nI J)), (7, .int 1)]) hx hb dL_isStep_347 hl (by decide) rfl (fun ls hl => ?_)
  refine lv_aload_n hx hb dL_isStep_349 rfl (lv_at hl 1 rfl) ?_
  refine lv_iload hx hb dL_isStep_350 (lv_at hl 7 rfl) ?_
  refine xreti (va_runV (As := [.int (nI J)]) (rest := []) ⟨hx, hb, hml, hown, hts⟩ (mX5_cancel l D ck ca C (nI J) (LR_hz hC) _) (cwV 1 hts gL_isStep_X5_cancel rfl rfl rfl (by decide +kernel) ⟨Nat.le_of_ble_eq_true rfl, Nat.le_of_ble_eq_true rfl⟩) (xpreV hN hK hP hD (List.Perm.refl _) 0 rfl rfl rfl) rfl rfl hl.1 rfl (lv_room (Nat.le_of_ble_eq_true rfl)) dL_isStep_352 ⟨Nat.le_of_ble_eq_true rfl, Nat.le_of_ble_eq_true rfl⟩) hP hD hS hA (List.Perm.refl _) (List.Perm.refl _) (fun H locs hP hD hS => ?_)
  have hP : va_P D vwCl (clW ck ca ((gX5_cancel C (nI J)).2) ++ clW ck cb E) H := hP
  have hD : va_D (va_A (clW ck ca C ++ clW ck cb E) s.heap.size) (clW ck ca ((gX5_cancel C (nI J)).2) ++ clW ck cb E) := hD
  obtain ⟨ebC352, hC352⟩ := ((l_cancel hC hJ).2 (Or.inr hs))
  rw [ebC352]
  have tkC352 : (gX5_cancel C (nI J)).2.2.2.1 = C.2.2.1 := tx_cancel
  generalize (gX5_cancel C (nI J)).2 = C352 at hP hD hC352 tkC352
  have hP : va_P D vwCl (clW ck ca C352 ++ clW ck cb E) H := hP
  have hD : va_D (va_A (clW ck ca C ++ clW ck cb E) s.heap.size) (clW ck ca C352 ++ clW ck cb E) := hD
  refine lv_istore (lv' := [(10, .int (oF f J 4)), (9, .int (oF f J 4)), (0, .ref (ca 0 0)), (1, .ref (cb 0 0)), (2, .int x), (3, .int y), (4, .int (x >>> 4)), (5, .int (nI (nF f))), (6, .int (nI J)), (7, .int 1)]) hx hb dL_isStep_355 hl (by decide) rfl (fun ls hl => ?_)
  refine lv_iload hx hb dL_isStep_357 (lv_at hl 0 rfl) ?_
  refine lv_aload_n hx hb dL_isStep_359 rfl (lv_at hl 3 rfl) ?_
  refine lv_iload hx hb dL_isStep_360 (lv_at hl 8 rfl) ?_
  refine xreti (va_runV (As := [.int (nI J)]) (rest := [.int (oF f J 4)]) ⟨hx, hb, hml, hown, hts⟩ (mX5_cancel l D ck cb E (nI J) (LR_hz hE) _) (cwV 1 hts gL_isStep_X5_cancel rfl rfl rfl (by decide +kernel) ⟨Nat.le_of_ble_eq_true rfl, Nat.le_of_ble_eq_true rfl⟩) (xpreV hN hK hP hD List.perm_append_comm 0 rfl rfl rfl) rfl rfl hl.1 rfl (lv_room (Nat.le_of_ble_eq_true rfl)) dL_isStep_362 ⟨Nat.le_of_ble_eq_true rfl, Nat.le_of_ble_eq_true rfl⟩) hP hD hS hA List.perm_append_comm List.perm_append_comm (fun H locs hP hD hS => ?_)
  have hP : va_P D vwCl (clW ck ca C352 ++ clW ck cb ((gX5_cancel E (nI J)).2)) H := hP
  have hD : va_D (va_A (clW ck ca C ++ clW ck cb E) s.heap.size) (clW ck ca C352 ++ clW ck cb ((gX5_cancel E (nI J)).2)) := hD
  obtain ⟨ebE362, hE362⟩ := ((l_cancel hE hJ).2 (Or.inr hs))
  rw [ebE362]
  have tkE362 : (gX5_cancel E (nI J)).2.2.2.1 = E.2.2.1 := tx_cancel
  generalize (gX5_cancel E (nI J)).2 = E362 at hP hD hE362 tkE362
  have hP : va_P D vwCl (clW ck ca C352 ++ clW ck cb E362) H := hP
  have hD : va_D (va_A (clW ck ca C ++ clW ck cb E) s.heap.size) (clW ck ca C352 ++ clW ck cb E362) := hD
  refine lv_icmp_ne (tgt := 429) hx hb dL_isStep_365 (by decide) (fun c_365 => ?_) (fun c_365 => ?_)
  · --t
    exact absurd rfl c_365
  · --f
    refine lv_iload hx hb dL_isStep_368 (lv_at hl 0 rfl) ?_
    refine lv_iload hx hb dL_isStep_370 (lv_at hl 8 rfl) ?_
    refine lv_iload hx hb dL_isStep_372 (lv_at hl 7 rfl) ?_
    refine lv_icmp_ne (tgt := 381) hx hb dL_isStep_374 (by decide) (fun c_374 => ?_) (fun c_374 => ?_)
    · --t
      refine lv_iload hx hb dL_isStep_381 (lv_at hl 9 rfl) ?_
      refine lv_iconst (v := 1) hx hb dL_isStep_383 (by decide) ?_
      refine lv_icmp_le (tgt := 392) hx hb dL_isStep_384 (by decide) (fun c_384 => ?_) (fun c_384 => ?_)
      · --t
        refine lv_iload hx hb dL_isStep_392 (lv_at hl 1 rfl) ?_
        refine lv_icmp_ne (tgt := 429) hx hb dL_isStep_394 (by decide) (fun c_394 => ?_) (fun c_394 => ?_)
        · --t
          exact absurd rfl c_394
        · --f
          refine lv_iload hx hb dL_isStep_397 (lv_at hl 8 rfl) ?_
          refine lv_iload hx hb dL_isStep_399 (lv_at hl 7 rfl) ?_
          refine lv_icmp_eq (tgt := 425) hx hb dL_isStep_401 (by decide) (fun c_401 => ?_) (fun c_401 => ?_)
          · --t
            exact absurd ((nI_eq (by omega) (by omega)).mp c_401) (by omega)
          · --f
            refine lv_aload_n hx hb dL_isStep_404 rfl (lv_at hl 2 rfl) ?_
            refine lv_iload hx hb dL_isStep_405 (lv_at hl 8 rfl) ?_
            refine lv_iconst (v := 3) hx hb dL_isStep_407 (by decide) ?_
            refine xreti (va_runV (As := [.int (nI J), .int 3]) (rest := []) ⟨hx, hb, hml, hown, hts⟩ (mX5_join l D ck ca C352 (nI J) 3 _) (cwV 2 hts gL_isStep_X5_join rfl rfl rfl (by decide +kernel) ⟨Nat.le_of_ble_eq_true rfl, Nat.le_of_ble_eq_true rfl⟩) (xpreV hN hK hP hD (List.Perm.refl _) 0 rfl rfl rfl) rfl rfl hl.1 rfl (lv_room (Nat.le_of_ble_eq_true rfl)) dL_isStep_408 ⟨Nat.le_of_ble_eq_true rfl, Nat.le_of_ble_eq_true rfl⟩) hP hD hS hA (List.Perm.refl _) (List.Perm.refl _) (fun H locs hP hD hS => ?_)
            have hP : va_P D vwCl (clW ck ca C352 ++ clW ck cb E362) H := hP
            have hD : va_D (va_A (clW ck ca C ++ clW ck cb E) s.heap.size) (clW ck ca C352 ++ clW ck cb E362) := hD
            rw [jn_3 hC352 (cn_n hm hJ)]
            rw [show ((oF (gX6_goesThrough (gX6_ends f J 3)) J 3) : Int32) = 3 from (cn_3 hm hJ)]
            refine lv_iload hx hb dL_isStep_411 (lv_at hl 9 rfl) ?_
            refine lv_iconst (v := 2) hx hb dL_isStep_413 (by decide) ?_
            refine lv_icmp_ne (tgt := 421) hx hb dL_isStep_414 (by decide) (fun c_414 => ?_) (fun c_414 => ?_)
            · --t
              refine lv_iconst (v := 3) hx hb dL_isStep_421 (by decide) ?_
              refine lv_icmp_ne (tgt := 429) hx hb dL_isStep_422 (by decide) (fun c_422 => ?_) (fun c_422 => ?_)
              · --t
                exact absurd (by decide) c_422
              · --f
                refine lv_iconst (v := 1) hx hb dL_isStep_425 (by decide) ?_
                refine lv_goto (tgt := 430) hx hb dL_isStep_426 (by decide) ?_
                refine W.widen (k := 150) (n := 2400) (by omega) (by omega) ?_
                exact xezret (C352, E362, (gX6_goesThrough (gX6_ends f J 3))) ⟨hC352, hE362, (WI_le (cn_WI hW hJ) (by omega)), (TX_e hT tkE362)⟩ hx hb hr hlk hP hD hS (Or.inr rfl) rfl rfl dL_isStep_430
            · --f
              exact absurd c_414 (by decide)
      · --f
        exact absurd (by decide) c_384
    · --f
      exact absurd ((nI_eq (by omega) (by omega)).mp c_374) (by omega)
set_option maxHeartbeats 16000000 in
set_option maxRecDepth 100000 in
theorem s_cancelB2 {zp : Program} {l : Launch} {ze : Env} {s : State} {zm : MethodId} {zb : List Frame} {zt : Method} {zc : Code} {D : va_G} {ck : Nat → ClassId} {tt : Nat → Nat} {ca cb : Nat → Nat → Nat} {C E : CS} {f : FS} {N : Nat} {x y : Int32} (hx : zp.tables.exec = Jvm.exec) (hb : zc.code = cL_isStep) (hr : zt.sig.returnType = some .boolean) (hml : zc.maxLocals = 15) (hown : s.vm.findClass RL = some zm.cls) (hts : ∀ w ∈ wsL_isStep, w.before ([.ref (ca 0 0), .ref (cb 0 0), .int x, .int y] : List Value).toArray s = true) (hlk : zt.locks = false) (hN : xN s) (hK : va_K D vwCl (xT ck) s) (hZ : xStat tt (va_A (clW ck ca C ++ clW ck cb E) s.heap.size) s s.heap) (hA : ∀ zq : Nat, s.heap.size ≤ zq → (va_A (clW ck ca C ++ clW ck cb E) s.heap.size) zq) (hC : LR C f) (hE : LR E f) (hW : WI f N) (hT : TX E) (hb6 : N + 150 ≤ 1000000) {J : Nat} (hJ : J < nF f) (hs : oF f J 3 = 2) : ∀ (H : Heap) (locs : List Loc) (ls : Array Slot), va_P D vwCl (clW ck ca C ++ clW ck cb E) H → va_D (va_A (clW ck ca C ++ clW ck cb E) s.heap.size) (clW ck ca C ++ clW ck cb E) → va_S (va_A (clW ck ca C ++ clW ck cb E) s.heap.size) s.heap H locs → lv_has ls 15 [(0, .ref (ca 0 0)), (1, .ref (cb 0 0)), (2, .int x), (3, .int y), (4, .int (x >>> 4)), (5, .int (nI (nF f))), (6, .int (nI J)), (7, .int 2)] → W zp l ze rmL_isStep s zm ([.ref (ca 0 0), .ref (cb 0 0), .int x, .int y] : List Value).toArray zb zt zc H locs 0 0 (MQ zb (xQe D (clW ck ca C ++ clW ck cb E) (fun u : CS × CS × FS => clW ck ca u.1 ++ clW ck cb u.2.1) (fun u : CS × CS × FS => LR u.1 u.2.2 ∧ LR u.2.1 u.2.2 ∧ WI u.2.2 (N + 150) ∧ TX u.2.1) (fun _ => 1) s.heap.size) ([.ref (ca 0 0), .ref (cb 0 0), .int x, .int y] : List Value).toArray s 150 2400 (va_A (clW ck ca C ++ clW ck cb E) s.heap.size)) (F0 zm 339 ls []) := by
  intro H locs ls hP hD hS hl
  have hm := hC.1.2
  have hn := n_le hm
  refine lv_aload_n hx hb dL_isStep_339 rfl (lv_at hl 0 rfl) ?_
  refine lv_iload hx hb dL_isStep_340 (lv_at hl 6 rfl) ?_
  refine lv_bipush (v := 6) hx hb dL_isStep_342 (by decide) ?_
  refine xreti (va_runV (As := [.int (nI J), .int 6]) (rest := []) ⟨hx, hb, hml, hown, hts⟩ (mX5_join l D ck ca C (nI J) 6 _) (cwV 2 hts gL_isStep_X5_join rfl rfl rfl (by decide +kernel) ⟨Nat.le_of_ble_eq_true rfl, Nat.le_of_ble_eq_true rfl⟩) (xpreV hN hK hP hD (List.Perm.refl _) 0 rfl rfl rfl) rfl rfl hl.1 rfl (lv_room (Nat.le_of_ble_eq_true rfl)) dL_isStep_344 ⟨Nat.le_of_ble_eq_true rfl, Nat.le_of_ble_eq_true rfl⟩) hP hD hS hA (List.Perm.refl _) (List.Perm.refl _) (fun H locs hP hD hS => ?_)
  have hP : va_P D vwCl (clW ck ca C ++ clW ck cb E) H := hP
  have hD : va_D (va_A (clW ck ca C ++ clW ck cb E) s.heap.size) (clW ck ca C ++ clW ck cb E) := hD
  rw [jn_6 hC hJ]
  refine lv_istore (lv' := [(9, .int (oF f J 4)), (0, .ref (ca 0 0)), (1, .ref (cb 0 0)), (2, .int x), (3, .int y), (4, .int (x >>> 4)), (5, .int (nI (nF f))), (6, .int (nI J)), (7, .int 2)]) hx hb dL_isStep_347 hl (by decide) rfl (fun ls hl => ?_)
  refine lv_aload_n hx hb dL_isStep_349 rfl (lv_at hl 1 rfl) ?_
  refine lv_iload hx hb dL_isStep_350 (lv_at hl 7 rfl) ?_
  refine xreti (va_runV (As := [.int (nI J)]) (rest := []) ⟨hx, hb, hml, hown, hts⟩ (mX5_cancel l D ck ca C (nI J) (LR_hz hC) _) (cwV 1 hts gL_isStep_X5_cancel rfl rfl rfl (by decide +kernel) ⟨Nat.le_of_ble_eq_true rfl, Nat.le_of_ble_eq_true rfl⟩) (xpreV hN hK hP hD (List.Perm.refl _) 0 rfl rfl rfl) rfl rfl hl.1 rfl (lv_room (Nat.le_of_ble_eq_true rfl)) dL_isStep_352 ⟨Nat.le_of_ble_eq_true rfl, Nat.le_of_ble_eq_true rfl⟩) hP hD hS hA (List.Perm.refl _) (List.Perm.refl _) (fun H locs hP hD hS => ?_)
  have hP : va_P D vwCl (clW ck ca ((gX5_cancel C (nI J)).2) ++ clW ck cb E) H := hP
  have hD : va_D (va_A (clW ck ca C ++ clW ck cb E) s.heap.size) (clW ck ca ((gX5_cancel C (nI J)).2) ++ clW ck cb E) := hD
  have eaC352 : (gX5_cancel C (nI J)) = ((-4), C) := ((l_cancel hC hJ).1 (by rw [hs]; decide) (by rw [hs]; decide))
  have ebC352 : (gX5_cancel C (nI J)).1 = (-4) := by rw [eaC352]
  have ecC352 : (gX5_cancel C (nI J)).2 = C := by rw [eaC352]
  rw [ebC352]
  rw [ecC352] at hP hD
  refine lv_istore (lv' := [(10, .int (-4)), (9, .int (oF f J 4)), (0, .ref (ca 0 0)), (1, .ref (cb 0 0)), (2, .int x), (3, .int y), (4, .int (x >>> 4)), (5, .int (nI (nF f))), (6, .int (nI J)), (7, .int 2)]) hx hb dL_isStep_355 hl (by decide) rfl (fun ls hl => ?_)
  refine lv_iload hx hb dL_isStep_357 (lv_at hl 0 rfl) ?_
  refine lv_aload_n hx hb dL_isStep_359 rfl (lv_at hl 3 rfl) ?_
  refine lv_iload hx hb dL_isStep_360 (lv_at hl 8 rfl) ?_
  refine xreti (va_runV (As := [.int (nI J)]) (rest := [.int (-4)]) ⟨hx, hb, hml, hown, hts⟩ (mX5_cancel l D ck cb E (nI J) (LR_hz hE) _) (cwV 1 hts gL_isStep_X5_cancel rfl rfl rfl (by decide +kernel) ⟨Nat.le_of_ble_eq_true rfl, Nat.le_of_ble_eq_true rfl⟩) (xpreV hN hK hP hD List.perm_append_comm 0 rfl rfl rfl) rfl rfl hl.1 rfl (lv_room (Nat.le_of_ble_eq_true rfl)) dL_isStep_362 ⟨Nat.le_of_ble_eq_true rfl, Nat.le_of_ble_eq_true rfl⟩) hP hD hS hA List.perm_append_comm List.perm_append_comm (fun H locs hP hD hS => ?_)
  have hP : va_P D vwCl (clW ck ca C ++ clW ck cb ((gX5_cancel E (nI J)).2)) H := hP
  have hD : va_D (va_A (clW ck ca C ++ clW ck cb E) s.heap.size) (clW ck ca C ++ clW ck cb ((gX5_cancel E (nI J)).2)) := hD
  have eaE362 : (gX5_cancel E (nI J)) = ((-4), E) := ((l_cancel hE hJ).1 (by rw [hs]; decide) (by rw [hs]; decide))
  have ebE362 : (gX5_cancel E (nI J)).1 = (-4) := by rw [eaE362]
  have ecE362 : (gX5_cancel E (nI J)).2 = E := by rw [eaE362]
  rw [ebE362]
  rw [ecE362] at hP hD
  refine lv_icmp_ne (tgt := 429) hx hb dL_isStep_365 (by decide) (fun c_365 => ?_) (fun c_365 => ?_)
  · --t
    exact absurd (by decide) c_365
  · --f
    refine lv_iload hx hb dL_isStep_368 (lv_at hl 0 rfl) ?_
    refine lv_iload hx hb dL_isStep_370 (lv_at hl 8 rfl) ?_
    refine lv_iload hx hb dL_isStep_372 (lv_at hl 7 rfl) ?_
    refine lv_icmp_ne (tgt := 381) hx hb dL_isStep_374 (by decide) (fun c_374 => ?_) (fun c_374 => ?_)
    · --t
      refine lv_iload hx hb dL_isStep_381 (lv_at hl 9 rfl) ?_
      refine lv_iconst (v := 1) hx hb dL_isStep_383 (by decide) ?_
      refine lv_icmp_le (tgt := 392) hx hb dL_isStep_384 (by decide) (fun c_384 => ?_) (fun c_384 => ?_)
      · --t
        exact absurd c_384 (by decide)
      · --f
        refine lv_bipush (v := (-4)) hx hb dL_isStep_387 (by decide) ?_
        refine lv_goto (tgt := 394) hx hb dL_isStep_389 (by decide) ?_
        refine lv_icmp_ne (tgt := 429) hx hb dL_isStep_394 (by decide) (fun c_394 => ?_) (fun c_394 => ?_)
        · --t
          exact absurd (by decide) c_394
        · --f
          refine lv_iload hx hb dL_isStep_397 (lv_at hl 8 rfl) ?_
          refine lv_iload hx hb dL_isStep_399 (lv_at hl 7 rfl) ?_
          refine lv_icmp_eq (tgt := 425) hx hb dL_isStep_401 (by decide) (fun c_401 => ?_) (fun c_401 => ?_)
          · --t
            exact absurd ((nI_eq (by omega) (by omega)).mp c_401) (by omega)
          · --f
            refine lv_aload_n hx hb dL_isStep_404 rfl (lv_at hl 2 rfl) ?_
            refine lv_iload hx hb dL_isStep_405 (lv_at hl 8 rfl) ?_
            refine lv_iconst (v := 3) hx hb dL_isStep_407 (by decide) ?_
            refine xreti (va_runV (As := [.int (nI J), .int 3]) (rest := []) ⟨hx, hb, hml, hown, hts⟩ (mX5_join l D ck ca C (nI J) 3 _) (cwV 2 hts gL_isStep_X5_join rfl rfl rfl (by decide +kernel) ⟨Nat.le_of_ble_eq_true rfl, Nat.le_of_ble_eq_true rfl⟩) (xpreV hN hK hP hD (List.Perm.refl _) 0 rfl rfl rfl) rfl rfl hl.1 rfl (lv_room (Nat.le_of_ble_eq_true rfl)) dL_isStep_408 ⟨Nat.le_of_ble_eq_true rfl, Nat.le_of_ble_eq_true rfl⟩) hP hD hS hA (List.Perm.refl _) (List.Perm.refl _) (fun H locs hP hD hS => ?_)
            have hP : va_P D vwCl (clW ck ca C ++ clW ck cb E) H := hP
            have hD : va_D (va_A (clW ck ca C ++ clW ck cb E) s.heap.size) (clW ck ca C ++ clW ck cb E) := hD
            rw [jn_3 hC hJ]
            rw [show ((oF f J 3) : Int32) = 2 from hs]
            refine lv_iload hx hb dL_isStep_411 (lv_at hl 9 rfl) ?_
            refine lv_iconst (v := 2) hx hb dL_isStep_413 (by decide) ?_
            refine lv_icmp_ne (tgt := 421) hx hb dL_isStep_414 (by decide) (fun c_414 => ?_) (fun c_414 => ?_)
            · --t
              exact absurd (by decide) c_414
            · --f
              refine lv_iconst (v := 2) hx hb dL_isStep_417 (by decide) ?_
              refine lv_goto (tgt := 422) hx hb dL_isStep_418 (by decide) ?_
              refine lv_icmp_ne (tgt := 429) hx hb dL_isStep_422 (by decide) (fun c_422 => ?_) (fun c_422 => ?_)
              · --t
                exact absurd (by decide) c_422
              · --f
                refine lv_iconst (v := 1) hx hb dL_isStep_425 (by decide) ?_
                refine lv_goto (tgt := 430) hx hb dL_isStep_426 (by decide) ?_
                refine W.widen (k := 150) (n := 2400) (by omega) (by omega) ?_
                exact xezret (C, E, f) ⟨hC, hE, (WI_le hW (by omega)), hT⟩ hx hb hr hlk hP hD hS (Or.inr rfl) rfl rfl dL_isStep_430
    · --f
      exact absurd ((nI_eq (by omega) (by omega)).mp c_374) (by omega)
set_option maxHeartbeats 16000000 in
set_option maxRecDepth 100000 in
theorem s_cancelB3 {zp : Program} {l : Launch} {ze : Env} {s : State} {zm : MethodId} {zb : List Frame} {zt : Method} {zc : Code} {D : va_G} {ck : Nat → ClassId} {tt : Nat → Nat} {ca cb : Nat → Nat → Nat} {C E : CS} {f : FS} {N : Nat} {x y : Int32} (hx : zp.tables.exec = Jvm.exec) (hb : zc.code = cL_isStep) (hr : zt.sig.returnType = some .boolean) (hml : zc.maxLocals = 15) (hown : s.vm.findClass RL = some zm.cls) (hts : ∀ w ∈ wsL_isStep, w.before ([.ref (ca 0 0), .ref (cb 0 0), .int x, .int y] : List Value).toArray s = true) (hlk : zt.locks = false) (hN : xN s) (hK : va_K D vwCl (xT ck) s) (hZ : xStat tt (va_A (clW ck ca C ++ clW ck cb E) s.heap.size) s s.heap) (hA : ∀ zq : Nat, s.heap.size ≤ zq → (va_A (clW ck ca C ++ clW ck cb E) s.heap.size) zq) (hC : LR C f) (hE : LR E f) (hW : WI f N) (hT : TX E) (hb6 : N + 150 ≤ 1000000) {J : Nat} (hJ : J < nF f) (hs : oF f J 3 = 3) : ∀ (H : Heap) (locs : List Loc) (ls : Array Slot), va_P D vwCl (clW ck ca C ++ clW ck cb E) H → va_D (va_A (clW ck ca C ++ clW ck cb E) s.heap.size) (clW ck ca C ++ clW ck cb E) → va_S (va_A (clW ck ca C ++ clW ck cb E) s.heap.size) s.heap H locs → lv_has ls 15 [(0, .ref (ca 0 0)), (1, .ref (cb 0 0)), (2, .int x), (3, .int y), (4, .int (x >>> 4)), (5, .int (nI (nF f))), (6, .int (nI J)), (7, .int 3)] → W zp l ze rmL_isStep s zm ([.ref (ca 0 0), .ref (cb 0 0), .int x, .int y] : List Value).toArray zb zt zc H locs 0 0 (MQ zb (xQe D (clW ck ca C ++ clW ck cb E) (fun u : CS × CS × FS => clW ck ca u.1 ++ clW ck cb u.2.1) (fun u : CS × CS × FS => LR u.1 u.2.2 ∧ LR u.2.1 u.2.2 ∧ WI u.2.2 (N + 150) ∧ TX u.2.1) (fun _ => 1) s.heap.size) ([.ref (ca 0 0), .ref (cb 0 0), .int x, .int y] : List Value).toArray s 150 2400 (va_A (clW ck ca C ++ clW ck cb E) s.heap.size)) (F0 zm 339 ls []) := by
  intro H locs ls hP hD hS hl
  have hm := hC.1.2
  have hn := n_le hm
  refine lv_aload_n hx hb dL_isStep_339 rfl (lv_at hl 0 rfl) ?_
  refine lv_iload hx hb dL_isStep_340 (lv_at hl 6 rfl) ?_
  refine lv_bipush (v := 6) hx hb dL_isStep_342 (by decide) ?_
  refine xreti (va_runV (As := [.int (nI J), .int 6]) (rest := []) ⟨hx, hb, hml, hown, hts⟩ (mX5_join l D ck ca C (nI J) 6 _) (cwV 2 hts gL_isStep_X5_join rfl rfl rfl (by decide +kernel) ⟨Nat.le_of_ble_eq_true rfl, Nat.le_of_ble_eq_true rfl⟩) (xpreV hN hK hP hD (List.Perm.refl _) 0 rfl rfl rfl) rfl rfl hl.1 rfl (lv_room (Nat.le_of_ble_eq_true rfl)) dL_isStep_344 ⟨Nat.le_of_ble_eq_true rfl, Nat.le_of_ble_eq_true rfl⟩) hP hD hS hA (List.Perm.refl _) (List.Perm.refl _) (fun H locs hP hD hS => ?_)
  have hP : va_P D vwCl (clW ck ca C ++ clW ck cb E) H := hP
  have hD : va_D (va_A (clW ck ca C ++ clW ck cb E) s.heap.size) (clW ck ca C ++ clW ck cb E) := hD
  rw [jn_6 hC hJ]
  refine lv_istore (lv' := [(9, .int (oF f J 4)), (0, .ref (ca 0 0)), (1, .ref (cb 0 0)), (2, .int x), (3, .int y), (4, .int (x >>> 4)), (5, .int (nI (nF f))), (6, .int (nI J)), (7, .int 3)]) hx hb dL_isStep_347 hl (by decide) rfl (fun ls hl => ?_)
  refine lv_aload_n hx hb dL_isStep_349 rfl (lv_at hl 1 rfl) ?_
  refine lv_iload hx hb dL_isStep_350 (lv_at hl 7 rfl) ?_
  refine xreti (va_runV (As := [.int (nI J)]) (rest := []) ⟨hx, hb, hml, hown, hts⟩ (mX5_cancel l D ck ca C (nI J) (LR_hz hC) _) (cwV 1 hts gL_isStep_X5_cancel rfl rfl rfl (by decide +kernel) ⟨Nat.le_of_ble_eq_true rfl, Nat.le_of_ble_eq_true rfl⟩) (xpreV hN hK hP hD (List.Perm.refl _) 0 rfl rfl rfl) rfl rfl hl.1 rfl (lv_room (Nat.le_of_ble_eq_true rfl)) dL_isStep_352 ⟨Nat.le_of_ble_eq_true rfl, Nat.le_of_ble_eq_true rfl⟩) hP hD hS hA (List.Perm.refl _) (List.Perm.refl _) (fun H locs hP hD hS => ?_)
  have hP : va_P D vwCl (clW ck ca ((gX5_cancel C (nI J)).2) ++ clW ck cb E) H := hP
  have hD : va_D (va_A (clW ck ca C ++ clW ck cb E) s.heap.size) (clW ck ca ((gX5_cancel C (nI J)).2) ++ clW ck cb E) := hD
  have eaC352 : (gX5_cancel C (nI J)) = ((-4), C) := ((l_cancel hC hJ).1 (by rw [hs]; decide) (by rw [hs]; decide))
  have ebC352 : (gX5_cancel C (nI J)).1 = (-4) := by rw [eaC352]
  have ecC352 : (gX5_cancel C (nI J)).2 = C := by rw [eaC352]
  rw [ebC352]
  rw [ecC352] at hP hD
  refine lv_istore (lv' := [(10, .int (-4)), (9, .int (oF f J 4)), (0, .ref (ca 0 0)), (1, .ref (cb 0 0)), (2, .int x), (3, .int y), (4, .int (x >>> 4)), (5, .int (nI (nF f))), (6, .int (nI J)), (7, .int 3)]) hx hb dL_isStep_355 hl (by decide) rfl (fun ls hl => ?_)
  refine lv_iload hx hb dL_isStep_357 (lv_at hl 0 rfl) ?_
  refine lv_aload_n hx hb dL_isStep_359 rfl (lv_at hl 3 rfl) ?_
  refine lv_iload hx hb dL_isStep_360 (lv_at hl 8 rfl) ?_
  refine xreti (va_runV (As := [.int (nI J)]) (rest := [.int (-4)]) ⟨hx, hb, hml, hown, hts⟩ (mX5_cancel l D ck cb E (nI J) (LR_hz hE) _) (cwV 1 hts gL_isStep_X5_cancel rfl rfl rfl (by decide +kernel) ⟨Nat.le_of_ble_eq_true rfl, Nat.le_of_ble_eq_true rfl⟩) (xpreV hN hK hP hD List.perm_append_comm 0 rfl rfl rfl) rfl rfl hl.1 rfl (lv_room (Nat.le_of_ble_eq_true rfl)) dL_isStep_362 ⟨Nat.le_of_ble_eq_true rfl, Nat.le_of_ble_eq_true rfl⟩) hP hD hS hA List.perm_append_comm List.perm_append_comm (fun H locs hP hD hS => ?_)
  have hP : va_P D vwCl (clW ck ca C ++ clW ck cb ((gX5_cancel E (nI J)).2)) H := hP
  have hD : va_D (va_A (clW ck ca C ++ clW ck cb E) s.heap.size) (clW ck ca C ++ clW ck cb ((gX5_cancel E (nI J)).2)) := hD
  have eaE362 : (gX5_cancel E (nI J)) = ((-4), E) := ((l_cancel hE hJ).1 (by rw [hs]; decide) (by rw [hs]; decide))
  have ebE362 : (gX5_cancel E (nI J)).1 = (-4) := by rw [eaE362]
  have ecE362 : (gX5_cancel E (nI J)).2 = E := by rw [eaE362]
  rw [ebE362]
  rw [ecE362] at hP hD
  refine lv_icmp_ne (tgt := 429) hx hb dL_isStep_365 (by decide) (fun c_365 => ?_) (fun c_365 => ?_)
  · --t
    exact absurd (by decide) c_365
  · --f
    refine lv_iload hx hb dL_isStep_368 (lv_at hl 0 rfl) ?_
    refine lv_iload hx hb dL_isStep_370 (lv_at hl 8 rfl) ?_
    refine lv_iload hx hb dL_isStep_372 (lv_at hl 7 rfl) ?_
    refine lv_icmp_ne (tgt := 381) hx hb dL_isStep_374 (by decide) (fun c_374 => ?_) (fun c_374 => ?_)
    · --t
      refine lv_iload hx hb dL_isStep_381 (lv_at hl 9 rfl) ?_
      refine lv_iconst (v := 1) hx hb dL_isStep_383 (by decide) ?_
      refine lv_icmp_le (tgt := 392) hx hb dL_isStep_384 (by decide) (fun c_384 => ?_) (fun c_384 => ?_)
      · --t
        exact absurd c_384 (by decide)
      · --f
        refine lv_bipush (v := (-4)) hx hb dL_isStep_387 (by decide) ?_
        refine lv_goto (tgt := 394) hx hb dL_isStep_389 (by decide) ?_
        refine lv_icmp_ne (tgt := 429) hx hb dL_isStep_394 (by decide) (fun c_394 => ?_) (fun c_394 => ?_)
        · --t
          exact absurd (by decide) c_394
        · --f
          refine lv_iload hx hb dL_isStep_397 (lv_at hl 8 rfl) ?_
          refine lv_iload hx hb dL_isStep_399 (lv_at hl 7 rfl) ?_
          refine lv_icmp_eq (tgt := 425) hx hb dL_isStep_401 (by decide) (fun c_401 => ?_) (fun c_401 => ?_)
          · --t
            exact absurd ((nI_eq (by omega) (by omega)).mp c_401) (by omega)
          · --f
            refine lv_aload_n hx hb dL_isStep_404 rfl (lv_at hl 2 rfl) ?_
            refine lv_iload hx hb dL_isStep_405 (lv_at hl 8 rfl) ?_
            refine lv_iconst (v := 3) hx hb dL_isStep_407 (by decide) ?_
            refine xreti (va_runV (As := [.int (nI J), .int 3]) (rest := []) ⟨hx, hb, hml, hown, hts⟩ (mX5_join l D ck ca C (nI J) 3 _) (cwV 2 hts gL_isStep_X5_join rfl rfl rfl (by decide +kernel) ⟨Nat.le_of_ble_eq_true rfl, Nat.le_of_ble_eq_true rfl⟩) (xpreV hN hK hP hD (List.Perm.refl _) 0 rfl rfl rfl) rfl rfl hl.1 rfl (lv_room (Nat.le_of_ble_eq_true rfl)) dL_isStep_408 ⟨Nat.le_of_ble_eq_true rfl, Nat.le_of_ble_eq_true rfl⟩) hP hD hS hA (List.Perm.refl _) (List.Perm.refl _) (fun H locs hP hD hS => ?_)
            have hP : va_P D vwCl (clW ck ca C ++ clW ck cb E) H := hP
            have hD : va_D (va_A (clW ck ca C ++ clW ck cb E) s.heap.size) (clW ck ca C ++ clW ck cb E) := hD
            rw [jn_3 hC hJ]
            rw [show ((oF f J 3) : Int32) = 3 from hs]
            refine lv_iload hx hb dL_isStep_411 (lv_at hl 9 rfl) ?_
            refine lv_iconst (v := 2) hx hb dL_isStep_413 (by decide) ?_
            refine lv_icmp_ne (tgt := 421) hx hb dL_isStep_414 (by decide) (fun c_414 => ?_) (fun c_414 => ?_)
            · --t
              refine lv_iconst (v := 3) hx hb dL_isStep_421 (by decide) ?_
              refine lv_icmp_ne (tgt := 429) hx hb dL_isStep_422 (by decide) (fun c_422 => ?_) (fun c_422 => ?_)
              · --t
                exact absurd (by decide) c_422
              · --f
                refine lv_iconst (v := 1) hx hb dL_isStep_425 (by decide) ?_
                refine lv_goto (tgt := 430) hx hb dL_isStep_426 (by decide) ?_
                refine W.widen (k := 150) (n := 2400) (by omega) (by omega) ?_
                exact xezret (C, E, f) ⟨hC, hE, (WI_le hW (by omega)), hT⟩ hx hb hr hlk hP hD hS (Or.inr rfl) rfl rfl dL_isStep_430
            · --f
              exact absurd c_414 (by decide)
    · --f
      exact absurd ((nI_eq (by omega) (by omega)).mp c_374) (by omega)
