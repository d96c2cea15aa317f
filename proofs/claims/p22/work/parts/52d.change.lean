set_option maxHeartbeats 16000000 in
set_option maxRecDepth 100000 in
theorem s_changeA {zp : Program} {l : Launch} {ze : Env} {s : State} {zm : MethodId} {zb : List Frame} {zt : Method} {zc : Code} {D : va_G} {ck : Nat → ClassId} {tt : Nat → Nat} {ca cb : Nat → Nat → Nat} {C E : CS} {f : FS} {N : Nat} {x y : Int32} (hx : zp.tables.exec = Jvm.exec) (hb : zc.code = cL_isStep) (hr : zt.sig.returnType = some .boolean) (hml : zc.maxLocals = 15) (hown : s.vm.findClass RL = some zm.cls) (hts : ∀ w ∈ wsL_isStep, w.before ([.ref (ca 0 0), .ref (cb 0 0), .int x, .int y] : List Value).toArray s = true) (hlk : zt.locks = false) (hN : xN s) (hK : va_K D vwCl (xT ck) s) (hZ : xStat tt (va_A (clW ck ca C ++ clW ck cb E) s.heap.size) s s.heap) (hA : ∀ zq : Nat, s.heap.size ≤ zq → (va_A (clW ck ca C ++ clW ck cb E) s.heap.size) zq) (hC : LR C f) (hE : LR E f) (hW : WI f N) (hT : TX E) (hb6 : N + 150 ≤ 1000000)  : ∀ (H : Heap) (locs : List Loc) (ls : Array Slot), va_P D vwCl (clW ck ca C ++ clW ck cb E) H → va_D (va_A (clW ck ca C ++ clW ck cb E) s.heap.size) (clW ck ca C ++ clW ck cb E) → va_S (va_A (clW ck ca C ++ clW ck cb E) s.heap.size) s.heap H locs → lv_has ls 15 [(0, .ref (ca 0 0)), (1, .ref (cb 0 0)), (2, .int x), (3, .int y), (4, .int (x >>> 4)), (5, .int (nI (nF f))), (6, .int (nI (nF f))), (7, .int (-1))] → W zp l ze rmL_isStep s zm ([.ref (ca 0 0), .ref (cb 0 0), .int x, .int y] : List Value).toArray zb zt zc H locs 0 0 (MQ zb (xQe D (clW ck ca C ++ clW ck cb E) (fun u : CS × CS × FS => clW ck ca u.1 ++ clW ck cb u.2.1) (fun u : CS × CS × FS => LR u.1 u.2.2 ∧ LR u.2.1 u.2.2 ∧ WI u.2.2 (N + 150) ∧ TX u.2.1) (fun _ => 1) s.heap.size) ([.ref (ca 0 0), .ref (cb 0 0), .int x, .int y] : List Value).toArray s 150 2400 (va_A (clW ck ca C ++ clW ck cb E) s.heap.size)) (F0 zm 431 ls []) := by
  intro H locs ls hP hD hS hl
  have hm := hC.1.2
  have hn := n_le hm
  refine lv_iload_n hx hb dL_isStep_431 rfl (lv_at hl 3 rfl) ?_
  refine lv_iconst (v := (nI 3)) hx hb dL_isStep_432 (by decide) ?_
  refine xreti (va_runS (As := [.int y, .int (nI 3)]) (rest := []) ⟨hx, hb, hml, hown, hts⟩ (mL_up l D ck y (nI 3) (nI_ne0 (n := 3) (by omega) (by omega)) _) (va_cwS 2 hts gL_isStep_L_up rfl rfl rfl (by decide +kernel) ⟨Nat.le_of_ble_eq_true rfl, Nat.le_of_ble_eq_true rfl⟩) (xpreS hN hK hP hD pm_none) rfl rfl hl.1 rfl (lv_room (Nat.le_of_ble_eq_true rfl)) dL_isStep_433 ⟨Nat.le_of_ble_eq_true rfl, Nat.le_of_ble_eq_true rfl⟩) hP hD hS hA pm_none pm_none (fun H locs hP hD hS => ?_)
  have hP : va_P D vwCl (clW ck ca C ++ clW ck cb E) H := hP
  have hD : va_D (va_A (clW ck ca C ++ clW ck cb E) s.heap.size) (clW ck ca C ++ clW ck cb E) := hD
  obtain ⟨v433, h433, e433⟩ := up_in (v := y) (n := 3) (by omega) (by omega)
  rw [e433]
  refine lv_istore (lv' := [(9, .int (nI v433)), (0, .ref (ca 0 0)), (1, .ref (cb 0 0)), (2, .int x), (3, .int y), (4, .int (x >>> 4)), (5, .int (nI (nF f))), (6, .int (nI (nF f))), (7, .int (-1))]) hx hb dL_isStep_436 hl (by decide) rfl (fun ls hl => ?_)
  refine lv_aload_n hx hb dL_isStep_438 rfl (lv_at hl 1 rfl) ?_
  refine lv_iload hx hb dL_isStep_439 (lv_at hl 7 rfl) ?_
  refine lv_iconst (v := 0) hx hb dL_isStep_441 (by decide) ?_
  refine xreti (va_runV (As := [.int (nI (nF f)), .int 0]) (rest := []) ⟨hx, hb, hml, hown, hts⟩ (mX5_join l D ck ca C (nI (nF f)) 0 _) (cwV 2 hts gL_isStep_X5_join rfl rfl rfl (by decide +kernel) ⟨Nat.le_of_ble_eq_true rfl, Nat.le_of_ble_eq_true rfl⟩) (xpreV hN hK hP hD (List.Perm.refl _) 0 rfl rfl rfl) rfl rfl hl.1 rfl (lv_room (Nat.le_of_ble_eq_true rfl)) dL_isStep_442 ⟨Nat.le_of_ble_eq_true rfl, Nat.le_of_ble_eq_true rfl⟩) hP hD hS hA (List.Perm.refl _) (List.Perm.refl _) (fun H locs hP hD hS => ?_)
  have hP : va_P D vwCl (clW ck ca C ++ clW ck cb E) H := hP
  have hD : va_D (va_A (clW ck ca C ++ clW ck cb E) s.heap.size) (clW ck ca C ++ clW ck cb E) := hD
  rw [jn_n hC]
  refine lv_istore (lv' := [(10, .int (-1)), (9, .int (nI v433)), (0, .ref (ca 0 0)), (1, .ref (cb 0 0)), (2, .int x), (3, .int y), (4, .int (x >>> 4)), (5, .int (nI (nF f))), (6, .int (nI (nF f))), (7, .int (-1))]) hx hb dL_isStep_445 hl (by decide) rfl (fun ls hl => ?_)
  refine lv_aload_n hx hb dL_isStep_447 rfl (lv_at hl 2 rfl) ?_
  refine lv_iload hx hb dL_isStep_448 (lv_at hl 8 rfl) ?_
  refine lv_iload hx hb dL_isStep_450 (lv_at hl 1 rfl) ?_
  refine xreti (va_runV (As := [.int (nI (nF f)), .int (nI v433)]) (rest := []) ⟨hx, hb, hml, hown, hts⟩ (mX5_change l D ck ca C (nI (nF f)) (nI v433) (LR_hz hC) _) (cwV 2 hts gL_isStep_X5_change rfl rfl rfl (by decide +kernel) ⟨Nat.le_of_ble_eq_true rfl, Nat.le_of_ble_eq_true rfl⟩) (xpreV hN hK hP hD (List.Perm.refl _) 0 rfl rfl rfl) rfl rfl hl.1 rfl (lv_room (Nat.le_of_ble_eq_true rfl)) dL_isStep_452 ⟨Nat.le_of_ble_eq_true rfl, Nat.le_of_ble_eq_true rfl⟩) hP hD hS hA (List.Perm.refl _) (List.Perm.refl _) (fun H locs hP hD hS => ?_)
  have hP : va_P D vwCl (clW ck ca ((gX5_change C (nI (nF f)) (nI v433)).2) ++ clW ck cb E) H := hP
  have hD : va_D (va_A (clW ck ca C ++ clW ck cb E) s.heap.size) (clW ck ca ((gX5_change C (nI (nF f)) (nI v433)).2) ++ clW ck cb E) := hD
  have eaC452 : (gX5_change C (nI (nF f)) (nI v433)) = ((-1), C) := (l_change_n hC)
  have ebC452 : (gX5_change C (nI (nF f)) (nI v433)).1 = (-1) := by rw [eaC452]
  have ecC452 : (gX5_change C (nI (nF f)) (nI v433)).2 = C := by rw [eaC452]
  rw [ebC452]
  rw [ecC452] at hP hD
  refine lv_istore (lv' := [(11, .int (-1)), (10, .int (-1)), (9, .int (nI v433)), (0, .ref (ca 0 0)), (1, .ref (cb 0 0)), (2, .int x), (3, .int y), (4, .int (x >>> 4)), (5, .int (nI (nF f))), (6, .int (nI (nF f))), (7, .int (-1))]) hx hb dL_isStep_455 hl (by decide) rfl (fun ls hl => ?_)
  refine lv_iload hx hb dL_isStep_457 (lv_at hl 0 rfl) ?_
  refine lv_aload_n hx hb dL_isStep_459 rfl (lv_at hl 4 rfl) ?_
  refine lv_iload hx hb dL_isStep_460 (lv_at hl 9 rfl) ?_
  refine lv_iload hx hb dL_isStep_462 (lv_at hl 2 rfl) ?_
  refine xreti (va_runV (As := [.int (nI (nF f)), .int (nI v433)]) (rest := [.int (-1)]) ⟨hx, hb, hml, hown, hts⟩ (mX5_change l D ck cb E (nI (nF f)) (nI v433) (LR_hz hE) _) (cwV 2 hts gL_isStep_X5_change rfl rfl rfl (by decide +kernel) ⟨Nat.le_of_ble_eq_true rfl, Nat.le_of_ble_eq_true rfl⟩) (xpreV hN hK hP hD List.perm_append_comm 0 rfl rfl rfl) rfl rfl hl.1 rfl (lv_room (Nat.le_of_ble_eq_true rfl)) dL_isStep_464 ⟨Nat.le_of_ble_eq_true rfl, Nat.le_of_ble_eq_true rfl⟩) hP hD hS hA List.perm_append_comm List.perm_append_comm (fun H locs hP hD hS => ?_)
  have hP : va_P D vwCl (clW ck ca C ++ clW ck cb ((gX5_change E (nI (nF f)) (nI v433)).2)) H := hP
  have hD : va_D (va_A (clW ck ca C ++ clW ck cb E) s.heap.size) (clW ck ca C ++ clW ck cb ((gX5_change E (nI (nF f)) (nI v433)).2)) := hD
  have eaE464 : (gX5_change E (nI (nF f)) (nI v433)) = ((-1), E) := (l_change_n hE)
  have ebE464 : (gX5_change E (nI (nF f)) (nI v433)).1 = (-1) := by rw [eaE464]
  have ecE464 : (gX5_change E (nI (nF f)) (nI v433)).2 = E := by rw [eaE464]
  rw [ebE464]
  rw [ecE464] at hP hD
  refine lv_icmp_ne (tgt := 514) hx hb dL_isStep_467 (by decide) (fun c_467 => ?_) (fun c_467 => ?_)
  · --t
    exact absurd (by decide) c_467
  · --f
    refine lv_iload hx hb dL_isStep_470 (lv_at hl 0 rfl) ?_
    refine lv_iload hx hb dL_isStep_472 (lv_at hl 9 rfl) ?_
    refine lv_iload hx hb dL_isStep_474 (lv_at hl 8 rfl) ?_
    refine lv_icmp_ne (tgt := 483) hx hb dL_isStep_476 (by decide) (fun c_476 => ?_) (fun c_476 => ?_)
    · --t
      exact absurd rfl c_476
    · --f
      refine lv_iconst (v := (-1)) hx hb dL_isStep_479 (by decide) ?_
      refine lv_goto (tgt := 507) hx hb dL_isStep_480 (by decide) ?_
      refine lv_icmp_ne (tgt := 514) hx hb dL_isStep_507 (by decide) (fun c_507 => ?_) (fun c_507 => ?_)
      · --t
        exact absurd (by decide) c_507
      · --f
        refine lv_iconst (v := 1) hx hb dL_isStep_510 (by decide) ?_
        refine lv_goto (tgt := 515) hx hb dL_isStep_511 (by decide) ?_
        refine W.widen (k := 150) (n := 2400) (by omega) (by omega) ?_
        exact xezret (C, E, f) ⟨hC, hE, (WI_le hW (by omega)), hT⟩ hx hb hr hlk hP hD hS (Or.inr rfl) rfl rfl dL_isStep_515
set_option maxHeartbeats 16000000 in
set_option maxRecDepth 100000 in
theorem s_changeB0 {zp : Program} {l : Launch} {ze : Env} {s : State} {zm : MethodId} {zb : List Frame} {zt : Method} {zc : Code} {D : va_G} {ck : Nat → ClassId} {tt : Nat → Nat} {ca cb : Nat → Nat → Nat} {C E : CS} {f : FS} {N : Nat} {x y : Int32} (hx : zp.tables.exec = Jvm.exec) (hb : zc.code = cL_isStep) (hr : zt.sig.returnType = some .boolean) (hml : zc.maxLocals = 15) (hown : s.vm.findClass RL = some zm.cls) (hts : ∀ w ∈ wsL_isStep, w.before ([.ref (ca 0 0), .ref (cb 0 0), .int x, .int y] : List Value).toArray s = true) (hlk : zt.locks = false) (hN : xN s) (hK : va_K D vwCl (xT ck) s) (hZ : xStat tt (va_A (clW ck ca C ++ clW ck cb E) s.heap.size) s s.heap) (hA : ∀ zq : Nat, s.heap.size ≤ zq → (va_A (clW ck ca C ++ clW ck cb E) s.heap.size) zq) (hC : LR C f) (hE : LR E f) (hW : WI f N) (hT : TX E) (hb6 : N + 150 ≤ 1000000) {J : Nat} (hJ : J < nF f) (hs : oF f J 3 = 0) : ∀ (H : Heap) (locs : List Loc) (ls : Array Slot), va_P D vwCl (clW ck ca C ++ clW ck cb E) H → va_D (va_A (clW ck ca C ++ clW ck cb E) s.heap.size) (clW ck ca C ++ clW ck cb E) → va_S (va_A (clW ck ca C ++ clW ck cb E) s.heap.size) s.heap H locs → lv_has ls 15 [(0, .ref (ca 0 0)), (1, .ref (cb 0 0)), (2, .int x), (3, .int y), (4, .int (x >>> 4)), (5, .int (nI (nF f))), (6, .int (nI J)), (7, .int 0)] → W zp l ze rmL_isStep s zm ([.ref (ca 0 0), .ref (cb 0 0), .int x, .int y] : List Value).toArray zb zt zc H locs 0 0 (MQ zb (xQe D (clW ck ca C ++ clW ck cb E) (fun u : CS × CS × FS => clW ck ca u.1 ++ clW ck cb u.2.1) (fun u : CS × CS × FS => LR u.1 u.2.2 ∧ LR u.2.1 u.2.2 ∧ WI u.2.2 (N + 150) ∧ TX u.2.1) (fun _ => 1) s.heap.size) ([.ref (ca 0 0), .ref (cb 0 0), .int x, .int y] : List Value).toArray s 150 2400 (va_A (clW ck ca C ++ clW ck cb E) s.heap.size)) (F0 zm 431 ls []) := by
  intro H locs ls hP hD hS hl
  have hm := hC.1.2
  have hn := n_le hm
  refine lv_iload_n hx hb dL_isStep_431 rfl (lv_at hl 3 rfl) ?_
  refine lv_iconst (v := (nI 3)) hx hb dL_isStep_432 (by decide) ?_
  refine xreti (va_runS (As := [.int y, .int (nI 3)]) (rest := []) ⟨hx, hb, hml, hown, hts⟩ (mL_up l D ck y (nI 3) (nI_ne0 (n := 3) (by omega) (by omega)) _) (va_cwS 2 hts gL_isStep_L_up rfl rfl rfl (by decide +kernel) ⟨Nat.le_of_ble_eq_true rfl, Nat.le_of_ble_eq_true rfl⟩) (xpreS hN hK hP hD pm_none) rfl rfl hl.1 rfl (lv_room (Nat.le_of_ble_eq_true rfl)) dL_isStep_433 ⟨Nat.le_of_ble_eq_true rfl, Nat.le_of_ble_eq_true rfl⟩) hP hD hS hA pm_none pm_none (fun H locs hP hD hS => ?_)
  have hP : va_P D vwCl (clW ck ca C ++ clW ck cb E) H := hP
  have hD : va_D (va_A (clW ck ca C ++ clW ck cb E) s.heap.size) (clW ck ca C ++ clW ck cb E) := hD
  obtain ⟨v433, h433, e433⟩ := up_in (v := y) (n := 3) (by omega) (by omega)
  rw [e433]
  refine lv_istore (lv' := [(9, .int (nI v433)), (0, .ref (ca 0 0)), (1, .ref (cb 0 0)), (2, .int x), (3, .int y), (4, .int (x >>> 4)), (5, .int (nI (nF f))), (6, .int (nI J)), (7, .int 0)]) hx hb dL_isStep_436 hl (by decide) rfl (fun ls hl => ?_)
  refine lv_aload_n hx hb dL_isStep_438 rfl (lv_at hl 1 rfl) ?_
  refine lv_iload hx hb dL_isStep_439 (lv_at hl 7 rfl) ?_
  refine lv_iconst (v := 0) hx hb dL_isStep_441 (by decide) ?_
  refine xreti (va_runV (As := [.int (nI J), .int 0]) (rest := []) ⟨hx, hb, hml, hown, hts⟩ (mX5_join l D ck ca C (nI J) 0 _) (cwV 2 hts gL_isStep_X5_join rfl rfl rfl (by decide +kernel) ⟨Nat.le_of_ble_eq_true rfl, Nat.le_of_ble_eq_true rfl⟩) (xpreV hN hK hP hD (List.Perm.refl _) 0 rfl rfl rfl) rfl rfl hl.1 rfl (lv_room (Nat.le_of_ble_eq_true rfl)) dL_isStep_442 ⟨Nat.le_of_ble_eq_true rfl, Nat.le_of_ble_eq_true rfl⟩) hP hD hS hA (List.Perm.refl _) (List.Perm.refl _) (fun H locs hP hD hS => ?_)
  have hP : va_P D vwCl (clW ck ca C ++ clW ck cb E) H := hP
  have hD : va_D (va_A (clW ck ca C ++ clW ck cb E) s.heap.size) (clW ck ca C ++ clW ck cb E) := hD
  rw [jn_0 hC hJ]
  by_cases hsame : oF f J 0 = nI v433
  · --same
    refine lv_istore (lv' := [(10, .int (oF f J 0)), (9, .int (nI v433)), (0, .ref (ca 0 0)), (1, .ref (cb 0 0)), (2, .int x), (3, .int y), (4, .int (x >>> 4)), (5, .int (nI (nF f))), (6, .int (nI J)), (7, .int 0)]) hx hb dL_isStep_445 hl (by decide) rfl (fun ls hl => ?_)
    refine lv_aload_n hx hb dL_isStep_447 rfl (lv_at hl 2 rfl) ?_
    refine lv_iload hx hb dL_isStep_448 (lv_at hl 8 rfl) ?_
    refine lv_iload hx hb dL_isStep_450 (lv_at hl 1 rfl) ?_
    refine xreti (va_runV (As := [.int (nI J), .int (nI v433)]) (rest := []) ⟨hx, hb, hml, hown, hts⟩ (mX5_change l D ck ca C (nI J) (nI v433) (LR_hz hC) _) (cwV 2 hts gL_isStep_X5_change rfl rfl rfl (by decide +kernel) ⟨Nat.le_of_ble_eq_true rfl, Nat.le_of_ble_eq_true rfl⟩) (xpreV hN hK hP hD (List.Perm.refl _) 0 rfl rfl rfl) rfl rfl hl.1 rfl (lv_room (Nat.le_of_ble_eq_true rfl)) dL_isStep_452 ⟨Nat.le_of_ble_eq_true rfl, Nat.le_of_ble_eq_true rfl⟩) hP hD hS hA (List.Perm.refl _) (List.Perm.refl _) (fun H locs hP hD hS => ?_)
    have hP : va_P D vwCl (clW ck ca ((gX5_change C (nI J) (nI v433)).2) ++ clW ck cb E) H := hP
    have hD : va_D (va_A (clW ck ca C ++ clW ck cb E) s.heap.size) (clW ck ca ((gX5_change C (nI J) (nI v433)).2) ++ clW ck cb E) := hD
    have eaC452 : (gX5_change C (nI J) (nI v433)) = ((-5), C) := ((l_change hC hJ (in_way h433)).2.1 hs hsame)
    have ebC452 : (gX5_change C (nI J) (nI v433)).1 = (-5) := by rw [eaC452]
    have ecC452 : (gX5_change C (nI J) (nI v433)).2 = C := by rw [eaC452]
    rw [ebC452]
    rw [ecC452] at hP hD
    refine lv_istore (lv' := [(11, .int (-5)), (10, .int (oF f J 0)), (9, .int (nI v433)), (0, .ref (ca 0 0)), (1, .ref (cb 0 0)), (2, .int x), (3, .int y), (4, .int (x >>> 4)), (5, .int (nI (nF f))), (6, .int (nI J)), (7, .int 0)]) hx hb dL_isStep_455 hl (by decide) rfl (fun ls hl => ?_)
    refine lv_iload hx hb dL_isStep_457 (lv_at hl 0 rfl) ?_
    refine lv_aload_n hx hb dL_isStep_459 rfl (lv_at hl 4 rfl) ?_
    refine lv_iload hx hb dL_isStep_460 (lv_at hl 9 rfl) ?_
    refine lv_iload hx hb dL_isStep_462 (lv_at hl 2 rfl) ?_
    refine xreti (va_runV (As := [.int (nI J), .int (nI v433)]) (rest := [.int (-5)]) ⟨hx, hb, hml, hown, hts⟩ (mX5_change l D ck cb E (nI J) (nI v433) (LR_hz hE) _) (cwV 2 hts gL_isStep_X5_change rfl rfl rfl (by decide +kernel) ⟨Nat.le_of_ble_eq_true rfl, Nat.le_of_ble_eq_true rfl⟩) (xpreV hN hK hP hD List.perm_append_comm 0 rfl rfl rfl) rfl rfl hl.1 rfl (lv_room (Nat.le_of_ble_eq_true rfl)) dL_isStep_464 ⟨Nat.le_of_ble_eq_true rfl, Nat.le_of_ble_eq_true rfl⟩) hP hD hS hA List.perm_append_comm List.perm_append_comm (fun H locs hP hD hS => ?_)
    have hP : va_P D vwCl (clW ck ca C ++ clW ck cb ((gX5_change E (nI J) (nI v433)).2)) H := hP
    have hD : va_D (va_A (clW ck ca C ++ clW ck cb E) s.heap.size) (clW ck ca C ++ clW ck cb ((gX5_change E (nI J) (nI v433)).2)) := hD
    have eaE464 : (gX5_change E (nI J) (nI v433)) = ((-5), E) := ((l_change hE hJ (in_way h433)).2.1 hs hsame)
    have ebE464 : (gX5_change E (nI J) (nI v433)).1 = (-5) := by rw [eaE464]
    have ecE464 : (gX5_change E (nI J) (nI v433)).2 = E := by rw [eaE464]
    rw [ebE464]
    rw [ecE464] at hP hD
    refine lv_icmp_ne (tgt := 514) hx hb dL_isStep_467 (by decide) (fun c_467 => ?_) (fun c_467 => ?_)
    · --t
      exact absurd (by decide) c_467
    · --f
      refine lv_iload hx hb dL_isStep_470 (lv_at hl 0 rfl) ?_
      refine lv_iload hx hb dL_isStep_472 (lv_at hl 9 rfl) ?_
      refine lv_iload hx hb dL_isStep_474 (lv_at hl 8 rfl) ?_
      refine lv_icmp_ne (tgt := 483) hx hb dL_isStep_476 (by decide) (fun c_476 => ?_) (fun c_476 => ?_)
      · --t
        refine lv_iload hx hb dL_isStep_483 (lv_at hl 10 rfl) ?_
        refine lv_if_le (tgt := 493) hx hb dL_isStep_485 (by decide) (fun c_485 => ?_) (fun c_485 => ?_)
        · --t
          refine lv_iload hx hb dL_isStep_493 (lv_at hl 1 rfl) ?_
          refine lv_iload hx hb dL_isStep_495 (lv_at hl 2 rfl) ?_
          refine lv_icmp_ne (tgt := 505) hx hb dL_isStep_497 (by decide) (fun c_497 => ?_) (fun c_497 => ?_)
          · --t
            exact absurd hsame c_497
          · --f
            refine lv_bipush (v := (-5)) hx hb dL_isStep_500 (by decide) ?_
            refine lv_goto (tgt := 507) hx hb dL_isStep_502 (by decide) ?_
            refine lv_icmp_ne (tgt := 514) hx hb dL_isStep_507 (by decide) (fun c_507 => ?_) (fun c_507 => ?_)
            · --t
              exact absurd (by decide) c_507
            · --f
              refine lv_iconst (v := 1) hx hb dL_isStep_510 (by decide) ?_
              refine lv_goto (tgt := 515) hx hb dL_isStep_511 (by decide) ?_
              refine W.widen (k := 150) (n := 2400) (by omega) (by omega) ?_
              exact xezret (C, E, f) ⟨hC, hE, (WI_le hW (by omega)), hT⟩ hx hb hr hlk hP hD hS (Or.inr rfl) rfl rfl dL_isStep_515
        · --f
          exact absurd (by decide) c_485
      · --f
        exact absurd ((nI_eq (by omega) (by omega)).mp c_476) (by omega)
  · --new
    refine lv_istore (lv' := [(10, .int (oF f J 0)), (9, .int (nI v433)), (0, .ref (ca 0 0)), (1, .ref (cb 0 0)), (2, .int x), (3, .int y), (4, .int (x >>> 4)), (5, .int (nI (nF f))), (6, .int (nI J)), (7, .int 0)]) hx hb dL_isStep_445 hl (by decide) rfl (fun ls hl => ?_)
    refine lv_aload_n hx hb dL_isStep_447 rfl (lv_at hl 2 rfl) ?_
    refine lv_iload hx hb dL_isStep_448 (lv_at hl 8 rfl) ?_
    refine lv_iload hx hb dL_isStep_450 (lv_at hl 1 rfl) ?_
    refine xreti (va_runV (As := [.int (nI J), .int (nI v433)]) (rest := []) ⟨hx, hb, hml, hown, hts⟩ (mX5_change l D ck ca C (nI J) (nI v433) (LR_hz hC) _) (cwV 2 hts gL_isStep_X5_change rfl rfl rfl (by decide +kernel) ⟨Nat.le_of_ble_eq_true rfl, Nat.le_of_ble_eq_true rfl⟩) (xpreV hN hK hP hD (List.Perm.refl _) 0 rfl rfl rfl) rfl rfl hl.1 rfl (lv_room (Nat.le_of_ble_eq_true rfl)) dL_isStep_452 ⟨Nat.le_of_ble_eq_true rfl, Nat.le_of_ble_eq_true rfl⟩) hP hD hS hA (List.Perm.refl _) (List.Perm.refl _) (fun H locs hP hD hS => ?_)
    have hP : va_P D vwCl (clW ck ca ((gX5_change C (nI J) (nI v433)).2) ++ clW ck cb E) H := hP
    have hD : va_D (va_A (clW ck ca C ++ clW ck cb E) s.heap.size) (clW ck ca ((gX5_change C (nI J) (nI v433)).2) ++ clW ck cb E) := hD
    obtain ⟨ebC452, hC452⟩ := ((l_change hC hJ (in_way h433)).2.2 hs hsame)
    rw [ebC452]
    have tkC452 : (gX5_change C (nI J) (nI v433)).2.2.2.1 = C.2.2.1 := tx_change
    generalize (gX5_change C (nI J) (nI v433)).2 = C452 at hP hD hC452 tkC452
    have hP : va_P D vwCl (clW ck ca C452 ++ clW ck cb E) H := hP
    have hD : va_D (va_A (clW ck ca C ++ clW ck cb E) s.heap.size) (clW ck ca C452 ++ clW ck cb E) := hD
    refine lv_istore (lv' := [(11, .int (oF f J 0)), (10, .int (oF f J 0)), (9, .int (nI v433)), (0, .ref (ca 0 0)), (1, .ref (cb 0 0)), (2, .int x), (3, .int y), (4, .int (x >>> 4)), (5, .int (nI (nF f))), (6, .int (nI J)), (7, .int 0)]) hx hb dL_isStep_455 hl (by decide) rfl (fun ls hl => ?_)
    refine lv_iload hx hb dL_isStep_457 (lv_at hl 0 rfl) ?_
    refine lv_aload_n hx hb dL_isStep_459 rfl (lv_at hl 4 rfl) ?_
    refine lv_iload hx hb dL_isStep_460 (lv_at hl 9 rfl) ?_
    refine lv_iload hx hb dL_isStep_462 (lv_at hl 2 rfl) ?_
    refine xreti (va_runV (As := [.int (nI J), .int (nI v433)]) (rest := [.int (oF f J 0)]) ⟨hx, hb, hml, hown, hts⟩ (mX5_change l D ck cb E (nI J) (nI v433) (LR_hz hE) _) (cwV 2 hts gL_isStep_X5_change rfl rfl rfl (by decide +kernel) ⟨Nat.le_of_ble_eq_true rfl, Nat.le_of_ble_eq_true rfl⟩) (xpreV hN hK hP hD List.perm_append_comm 0 rfl rfl rfl) rfl rfl hl.1 rfl (lv_room (Nat.le_of_ble_eq_true rfl)) dL_isStep_464 ⟨Nat.le_of_ble_eq_true rfl, Nat.le_of_ble_eq_true rfl⟩) hP hD hS hA List.perm_append_comm List.perm_append_comm (fun H locs hP hD hS => ?_)
    have hP : va_P D vwCl (clW ck ca C452 ++ clW ck cb ((gX5_change E (nI J) (nI v433)).2)) H := hP
    have hD : va_D (va_A (clW ck ca C ++ clW ck cb E) s.heap.size) (clW ck ca C452 ++ clW ck cb ((gX5_change E (nI J) (nI v433)).2)) := hD
    obtain ⟨ebE464, hE464⟩ := ((l_change hE hJ (in_way h433)).2.2 hs hsame)
    rw [ebE464]
    have tkE464 : (gX5_change E (nI J) (nI v433)).2.2.2.1 = E.2.2.1 := tx_change
    generalize (gX5_change E (nI J) (nI v433)).2 = E464 at hP hD hE464 tkE464
    have hP : va_P D vwCl (clW ck ca C452 ++ clW ck cb E464) H := hP
    have hD : va_D (va_A (clW ck ca C ++ clW ck cb E) s.heap.size) (clW ck ca C452 ++ clW ck cb E464) := hD
    refine lv_icmp_ne (tgt := 514) hx hb dL_isStep_467 (by decide) (fun c_467 => ?_) (fun c_467 => ?_)
    · --t
      exact absurd rfl c_467
    · --f
      refine lv_iload hx hb dL_isStep_470 (lv_at hl 0 rfl) ?_
      refine lv_iload hx hb dL_isStep_472 (lv_at hl 9 rfl) ?_
      refine lv_iload hx hb dL_isStep_474 (lv_at hl 8 rfl) ?_
      refine lv_icmp_ne (tgt := 483) hx hb dL_isStep_476 (by decide) (fun c_476 => ?_) (fun c_476 => ?_)
      · --t
        refine lv_iload hx hb dL_isStep_483 (lv_at hl 10 rfl) ?_
        refine lv_if_le (tgt := 493) hx hb dL_isStep_485 (by decide) (fun c_485 => ?_) (fun c_485 => ?_)
        · --t
          refine lv_iload hx hb dL_isStep_493 (lv_at hl 1 rfl) ?_
          refine lv_iload hx hb dL_isStep_495 (lv_at hl 2 rfl) ?_
          refine lv_icmp_ne (tgt := 505) hx hb dL_isStep_497 (by decide) (fun c_497 => ?_) (fun c_497 => ?_)
          · --t
            refine lv_iload hx hb dL_isStep_505 (lv_at hl 1 rfl) ?_
            refine lv_icmp_ne (tgt := 514) hx hb dL_isStep_507 (by decide) (fun c_507 => ?_) (fun c_507 => ?_)
            · --t
              exact absurd rfl c_507
            · --f
              refine lv_iconst (v := 1) hx hb dL_isStep_510 (by decide) ?_
              refine lv_goto (tgt := 515) hx hb dL_isStep_511 (by decide) ?_
              refine W.widen (k := 150) (n := 2400) (by omega) (by omega) ?_
              exact xezret (C452, E464, (gX6_goesThrough (gX6_sets f J 0 (nI v433)))) ⟨hC452, hE464, (WI_le (ch_WI hW hJ (fun z => is_ne.mp z hs) (in_way h433)) (by omega)), (TX_e hT tkE464)⟩ hx hb hr hlk hP hD hS (Or.inr rfl) rfl rfl dL_isStep_515
          · --f
            exact absurd c_497 hsame
        · --f
          exact absurd (by decide) c_485
      · --f
        exact absurd ((nI_eq (by omega) (by omega)).mp c_476) (by omega)
set_option maxHeartbeats 16000000 in
set_option maxRecDepth 100000 in
theorem s_changeB1 {zp : Program} {l : Launch} {ze : Env} {s : State} {zm : MethodId} {zb : List Frame} {zt : Method} {zc : Code} {D : va_G} {ck : Nat → ClassId} {tt : Nat → Nat} {ca cb : Nat → Nat → Nat} {C E : CS} {f : FS} {N : Nat} {x y : Int32} (hx : zp.tables.exec = Jvm.exec) (hb : zc.code = cL_isStep) (hr : zt.sig.returnType = some .boolean) (hml : zc.maxLocals = 15) (hown : s.vm.findClass RL = some zm.cls) (hts : ∀ w ∈ wsL_isStep, w.before ([.ref (ca 0 0), .ref (cb 0 0), .int x, .int y] : List Value).toArray s = true) (hlk : zt.locks = false) (hN : xN s) (hK : va_K D vwCl (xT ck) s) (hZ : xStat tt (va_A (clW ck ca C ++ clW ck cb E) s.heap.size) s s.heap) (hA : ∀ zq : Nat, s.heap.size ≤ zq → (va_A (clW ck ca C ++ clW ck cb E) s.heap.size) zq) (hC : LR C f) (hE : LR E f) (hW : WI f N) (hT : TX E) (hb6 : N + 150 ≤ 1000000) {J : Nat} (hJ : J < nF f) (hs : oF f J 3 = 1) : ∀ (H : Heap) (locs : List Loc) (ls : Array Slot), va_P D vwCl (clW ck ca C ++ clW ck cb E) H → va_D (va_A (clW ck ca C ++ clW ck cb E) s.heap.size) (clW ck ca C ++ clW ck cb E) → va_S (va_A (clW ck ca C ++ clW ck cb E) s.heap.size) s.heap H locs → lv_has ls 15 [(0, .ref (ca 0 0)), (1, .ref (cb 0 0)), (2, .int x), (3, .int y), (4, .int (x >>> 4)), (5, .int (nI (nF f))), (6, .int (nI J)), (7, .int 1)] → W zp l ze rmL_isStep s zm ([.ref (ca 0 0), .ref (cb 0 0), .int x, .int y] : List Value).toArray zb zt zc H locs 0 0 (MQ zb (xQe D (clW ck ca C ++ clW ck cb E) (fun u : CS × CS × FS => clW ck ca u.1 ++ clW ck cb u.2.1) (fun u : CS × CS × FS => LR u.1 u.2.2 ∧ LR u.2.1 u.2.2 ∧ WI u.2.2 (N + 150) ∧ TX u.2.1) (fun _ => 1) s.heap.size) ([.ref (ca 0 0), .ref (cb 0 0), .int x, .int y] : List Value).toArray s 150 2400 (va_A (clW ck ca C ++ clW ck cb E) s.heap.size)) (F0 zm 431 ls []) := by
  intro H locs ls hP hD hS hl
  have hm := hC.1.2
  have hn := n_le hm
  refine lv_iload_n hx hb dL_isStep_431 rfl (lv_at hl 3 rfl) ?_
  refine lv_iconst (v := (nI 3)) hx hb dL_isStep_432 (by decide) ?_
  refine xreti (va_runS (As := [.int y, .int (nI 3)]) (rest := []) ⟨hx, hb, hml, hown, hts⟩ (mL_up l D ck y (nI 3) (nI_ne0 (n := 3) (by omega) (by omega)) _) (va_cwS 2 hts gL_isStep_L_up rfl rfl rfl (by decide +kernel) ⟨Nat.le_of_ble_eq_true rfl, Nat.le_of_ble_eq_true rfl⟩) (xpreS hN hK hP hD pm_none) rfl rfl hl.1 rfl (lv_room (Nat.le_of_ble_eq_true rfl)) dL_isStep_433 ⟨Nat.le_of_ble_eq_true rfl, Nat.le_of_ble_eq_true rfl⟩) hP hD hS hA pm_none pm_none (fun H locs hP hD hS => ?_)
  have hP : va_P D vwCl (clW ck ca C ++ clW ck cb E) H := hP
  have hD : va_D (va_A (clW ck ca C ++ clW ck cb E) s.heap.size) (clW ck ca C ++ clW ck cb E) := hD
  obtain ⟨v433, h433, e433⟩ := up_in (v := y) (n := 3) (by omega) (by omega)
  rw [e433]
  refine lv_istore (lv' := [(9, .int (nI v433)), (0, .ref (ca 0 0)), (1, .ref (cb 0 0)), (2, .int x), (3, .int y), (4, .int (x >>> 4)), (5, .int (nI (nF f))), (6, .int (nI J)), (7, .int 1)]) hx hb dL_isStep_436 hl (by decide) rfl (fun ls hl => ?_)
  refine lv_aload_n hx hb dL_isStep_438 rfl (lv_at hl 1 rfl) ?_
  refine lv_iload hx hb dL_isStep_439 (lv_at hl 7 rfl) ?_
  refine lv_iconst (v := 0) hx hb dL_isStep_441 (by decide) ?_
  refine xreti (va_runV (As := [.int (nI J), .int 0]) (rest := []) ⟨hx, hb, hml, hown, hts⟩ (mX5_join l D ck ca C (nI J) 0 _) (cwV 2 hts gL_isStep_X5_join rfl rfl rfl (by decide +kernel) ⟨Nat.le_of_ble_eq_true rfl, Nat.le_of_ble_eq_true rfl⟩) (xpreV hN hK hP hD (List.Perm.refl _) 0 rfl rfl rfl) rfl rfl hl.1 rfl (lv_room (Nat.le_of_ble_eq_true rfl)) dL_isStep_442 ⟨Nat.le_of_ble_eq_true rfl, Nat.le_of_ble_eq_true rfl⟩) hP hD hS hA (List.Perm.refl _) (List.Perm.refl _) (fun H locs hP hD hS => ?_)
  have hP : va_P D vwCl (clW ck ca C ++ clW ck cb E) H := hP
  have hD : va_D (va_A (clW ck ca C ++ clW ck cb E) s.heap.size) (clW ck ca C ++ clW ck cb E) := hD
  rw [jn_0 hC hJ]
  refine lv_istore (lv' := [(10, .int (oF f J 0)), (9, .int (nI v433)), (0, .ref (ca 0 0)), (1, .ref (cb 0 0)), (2, .int x), (3, .int y), (4, .int (x >>> 4)), (5, .int (nI (nF f))), (6, .int (nI J)), (7, .int 1)]) hx hb dL_isStep_445 hl (by decide) rfl (fun ls hl => ?_)
  refine lv_aload_n hx hb dL_isStep_447 rfl (lv_at hl 2 rfl) ?_
  refine lv_iload hx hb dL_isStep_448 (lv_at hl 8 rfl) ?_
  refine lv_iload hx hb dL_isStep_450 (lv_at hl 1 rfl) ?_
  refine xreti (va_runV (As := [.int (nI J), .int (nI v433)]) (rest := []) ⟨hx, hb, hml, hown, hts⟩ (mX5_change l D ck ca C (nI J) (nI v433) (LR_hz hC) _) (cwV 2 hts gL_isStep_X5_change rfl rfl rfl (by decide +kernel) ⟨Nat.le_of_ble_eq_true rfl, Nat.le_of_ble_eq_true rfl⟩) (xpreV hN hK hP hD (List.Perm.refl _) 0 rfl rfl rfl) rfl rfl hl.1 rfl (lv_room (Nat.le_of_ble_eq_true rfl)) dL_isStep_452 ⟨Nat.le_of_ble_eq_true rfl, Nat.le_of_ble_eq_true rfl⟩) hP hD hS hA (List.Perm.refl _) (List.Perm.refl _) (fun H locs hP hD hS => ?_)
  have hP : va_P D vwCl (clW ck ca ((gX5_change C (nI J) (nI v433)).2) ++ clW ck cb E) H := hP
  have hD : va_D (va_A (clW ck ca C ++ clW ck cb E) s.heap.size) (clW ck ca ((gX5_change C (nI J) (nI v433)).2) ++ clW ck cb E) := hD
  have eaC452 : (gX5_change C (nI J) (nI v433)) = ((-4), C) := ((l_change hC hJ (in_way h433)).1 (by rw [hs]; decide))
  have ebC452 : (gX5_change C (nI J) (nI v433)).1 = (-4) := by rw [eaC452]
  have ecC452 : (gX5_change C (nI J) (nI v433)).2 = C := by rw [eaC452]
  rw [ebC452]
  rw [ecC452] at hP hD
  refine lv_istore (lv' := [(11, .int (-4)), (10, .int (oF f J 0)), (9, .int (nI v433)), (0, .ref (ca 0 0)), (1, .ref (cb 0 0)), (2, .int x), (3, .int y), (4, .int (x >>> 4)), (5, .int (nI (nF f))), (6, .int (nI J)), (7, .int 1)]) hx hb dL_isStep_455 hl (by decide) rfl (fun ls hl => ?_)
  refine lv_iload hx hb dL_isStep_457 (lv_at hl 0 rfl) ?_
  refine lv_aload_n hx hb dL_isStep_459 rfl (lv_at hl 4 rfl) ?_
  refine lv_iload hx hb dL_isStep_460 (lv_at hl 9 rfl) ?_
  refine lv_iload hx hb dL_isStep_462 (lv_at hl 2 rfl) ?_
  refine xreti (va_runV (As := [.int (nI J), .int (nI v433)]) (rest := [.int (-4)]) ⟨hx, hb, hml, hown, hts⟩ (mX5_change l D ck cb E (nI J) (nI v433) (LR_hz hE) _) (cwV 2 hts gL_isStep_X5_change rfl rfl rfl (by decide +kernel) ⟨Nat.le_of_ble_eq_true rfl, Nat.le_of_ble_eq_true rfl⟩) (xpreV hN hK hP hD List.perm_append_comm 0 rfl rfl rfl) rfl rfl hl.1 rfl (lv_room (Nat.le_of_ble_eq_true rfl)) dL_isStep_464 ⟨Nat.le_of_ble_eq_true rfl, Nat.le_of_ble_eq_true rfl⟩) hP hD hS hA List.perm_append_comm List.perm_append_comm (fun H locs hP hD hS => ?_)
  have hP : va_P D vwCl (clW ck ca C ++ clW ck cb ((gX5_change E (nI J) (nI v433)).2)) H := hP
  have hD : va_D (va_A (clW ck ca C ++ clW ck cb E) s.heap.size) (clW ck ca C ++ clW ck cb ((gX5_change E (nI J) (nI v433)).2)) := hD
  have eaE464 : (gX5_change E (nI J) (nI v433)) = ((-4), E) := ((l_change hE hJ (in_way h433)).1 (by rw [hs]; decide))
  have ebE464 : (gX5_change E (nI J) (nI v433)).1 = (-4) := by rw [eaE464]
  have ecE464 : (gX5_change E (nI J) (nI v433)).2 = E := by rw [eaE464]
  rw [ebE464]
  rw [ecE464] at hP hD
  refine lv_icmp_ne (tgt := 514) hx hb dL_isStep_467 (by decide) (fun c_467 => ?_) (fun c_467 => ?_)
  · --t
    exact absurd (by decide) c_467
  · --f
    refine lv_iload hx hb dL_isStep_470 (lv_at hl 0 rfl) ?_
    refine lv_iload hx hb dL_isStep_472 (lv_at hl 9 rfl) ?_
    refine lv_iload hx hb dL_isStep_474 (lv_at hl 8 rfl) ?_
    refine lv_icmp_ne (tgt := 483) hx hb dL_isStep_476 (by decide) (fun c_476 => ?_) (fun c_476 => ?_)
    · --t
      refine lv_iload hx hb dL_isStep_483 (lv_at hl 10 rfl) ?_
      refine lv_if_le (tgt := 493) hx hb dL_isStep_485 (by decide) (fun c_485 => ?_) (fun c_485 => ?_)
      · --t
        exact absurd c_485 (by decide)
      · --f
        refine lv_bipush (v := (-4)) hx hb dL_isStep_488 (by decide) ?_
        refine lv_goto (tgt := 507) hx hb dL_isStep_490 (by decide) ?_
        refine lv_icmp_ne (tgt := 514) hx hb dL_isStep_507 (by decide) (fun c_507 => ?_) (fun c_507 => ?_)
        · --t
          exact absurd (by decide) c_507
        · --f
          refine lv_iconst (v := 1) hx hb dL_isStep_510 (by decide) ?_
          refine lv_goto (tgt := 515) hx hb dL_isStep_511 (by decide) ?_
          refine W.widen (k := 150) (n := 2400) (by omega) (by omega) ?_
          exact xezret (C, E, f) ⟨hC, hE, (WI_le hW (by omega)), hT⟩ hx hb hr hlk hP hD hS (Or.inr rfl) rfl rfl dL_isStep_515
    · --f
      exact absurd ((nI_eq (by omega) (by omega)).mp c_476) (by omega)
set_option maxHeartbeats 16000000 in
set_option maxRecDepth 100000 in
theorem s_changeB2 {zp : Program} {l : Launch} {ze : Env} {s : State} {zm : MethodId} {zb : List Frame} {zt : Method} {zc : Code} {D : va_G} {ck : Nat → ClassId} {tt : Nat → Nat} {ca cb : Nat → Nat → Nat} {C E : CS} {f : FS} {N : Nat} {x y : Int32} (hx : zp.tables.exec = Jvm.exec) (hb : zc.code = cL_isStep) (hr : zt.sig.returnType = some .boolean) (hml : zc.maxLocals = 15) (hown : s.vm.findClass RL = some zm.cls) (hts : ∀ w ∈ wsL_isStep, w.before ([.ref (ca 0 0), .ref (cb 0 0), .int x, .int y] : List Value).toArray s = true) (hlk : zt.locks = false) (hN : xN s) (hK : va_K D vwCl (xT ck) s) (hZ : xStat tt (va_A (clW ck ca C ++ clW ck cb E) s.heap.size) s s.heap) (hA : ∀ zq : Nat, s.heap.size ≤ zq → (va_A (clW ck ca C ++ clW ck cb E) s.heap.size) zq) (hC : LR C f) (hE : LR E f) (hW : WI f N) (hT : TX E) (hb6 : N + 150 ≤ 1000000) {J : Nat} (hJ : J < nF f) (hs : oF f J 3 = 2) : ∀ (H : Heap) (locs : List Loc) (ls : Array Slot), va_P D vwCl (clW ck ca C ++ clW ck cb E) H → va_D (va_A (clW ck ca C ++ clW ck cb E) s.heap.size) (clW ck ca C ++ clW ck cb E) → va_S (va_A (clW ck ca C ++ clW ck cb E) s.heap.size) s.heap H locs → lv_has ls 15 [(0, .ref (ca 0 0)), (1, .ref (cb 0 0)), (2, .int x), (3, .int y), (4, .int (x >>> 4)), (5, .int (nI (nF f))), (6, .int (nI J)), (7, .int 2)] → W zp l ze rmL_isStep s zm ([.ref (ca 0 0), .ref (cb 0 0), .int x, .int y] : List Value).toArray zb zt zc H locs 0 0 (MQ zb (xQe D (clW ck ca C ++ clW ck cb E) (fun u : CS × CS × FS => clW ck ca u.1 ++ clW ck cb u.2.1) (fun u : CS × CS × FS => LR u.1 u.2.2 ∧ LR u.2.1 u.2.2 ∧ WI u.2.2 (N + 150) ∧ TX u.2.1) (fun _ => 1) s.heap.size) ([.ref (ca 0 0), .ref (cb 0 0), .int x, .int y] : List Value).toArray s 150 2400 (va_A (clW ck ca C ++ clW ck cb E) s.heap.size)) (F0 zm 431 ls []) := by
  intro H locs ls hP hD hS hl
  have hm := hC.1.2
  have hn := n_le hm
  refine lv_iload_n hx hb dL_isStep_431 rfl (lv_at hl 3 rfl) ?_
  refine lv_iconst (v := (nI 3)) hx hb dL_isStep_432 (by decide) ?_
  refine xreti (va_runS (As := [.int y, .int (nI 3)]) (rest := []) ⟨hx, hb, hml, hown, hts⟩ (mL_up l D ck y (nI 3) (nI_ne0 (n := 3) (by omega) (by omega)) _) (va_cwS 2 hts gL_isStep_L_up rfl rfl rfl (by decide +kernel) ⟨Nat.le_of_ble_eq_true rfl, Nat.le_of_ble_eq_true rfl⟩) (xpreS hN hK hP hD pm_none) rfl rfl hl.1 rfl (lv_room (Nat.le_of_ble_eq_true rfl)) dL_isStep_433 ⟨Nat.le_of_ble_eq_true rfl, Nat.le_of_ble_eq_true rfl⟩) hP hD hS hA pm_none pm_none (fun H locs hP hD hS => ?_)
  have hP : va_P D vwCl (clW ck ca C ++ clW ck cb E) H := hP
  have hD : va_D (va_A (clW ck ca C ++ clW ck cb E) s.heap.size) (clW ck ca C ++ clW ck cb E) := hD
  obtain ⟨v433, h433, e433⟩ := up_in (v := y) (n := 3) (by omega) (by omega)
  rw [e433]
  refine lv_istore (lv' := [(9, .int (nI v433)), (0, .ref (ca 0 0)), (1, .ref (cb 0 0)), (2, .int x), (3, .int y), (4, .int (x >>> 4)), (5, .int (nI (nF f))), (6, .int (nI J)), (7, .int 2)]) hx hb dL_isStep_436 hl (by decide) rfl (fun ls hl => ?_)
  refine lv_aload_n hx hb dL_isStep_438 rfl (lv_at hl 1 rfl) ?_
  refine lv_iload hx hb dL_isStep_439 (lv_at hl 7 rfl) ?_
  refine lv_iconst (v := 0) hx hb dL_isStep_441 (by decide) ?_
  refine xreti (va_runV (As := [.int (nI J), .int 0]) (rest := []) ⟨hx, hb, hml, hown, hts⟩ (mX5_join l D ck ca C (nI J) 0 _) (cwV 2 hts gL_isStep_X5_join rfl rfl rfl (by decide +kernel) ⟨Nat.le_of_ble_eq_true rfl, Nat.le_of_ble_eq_true rfl⟩) (xpreV hN hK hP hD (List.Perm.refl _) 0 rfl rfl rfl) rfl rfl hl.1 rfl (lv_room (Nat.le_of_ble_eq_true rfl)) dL_isStep_442 ⟨Nat.le_of_ble_eq_true rfl, Nat.le_of_ble_eq_true rfl⟩) hP hD hS hA (List.Perm.refl _) (List.Perm.refl _) (fun H locs hP hD hS => ?_)
  have hP : va_P D vwCl (clW ck ca C ++ clW ck cb E) H := hP
  have hD : va_D (va_A (clW ck ca C ++ clW ck cb E) s.heap.size) (clW ck ca C ++ clW ck cb E) := hD
  rw [jn_0 hC hJ]
  refine lv_istore (lv' := [(10, .int (oF f J 0)), (9, .int (nI v433)), (0, .ref (ca 0 0)), (1, .ref (cb 0 0)), (2, .int x), (3, .int y), (4, .int (x >>> 4)), (5, .int (nI (nF f))), (6, .int (nI J)), (7, .int 2)]) hx hb dL_isStep_445 hl (by decide) rfl (fun ls hl => ?_)
  refine lv_aload_n hx hb dL_isStep_447 rfl (lv_at hl 2 rfl) ?_
  refine lv_iload hx hb dL_isStep_448 (lv_at hl 8 rfl) ?_
  refine lv_iload hx hb dL_isStep_450 (lv_at hl 1 rfl) ?_
  refine xreti (va_runV (As := [.int (nI J), .int (nI v433)]) (rest := []) ⟨hx, hb, hml, hown, hts⟩ (mX5_change l D ck ca C (nI J) (nI v433) (LR_hz hC) _) (cwV 2 hts gL_isStep_X5_change rfl rfl rfl (by decide +kernel) ⟨Nat.le_of_ble_eq_true rfl, Nat.le_of_ble_eq_true rfl⟩) (xpreV hN hK hP hD (List.Perm.refl _) 0 rfl rfl rfl) rfl rfl hl.1 rfl (lv_room (Nat.le_of_ble_eq_true rfl)) dL_isStep_452 ⟨Nat.le_of_ble_eq_true rfl, Nat.le_of_ble_eq_true rfl⟩) hP hD hS hA (List.Perm.refl _) (List.Perm.refl _) (fun H locs hP hD hS => ?_)
  have hP : va_P D vwCl (clW ck ca ((gX5_change C (nI J) (nI v433)).2) ++ clW ck cb E) H := hP
  have hD : va_D (va_A (clW ck ca C ++ clW ck cb E) s.heap.size) (clW ck ca ((gX5_change C (nI J) (nI v433)).2) ++ clW ck cb E) := hD
  have eaC452 : (gX5_change C (nI J) (nI v433)) = ((-4), C) := ((l_change hC hJ (in_way h433)).1 (by rw [hs]; decide))
  have ebC452 : (gX5_change C (nI J) (nI v433)).1 = (-4) := by rw [eaC452]
  have ecC452 : (gX5_change C (nI J) (nI v433)).2 = C := by rw [eaC452]
  rw [ebC452]
  rw [ecC452] at hP hD
  refine lv_istore (lv' := [(11, .int (-4)), (10, .int (oF f J 0)), (9, .int (nI v433)), (0, .ref (ca 0 0)), (1, .ref (cb 0 0)), (2, .int x), (3, .int y), (4, .int (x >>> 4)), (5, .int (nI (nF f))), (6, .int (nI J)), (7, .int 2)]) hx hb dL_isStep_455 hl (by decide) rfl (fun ls hl => ?_)
  refine lv_iload hx hb dL_isStep_457 (lv_at hl 0 rfl) ?_
  refine lv_aload_n hx hb dL_isStep_459 rfl (lv_at hl 4 rfl) ?_
  refine lv_iload hx hb dL_isStep_460 (lv_at hl 9 rfl) ?_
  refine lv_iload hx hb dL_isStep_462 (lv_at hl 2 rfl) ?_
  refine xreti (va_runV (As := [.int (nI J), .int (nI v433)]) (rest := [.int (-4)]) ⟨hx, hb, hml, hown, hts⟩ (mX5_change l D ck cb E (nI J) (nI v433) (LR_hz hE) _) (cwV 2 hts gL_isStep_X5_change rfl rfl rfl (by decide +kernel) ⟨Nat.le_of_ble_eq_true rfl, Nat.le_of_ble_eq_true rfl⟩) (xpreV hN hK hP hD List.perm_append_comm 0 rfl rfl rfl) rfl rfl hl.1 rfl (lv_room (Nat.le_of_ble_eq_true rfl)) dL_isStep_464 ⟨Nat.le_of_ble_eq_true rfl, Nat.le_of_ble_eq_true rfl⟩) hP hD hS hA List.perm_append_comm List.perm_append_comm (fun H locs hP hD hS => ?_)
  have hP : va_P D vwCl (clW ck ca C ++ clW ck cb ((gX5_change E (nI J) (nI v433)).2)) H := hP
  have hD : va_D (va_A (clW ck ca C ++ clW ck cb E) s.heap.size) (clW ck ca C ++ clW ck cb ((gX5_change E (nI J) (nI v433)).2)) := hD
  have eaE464 : (gX5_change E (nI J) (nI v433)) = ((-4), E) := ((l_change hE hJ (in_way h433)).1 (by rw [hs]; decide))
  have ebE464 : (gX5_change E (nI J) (nI v433)).1 = (-4) := by rw [eaE464]
  have ecE464 : (gX5_change E (nI J) (nI v433)).2 = E := by rw [eaE464]
  rw [ebE464]
  rw [ecE464] at hP hD
  refine lv_icmp_ne (tgt := 514) hx hb dL_isStep_467 (by decide) (fun c_467 => ?_) (fun c_467 => ?_)
  · --t
    exact absurd (by decide) c_467
  · --f
    refine lv_iload hx hb dL_isStep_470 (lv_at hl 0 rfl) ?_
    refine lv_iload hx hb dL_isStep_472 (lv_at hl 9 rfl) ?_
    refine lv_iload hx hb dL_isStep_474 (lv_at hl 8 rfl) ?_
    refine lv_icmp_ne (tgt := 483) hx hb dL_isStep_476 (by decide) (fun c_476 => ?_) (fun c_476 => ?_)
    · --t
      refine lv_iload hx hb dL_isStep_483 (lv_at hl 10 rfl) ?_
      refine lv_if_le (tgt := 493) hx hb dL_isStep_485 (by decide) (fun c_485 => ?_) (fun c_485 => ?_)
      · --t
        exact absurd c_485 (by decide)
      · --f
        refine lv_bipush (v := (-4)) hx hb dL_isStep_488 (by decide) ?_
        refine lv_goto (tgt := 507) hx hb dL_isStep_490 (by decide) ?_
        refine lv_icmp_ne (tgt := 514) hx hb dL_isStep_507 (by decide) (fun c_507 => ?_) (fun c_507 => ?_)
        · --t
          exact absurd (by decide) c_507
        · --f
          refine lv_iconst (v := 1) hx hb dL_isStep_510 (by decide) ?_
          refine lv_goto (tgt := 515) hx hb dL_isStep_511 (by decide) ?_
          refine W.widen (k := 150) (n := 2400) (by omega) (by omega) ?_
          exact xezret (C, E, f) ⟨hC, hE, (WI_le hW (by omega)), hT⟩ hx hb hr hlk hP hD hS (Or.inr rfl) rfl rfl dL_isStep_515
    · --f
      exact absurd ((nI_eq (by omega) (by omega)).mp c_476) (by omega)
set_option maxHeartbeats 16000000 in
set_option maxRecDepth 100000 in
theorem s_changeB3 {zp : Program} {l : Launch} {ze : Env} {s : State} {zm : MethodId} {zb : List Frame} {zt : Method} {zc : Code} {D : va_G} {ck : Nat → ClassId} {tt : Nat → Nat} {ca cb : Nat → Nat → Nat} {C E : CS} {f : FS} {N : Nat} {x y : Int32} (hx : zp.tables.exec = Jvm.exec) (hb : zc.code = cL_isStep) (hr : zt.sig.returnType = some .boolean) (hml : zc.maxLocals = 15) (hown : s.vm.findClass RL = some zm.cls) (hts : ∀ w ∈ wsL_isStep, w.before ([.ref (ca 0 0), .ref (cb 0 0), .int x, .int y] : List Value).toArray s = true) (hlk : zt.locks = false) (hN : xN s) (hK : va_K D vwCl (xT ck) s) (hZ : xStat tt (va_A (clW ck ca C ++ clW ck cb E) s.heap.size) s s.heap) (hA : ∀ zq : Nat, s.heap.size ≤ zq → (va_A (clW ck ca C ++ clW ck cb E) s.heap.size) zq) (hC : LR C f) (hE : LR E f) (hW : WI f N) (hT : TX E) (hb6 : N + 150 ≤ 1000000) {J : Nat} (hJ : J < nF f) (hs : oF f J 3 = 3) : ∀ (H : Heap) (locs : List Loc) (ls : Array Slot), va_P D vwCl (clW ck ca C ++ clW ck cb E) H → va_D (va_A (clW ck ca C ++ clW ck cb E) s.heap.size) (clW ck ca C ++ clW ck cb E) → va_S (va_A (clW ck ca C ++ clW ck cb E) s.heap.size) s.heap H locs → lv_has ls 15 [(0, .ref (ca 0 0)), (1, .ref (cb 0 0)), (2, .int x), (3, .int y), (4, .int (x >>> 4)), (5, .int (nI (nF f))), (6, .int (nI J)), (7, .int 3)] → W zp l ze rmL_isStep s zm ([.ref (ca 0 0), .ref (cb 0 0), .int x, .int y] : List Value).toArray zb zt zc H locs 0 0 (MQ zb (xQe D (clW ck ca C ++ clW ck cb E) (fun u : CS × CS × FS => clW ck ca u.1 ++ clW ck cb u.2.1) (fun u : CS × CS × FS => LR u.1 u.2.2 ∧ LR u.2.1 u.2.2 ∧ WI u.2.2 (N + 150) ∧ TX u.2.1) (fun _ => 1) s.heap.size) ([.ref (ca 0 0), .ref (cb 0 0), .int x, .int y] : List Value).toArray s 150 2400 (va_A (clW ck ca C ++ clW ck cb E) s.heap.size)) (F0 zm 431 ls []) := by
  intro H locs ls hP hD hS hl
  have hm := hC.1.2
  have hn := n_le hm
  refine lv_iload_n hx hb dL_isStep_431 rfl (lv_at hl 3 rfl) ?_
  refine lv_iconst (v := (nI 3)) hx hb dL_isStep_432 (by decide) ?_
  refine xreti (va_runS (As := [.int y, .int (nI 3)]) (rest := []) ⟨hx, hb, hml, hown, hts⟩ (mL_up l D ck y (nI 3) (nI_ne0 (n := 3) (by omega) (by omega)) _) (va_cwS 2 hts gL_isStep_L_up rfl rfl rfl (by decide +kernel) ⟨Nat.le_of_ble_eq_true rfl, Nat.le_of_ble_eq_true rfl⟩) (xpreS hN hK hP hD pm_none) rfl rfl hl.1 rfl (lv_room (Nat.le_of_ble_eq_true rfl)) dL_isStep_433 ⟨Nat.le_of_ble_eq_true rfl, Nat.le_of_ble_eq_true rfl⟩) hP hD hS hA pm_none pm_none (fun H locs hP hD hS => ?_)
  have hP : va_P D vwCl (clW ck ca C ++ clW ck cb E) H := hP
  have hD : va_D (va_A (clW ck ca C ++ clW ck cb E) s.heap.size) (clW ck ca C ++ clW ck cb E) := hD
  obtain ⟨v433, h433, e433⟩ := up_in (v := y) (n := 3) (by omega) (by omega)
  rw [e433]
  refine lv_istore (lv' := [(9, .int (nI v433)), (0, .ref (ca 0 0)), (1, .ref (cb 0 0)), (2, .int x), (3, .int y), (4, .int (x >>> 4)), (5, .int (nI (nF f))), (6, .int (nI J)), (7, .int 3)]) hx hb dL_isStep_436 hl (by decide) rfl (fun ls hl => ?_)
  refine lv_aload_n hx hb dL_isStep_438 rfl (lv_at hl 1 rfl) ?_
  refine lv_iload hx hb dL_isStep_439 (lv_at hl 7 rfl) ?_
  refine lv_iconst (v := 0) hx hb dL_isStep_441 (by decide) ?_
  refine xreti (va_runV (As := [.int (nI J), .int 0]) (rest := []) ⟨hx, hb, hml, hown, hts⟩ (mX5_join l D ck ca C (nI J) 0 _) (cwV 2 hts gL_isStep_X5_join rfl rfl rfl (by decide +kernel) ⟨Nat.le_of_ble_eq_true rfl, Nat.le_of_ble_eq_true rfl⟩) (xpreV hN hK hP hD (List.Perm.refl _) 0 rfl rfl rfl) rfl rfl hl.1 rfl (lv_room (Nat.le_of_ble_eq_true rfl)) dL_isStep_442 ⟨Nat.le_of_ble_eq_true rfl, Nat.le_of_ble_eq_true rfl⟩) hP hD hS hA (List.Perm.refl _) (List.Perm.refl _) (fun H locs hP hD hS => ?_)
  have hP : va_P D vwCl (clW ck ca C ++ clW ck cb E) H := hP
  have hD : va_D (va_A (clW ck ca C ++ clW ck cb E) s.heap.size) (clW ck ca C ++ clW ck cb E) := hD
  rw [jn_0 hC hJ]
  refine lv_istore (lv' := [(10, .int (oF f J 0)), (9, .int (nI v433)), (0, .ref (ca 0 0)), (1, .ref (cb 0 0)), (2, .int x), (3, .int y), (4, .int (x >>> 4)), (5, .int (nI (nF f))), (6, .int (nI J)), (7, .int 3)]) hx hb dL_isStep_445 hl (by decide) rfl (fun ls hl => ?_)
  refine lv_aload_n hx hb dL_isStep_447 rfl (lv_at hl 2 rfl) ?_
  refine lv_iload hx hb dL_isStep_448 (lv_at hl 8 rfl) ?_
  refine lv_iload hx hb dL_isStep_450 (lv_at hl 1 rfl) ?_
  refine xreti (va_runV (As := [.int (nI J), .int (nI v433)]) (rest := []) ⟨hx, hb, hml, hown, hts⟩ (mX5_change l D ck ca C (nI J) (nI v433) (LR_hz hC) _) (cwV 2 hts gL_isStep_X5_change rfl rfl rfl (by decide +kernel) ⟨Nat.le_of_ble_eq_true rfl, Nat.le_of_ble_eq_true rfl⟩) (xpreV hN hK hP hD (List.Perm.refl _) 0 rfl rfl rfl) rfl rfl hl.1 rfl (lv_room (Nat.le_of_ble_eq_true rfl)) dL_isStep_452 ⟨Nat.le_of_ble_eq_true rfl, Nat.le_of_ble_eq_true rfl⟩) hP hD hS hA (List.Perm.refl _) (List.Perm.refl _) (fun H locs hP hD hS => ?_)
  have hP : va_P D vwCl (clW ck ca ((gX5_change C (nI J) (nI v433)).2) ++ clW ck cb E) H := hP
  have hD : va_D (va_A (clW ck ca C ++ clW ck cb E) s.heap.size) (clW ck ca ((gX5_change C (nI J) (nI v433)).2) ++ clW ck cb E) := hD
  have eaC452 : (gX5_change C (nI J) (nI v433)) = ((-4), C) := ((l_change hC hJ (in_way h433)).1 (by rw [hs]; decide))
  have ebC452 : (gX5_change C (nI J) (nI v433)).1 = (-4) := by rw [eaC452]
  have ecC452 : (gX5_change C (nI J) (nI v433)).2 = C := by rw [eaC452]
  rw [ebC452]
  rw [ecC452] at hP hD
  refine lv_istore (lv' := [(11, .int (-4)), (10, .int (oF f J 0)), (9, .int (nI v433)), (0, .ref (ca 0 0)), (1, .ref (cb 0 0)), (2, .int x), (3, .int y), (4, .int (x >>> 4)), (5, .int (nI (nF f))), (6, .int (nI J)), (7, .int 3)]) hx hb dL_isStep_455 hl (by decide) rfl (fun ls hl => ?_)
  refine lv_iload hx hb dL_isStep_457 (lv_at hl 0 rfl) ?_
  refine lv_aload_n hx hb dL_isStep_459 rfl (lv_at hl 4 rfl) ?_
  refine lv_iload hx hb dL_isStep_460 (lv_at hl 9 rfl) ?_
  refine lv_iload hx hb dL_isStep_462 (lv_at hl 2 rfl) ?_
  refine xreti (va_runV (As := [.int (nI J), .int (nI v433)]) (rest := [.int (-4)]) ⟨hx, hb, hml, hown, hts⟩ (mX5_change l D ck cb E (nI J) (nI v433) (LR_hz hE) _) (cwV 2 hts gL_isStep_X5_change rfl rfl rfl (by decide +kernel) ⟨Nat.le_of_ble_eq_true rfl, Nat.le_of_ble_eq_true rfl⟩) (xpreV hN hK hP hD List.perm_append_comm 0 rfl rfl rfl) rfl rfl hl.1 rfl (lv_room (Nat.le_of_ble_eq_true rfl)) dL_isStep_464 ⟨Nat.le_of_ble_eq_true rfl, Nat.le_of_ble_eq_true rfl⟩) hP hD hS hA List.perm_append_comm List.perm_append_comm (fun H locs hP hD hS => ?_)
  have hP : va_P D vwCl (clW ck ca C ++ clW ck cb ((gX5_change E (nI J) (nI v433)).2)) H := hP
  have hD : va_D (va_A (clW ck ca C ++ clW ck cb E) s.heap.size) (clW ck ca C ++ clW ck cb ((gX5_change E (nI J) (nI v433)).2)) := hD
  have eaE464 : (gX5_change E (nI J) (nI v433)) = ((-4), E) := ((l_change hE hJ (in_way h433)).1 (by rw [hs]; decide))
  have ebE464 : (gX5_change E (nI J) (nI v433)).1 = (-4) := by rw [eaE464]
  have ecE464 : (gX5_change E (nI J) (nI v433)).2 = E := by rw [eaE464]
  rw [ebE464]
  rw [ecE464] at hP hD
  refine lv_icmp_ne (tgt := 514) hx hb dL_isStep_467 (by decide) (fun c_467 => ?_) (fun c_467 => ?_)
  · --t
    exact absurd (by decide) c_467
  · --f
    refine lv_iload hx hb dL_isStep_470 (lv_at hl 0 rfl) ?_
    refine lv_iload hx hb dL_isStep_472 (lv_at hl 9 rfl) ?_
    refine lv_iload hx hb dL_isStep_474 (lv_at hl 8 rfl) ?_
    refine lv_icmp_ne (tgt := 483) hx hb dL_isStep_476 (by decide) (fun c_476 => ?_) (fun c_476 => ?_)
    · --t
      refine lv_iload hx hb dL_isStep_483 (lv_at hl 10 rfl) ?_
      refine lv_if_le (tgt := 493) hx hb dL_isStep_485 (by decide) (fun c_485 => ?_) (fun c_485 => ?_)
      · --t
        exact absurd c_485 (by decide)
      · --f
        refine lv_bipush (v := (-4)) hx hb dL_isStep_488 (by decide) ?_
        refine lv_goto (tgt := 507) hx hb dL_isStep_490 (by decide) ?_
        refine lv_icmp_ne (tgt := 514) hx hb dL_isStep_507 (by decide) (fun c_507 => ?_) (fun c_507 => ?_)
        · --t
          exact absurd (by decide) c_507
        · --f
          refine lv_iconst (v := 1) hx hb dL_isStep_510 (by decide) ?_
          refine lv_goto (tgt := 515) hx hb dL_isStep_511 (by decide) ?_
          refine W.widen (k := 150) (n := 2400) (by omega) (by omega) ?_
          exact xezret (C, E, f) ⟨hC, hE, (WI_le hW (by omega)), hT⟩ hx hb hr hlk hP hD hS (Or.inr rfl) rfl rfl dL_isStep_515
    · --f
      exact absurd ((nI_eq (by omega) (by omega)).mp c_476) (by omega)
