def rmX4_allows : Room := { frames := 0, cells := 0, slots := 0, locals := 0 }
set_option maxHeartbeats 4000000 in
set_option maxRecDepth 100000 in
theorem mX4_allows (l : Launch) (D : va_G) (ck : Nat → ClassId) (tt : Nat → Nat) (a1 : Int32) (a2 : Int32) : xMiZ tt l yX4_allows wsX4_allows rmX4_allows D ck [.int a1, .int a2] ([]) ([]) (gX4_allows a1 a2) 0 0 := by
  refine xMetZ (by decide) rfl (Nat.le_of_ble_eq_true rfl) ?_
  intro zp ze s zm zb zt zc hx hb hr hml hown hts hlk hnm hN hK hP hD hZ ls hl
  have hown : s.vm.findClass RX4 = some zm.cls := hown
  have hl : lv_has ls 2 [(0, .int a1), (1, .int a2)] := hl
  have hS : va_S (va_A ([]) s.heap.size) s.heap s.heap [] := va_S.rf
  have hA : ∀ zq : Nat, s.heap.size ≤ zq → va_A ([]) s.heap.size zq := fun zq h => Or.inr h
  refine lv_iload_n hx hb dX4_allows_0 rfl (lv_at hl 0 rfl) ?_
  refine lv_if_lt (tgt := 42) hx hb dX4_allows_1 (by decide) (fun c_1 => ?_) (fun c_1 => ?_)
  · --t
    refine lv_iconst (v := 0) hx hb dX4_allows_42 (by decide) ?_
    exact xzret hx hb hr hlk hP hD hS (Or.inl rfl) (show gX4_allows a1 a2 = 0 from (Eq.trans (if_pos c_1) rfl)).symm rfl dX4_allows_43
  · --f
    refine lv_iload_n hx hb dX4_allows_4 rfl (lv_at hl 0 rfl) ?_
    refine va_gets (C := RX4) hx hb hZ.1.1 hS hown (hts (.fieldLink RX4 32 "JoinGrants$Pool" "LOWEST" "[I") (List.mem_of_getElem? (i := 1) rfl)) (fun _ h9 => h9) dX4_allows_5 ?_
    refine va_tlen hx hb hZ.1.2 hS (v := (nI 4)) rfl dX4_allows_8 ?_
    refine lv_icmp_ge (tgt := 42) hx hb dX4_allows_9 (by decide) (fun c_9 => ?_) (fun c_9 => ?_)
    · --t
      refine lv_iconst (v := 0) hx hb dX4_allows_42 (by decide) ?_
      exact xzret hx hb hr hlk hP hD hS (Or.inl rfl) (show gX4_allows a1 a2 = 0 from (Eq.trans (if_neg c_1) (Eq.trans (if_pos c_9) rfl))).symm rfl dX4_allows_43
    · --f
      refine lv_iload_n hx hb dX4_allows_12 rfl (lv_at hl 0 rfl) ?_
      refine va_gets (C := RX4) hx hb hZ.2.1.1 hS hown (hts (.fieldLink RX4 35 "JoinGrants$Pool" "HIGHEST" "[I") (List.mem_of_getElem? (i := 2) rfl)) (fun _ h9 => h9) dX4_allows_13 ?_
      refine va_tlen hx hb hZ.2.1.2 hS (v := (nI 4)) rfl dX4_allows_16 ?_
      refine lv_icmp_ge (tgt := 42) hx hb dX4_allows_17 (by decide) (fun c_17 => ?_) (fun c_17 => ?_)
      · --t
        refine lv_iconst (v := 0) hx hb dX4_allows_42 (by decide) ?_
        exact xzret hx hb hr hlk hP hD hS (Or.inl rfl) (show gX4_allows a1 a2 = 0 from (Eq.trans (if_neg c_1) (Eq.trans (if_neg c_9) (Eq.trans (if_pos c_17) rfl)))).symm rfl dX4_allows_43
      · --f
        refine lv_iload_n hx hb dX4_allows_20 rfl (lv_at hl 1 rfl) ?_
        refine va_gets (C := RX4) hx hb hZ.1.1 hS hown (hts (.fieldLink RX4 32 "JoinGrants$Pool" "LOWEST" "[I") (List.mem_of_getElem? (i := 1) rfl)) (fun _ h9 => h9) dX4_allows_21 ?_
        refine lv_iload_n hx hb dX4_allows_24 rfl (lv_at hl 0 rfl) ?_
        refine va_ti hx hb hZ.1.2 hS (xin_g (by decide) c_1 c_9) (v := .int (loF a1.toNatClampNeg)) rfl dX4_allows_25 ?_
        refine lv_icmp_lt (tgt := 42) hx hb dX4_allows_26 (by decide) (fun c_26 => ?_) (fun c_26 => ?_)
        · --t
          refine lv_iconst (v := 0) hx hb dX4_allows_42 (by decide) ?_
          exact xzret hx hb hr hlk hP hD hS (Or.inl rfl) (show gX4_allows a1 a2 = 0 from (Eq.trans (if_neg c_1) (Eq.trans (if_neg c_9) (Eq.trans (if_neg c_17) (Eq.trans (if_pos c_26) rfl))))).symm rfl dX4_allows_43
        · --f
          refine lv_iload_n hx hb dX4_allows_29 rfl (lv_at hl 1 rfl) ?_
          refine va_gets (C := RX4) hx hb hZ.2.1.1 hS hown (hts (.fieldLink RX4 35 "JoinGrants$Pool" "HIGHEST" "[I") (List.mem_of_getElem? (i := 2) rfl)) (fun _ h9 => h9) dX4_allows_30 ?_
          refine lv_iload_n hx hb dX4_allows_33 rfl (lv_at hl 0 rfl) ?_
          refine va_ti hx hb hZ.2.1.2 hS (xin_g (by decide) c_1 c_17) (v := .int (hiF a1.toNatClampNeg)) rfl dX4_allows_34 ?_
          refine lv_icmp_gt (tgt := 42) hx hb dX4_allows_35 (by decide) (fun c_35 => ?_) (fun c_35 => ?_)
          · --t
            refine lv_iconst (v := 0) hx hb dX4_allows_42 (by decide) ?_
            exact xzret hx hb hr hlk hP hD hS (Or.inl rfl) (show gX4_allows a1 a2 = 0 from (Eq.trans (if_neg c_1) (Eq.trans (if_neg c_9) (Eq.trans (if_neg c_17) (Eq.trans (if_neg c_26) (Eq.trans (if_pos c_35) rfl)))))).symm rfl dX4_allows_43
          · --f
            refine lv_iconst (v := 1) hx hb dX4_allows_38 (by decide) ?_
            refine lv_goto (tgt := 43) hx hb dX4_allows_39 (by decide) ?_
            exact xzret hx hb hr hlk hP hD hS (Or.inr rfl) (show gX4_allows a1 a2 = 1 from (Eq.trans (if_neg c_1) (Eq.trans (if_neg c_9) (Eq.trans (if_neg c_17) (Eq.trans (if_neg c_26) (Eq.trans (if_neg c_35) rfl)))))).symm rfl dX4_allows_43

def rmX5_isPages : Room := { frames := 0, cells := 0, slots := 0, locals := 0 }
set_option maxHeartbeats 4000000 in
set_option maxRecDepth 100000 in
theorem mX5_isPages (l : Launch) (D : va_G) (ck : Nat → ClassId) (a1 : Int32) : xMi l yX5_isPages wsX5_isPages rmX5_isPages D ck [.int a1] ([]) ([]) (gX5_isPages a1) 0 0 := by
  refine xMet (by decide) rfl (Nat.le_of_ble_eq_true rfl) ?_
  intro zp ze s zm zb zt zc hx hb hr hml hown hts hlk hnm hN hK hP hD ls hl
  have hown : s.vm.findClass RX5 = some zm.cls := hown
  have hl : lv_has ls 1 [(0, .int a1)] := hl
  have hS : va_S (va_A ([]) s.heap.size) s.heap s.heap [] := va_S.rf
  have hA : ∀ zq : Nat, s.heap.size ≤ zq → va_A ([]) s.heap.size zq := fun zq h => Or.inr h
  refine lv_iload_n hx hb dX5_isPages_0 rfl (lv_at hl 0 rfl) ?_
  refine lv_iconst (v := 3) hx hb dX5_isPages_1 (by decide) ?_
  refine lv_icmp_lt (tgt := 16) hx hb dX5_isPages_2 (by decide) (fun c_2 => ?_) (fun c_2 => ?_)
  · --t
    refine lv_iconst (v := 0) hx hb dX5_isPages_16 (by decide) ?_
    exact xzret hx hb hr hlk hP hD hS (Or.inl rfl) (show gX5_isPages a1 = 0 from (Eq.trans (if_pos c_2) rfl)).symm rfl dX5_isPages_17
  · --f
    refine lv_iload_n hx hb dX5_isPages_5 rfl (lv_at hl 0 rfl) ?_
    refine lv_sipush (v := 500) hx hb dX5_isPages_6 (by decide) ?_
    refine lv_icmp_gt (tgt := 16) hx hb dX5_isPages_9 (by decide) (fun c_9 => ?_) (fun c_9 => ?_)
    · --t
      refine lv_iconst (v := 0) hx hb dX5_isPages_16 (by decide) ?_
      exact xzret hx hb hr hlk hP hD hS (Or.inl rfl) (show gX5_isPages a1 = 0 from (Eq.trans (if_neg c_2) (Eq.trans (if_pos c_9) rfl))).symm rfl dX5_isPages_17
    · --f
      refine lv_iconst (v := 1) hx hb dX5_isPages_12 (by decide) ?_
      refine lv_goto (tgt := 17) hx hb dX5_isPages_13 (by decide) ?_
      exact xzret hx hb hr hlk hP hD hS (Or.inr rfl) (show gX5_isPages a1 = 1 from (Eq.trans (if_neg c_2) (Eq.trans (if_neg c_9) rfl))).symm rfl dX5_isPages_17

def rmX5_ask : Room := { frames := 6, cells := 0, slots := 0, locals := 143 }
set_option maxHeartbeats 4000000 in
set_option maxRecDepth 100000 in
theorem mX5_ask (l : Launch) (D : va_G) (ck : Nat → ClassId) (ca : Nat → Nat → Nat) (C : CS) (a1 : Int32) (a2 : Int32) (a3 : Int32) (hz : ¬ C.2.1.1 < 0) (hn : ¬ C.1.2.1 0 < 0) : xMi l yX5_ask wsX5_ask rmX5_ask D ck [.ref (ca 0 0), .int a1, .int a2, .int a3] (clW ck ca C) (clW ck ca ((gX5_ask C a1 a2 a3).2)) ((gX5_ask C a1 a2 a3).1) 0 0 := by
  refine xMet (by decide) rfl (Nat.le_of_ble_eq_true rfl) ?_
  intro zp ze s zm zb zt zc hx hb hr hml hown hts hlk hnm hN hK hP hD ls hl
  have hown : s.vm.findClass RX5 = some zm.cls := hown
  have hl : lv_has ls 4 [(0, .ref (ca 0 0)), (1, .int a1), (2, .int a2), (3, .int a3)] := hl
  have hS : va_S (va_A (clW ck ca C) s.heap.size) s.heap s.heap [] := va_S.rf
  have hA : ∀ zq : Nat, s.heap.size ≤ zq → va_A (clW ck ca C) s.heap.size zq := fun zq h => Or.inr h
  have hinX5 : ∀ w ∈ u_ws RX5 TX5 7, w ∈ wsX5_ask := by decide +kernel
  refine lv_iload_n hx hb dX5_ask_0 rfl (lv_at hl 1 rfl) ?_
  refine lv_iload_n hx hb dX5_ask_1 rfl (lv_at hl 2 rfl) ?_
  refine lv_iload_n hx hb dX5_ask_2 rfl (lv_at hl 3 rfl) ?_
  refine xreti (va_runS (As := [.int a1, .int a2, .int a3]) (rest := []) ⟨hx, hb, hml, hown, hts⟩ (mX3_fits l D ck a1 a2 a3 _) (va_cwS 3 hts gX5_ask_X3_fits rfl rfl rfl (by decide +kernel) ⟨Nat.le_of_ble_eq_true rfl, Nat.le_of_ble_eq_true rfl⟩) (xpreS hN hK hP hD pm_none) rfl rfl hl.1 rfl (lv_room (Nat.le_of_ble_eq_true rfl)) dX5_ask_3 ⟨Nat.le_of_ble_eq_true rfl, Nat.le_of_ble_eq_true rfl⟩) hP hD hS hA pm_none pm_none (fun H locs hP hD hS => ?_)
  have hP : va_P D vwCl (clW ck ca C) H := hP
  have hD : va_D (va_A (clW ck ca C) s.heap.size) (clW ck ca C) := hD
  refine lv_if_ne (tgt := 12) hx hb dX5_ask_6 (by decide) (fun c_6 => ?_) (fun c_6 => ?_)
  · --t
    refine lv_aload_n hx hb dX5_ask_12 rfl (lv_at hl 0 rfl) ?_
    refine va_get (D := D) (ci := 5) (v := .ref (ca 1 0)) (C := RX5) (T := TX5) (N := 7) hx hb hts hinX5 hown hK hP 0 rfl rfl 0 (by decide) (hts (.fieldLink RX5 10 "JoinGrants" "pool" "LJoinGrants$Pool;") (List.mem_of_getElem? (i := 1) rfl)) (fun _ h9 => h9) rfl dX5_ask_13 ?_
    refine xreti (va_runV (As := []) (rest := []) ⟨hx, hb, hml, hown, hts⟩ (mX4_room l D ck (ca 1) C.1   _) (cwV 0 hts gX5_ask_X4_room rfl rfl rfl (by decide +kernel) ⟨Nat.le_of_ble_eq_true rfl, Nat.le_of_ble_eq_true rfl⟩) (xpreV hN hK hP hD (cm_P C) 0 rfl rfl rfl) rfl rfl hl.1 rfl (lv_room (Nat.le_of_ble_eq_true rfl)) dX5_ask_16 ⟨Nat.le_of_ble_eq_true rfl, Nat.le_of_ble_eq_true rfl⟩) hP hD hS hA (cm_P C) (cm_P C).symm (fun H locs hP hD hS => ?_)
    refine lv_iconst (v := 1) hx hb dX5_ask_19 (by decide) ?_
    refine lv_icmp_ge (tgt := 26) hx hb dX5_ask_20 (by decide) (fun c_20 => ?_) (fun c_20 => ?_)
    · --t
      refine lv_aload_n hx hb dX5_ask_26 rfl (lv_at hl 0 rfl) ?_
      refine va_get (D := D) (ci := 5) (v := .ref (ca 2 0)) (C := RX5) (T := TX5) (N := 7) hx hb hts hinX5 hown hK hP 0 rfl rfl 1 (by decide) (hts (.fieldLink RX5 19 "JoinGrants" "history" "LJoinGrants$History;") (List.mem_of_getElem? (i := 2) rfl)) (fun _ h9 => h9) rfl dX5_ask_27 ?_
      refine lv_aload_n hx hb dX5_ask_30 rfl (lv_at hl 0 rfl) ?_
      refine va_get (D := D) (ci := 5) (v := .ref (ca 1 0)) (C := RX5) (T := TX5) (N := 7) hx hb hts hinX5 hown hK hP 0 rfl rfl 0 (by decide) (hts (.fieldLink RX5 10 "JoinGrants" "pool" "LJoinGrants$Pool;") (List.mem_of_getElem? (i := 1) rfl)) (fun _ h9 => h9) rfl dX5_ask_31 ?_
      refine xretv (va_runV (As := [.ref (ca 1 0)]) (rest := []) ⟨hx, hb, hml, hown, hts⟩ (mX0_record l D ck (ca 2) (ca 1) C.2.1 C.1 hz _) (cwV 1 hts gX5_ask_X0_record rfl rfl rfl (by decide +kernel) ⟨Nat.le_of_ble_eq_true rfl, Nat.le_of_ble_eq_true rfl⟩) (xpreV hN hK hP hD (cm_H C) 0 rfl rfl rfl) rfl rfl hl.1 rfl (lv_room (Nat.le_of_ble_eq_true rfl)) dX5_ask_34 ⟨Nat.le_of_ble_eq_true rfl, Nat.le_of_ble_eq_true rfl⟩) hP hD hS hA (cm_H C) (cm_H' C) (fun H locs hP hD hS => ?_)
      have hP : va_P D vwCl (clW ck ca (C.1, (gX0_record C.2.1 C.1), C.2.2.1, C.2.2.2.1, C.2.2.2.2.1, C.2.2.2.2.2.1, C.2.2.2.2.2.2)) H := hP
      have hD : va_D (va_A (clW ck ca C) s.heap.size) (clW ck ca (C.1, (gX0_record C.2.1 C.1), C.2.2.1, C.2.2.2.1, C.2.2.2.2.1, C.2.2.2.2.2.1, C.2.2.2.2.2.2)) := hD
      refine lv_aload_n hx hb dX5_ask_37 rfl (lv_at hl 0 rfl) ?_
      refine va_get (D := D) (ci := 5) (v := .ref (ca 1 0)) (C := RX5) (T := TX5) (N := 7) hx hb hts hinX5 hown hK hP 0 rfl rfl 0 (by decide) (hts (.fieldLink RX5 10 "JoinGrants" "pool" "LJoinGrants$Pool;") (List.mem_of_getElem? (i := 1) rfl)) (fun _ h9 => h9) rfl dX5_ask_38 ?_
      refine lv_iload_n hx hb dX5_ask_41 rfl (lv_at hl 1 rfl) ?_
      refine lv_iload_n hx hb dX5_ask_42 rfl (lv_at hl 2 rfl) ?_
      refine lv_iload_n hx hb dX5_ask_43 rfl (lv_at hl 3 rfl) ?_
      refine xreti (va_runV (As := [.int a1, .int a2, .int a3]) (rest := []) ⟨hx, hb, hml, hown, hts⟩ (mX4_take l D ck (ca 1) C.1 a1 a2 a3 hn _) (cwV 3 hts gX5_ask_X4_take rfl rfl rfl (by decide +kernel) ⟨Nat.le_of_ble_eq_true rfl, Nat.le_of_ble_eq_true rfl⟩) (xpreV hN hK hP hD (cm_P (C.1, (gX0_record C.2.1 C.1), C.2.2.1, C.2.2.2.1, C.2.2.2.2.1, C.2.2.2.2.2.1, C.2.2.2.2.2.2)) 0 rfl rfl rfl) rfl rfl hl.1 rfl (lv_room (Nat.le_of_ble_eq_true rfl)) dX5_ask_44 ⟨Nat.le_of_ble_eq_true rfl, Nat.le_of_ble_eq_true rfl⟩) hP hD hS hA (cm_P (C.1, (gX0_record C.2.1 C.1), C.2.2.1, C.2.2.2.1, C.2.2.2.2.1, C.2.2.2.2.2.1, C.2.2.2.2.2.2)) (cm_P' (C.1, (gX0_record C.2.1 C.1), C.2.2.1, C.2.2.2.1, C.2.2.2.2.1, C.2.2.2.2.2.1, C.2.2.2.2.2.2)) (fun H locs hP hD hS => ?_)
      have hP : va_P D vwCl (clW ck ca ((gX4_take C.1 a1 a2 a3).2, (gX0_record C.2.1 C.1), C.2.2.1, C.2.2.2.1, C.2.2.2.2.1, C.2.2.2.2.2.1, C.2.2.2.2.2.2)) H := hP
      have hD : va_D (va_A (clW ck ca C) s.heap.size) (clW ck ca ((gX4_take C.1 a1 a2 a3).2, (gX0_record C.2.1 C.1), C.2.2.1, C.2.2.2.1, C.2.2.2.2.1, C.2.2.2.2.2.1, C.2.2.2.2.2.2)) := hD
      exact xiret hx hb hr hlk hP hD hS (congrArg (fun z => z.1) (show gX5_ask C a1 a2 a3 = ((gX4_take C.1 a1 a2 a3).1, ((gX4_take C.1 a1 a2 a3).2, (gX0_record C.2.1 C.1), C.2.2.1, C.2.2.2.1, C.2.2.2.2.1, C.2.2.2.2.2.1, C.2.2.2.2.2.2)) from (Eq.trans (if_neg c_6) (Eq.trans (if_pos c_20) rfl)))).symm (congrArg (fun z => clW ck ca z.2) (show gX5_ask C a1 a2 a3 = ((gX4_take C.1 a1 a2 a3).1, ((gX4_take C.1 a1 a2 a3).2, (gX0_record C.2.1 C.1), C.2.2.1, C.2.2.2.1, C.2.2.2.2.1, C.2.2.2.2.2.1, C.2.2.2.2.2.2)) from (Eq.trans (if_neg c_6) (Eq.trans (if_pos c_20) rfl)))).symm dX5_ask_47
    · --f
      refine lv_bipush (v := (-3)) hx hb dX5_ask_23 (by decide) ?_
      exact xiret hx hb hr hlk hP hD hS (congrArg (fun z => z.1) (show gX5_ask C a1 a2 a3 = ((-3), C) from (Eq.trans (if_neg c_6) (Eq.trans (if_neg c_20) rfl)))).symm (congrArg (fun z => clW ck ca z.2) (show gX5_ask C a1 a2 a3 = ((-3), C) from (Eq.trans (if_neg c_6) (Eq.trans (if_neg c_20) rfl)))).symm dX5_ask_25
  · --f
    refine lv_bipush (v := (-2)) hx hb dX5_ask_9 (by decide) ?_
    exact xiret hx hb hr hlk hP hD hS (congrArg (fun z => z.1) (show gX5_ask C a1 a2 a3 = ((-2), C) from (Eq.trans (if_pos c_6) rfl))).symm (congrArg (fun z => clW ck ca z.2) (show gX5_ask C a1 a2 a3 = ((-2), C) from (Eq.trans (if_pos c_6) rfl))).symm dX5_ask_11

def rmX5_askAll : Room := { frames := 6, cells := 0, slots := 0, locals := 143 }
set_option maxHeartbeats 4000000 in
set_option maxRecDepth 100000 in
theorem mX5_askAll (l : Launch) (D : va_G) (ck : Nat → ClassId) (ca : Nat → Nat → Nat) (C : CS) (hz : ¬ C.2.1.1 < 0) (hn : ¬ C.1.2.1 0 < 0) : xMi l yX5_askAll wsX5_askAll rmX5_askAll D ck [.ref (ca 0 0)] (clW ck ca C) (clW ck ca ((gX5_askAll C).2)) ((gX5_askAll C).1) 0 0 := by
  refine xMet (by decide) rfl (Nat.le_of_ble_eq_true rfl) ?_
  intro zp ze s zm zb zt zc hx hb hr hml hown hts hlk hnm hN hK hP hD ls hl
  have hown : s.vm.findClass RX5 = some zm.cls := hown
  have hl : lv_has ls 4 [(0, .ref (ca 0 0))] := hl
  have hS : va_S (va_A (clW ck ca C) s.heap.size) s.heap s.heap [] := va_S.rf
  have hA : ∀ zq : Nat, s.heap.size ≤ zq → va_A (clW ck ca C) s.heap.size zq := fun zq h => Or.inr h
  have hinX5 : ∀ w ∈ u_ws RX5 TX5 7, w ∈ wsX5_askAll := by decide +kernel
  refine lv_aload_n hx hb dX5_askAll_0 rfl (lv_at hl 0 rfl) ?_
  refine va_get (D := D) (ci := 5) (v := .ref (ca 3 0)) (C := RX5) (T := TX5) (N := 7) hx hb hts hinX5 hown hK hP 0 rfl rfl 2 (by decide) (hts (.fieldLink RX5 26 "JoinGrants" "text" "LJoinGrants$JoinText;") (List.mem_of_getElem? (i := 1) rfl)) (fun _ h9 => h9) rfl dX5_askAll_1 ?_
  refine xreti (va_runV (As := []) (rest := []) ⟨hx, hb, hml, hown, hts⟩ (mX2_read l D ck (ca 3) C.2.2.1   _) (cwV 0 hts gX5_askAll_X2_read rfl rfl rfl (by decide +kernel) ⟨Nat.le_of_ble_eq_true rfl, Nat.le_of_ble_eq_true rfl⟩) (xpreV hN hK hP hD (cm_T C) 0 rfl rfl rfl) rfl rfl hl.1 rfl (lv_room (Nat.le_of_ble_eq_true rfl)) dX5_askAll_4 ⟨Nat.le_of_ble_eq_true rfl, Nat.le_of_ble_eq_true rfl⟩) hP hD hS hA (cm_T C) (cm_T' C) (fun H locs hP hD hS => ?_)
  have hP : va_P D vwCl (clW ck ca (C.1, C.2.1, (gX2_read C.2.2.1 ).2, C.2.2.2.1, C.2.2.2.2.1, C.2.2.2.2.2.1, C.2.2.2.2.2.2)) H := hP
  have hD : va_D (va_A (clW ck ca C) s.heap.size) (clW ck ca (C.1, C.2.1, (gX2_read C.2.2.1 ).2, C.2.2.2.1, C.2.2.2.2.1, C.2.2.2.2.2.1, C.2.2.2.2.2.2)) := hD
  generalize hr_4 : gX2_read C.2.2.1 = r_4 at hP hD ⊢
  refine lv_istore_n (lv' := [(1, .int r_4.1), (0, .ref (ca 0 0))]) hx hb dX5_askAll_7 rfl hl (by decide) rfl (fun ls hl => ?_)
  refine lv_iload_n hx hb dX5_askAll_8 rfl (lv_at hl 0 rfl) ?_
  refine lv_iconst (v := (-1)) hx hb dX5_askAll_9 (by decide) ?_
  refine lv_icmp_eq (tgt := 18) hx hb dX5_askAll_10 (by decide) (fun c_10 => ?_) (fun c_10 => ?_)
  · --t
    refine lv_aload_n hx hb dX5_askAll_18 rfl (lv_at hl 1 rfl) ?_
    refine va_get (D := D) (ci := 5) (v := .ref (ca 3 0)) (C := RX5) (T := TX5) (N := 7) hx hb hts hinX5 hown hK hP 0 rfl rfl 2 (by decide) (hts (.fieldLink RX5 26 "JoinGrants" "text" "LJoinGrants$JoinText;") (List.mem_of_getElem? (i := 1) rfl)) (fun _ h9 => h9) rfl dX5_askAll_19 ?_
    refine xreti (va_runV (As := []) (rest := []) ⟨hx, hb, hml, hown, hts⟩ (mX2_joins l D ck (ca 3) r_4.2   _) (cwV 0 hts gX5_askAll_X2_joins rfl rfl rfl (by decide +kernel) ⟨Nat.le_of_ble_eq_true rfl, Nat.le_of_ble_eq_true rfl⟩) (xpreV hN hK hP hD (cm_T (C.1, C.2.1, r_4.2, C.2.2.2.1, C.2.2.2.2.1, C.2.2.2.2.2.1, C.2.2.2.2.2.2)) 0 rfl rfl rfl) rfl rfl hl.1 rfl (lv_room (Nat.le_of_ble_eq_true rfl)) dX5_askAll_22 ⟨Nat.le_of_ble_eq_true rfl, Nat.le_of_ble_eq_true rfl⟩) hP hD hS hA (cm_T (C.1, C.2.1, r_4.2, C.2.2.2.1, C.2.2.2.2.1, C.2.2.2.2.2.1, C.2.2.2.2.2.2)) (cm_T (C.1, C.2.1, r_4.2, C.2.2.2.1, C.2.2.2.2.1, C.2.2.2.2.2.1, C.2.2.2.2.2.2)).symm (fun H locs hP hD hS => ?_)
    refine lv_istore_n (lv' := [(2, .int (gX2_joins r_4.2 )), (1, .int r_4.1), (0, .ref (ca 0 0))]) hx hb dX5_askAll_25 rfl hl (by decide) rfl (fun ls hl => ?_)
    refine lv_iload_n hx hb dX5_askAll_26 rfl (lv_at hl 0 rfl) ?_
    refine lv_aload_n hx hb dX5_askAll_27 rfl (lv_at hl 2 rfl) ?_
    refine va_get (D := D) (ci := 5) (v := .ref (ca 1 0)) (C := RX5) (T := TX5) (N := 7) hx hb hts hinX5 hown hK hP 0 rfl rfl 0 (by decide) (hts (.fieldLink RX5 10 "JoinGrants" "pool" "LJoinGrants$Pool;") (List.mem_of_getElem? (i := 2) rfl)) (fun _ h9 => h9) rfl dX5_askAll_28 ?_
    refine xreti (va_runV (As := []) (rest := [.int (gX2_joins r_4.2 )]) ⟨hx, hb, hml, hown, hts⟩ (mX4_room l D ck (ca 1) C.1   _) (cwV 0 hts gX5_askAll_X4_room rfl rfl rfl (by decide +kernel) ⟨Nat.le_of_ble_eq_true rfl, Nat.le_of_ble_eq_true rfl⟩) (xpreV hN hK hP hD (cm_P (C.1, C.2.1, r_4.2, C.2.2.2.1, C.2.2.2.2.1, C.2.2.2.2.2.1, C.2.2.2.2.2.2)) 0 rfl rfl rfl) rfl rfl hl.1 rfl (lv_room (Nat.le_of_ble_eq_true rfl)) dX5_askAll_31 ⟨Nat.le_of_ble_eq_true rfl, Nat.le_of_ble_eq_true rfl⟩) hP hD hS hA (cm_P (C.1, C.2.1, r_4.2, C.2.2.2.1, C.2.2.2.2.1, C.2.2.2.2.2.1, C.2.2.2.2.2.2)) (cm_P (C.1, C.2.1, r_4.2, C.2.2.2.1, C.2.2.2.2.1, C.2.2.2.2.2.1, C.2.2.2.2.2.2)).symm (fun H locs hP hD hS => ?_)
    refine lv_icmp_le (tgt := 40) hx hb dX5_askAll_34 (by decide) (fun c_34 => ?_) (fun c_34 => ?_)
    · --t
      refine lv_aload_n hx hb dX5_askAll_40 rfl (lv_at hl 2 rfl) ?_
      refine va_get (D := D) (ci := 5) (v := .ref (ca 2 0)) (C := RX5) (T := TX5) (N := 7) hx hb hts hinX5 hown hK hP 0 rfl rfl 1 (by decide) (hts (.fieldLink RX5 19 "JoinGrants" "history" "LJoinGrants$History;") (List.mem_of_getElem? (i := 3) rfl)) (fun _ h9 => h9) rfl dX5_askAll_41 ?_
      refine lv_aload_n hx hb dX5_askAll_44 rfl (lv_at hl 2 rfl) ?_
      refine va_get (D := D) (ci := 5) (v := .ref (ca 1 0)) (C := RX5) (T := TX5) (N := 7) hx hb hts hinX5 hown hK hP 0 rfl rfl 0 (by decide) (hts (.fieldLink RX5 10 "JoinGrants" "pool" "LJoinGrants$Pool;") (List.mem_of_getElem? (i := 2) rfl)) (fun _ h9 => h9) rfl dX5_askAll_45 ?_
      refine xretv (va_runV (As := [.ref (ca 1 0)]) (rest := []) ⟨hx, hb, hml, hown, hts⟩ (mX0_record l D ck (ca 2) (ca 1) C.2.1 C.1 hz _) (cwV 1 hts gX5_askAll_X0_record rfl rfl rfl (by decide +kernel) ⟨Nat.le_of_ble_eq_true rfl, Nat.le_of_ble_eq_true rfl⟩) (xpreV hN hK hP hD (cm_H (C.1, C.2.1, r_4.2, C.2.2.2.1, C.2.2.2.2.1, C.2.2.2.2.2.1, C.2.2.2.2.2.2)) 0 rfl rfl rfl) rfl rfl hl.1 rfl (lv_room (Nat.le_of_ble_eq_true rfl)) dX5_askAll_48 ⟨Nat.le_of_ble_eq_true rfl, Nat.le_of_ble_eq_true rfl⟩) hP hD hS hA (cm_H (C.1, C.2.1, r_4.2, C.2.2.2.1, C.2.2.2.2.1, C.2.2.2.2.2.1, C.2.2.2.2.2.2)) (cm_H' (C.1, C.2.1, r_4.2, C.2.2.2.1, C.2.2.2.2.1, C.2.2.2.2.2.1, C.2.2.2.2.2.2)) (fun H locs hP hD hS => ?_)
      have hP : va_P D vwCl (clW ck ca (C.1, (gX0_record C.2.1 C.1), r_4.2, C.2.2.2.1, C.2.2.2.2.1, C.2.2.2.2.2.1, C.2.2.2.2.2.2)) H := hP
      have hD : va_D (va_A (clW ck ca C) s.heap.size) (clW ck ca (C.1, (gX0_record C.2.1 C.1), r_4.2, C.2.2.2.1, C.2.2.2.2.1, C.2.2.2.2.2.1, C.2.2.2.2.2.2)) := hD
      refine lv_iconst (v := (nI 0)) hx hb dX5_askAll_51 (by decide) ?_
      refine lv_istore_n (lv' := [(3, .int (nI 0)), (2, .int (gX2_joins r_4.2 )), (1, .int r_4.1), (0, .ref (ca 0 0))]) hx hb dX5_askAll_52 rfl hl (by decide) rfl (fun ls hl => ?_)
      have loop53 : ∀ (fu : Nat) (i : Nat) (x2 : Int32) (C1 : CS), (i + fu = x2.toNatClampNeg) → (¬ C1.1.2.1 0 < 0) → gX5_askAll C = gX5_askAll_L53 C fu i x2 C1 → ∀ (H : Heap) (locs : List Loc) (ls : Array Slot), va_P D vwCl (clW ck ca C1) H → va_D (va_A (clW ck ca C) s.heap.size) (clW ck ca C1) → va_S (va_A (clW ck ca C) s.heap.size) s.heap H locs → lv_has ls 4 [(0, .ref (ca 0 0)), (2, .int x2), (3, .int (nI i))] → W zp l ze rmX5_askAll s zm ([.ref (ca 0 0)] : List Value).toArray zb zt zc H locs 0 0 (MQ zb (xQi D (clW ck ca C) (clW ck ca ((gX5_askAll C).2)) ((gX5_askAll C).1) s.heap.size) ([.ref (ca 0 0)] : List Value).toArray s 0 0 (va_A (clW ck ca C) s.heap.size)) (F0 zm 53 ls []) := by
        intro fu
        induction fu with
        | zero =>
          intro i x2 C1 hif hn hg H locs ls hP hD hS hl
          refine lv_iload_n hx hb dX5_askAll_53 rfl (lv_at hl 2 rfl) ?_
          refine lv_iload_n hx hb dX5_askAll_54 rfl (lv_at hl 1 rfl) ?_
          refine lv_icmp_ge (tgt := 96) hx hb dX5_askAll_55 (by decide) (fun c_55 => ?_) (fun c_55 => ?_)
          · --t
            refine lv_iload_n hx hb dX5_askAll_96 rfl (lv_at hl 1 rfl) ?_
            exact xiret hx hb hr hlk hP hD hS (congrArg (fun z => z.1) (hg.trans (show gX5_askAll_L53 C 0 i x2 C1 = (x2, C1) from rfl))).symm (congrArg (fun z => clW ck ca z.2) (hg.trans (show gX5_askAll_L53 C 0 i x2 C1 = (x2, C1) from rfl))).symm dX5_askAll_97
          · --f
            exact absurd (cl_le (by omega) (by have := x_clt (x := x2); omega)) c_55
        | succ fu ih53 =>
          intro i x2 C1 hif hn hg H locs ls hP hD hS hl
          refine lv_iload_n hx hb dX5_askAll_53 rfl (lv_at hl 2 rfl) ?_
          refine lv_iload_n hx hb dX5_askAll_54 rfl (lv_at hl 1 rfl) ?_
          refine lv_icmp_ge (tgt := 96) hx hb dX5_askAll_55 (by decide) (fun c_55 => ?_) (fun c_55 => ?_)
          · --t
            exact absurd c_55 (cl_lt (by omega))
          · --f
            refine lv_aload_n hx hb dX5_askAll_58 rfl (lv_at hl 0 rfl) ?_
            refine va_get (D := D) (ci := 5) (v := .ref (ca 1 0)) (C := RX5) (T := TX5) (N := 7) hx hb hts hinX5 hown hK hP 0 rfl rfl 0 (by decide) (hts (.fieldLink RX5 10 "JoinGrants" "pool" "LJoinGrants$Pool;") (List.mem_of_getElem? (i := 2) rfl)) (fun _ h9 => h9) rfl dX5_askAll_59 ?_
            refine lv_aload_n hx hb dX5_askAll_62 rfl (lv_at hl 0 rfl) ?_
            refine va_get (D := D) (ci := 5) (v := .ref (ca 3 0)) (C := RX5) (T := TX5) (N := 7) hx hb hts hinX5 hown hK hP 0 rfl rfl 2 (by decide) (hts (.fieldLink RX5 26 "JoinGrants" "text" "LJoinGrants$JoinText;") (List.mem_of_getElem? (i := 1) rfl)) (fun _ h9 => h9) rfl dX5_askAll_63 ?_
            refine lv_iload_n hx hb dX5_askAll_66 rfl (lv_at hl 2 rfl) ?_
            refine xreti (va_runV (As := [.int (nI i)]) (rest := [.ref (ca 1 0)]) ⟨hx, hb, hml, hown, hts⟩ (mX2_wayOf l D ck (ca 3) C1.2.2.1 (nI i)  _) (cwV 1 hts gX5_askAll_X2_wayOf rfl rfl rfl (by decide +kernel) ⟨Nat.le_of_ble_eq_true rfl, Nat.le_of_ble_eq_true rfl⟩) (xpreV hN hK hP hD (cm_T C1) 0 rfl rfl rfl) rfl rfl hl.1 rfl (lv_room (Nat.le_of_ble_eq_true rfl)) dX5_askAll_67 ⟨Nat.le_of_ble_eq_true rfl, Nat.le_of_ble_eq_true rfl⟩) hP hD hS hA (cm_T C1) (cm_T C1).symm (fun H locs hP hD hS => ?_)
            refine lv_aload_n hx hb dX5_askAll_70 rfl (lv_at hl 0 rfl) ?_
            refine va_get (D := D) (ci := 5) (v := .ref (ca 3 0)) (C := RX5) (T := TX5) (N := 7) hx hb hts hinX5 hown hK hP 0 rfl rfl 2 (by decide) (hts (.fieldLink RX5 26 "JoinGrants" "text" "LJoinGrants$JoinText;") (List.mem_of_getElem? (i := 1) rfl)) (fun _ h9 => h9) rfl dX5_askAll_71 ?_
            refine lv_iload_n hx hb dX5_askAll_74 rfl (lv_at hl 2 rfl) ?_
            refine xreti (va_runV (As := [.int (nI i)]) (rest := [.int (gX2_wayOf C1.2.2.1 (nI i)), .ref (ca 1 0)]) ⟨hx, hb, hml, hown, hts⟩ (mX2_leftOf l D ck (ca 3) C1.2.2.1 (nI i)  _) (cwV 1 hts gX5_askAll_X2_leftOf rfl rfl rfl (by decide +kernel) ⟨Nat.le_of_ble_eq_true rfl, Nat.le_of_ble_eq_true rfl⟩) (xpreV hN hK hP hD (cm_T C1) 0 rfl rfl rfl) rfl rfl hl.1 rfl (lv_room (Nat.le_of_ble_eq_true rfl)) dX5_askAll_75 ⟨Nat.le_of_ble_eq_true rfl, Nat.le_of_ble_eq_true rfl⟩) hP hD hS hA (cm_T C1) (cm_T C1).symm (fun H locs hP hD hS => ?_)
            refine lv_aload_n hx hb dX5_askAll_78 rfl (lv_at hl 0 rfl) ?_
            refine va_get (D := D) (ci := 5) (v := .ref (ca 3 0)) (C := RX5) (T := TX5) (N := 7) hx hb hts hinX5 hown hK hP 0 rfl rfl 2 (by decide) (hts (.fieldLink RX5 26 "JoinGrants" "text" "LJoinGrants$JoinText;") (List.mem_of_getElem? (i := 1) rfl)) (fun _ h9 => h9) rfl dX5_askAll_79 ?_
            refine lv_iload_n hx hb dX5_askAll_82 rfl (lv_at hl 2 rfl) ?_
            refine xreti (va_runV (As := [.int (nI i)]) (rest := [.int (gX2_leftOf C1.2.2.1 (nI i)), .int (gX2_wayOf C1.2.2.1 (nI i)), .ref (ca 1 0)]) ⟨hx, hb, hml, hown, hts⟩ (mX2_rightOf l D ck (ca 3) C1.2.2.1 (nI i)  _) (cwV 1 hts gX5_askAll_X2_rightOf rfl rfl rfl (by decide +kernel) ⟨Nat.le_of_ble_eq_true rfl, Nat.le_of_ble_eq_true rfl⟩) (xpreV hN hK hP hD (cm_T C1) 0 rfl rfl rfl) rfl rfl hl.1 rfl (lv_room (Nat.le_of_ble_eq_true rfl)) dX5_askAll_83 ⟨Nat.le_of_ble_eq_true rfl, Nat.le_of_ble_eq_true rfl⟩) hP hD hS hA (cm_T C1) (cm_T C1).symm (fun H locs hP hD hS => ?_)
            refine xreti (va_runV (As := [.int (gX2_wayOf C1.2.2.1 (nI i)), .int (gX2_leftOf C1.2.2.1 (nI i)), .int (gX2_rightOf C1.2.2.1 (nI i))]) (rest := []) ⟨hx, hb, hml, hown, hts⟩ (mX4_take l D ck (ca 1) C1.1 (gX2_wayOf C1.2.2.1 (nI i)) (gX2_leftOf C1.2.2.1 (nI i)) (gX2_rightOf C1.2.2.1 (nI i)) hn _) (cwV 3 hts gX5_askAll_X4_take rfl rfl rfl (by decide +kernel) ⟨Nat.le_of_ble_eq_true rfl, Nat.le_of_ble_eq_true rfl⟩) (xpreV hN hK hP hD (cm_P C1) 0 rfl rfl rfl) rfl rfl hl.1 rfl (lv_room (Nat.le_of_ble_eq_true rfl)) dX5_askAll_86 ⟨Nat.le_of_ble_eq_true rfl, Nat.le_of_ble_eq_true rfl⟩) hP hD hS hA (cm_P C1) (cm_P' C1) (fun H locs hP hD hS => ?_)
            have hP : va_P D vwCl (clW ck ca ((gX4_take C1.1 (gX2_wayOf C1.2.2.1 (nI i)) (gX2_leftOf C1.2.2.1 (nI i)) (gX2_rightOf C1.2.2.1 (nI i))).2, C1.2.1, C1.2.2.1, C1.2.2.2.1, C1.2.2.2.2.1, C1.2.2.2.2.2.1, C1.2.2.2.2.2.2)) H := hP
            have hD : va_D (va_A (clW ck ca C) s.heap.size) (clW ck ca ((gX4_take C1.1 (gX2_wayOf C1.2.2.1 (nI i)) (gX2_leftOf C1.2.2.1 (nI i)) (gX2_rightOf C1.2.2.1 (nI i))).2, C1.2.1, C1.2.2.1, C1.2.2.2.1, C1.2.2.2.2.1, C1.2.2.2.2.2.1, C1.2.2.2.2.2.2)) := hD
            refine lv_pop hx hb dX5_askAll_89 rfl ?_
            refine lv_iinc (v := (nI (i + 1))) (lv' := [(3, .int (nI (i + 1))), (0, .ref (ca 0 0)), (2, .int x2)]) hx hb dX5_askAll_90 hl (k := 2) rfl (nI_1 i) (by decide) rfl (fun ls hl => ?_)
            refine lv_goto (tgt := 53) hx hb dX5_askAll_93 (by decide) ?_
            exact ih53 (i + 1) x2 ((gX4_take C1.1 (gX2_wayOf C1.2.2.1 (nI i)) (gX2_leftOf C1.2.2.1 (nI i)) (gX2_rightOf C1.2.2.1 (nI i))).2, C1.2.1, C1.2.2.1, C1.2.2.2.1, C1.2.2.2.2.1, C1.2.2.2.2.2.1, C1.2.2.2.2.2.2) (by omega) (nn_X4_take hn) (hg.trans (show gX5_askAll_L53 C (fu + 1) i x2 C1 = (gX5_askAll_L53 C fu (i + 1) x2 ((gX4_take C1.1 (gX2_wayOf C1.2.2.1 (nI i)) (gX2_leftOf C1.2.2.1 (nI i)) (gX2_rightOf C1.2.2.1 (nI i))).2, C1.2.1, C1.2.2.1, C1.2.2.2.1, C1.2.2.2.2.1, C1.2.2.2.2.2.1, C1.2.2.2.2.2.2)) from rfl)) _ _ _ hP hD hS (lv_sub hl [1, 2, 0] rfl)
      have he9 : gX5_askAll C = (gX5_askAll_L53 C ((gX2_joins r_4.2).toNatClampNeg) 0 (gX2_joins r_4.2 ) (C.1, (gX0_record C.2.1 C.1), r_4.2, C.2.2.2.1, C.2.2.2.2.1, C.2.2.2.2.2.1, C.2.2.2.2.2.2)) := by
        subst hr_4
        rw [gX5_askAll, if_pos c_10, if_pos c_34]
      exact loop53 ((gX2_joins r_4.2).toNatClampNeg) 0 (gX2_joins r_4.2 ) (C.1, (gX0_record C.2.1 C.1), r_4.2, C.2.2.2.1, C.2.2.2.2.1, C.2.2.2.2.2.1, C.2.2.2.2.2.2) (by omega) hn he9 _ _ _ hP hD hS (lv_sub hl [3, 1, 0] rfl)
    · --f
      refine lv_bipush (v := (-3)) hx hb dX5_askAll_37 (by decide) ?_
      subst hr_4
      have hg9 : gX5_askAll C = ((-3), (C.1, C.2.1, (gX2_read C.2.2.1).2, C.2.2.2.1, C.2.2.2.2.1, C.2.2.2.2.2.1, C.2.2.2.2.2.2)) := by rw [gX5_askAll, if_pos c_10, if_neg c_34]
      have hv9 : (-3) = (gX5_askAll C).1 := by rw [hg9]
      have hw9 : clW ck ca (C.1, C.2.1, (gX2_read C.2.2.1).2, C.2.2.2.1, C.2.2.2.2.1, C.2.2.2.2.2.1, C.2.2.2.2.2.2) = clW ck ca ((gX5_askAll C).2) := by rw [hg9]
      exact xiret hx hb hr hlk hP hD hS hv9 hw9 dX5_askAll_39
  · --f
    refine lv_bipush (v := (-100)) hx hb dX5_askAll_13 (by decide) ?_
    refine lv_iload_n hx hb dX5_askAll_15 rfl (lv_at hl 0 rfl) ?_
    refine lv_isub hx hb dX5_askAll_16 ?_
    subst hr_4
    have hg9 : gX5_askAll C = (((-100) - (gX2_read C.2.2.1).1), (C.1, C.2.1, (gX2_read C.2.2.1).2, C.2.2.2.1, C.2.2.2.2.1, C.2.2.2.2.2.1, C.2.2.2.2.2.2)) := by rw [gX5_askAll, if_neg c_10]
    have hv9 : ((-100) - (gX2_read C.2.2.1).1) = (gX5_askAll C).1 := by rw [hg9]
    have hw9 : clW ck ca (C.1, C.2.1, (gX2_read C.2.2.1).2, C.2.2.2.1, C.2.2.2.2.1, C.2.2.2.2.2.1, C.2.2.2.2.2.2) = clW ck ca ((gX5_askAll C).2) := by rw [hg9]
    exact xiret hx hb hr hlk hP hD hS hv9 hw9 dX5_askAll_17

def rmX5_cancel : Room := { frames := 5, cells := 0, slots := 0, locals := 119 }
set_option maxHeartbeats 4000000 in
set_option maxRecDepth 100000 in
theorem mX5_cancel (l : Launch) (D : va_G) (ck : Nat → ClassId) (ca : Nat → Nat → Nat) (C : CS) (a1 : Int32) (hz : ¬ C.2.1.1 < 0) : xMi l yX5_cancel wsX5_cancel rmX5_cancel D ck [.ref (ca 0 0), .int a1] (clW ck ca C) (clW ck ca ((gX5_cancel C a1).2)) ((gX5_cancel C a1).1) 0 0 := by
  refine xMet (by decide) rfl (Nat.le_of_ble_eq_true rfl) ?_
  intro zp ze s zm zb zt zc hx hb hr hml hown hts hlk hnm hN hK hP hD ls hl
  have hown : s.vm.findClass RX5 = some zm.cls := hown
  have hl : lv_has ls 4 [(0, .ref (ca 0 0)), (1, .int a1)] := hl
  have hS : va_S (va_A (clW ck ca C) s.heap.size) s.heap s.heap [] := va_S.rf
  have hA : ∀ zq : Nat, s.heap.size ≤ zq → va_A (clW ck ca C) s.heap.size zq := fun zq h => Or.inr h
  have hinX5 : ∀ w ∈ u_ws RX5 TX5 7, w ∈ wsX5_cancel := by decide +kernel
  refine lv_aload_n hx hb dX5_cancel_0 rfl (lv_at hl 0 rfl) ?_
  refine va_get (D := D) (ci := 5) (v := .ref (ca 1 0)) (C := RX5) (T := TX5) (N := 7) hx hb hts hinX5 hown hK hP 0 rfl rfl 0 (by decide) (hts (.fieldLink RX5 10 "JoinGrants" "pool" "LJoinGrants$Pool;") (List.mem_of_getElem? (i := 1) rfl)) (fun _ h9 => h9) rfl dX5_cancel_1 ?_
  refine lv_iload_n hx hb dX5_cancel_4 rfl (lv_at hl 1 rfl) ?_
  refine xretq (va_runV (As := [.int a1]) (rest := []) ⟨hx, hb, hml, hown, hts⟩ (mX4_find l D ck (ca 1) C.1 a1  _) (cwV 1 hts gX5_cancel_X4_find rfl rfl rfl (by decide +kernel) ⟨Nat.le_of_ble_eq_true rfl, Nat.le_of_ble_eq_true rfl⟩) (xpreV hN hK hP hD (cm_P C) 0 rfl rfl rfl) rfl rfl hl.1 rfl (lv_room (Nat.le_of_ble_eq_true rfl)) dX5_cancel_5 ⟨Nat.le_of_ble_eq_true rfl, Nat.le_of_ble_eq_true rfl⟩) hP hD hS hA (cm_P C) (cm_P C).symm (fun H locs hP hD hS => ?_)
  by_cases cq_5 : (gX4_find C.1 a1) = none
  ·
    rw [xrf_none cq_5]
    refine lv_astore_nN (lv' := [(2, .null), (0, .ref (ca 0 0)), (1, .int a1)]) hx hb dX5_cancel_8 rfl hl (by decide) rfl (fun ls hl => ?_)
    refine lv_aload_nN hx hb dX5_cancel_9 rfl (lv_at hl 0 rfl) ?_
    refine lv_ifnonnullN hx hb dX5_cancel_10 ?_
    refine lv_iconst (v := (-1)) hx hb dX5_cancel_13 (by decide) ?_
    exact xiret hx hb hr hlk hP hD hS (congrArg (fun z => z.1) (show gX5_cancel C a1 = ((-1), C) from (Eq.trans (if_pos cq_5) rfl))).symm (congrArg (fun z => clW ck ca z.2) (show gX5_cancel C a1 = ((-1), C) from (Eq.trans (if_pos cq_5) rfl))).symm dX5_cancel_14
  ·
    rw [xrf_some cq_5]
    have hlt_5 : ((gX4_find C.1 a1)).getD 0 < 16 := lt_X4_find cq_5
    refine lv_astore_n (lv' := [(2, .ref (jA (ca 1) ((gX4_find C.1 a1).getD 0))), (0, .ref (ca 0 0)), (1, .int a1)]) hx hb dX5_cancel_8 rfl hl (by decide) rfl (fun ls hl => ?_)
    refine lv_aload_n hx hb dX5_cancel_9 rfl (lv_at hl 0 rfl) ?_
    refine lv_ifnonnull (tgt := 15) hx hb dX5_cancel_10 (by decide) ?_
    refine lv_aload_n hx hb dX5_cancel_15 rfl (lv_at hl 0 rfl) ?_
    refine lv_iconst (v := 0) hx hb dX5_cancel_16 (by decide) ?_
    refine xreti (va_runV (As := [.int 0]) (rest := []) ⟨hx, hb, hml, hown, hts⟩ (mX1_isIn l D ck (jA (ca 1) ((gX4_find C.1 a1).getD 0)) (qA (ca 1) ((gX4_find C.1 a1).getD 0)) (nI ((gX4_find C.1 a1).getD 0)) (C.1.2.2 ((gX4_find C.1 a1).getD 0)) 0 _) (cwV 1 hts gX5_cancel_X1_isIn rfl rfl rfl (by decide +kernel) ⟨Nat.le_of_ble_eq_true rfl, Nat.le_of_ble_eq_true rfl⟩) (xpreV hN hK hP hD (cm_J C (by omega)) 0 rfl rfl rfl) rfl rfl hl.1 rfl (lv_room (Nat.le_of_ble_eq_true rfl)) dX5_cancel_17 ⟨Nat.le_of_ble_eq_true rfl, Nat.le_of_ble_eq_true rfl⟩) hP hD hS hA (cm_J C (by omega)) (cm_J C (by omega)).symm (fun H locs hP hD hS => ?_)
    refine lv_if_ne (tgt := 34) hx hb dX5_cancel_20 (by decide) (fun c_20 => ?_) (fun c_20 => ?_)
    · --t
      refine lv_aload_n hx hb dX5_cancel_34 rfl (lv_at hl 1 rfl) ?_
      refine va_get (D := D) (ci := 5) (v := .ref (ca 2 0)) (C := RX5) (T := TX5) (N := 7) hx hb hts hinX5 hown hK hP 0 rfl rfl 1 (by decide) (hts (.fieldLink RX5 19 "JoinGrants" "history" "LJoinGrants$History;") (List.mem_of_getElem? (i := 2) rfl)) (fun _ h9 => h9) rfl dX5_cancel_35 ?_
      refine lv_aload_n hx hb dX5_cancel_38 rfl (lv_at hl 1 rfl) ?_
      refine va_get (D := D) (ci := 5) (v := .ref (ca 1 0)) (C := RX5) (T := TX5) (N := 7) hx hb hts hinX5 hown hK hP 0 rfl rfl 0 (by decide) (hts (.fieldLink RX5 10 "JoinGrants" "pool" "LJoinGrants$Pool;") (List.mem_of_getElem? (i := 1) rfl)) (fun _ h9 => h9) rfl dX5_cancel_39 ?_
      refine xretv (va_runV (As := [.ref (ca 1 0)]) (rest := []) ⟨hx, hb, hml, hown, hts⟩ (mX0_record l D ck (ca 2) (ca 1) C.2.1 C.1 hz _) (cwV 1 hts gX5_cancel_X0_record rfl rfl rfl (by decide +kernel) ⟨Nat.le_of_ble_eq_true rfl, Nat.le_of_ble_eq_true rfl⟩) (xpreV hN hK hP hD (cm_H C) 0 rfl rfl rfl) rfl rfl hl.1 rfl (lv_room (Nat.le_of_ble_eq_true rfl)) dX5_cancel_42 ⟨Nat.le_of_ble_eq_true rfl, Nat.le_of_ble_eq_true rfl⟩) hP hD hS hA (cm_H C) (cm_H' C) (fun H locs hP hD hS => ?_)
      have hP : va_P D vwCl (clW ck ca (C.1, (gX0_record C.2.1 C.1), C.2.2.1, C.2.2.2.1, C.2.2.2.2.1, C.2.2.2.2.2.1, C.2.2.2.2.2.2)) H := hP
      have hD : va_D (va_A (clW ck ca C) s.heap.size) (clW ck ca (C.1, (gX0_record C.2.1 C.1), C.2.2.1, C.2.2.2.1, C.2.2.2.2.1, C.2.2.2.2.2.1, C.2.2.2.2.2.2)) := hD
      refine lv_aload_n hx hb dX5_cancel_45 rfl (lv_at hl 0 rfl) ?_
      refine xreti (va_runV (As := []) (rest := []) ⟨hx, hb, hml, hown, hts⟩ (mX1_pages l D ck (jA (ca 1) ((gX4_find C.1 a1).getD 0)) (qA (ca 1) ((gX4_find C.1 a1).getD 0)) (nI ((gX4_find C.1 a1).getD 0)) (C.1.2.2 ((gX4_find C.1 a1).getD 0))  _) (cwV 0 hts gX5_cancel_X1_pages rfl rfl rfl (by decide +kernel) ⟨Nat.le_of_ble_eq_true rfl, Nat.le_of_ble_eq_true rfl⟩) (xpreV hN hK hP hD (cm_J (C.1, (gX0_record C.2.1 C.1), C.2.2.1, C.2.2.2.1, C.2.2.2.2.1, C.2.2.2.2.2.1, C.2.2.2.2.2.2) (by omega)) 0 rfl rfl rfl) rfl rfl hl.1 rfl (lv_room (Nat.le_of_ble_eq_true rfl)) dX5_cancel_46 ⟨Nat.le_of_ble_eq_true rfl, Nat.le_of_ble_eq_true rfl⟩) hP hD hS hA (cm_J (C.1, (gX0_record C.2.1 C.1), C.2.2.1, C.2.2.2.1, C.2.2.2.2.1, C.2.2.2.2.2.1, C.2.2.2.2.2.2) (by omega)) (cm_J (C.1, (gX0_record C.2.1 C.1), C.2.2.1, C.2.2.2.1, C.2.2.2.2.1, C.2.2.2.2.2.1, C.2.2.2.2.2.2) (by omega)).symm (fun H locs hP hD hS => ?_)
      refine lv_istore_n (lv' := [(3, .int (gX1_pages (nI ((gX4_find C.1 a1).getD 0)) (C.1.2.2 ((gX4_find C.1 a1).getD 0)) )), (2, .ref (jA (ca 1) ((gX4_find C.1 a1).getD 0))), (0, .ref (ca 0 0)), (1, .int a1)]) hx hb dX5_cancel_49 rfl hl (by decide) rfl (fun ls hl => ?_)
      refine lv_aload_n hx hb dX5_cancel_50 rfl (lv_at hl 1 rfl) ?_
      refine lv_iconst (v := 3) hx hb dX5_cancel_51 (by decide) ?_
      refine xretv (va_runV (As := [.int 3]) (rest := []) ⟨hx, hb, hml, hown, hts⟩ (mX1_end l D ck (jA (ca 1) ((gX4_find C.1 a1).getD 0)) (qA (ca 1) ((gX4_find C.1 a1).getD 0)) (nI ((gX4_find C.1 a1).getD 0)) (C.1.2.2 ((gX4_find C.1 a1).getD 0)) 3 _) (cwV 1 hts gX5_cancel_X1_end rfl rfl rfl (by decide +kernel) ⟨Nat.le_of_ble_eq_true rfl, Nat.le_of_ble_eq_true rfl⟩) (xpreV hN hK hP hD (cm_J (C.1, (gX0_record C.2.1 C.1), C.2.2.1, C.2.2.2.1, C.2.2.2.2.1, C.2.2.2.2.2.1, C.2.2.2.2.2.2) (by omega)) 0 rfl rfl rfl) rfl rfl hl.1 rfl (lv_room (Nat.le_of_ble_eq_true rfl)) dX5_cancel_52 ⟨Nat.le_of_ble_eq_true rfl, Nat.le_of_ble_eq_true rfl⟩) hP hD hS hA (cm_J (C.1, (gX0_record C.2.1 C.1), C.2.2.1, C.2.2.2.1, C.2.2.2.2.1, C.2.2.2.2.2.1, C.2.2.2.2.2.2) (by omega)) (cm_J' (C.1, (gX0_record C.2.1 C.1), C.2.2.1, C.2.2.2.1, C.2.2.2.2.1, C.2.2.2.2.2.1, C.2.2.2.2.2.2) (by omega)) (fun H locs hP hD hS => ?_)
      have hP : va_P D vwCl (clW ck ca ((C.1.1, C.1.2.1, va_up C.1.2.2 ((gX4_find C.1 a1).getD 0) (gX1_end (nI ((gX4_find C.1 a1).getD 0)) (C.1.2.2 ((gX4_find C.1 a1).getD 0)) 3)), (gX0_record C.2.1 C.1), C.2.2.1, C.2.2.2.1, C.2.2.2.2.1, C.2.2.2.2.2.1, C.2.2.2.2.2.2)) H := hP
      have hD : va_D (va_A (clW ck ca C) s.heap.size) (clW ck ca ((C.1.1, C.1.2.1, va_up C.1.2.2 ((gX4_find C.1 a1).getD 0) (gX1_end (nI ((gX4_find C.1 a1).getD 0)) (C.1.2.2 ((gX4_find C.1 a1).getD 0)) 3)), (gX0_record C.2.1 C.1), C.2.2.1, C.2.2.2.1, C.2.2.2.2.1, C.2.2.2.2.2.1, C.2.2.2.2.2.2)) := hD
      refine lv_aload_n hx hb dX5_cancel_55 rfl (lv_at hl 2 rfl) ?_
      refine va_get (D := D) (ci := 5) (v := .ref (ca 1 0)) (C := RX5) (T := TX5) (N := 7) hx hb hts hinX5 hown hK hP 0 rfl rfl 0 (by decide) (hts (.fieldLink RX5 10 "JoinGrants" "pool" "LJoinGrants$Pool;") (List.mem_of_getElem? (i := 1) rfl)) (fun _ h9 => h9) rfl dX5_cancel_56 ?_
      refine xretv (va_runV (As := []) (rest := []) ⟨hx, hb, hml, hown, hts⟩ (mX4_goThroughQueue l D ck (ca 1) (C.1.1, C.1.2.1, va_up C.1.2.2 ((gX4_find C.1 a1).getD 0) (gX1_end (nI ((gX4_find C.1 a1).getD 0)) (C.1.2.2 ((gX4_find C.1 a1).getD 0)) 3))   _) (cwV 0 hts gX5_cancel_X4_goThroughQueue rfl rfl rfl (by decide +kernel) ⟨Nat.le_of_ble_eq_true rfl, Nat.le_of_ble_eq_true rfl⟩) (xpreV hN hK hP hD (cm_P ((C.1.1, C.1.2.1, va_up C.1.2.2 ((gX4_find C.1 a1).getD 0) (gX1_end (nI ((gX4_find C.1 a1).getD 0)) (C.1.2.2 ((gX4_find C.1 a1).getD 0)) 3)), (gX0_record C.2.1 C.1), C.2.2.1, C.2.2.2.1, C.2.2.2.2.1, C.2.2.2.2.2.1, C.2.2.2.2.2.2)) 0 rfl rfl rfl) rfl rfl hl.1 rfl (lv_room (Nat.le_of_ble_eq_true rfl)) dX5_cancel_59 ⟨Nat.le_of_ble_eq_true rfl, Nat.le_of_ble_eq_true rfl⟩) hP hD hS hA (cm_P ((C.1.1, C.1.2.1, va_up C.1.2.2 ((gX4_find C.1 a1).getD 0) (gX1_end (nI ((gX4_find C.1 a1).getD 0)) (C.1.2.2 ((gX4_find C.1 a1).getD 0)) 3)), (gX0_record C.2.1 C.1), C.2.2.1, C.2.2.2.1, C.2.2.2.2.1, C.2.2.2.2.2.1, C.2.2.2.2.2.2)) (cm_P' ((C.1.1, C.1.2.1, va_up C.1.2.2 ((gX4_find C.1 a1).getD 0) (gX1_end (nI ((gX4_find C.1 a1).getD 0)) (C.1.2.2 ((gX4_find C.1 a1).getD 0)) 3)), (gX0_record C.2.1 C.1), C.2.2.1, C.2.2.2.1, C.2.2.2.2.1, C.2.2.2.2.2.1, C.2.2.2.2.2.2)) (fun H locs hP hD hS => ?_)
      have hP : va_P D vwCl (clW ck ca ((gX4_goThroughQueue (C.1.1, C.1.2.1, va_up C.1.2.2 ((gX4_find C.1 a1).getD 0) (gX1_end (nI ((gX4_find C.1 a1).getD 0)) (C.1.2.2 ((gX4_find C.1 a1).getD 0)) 3)) ), (gX0_record C.2.1 C.1), C.2.2.1, C.2.2.2.1, C.2.2.2.2.1, C.2.2.2.2.2.1, C.2.2.2.2.2.2)) H := hP
      have hD : va_D (va_A (clW ck ca C) s.heap.size) (clW ck ca ((gX4_goThroughQueue (C.1.1, C.1.2.1, va_up C.1.2.2 ((gX4_find C.1 a1).getD 0) (gX1_end (nI ((gX4_find C.1 a1).getD 0)) (C.1.2.2 ((gX4_find C.1 a1).getD 0)) 3)) ), (gX0_record C.2.1 C.1), C.2.2.1, C.2.2.2.1, C.2.2.2.2.1, C.2.2.2.2.2.1, C.2.2.2.2.2.2)) := hD
      refine lv_iload_n hx hb dX5_cancel_62 rfl (lv_at hl 0 rfl) ?_
      exact xiret hx hb hr hlk hP hD hS (congrArg (fun z => z.1) (show gX5_cancel C a1 = ((gX1_pages (nI ((gX4_find C.1 a1).getD 0)) (C.1.2.2 ((gX4_find C.1 a1).getD 0)) ), ((gX4_goThroughQueue (C.1.1, C.1.2.1, va_up C.1.2.2 ((gX4_find C.1 a1).getD 0) (gX1_end (nI ((gX4_find C.1 a1).getD 0)) (C.1.2.2 ((gX4_find C.1 a1).getD 0)) 3)) ), (gX0_record C.2.1 C.1), C.2.2.1, C.2.2.2.1, C.2.2.2.2.1, C.2.2.2.2.2.1, C.2.2.2.2.2.2)) from (Eq.trans (if_neg cq_5) (Eq.trans (if_neg c_20) rfl)))).symm (congrArg (fun z => clW ck ca z.2) (show gX5_cancel C a1 = ((gX1_pages (nI ((gX4_find C.1 a1).getD 0)) (C.1.2.2 ((gX4_find C.1 a1).getD 0)) ), ((gX4_goThroughQueue (C.1.1, C.1.2.1, va_up C.1.2.2 ((gX4_find C.1 a1).getD 0) (gX1_end (nI ((gX4_find C.1 a1).getD 0)) (C.1.2.2 ((gX4_find C.1 a1).getD 0)) 3)) ), (gX0_record C.2.1 C.1), C.2.2.1, C.2.2.2.1, C.2.2.2.2.1, C.2.2.2.2.2.1, C.2.2.2.2.2.2)) from (Eq.trans (if_neg cq_5) (Eq.trans (if_neg c_20) rfl)))).symm dX5_cancel_63
    · --f
      refine lv_aload_n hx hb dX5_cancel_23 rfl (lv_at hl 0 rfl) ?_
      refine lv_iconst (v := 1) hx hb dX5_cancel_24 (by decide) ?_
      refine xreti (va_runV (As := [.int 1]) (rest := []) ⟨hx, hb, hml, hown, hts⟩ (mX1_isIn l D ck (jA (ca 1) ((gX4_find C.1 a1).getD 0)) (qA (ca 1) ((gX4_find C.1 a1).getD 0)) (nI ((gX4_find C.1 a1).getD 0)) (C.1.2.2 ((gX4_find C.1 a1).getD 0)) 1 _) (cwV 1 hts gX5_cancel_X1_isIn rfl rfl rfl (by decide +kernel) ⟨Nat.le_of_ble_eq_true rfl, Nat.le_of_ble_eq_true rfl⟩) (xpreV hN hK hP hD (cm_J C (by omega)) 0 rfl rfl rfl) rfl rfl hl.1 rfl (lv_room (Nat.le_of_ble_eq_true rfl)) dX5_cancel_25 ⟨Nat.le_of_ble_eq_true rfl, Nat.le_of_ble_eq_true rfl⟩) hP hD hS hA (cm_J C (by omega)) (cm_J C (by omega)).symm (fun H locs hP hD hS => ?_)
      refine lv_if_ne (tgt := 34) hx hb dX5_cancel_28 (by decide) (fun c_28 => ?_) (fun c_28 => ?_)
      · --t
        refine lv_aload_n hx hb dX5_cancel_34 rfl (lv_at hl 1 rfl) ?_
        refine va_get (D := D) (ci := 5) (v := .ref (ca 2 0)) (C := RX5) (T := TX5) (N := 7) hx hb hts hinX5 hown hK hP 0 rfl rfl 1 (by decide) (hts (.fieldLink RX5 19 "JoinGrants" "history" "LJoinGrants$History;") (List.mem_of_getElem? (i := 2) rfl)) (fun _ h9 => h9) rfl dX5_cancel_35 ?_
        refine lv_aload_n hx hb dX5_cancel_38 rfl (lv_at hl 1 rfl) ?_
        refine va_get (D := D) (ci := 5) (v := .ref (ca 1 0)) (C := RX5) (T := TX5) (N := 7) hx hb hts hinX5 hown hK hP 0 rfl rfl 0 (by decide) (hts (.fieldLink RX5 10 "JoinGrants" "pool" "LJoinGrants$Pool;") (List.mem_of_getElem? (i := 1) rfl)) (fun _ h9 => h9) rfl dX5_cancel_39 ?_
        refine xretv (va_runV (As := [.ref (ca 1 0)]) (rest := []) ⟨hx, hb, hml, hown, hts⟩ (mX0_record l D ck (ca 2) (ca 1) C.2.1 C.1 hz _) (cwV 1 hts gX5_cancel_X0_record rfl rfl rfl (by decide +kernel) ⟨Nat.le_of_ble_eq_true rfl, Nat.le_of_ble_eq_true rfl⟩) (xpreV hN hK hP hD (cm_H C) 0 rfl rfl rfl) rfl rfl hl.1 rfl (lv_room (Nat.le_of_ble_eq_true rfl)) dX5_cancel_42 ⟨Nat.le_of_ble_eq_true rfl, Nat.le_of_ble_eq_true rfl⟩) hP hD hS hA (cm_H C) (cm_H' C) (fun H locs hP hD hS => ?_)
        have hP : va_P D vwCl (clW ck ca (C.1, (gX0_record C.2.1 C.1), C.2.2.1, C.2.2.2.1, C.2.2.2.2.1, C.2.2.2.2.2.1, C.2.2.2.2.2.2)) H := hP
        have hD : va_D (va_A (clW ck ca C) s.heap.size) (clW ck ca (C.1, (gX0_record C.2.1 C.1), C.2.2.1, C.2.2.2.1, C.2.2.2.2.1, C.2.2.2.2.2.1, C.2.2.2.2.2.2)) := hD
        refine lv_aload_n hx hb dX5_cancel_45 rfl (lv_at hl 0 rfl) ?_
        refine xreti (va_runV (As := []) (rest := []) ⟨hx, hb, hml, hown, hts⟩ (mX1_pages l D ck (jA (ca 1) ((gX4_find C.1 a1).getD 0)) (qA (ca 1) ((gX4_find C.1 a1).getD 0)) (nI ((gX4_find C.1 a1).getD 0)) (C.1.2.2 ((gX4_find C.1 a1).getD 0))  _) (cwV 0 hts gX5_cancel_X1_pages rfl rfl rfl (by decide +kernel) ⟨Nat.le_of_ble_eq_true rfl, Nat.le_of_ble_eq_true rfl⟩) (xpreV hN hK hP hD (cm_J (C.1, (gX0_record C.2.1 C.1), C.2.2.1, C.2.2.2.1, C.2.2.2.2.1, C.2.2.2.2.2.1, C.2.2.2.2.2.2) (by omega)) 0 rfl rfl rfl) rfl rfl hl.1 rfl (lv_room (Nat.le_of_ble_eq_true rfl)) dX5_cancel_46 ⟨Nat.le_of_ble_eq_true rfl, Nat.le_of_ble_eq_true rfl⟩) hP hD hS hA (cm_J (C.1, (gX0_record C.2.1 C.1), C.2.2.1, C.2.2.2.1, C.2.2.2.2.1, C.2.2.2.2.2.1, C.2.2.2.2.2.2) (by omega)) (cm_J (C.1, (gX0_record C.2.1 C.1), C.2.2.1, C.2.2.2.1, C.2.2.2.2.1, C.2.2.2.2.2.1, C.2.2.2.2.2.2) (by omega)).symm (fun H locs hP hD hS => ?_)
        refine lv_istore_n (lv' := [(3, .int (gX1_pages (nI ((gX4_find C.1 a1).getD 0)) (C.1.2.2 ((gX4_find C.1 a1).getD 0)) )), (2, .ref (jA (ca 1) ((gX4_find C.1 a1).getD 0))), (0, .ref (ca 0 0)), (1, .int a1)]) hx hb dX5_cancel_49 rfl hl (by decide) rfl (fun ls hl => ?_)
        refine lv_aload_n hx hb dX5_cancel_50 rfl (lv_at hl 1 rfl) ?_
        refine lv_iconst (v := 3) hx hb dX5_cancel_51 (by decide) ?_
        refine xretv (va_runV (As := [.int 3]) (rest := []) ⟨hx, hb, hml, hown, hts⟩ (mX1_end l D ck (jA (ca 1) ((gX4_find C.1 a1).getD 0)) (qA (ca 1) ((gX4_find C.1 a1).getD 0)) (nI ((gX4_find C.1 a1).getD 0)) (C.1.2.2 ((gX4_find C.1 a1).getD 0)) 3 _) (cwV 1 hts gX5_cancel_X1_end rfl rfl rfl (by decide +kernel) ⟨Nat.le_of_ble_eq_true rfl, Nat.le_of_ble_eq_true rfl⟩) (xpreV hN hK hP hD (cm_J (C.1, (gX0_record C.2.1 C.1), C.2.2.1, C.2.2.2.1, C.2.2.2.2.1, C.2.2.2.2.2.1, C.2.2.2.2.2.2) (by omega)) 0 rfl rfl rfl) rfl rfl hl.1 rfl (lv_room (Nat.le_of_ble_eq_true rfl)) dX5_cancel_52 ⟨Nat.le_of_ble_eq_true rfl, Nat.le_of_ble_eq_true rfl⟩) hP hD hS hA (cm_J (C.1, (gX0_record C.2.1 C.1), C.2.2.1, C.2.2.2.1, C.2.2.2.2.1, C.2.2.2.2.2.1, C.2.2.2.2.2.2) (by omega)) (cm_J' (C.1, (gX0_record C.2.1 C.1), C.2.2.1, C.2.2.2.1, C.2.2.2.2.1, C.2.2.2.2.2.1, C.2.2.2.2.2.2) (by omega)) (fun H locs hP hD hS => ?_)
        have hP : va_P D vwCl (clW ck ca ((C.1.1, C.1.2.1, va_up C.1.2.2 ((gX4_find C.1 a1).getD 0) (gX1_end (nI ((gX4_find C.1 a1).getD 0)) (C.1.2.2 ((gX4_find C.1 a1).getD 0)) 3)), (gX0_record C.2.1 C.1), C.2.2.1, C.2.2.2.1, C.2.2.2.2.1, C.2.2.2.2.2.1, C.2.2.2.2.2.2)) H := hP
        have hD : va_D (va_A (clW ck ca C) s.heap.size) (clW ck ca ((C.1.1, C.1.2.1, va_up C.1.2.2 ((gX4_find C.1 a1).getD 0) (gX1_end (nI ((gX4_find C.1 a1).getD 0)) (C.1.2.2 ((gX4_find C.1 a1).getD 0)) 3)), (gX0_record C.2.1 C.1), C.2.2.1, C.2.2.2.1, C.2.2.2.2.1, C.2.2.2.2.2.1, C.2.2.2.2.2.2)) := hD
        refine lv_aload_n hx hb dX5_cancel_55 rfl (lv_at hl 2 rfl) ?_
        refine va_get (D := D) (ci := 5) (v := .ref (ca 1 0)) (C := RX5) (T := TX5) (N := 7) hx hb hts hinX5 hown hK hP 0 rfl rfl 0 (by decide) (hts (.fieldLink RX5 10 "JoinGrants" "pool" "LJoinGrants$Pool;") (List.mem_of_getElem? (i := 1) rfl)) (fun _ h9 => h9) rfl dX5_cancel_56 ?_
        refine xretv (va_runV (As := []) (rest := []) ⟨hx, hb, hml, hown, hts⟩ (mX4_goThroughQueue l D ck (ca 1) (C.1.1, C.1.2.1, va_up C.1.2.2 ((gX4_find C.1 a1).getD 0) (gX1_end (nI ((gX4_find C.1 a1).getD 0)) (C.1.2.2 ((gX4_find C.1 a1).getD 0)) 3))   _) (cwV 0 hts gX5_cancel_X4_goThroughQueue rfl rfl rfl (by decide +kernel) ⟨Nat.le_of_ble_eq_true rfl, Nat.le_of_ble_eq_true rfl⟩) (xpreV hN hK hP hD (cm_P ((C.1.1, C.1.2.1, va_up C.1.2.2 ((gX4_find C.1 a1).getD 0) (gX1_end (nI ((gX4_find C.1 a1).getD 0)) (C.1.2.2 ((gX4_find C.1 a1).getD 0)) 3)), (gX0_record C.2.1 C.1), C.2.2.1, C.2.2.2.1, C.2.2.2.2.1, C.2.2.2.2.2.1, C.2.2.2.2.2.2)) 0 rfl rfl rfl) rfl rfl hl.1 rfl (lv_room (Nat.le_of_ble_eq_true rfl)) dX5_cancel_59 ⟨Nat.le_of_ble_eq_true rfl, Nat.le_of_ble_eq_true rfl⟩) hP hD hS hA (cm_P ((C.1.1, C.1.2.1, va_up C.1.2.2 ((gX4_find C.1 a1).getD 0) (gX1_end (nI ((gX4_find C.1 a1).getD 0)) (C.1.2.2 ((gX4_find C.1 a1).getD 0)) 3)), (gX0_record C.2.1 C.1), C.2.2.1, C.2.2.2.1, C.2.2.2.2.1, C.2.2.2.2.2.1, C.2.2.2.2.2.2)) (cm_P' ((C.1.1, C.1.2.1, va_up C.1.2.2 ((gX4_find C.1 a1).getD 0) (gX1_end (nI ((gX4_find C.1 a1).getD 0)) (C.1.2.2 ((gX4_find C.1 a1).getD 0)) 3)), (gX0_record C.2.1 C.1), C.2.2.1, C.2.2.2.1, C.2.2.2.2.1, C.2.2.2.2.2.1, C.2.2.2.2.2.2)) (fun H locs hP hD hS => ?_)
        have hP : va_P D vwCl (clW ck ca ((gX4_goThroughQueue (C.1.1, C.1.2.1, va_up C.1.2.2 ((gX4_find C.1 a1).getD 0) (gX1_end (nI ((gX4_find C.1 a1).getD 0)) (C.1.2.2 ((gX4_find C.1 a1).getD 0)) 3)) ), (gX0_record C.2.1 C.1), C.2.2.1, C.2.2.2.1, C.2.2.2.2.1, C.2.2.2.2.2.1, C.2.2.2.2.2.2)) H := hP
        have hD : va_D (va_A (clW ck ca C) s.heap.size) (clW ck ca ((gX4_goThroughQueue (C.1.1, C.1.2.1, va_up C.1.2.2 ((gX4_find C.1 a1).getD 0) (gX1_end (nI ((gX4_find C.1 a1).getD 0)) (C.1.2.2 ((gX4_find C.1 a1).getD 0)) 3)) ), (gX0_record C.2.1 C.1), C.2.2.1, C.2.2.2.1, C.2.2.2.2.1, C.2.2.2.2.2.1, C.2.2.2.2.2.2)) := hD
        refine lv_iload_n hx hb dX5_cancel_62 rfl (lv_at hl 0 rfl) ?_
        exact xiret hx hb hr hlk hP hD hS (congrArg (fun z => z.1) (show gX5_cancel C a1 = ((gX1_pages (nI ((gX4_find C.1 a1).getD 0)) (C.1.2.2 ((gX4_find C.1 a1).getD 0)) ), ((gX4_goThroughQueue (C.1.1, C.1.2.1, va_up C.1.2.2 ((gX4_find C.1 a1).getD 0) (gX1_end (nI ((gX4_find C.1 a1).getD 0)) (C.1.2.2 ((gX4_find C.1 a1).getD 0)) 3)) ), (gX0_record C.2.1 C.1), C.2.2.1, C.2.2.2.1, C.2.2.2.2.1, C.2.2.2.2.2.1, C.2.2.2.2.2.2)) from (Eq.trans (if_neg cq_5) (Eq.trans (if_pos c_20) (Eq.trans (if_neg c_28) rfl))))).symm (congrArg (fun z => clW ck ca z.2) (show gX5_cancel C a1 = ((gX1_pages (nI ((gX4_find C.1 a1).getD 0)) (C.1.2.2 ((gX4_find C.1 a1).getD 0)) ), ((gX4_goThroughQueue (C.1.1, C.1.2.1, va_up C.1.2.2 ((gX4_find C.1 a1).getD 0) (gX1_end (nI ((gX4_find C.1 a1).getD 0)) (C.1.2.2 ((gX4_find C.1 a1).getD 0)) 3)) ), (gX0_record C.2.1 C.1), C.2.2.1, C.2.2.2.1, C.2.2.2.2.1, C.2.2.2.2.2.1, C.2.2.2.2.2.2)) from (Eq.trans (if_neg cq_5) (Eq.trans (if_pos c_20) (Eq.trans (if_neg c_28) rfl))))).symm dX5_cancel_63
      · --f
        refine lv_bipush (v := (-4)) hx hb dX5_cancel_31 (by decide) ?_
        exact xiret hx hb hr hlk hP hD hS (congrArg (fun z => z.1) (show gX5_cancel C a1 = ((-4), C) from (Eq.trans (if_neg cq_5) (Eq.trans (if_pos c_20) (Eq.trans (if_pos c_28) rfl))))).symm (congrArg (fun z => clW ck ca z.2) (show gX5_cancel C a1 = ((-4), C) from (Eq.trans (if_neg cq_5) (Eq.trans (if_pos c_20) (Eq.trans (if_pos c_28) rfl))))).symm dX5_cancel_33

def rmX5_change : Room := { frames := 5, cells := 0, slots := 0, locals := 119 }
set_option maxHeartbeats 4000000 in
set_option maxRecDepth 100000 in
theorem mX5_change (l : Launch) (D : va_G) (ck : Nat → ClassId) (ca : Nat → Nat → Nat) (C : CS) (a1 : Int32) (a2 : Int32) (hz : ¬ C.2.1.1 < 0) : xMi l yX5_change wsX5_change rmX5_change D ck [.ref (ca 0 0), .int a1, .int a2] (clW ck ca C) (clW ck ca ((gX5_change C a1 a2).2)) ((gX5_change C a1 a2).1) 0 0 := by
  refine xMet (by decide) rfl (Nat.le_of_ble_eq_true rfl) ?_
  intro zp ze s zm zb zt zc hx hb hr hml hown hts hlk hnm hN hK hP hD ls hl
  have hown : s.vm.findClass RX5 = some zm.cls := hown
  have hl : lv_has ls 5 [(0, .ref (ca 0 0)), (1, .int a1), (2, .int a2)] := hl
  have hS : va_S (va_A (clW ck ca C) s.heap.size) s.heap s.heap [] := va_S.rf
  have hA : ∀ zq : Nat, s.heap.size ≤ zq → va_A (clW ck ca C) s.heap.size zq := fun zq h => Or.inr h
  have hinX5 : ∀ w ∈ u_ws RX5 TX5 7, w ∈ wsX5_change := by decide +kernel
  refine lv_aload_n hx hb dX5_change_0 rfl (lv_at hl 0 rfl) ?_
  refine va_get (D := D) (ci := 5) (v := .ref (ca 1 0)) (C := RX5) (T := TX5) (N := 7) hx hb hts hinX5 hown hK hP 0 rfl rfl 0 (by decide) (hts (.fieldLink RX5 10 "JoinGrants" "pool" "LJoinGrants$Pool;") (List.mem_of_getElem? (i := 1) rfl)) (fun _ h9 => h9) rfl dX5_change_1 ?_
  refine lv_iload_n hx hb dX5_change_4 rfl (lv_at hl 1 rfl) ?_
  refine xretq (va_runV (As := [.int a1]) (rest := []) ⟨hx, hb, hml, hown, hts⟩ (mX4_find l D ck (ca 1) C.1 a1  _) (cwV 1 hts gX5_change_X4_find rfl rfl rfl (by decide +kernel) ⟨Nat.le_of_ble_eq_true rfl, Nat.le_of_ble_eq_true rfl⟩) (xpreV hN hK hP hD (cm_P C) 0 rfl rfl rfl) rfl rfl hl.1 rfl (lv_room (Nat.le_of_ble_eq_true rfl)) dX5_change_5 ⟨Nat.le_of_ble_eq_true rfl, Nat.le_of_ble_eq_true rfl⟩) hP hD hS hA (cm_P C) (cm_P C).symm (fun H locs hP hD hS => ?_)
  by_cases cq_5 : (gX4_find C.1 a1) = none
  ·
    rw [xrf_none cq_5]
    refine lv_astore_nN (lv' := [(3, .null), (0, .ref (ca 0 0)), (1, .int a1), (2, .int a2)]) hx hb dX5_change_8 rfl hl (by decide) rfl (fun ls hl => ?_)
    refine lv_aload_nN hx hb dX5_change_9 rfl (lv_at hl 0 rfl) ?_
    refine lv_ifnonnullN hx hb dX5_change_10 ?_
    refine lv_iconst (v := (-1)) hx hb dX5_change_13 (by decide) ?_
    exact xiret hx hb hr hlk hP hD hS (congrArg (fun z => z.1) (show gX5_change C a1 a2 = ((-1), C) from (Eq.trans (if_pos cq_5) rfl))).symm (congrArg (fun z => clW ck ca z.2) (show gX5_change C a1 a2 = ((-1), C) from (Eq.trans (if_pos cq_5) rfl))).symm dX5_change_14
  ·
    rw [xrf_some cq_5]
    have hlt_5 : ((gX4_find C.1 a1)).getD 0 < 16 := lt_X4_find cq_5
    refine lv_astore_n (lv' := [(3, .ref (jA (ca 1) ((gX4_find C.1 a1).getD 0))), (0, .ref (ca 0 0)), (1, .int a1), (2, .int a2)]) hx hb dX5_change_8 rfl hl (by decide) rfl (fun ls hl => ?_)
    refine lv_aload_n hx hb dX5_change_9 rfl (lv_at hl 0 rfl) ?_
    refine lv_ifnonnull (tgt := 15) hx hb dX5_change_10 (by decide) ?_
    refine lv_iload_n hx hb dX5_change_15 rfl (lv_at hl 3 rfl) ?_
    refine xreti (va_runS (As := [.int a2]) (rest := []) ⟨hx, hb, hml, hown, hts⟩ (mX3_isWay l D ck a2 _) (va_cwS 1 hts gX5_change_X3_isWay rfl rfl rfl (by decide +kernel) ⟨Nat.le_of_ble_eq_true rfl, Nat.le_of_ble_eq_true rfl⟩) (xpreS hN hK hP hD pm_none) rfl rfl hl.1 rfl (lv_room (Nat.le_of_ble_eq_true rfl)) dX5_change_16 ⟨Nat.le_of_ble_eq_true rfl, Nat.le_of_ble_eq_true rfl⟩) hP hD hS hA pm_none pm_none (fun H locs hP hD hS => ?_)
    have hP : va_P D vwCl (clW ck ca C) H := hP
    have hD : va_D (va_A (clW ck ca C) s.heap.size) (clW ck ca C) := hD
    refine lv_if_ne (tgt := 25) hx hb dX5_change_19 (by decide) (fun c_19 => ?_) (fun c_19 => ?_)
    · --t
      refine lv_aload_n hx hb dX5_change_25 rfl (lv_at hl 0 rfl) ?_
      refine lv_iconst (v := 0) hx hb dX5_change_26 (by decide) ?_
      refine xreti (va_runV (As := [.int 0]) (rest := []) ⟨hx, hb, hml, hown, hts⟩ (mX1_isIn l D ck (jA (ca 1) ((gX4_find C.1 a1).getD 0)) (qA (ca 1) ((gX4_find C.1 a1).getD 0)) (nI ((gX4_find C.1 a1).getD 0)) (C.1.2.2 ((gX4_find C.1 a1).getD 0)) 0 _) (cwV 1 hts gX5_change_X1_isIn rfl rfl rfl (by decide +kernel) ⟨Nat.le_of_ble_eq_true rfl, Nat.le_of_ble_eq_true rfl⟩) (xpreV hN hK hP hD (cm_J C (by omega)) 0 rfl rfl rfl) rfl rfl hl.1 rfl (lv_room (Nat.le_of_ble_eq_true rfl)) dX5_change_27 ⟨Nat.le_of_ble_eq_true rfl, Nat.le_of_ble_eq_true rfl⟩) hP hD hS hA (cm_J C (by omega)) (cm_J C (by omega)).symm (fun H locs hP hD hS => ?_)
      refine lv_if_ne (tgt := 36) hx hb dX5_change_30 (by decide) (fun c_30 => ?_) (fun c_30 => ?_)
      · --t
        refine lv_aload_n hx hb dX5_change_36 rfl (lv_at hl 0 rfl) ?_
        refine xreti (va_runV (As := []) (rest := []) ⟨hx, hb, hml, hown, hts⟩ (mX1_way l D ck (jA (ca 1) ((gX4_find C.1 a1).getD 0)) (qA (ca 1) ((gX4_find C.1 a1).getD 0)) (nI ((gX4_find C.1 a1).getD 0)) (C.1.2.2 ((gX4_find C.1 a1).getD 0))  _) (cwV 0 hts gX5_change_X1_way rfl rfl rfl (by decide +kernel) ⟨Nat.le_of_ble_eq_true rfl, Nat.le_of_ble_eq_true rfl⟩) (xpreV hN hK hP hD (cm_J C (by omega)) 0 rfl rfl rfl) rfl rfl hl.1 rfl (lv_room (Nat.le_of_ble_eq_true rfl)) dX5_change_37 ⟨Nat.le_of_ble_eq_true rfl, Nat.le_of_ble_eq_true rfl⟩) hP hD hS hA (cm_J C (by omega)) (cm_J C (by omega)).symm (fun H locs hP hD hS => ?_)
        refine lv_istore (lv' := [(4, .int (gX1_way (nI ((gX4_find C.1 a1).getD 0)) (C.1.2.2 ((gX4_find C.1 a1).getD 0)) )), (3, .ref (jA (ca 1) ((gX4_find C.1 a1).getD 0))), (0, .ref (ca 0 0)), (1, .int a1), (2, .int a2)]) hx hb dX5_change_40 hl (by decide) rfl (fun ls hl => ?_)
        refine lv_iload hx hb dX5_change_42 (lv_at hl 0 rfl) ?_
        refine lv_iload_n hx hb dX5_change_44 rfl (lv_at hl 4 rfl) ?_
        refine lv_icmp_ne (tgt := 51) hx hb dX5_change_45 (by decide) (fun c_45 => ?_) (fun c_45 => ?_)
        · --t
          refine lv_aload_n hx hb dX5_change_51 rfl (lv_at hl 2 rfl) ?_
          refine va_get (D := D) (ci := 5) (v := .ref (ca 2 0)) (C := RX5) (T := TX5) (N := 7) hx hb hts hinX5 hown hK hP 0 rfl rfl 1 (by decide) (hts (.fieldLink RX5 19 "JoinGrants" "history" "LJoinGrants$History;") (List.mem_of_getElem? (i := 2) rfl)) (fun _ h9 => h9) rfl dX5_change_52 ?_
          refine lv_aload_n hx hb dX5_change_55 rfl (lv_at hl 2 rfl) ?_
          refine va_get (D := D) (ci := 5) (v := .ref (ca 1 0)) (C := RX5) (T := TX5) (N := 7) hx hb hts hinX5 hown hK hP 0 rfl rfl 0 (by decide) (hts (.fieldLink RX5 10 "JoinGrants" "pool" "LJoinGrants$Pool;") (List.mem_of_getElem? (i := 1) rfl)) (fun _ h9 => h9) rfl dX5_change_56 ?_
          refine xretv (va_runV (As := [.ref (ca 1 0)]) (rest := []) ⟨hx, hb, hml, hown, hts⟩ (mX0_record l D ck (ca 2) (ca 1) C.2.1 C.1 hz _) (cwV 1 hts gX5_change_X0_record rfl rfl rfl (by decide +kernel) ⟨Nat.le_of_ble_eq_true rfl, Nat.le_of_ble_eq_true rfl⟩) (xpreV hN hK hP hD (cm_H C) 0 rfl rfl rfl) rfl rfl hl.1 rfl (lv_room (Nat.le_of_ble_eq_true rfl)) dX5_change_59 ⟨Nat.le_of_ble_eq_true rfl, Nat.le_of_ble_eq_true rfl⟩) hP hD hS hA (cm_H C) (cm_H' C) (fun H locs hP hD hS => ?_)
          have hP : va_P D vwCl (clW ck ca (C.1, (gX0_record C.2.1 C.1), C.2.2.1, C.2.2.2.1, C.2.2.2.2.1, C.2.2.2.2.2.1, C.2.2.2.2.2.2)) H := hP
          have hD : va_D (va_A (clW ck ca C) s.heap.size) (clW ck ca (C.1, (gX0_record C.2.1 C.1), C.2.2.1, C.2.2.2.1, C.2.2.2.2.1, C.2.2.2.2.2.1, C.2.2.2.2.2.2)) := hD
          refine lv_aload_n hx hb dX5_change_62 rfl (lv_at hl 1 rfl) ?_
          refine lv_iload_n hx hb dX5_change_63 rfl (lv_at hl 4 rfl) ?_
          refine xretv (va_runV (As := [.int a2]) (rest := []) ⟨hx, hb, hml, hown, hts⟩ (mX1_changeWay l D ck (jA (ca 1) ((gX4_find C.1 a1).getD 0)) (qA (ca 1) ((gX4_find C.1 a1).getD 0)) (nI ((gX4_find C.1 a1).getD 0)) (C.1.2.2 ((gX4_find C.1 a1).getD 0)) a2 _) (cwV 1 hts gX5_change_X1_changeWay rfl rfl rfl (by decide +kernel) ⟨Nat.le_of_ble_eq_true rfl, Nat.le_of_ble_eq_true rfl⟩) (xpreV hN hK hP hD (cm_J (C.1, (gX0_record C.2.1 C.1), C.2.2.1, C.2.2.2.1, C.2.2.2.2.1, C.2.2.2.2.2.1, C.2.2.2.2.2.2) (by omega)) 0 rfl rfl rfl) rfl rfl hl.1 rfl (lv_room (Nat.le_of_ble_eq_true rfl)) dX5_change_64 ⟨Nat.le_of_ble_eq_true rfl, Nat.le_of_ble_eq_true rfl⟩) hP hD hS hA (cm_J (C.1, (gX0_record C.2.1 C.1), C.2.2.1, C.2.2.2.1, C.2.2.2.2.1, C.2.2.2.2.2.1, C.2.2.2.2.2.2) (by omega)) (cm_J' (C.1, (gX0_record C.2.1 C.1), C.2.2.1, C.2.2.2.1, C.2.2.2.2.1, C.2.2.2.2.2.1, C.2.2.2.2.2.2) (by omega)) (fun H locs hP hD hS => ?_)
          have hP : va_P D vwCl (clW ck ca ((C.1.1, C.1.2.1, va_up C.1.2.2 ((gX4_find C.1 a1).getD 0) (gX1_changeWay (nI ((gX4_find C.1 a1).getD 0)) (C.1.2.2 ((gX4_find C.1 a1).getD 0)) a2)), (gX0_record C.2.1 C.1), C.2.2.1, C.2.2.2.1, C.2.2.2.2.1, C.2.2.2.2.2.1, C.2.2.2.2.2.2)) H := hP
          have hD : va_D (va_A (clW ck ca C) s.heap.size) (clW ck ca ((C.1.1, C.1.2.1, va_up C.1.2.2 ((gX4_find C.1 a1).getD 0) (gX1_changeWay (nI ((gX4_find C.1 a1).getD 0)) (C.1.2.2 ((gX4_find C.1 a1).getD 0)) a2)), (gX0_record C.2.1 C.1), C.2.2.1, C.2.2.2.1, C.2.2.2.2.1, C.2.2.2.2.2.1, C.2.2.2.2.2.2)) := hD
          refine lv_aload_n hx hb dX5_change_67 rfl (lv_at hl 2 rfl) ?_
          refine va_get (D := D) (ci := 5) (v := .ref (ca 1 0)) (C := RX5) (T := TX5) (N := 7) hx hb hts hinX5 hown hK hP 0 rfl rfl 0 (by decide) (hts (.fieldLink RX5 10 "JoinGrants" "pool" "LJoinGrants$Pool;") (List.mem_of_getElem? (i := 1) rfl)) (fun _ h9 => h9) rfl dX5_change_68 ?_
          refine xretv (va_runV (As := []) (rest := []) ⟨hx, hb, hml, hown, hts⟩ (mX4_goThroughQueue l D ck (ca 1) (C.1.1, C.1.2.1, va_up C.1.2.2 ((gX4_find C.1 a1).getD 0) (gX1_changeWay (nI ((gX4_find C.1 a1).getD 0)) (C.1.2.2 ((gX4_find C.1 a1).getD 0)) a2))   _) (cwV 0 hts gX5_change_X4_goThroughQueue rfl rfl rfl (by decide +kernel) ⟨Nat.le_of_ble_eq_true rfl, Nat.le_of_ble_eq_true rfl⟩) (xpreV hN hK hP hD (cm_P ((C.1.1, C.1.2.1, va_up C.1.2.2 ((gX4_find C.1 a1).getD 0) (gX1_changeWay (nI ((gX4_find C.1 a1).getD 0)) (C.1.2.2 ((gX4_find C.1 a1).getD 0)) a2)), (gX0_record C.2.1 C.1), C.2.2.1, C.2.2.2.1, C.2.2.2.2.1, C.2.2.2.2.2.1, C.2.2.2.2.2.2)) 0 rfl rfl rfl) rfl rfl hl.1 rfl (lv_room (Nat.le_of_ble_eq_true rfl)) dX5_change_71 ⟨Nat.le_of_ble_eq_true rfl, Nat.le_of_ble_eq_true rfl⟩) hP hD hS hA (cm_P ((C.1.1, C.1.2.1, va_up C.1.2.2 ((gX4_find C.1 a1).getD 0) (gX1_changeWay (nI ((gX4_find C.1 a1).getD 0)) (C.1.2.2 ((gX4_find C.1 a1).getD 0)) a2)), (gX0_record C.2.1 C.1), C.2.2.1, C.2.2.2.1, C.2.2.2.2.1, C.2.2.2.2.2.1, C.2.2.2.2.2.2)) (cm_P' ((C.1.1, C.1.2.1, va_up C.1.2.2 ((gX4_find C.1 a1).getD 0) (gX1_changeWay (nI ((gX4_find C.1 a1).getD 0)) (C.1.2.2 ((gX4_find C.1 a1).getD 0)) a2)), (gX0_record C.2.1 C.1), C.2.2.1, C.2.2.2.1, C.2.2.2.2.1, C.2.2.2.2.2.1, C.2.2.2.2.2.2)) (fun H locs hP hD hS => ?_)
          have hP : va_P D vwCl (clW ck ca ((gX4_goThroughQueue (C.1.1, C.1.2.1, va_up C.1.2.2 ((gX4_find C.1 a1).getD 0) (gX1_changeWay (nI ((gX4_find C.1 a1).getD 0)) (C.1.2.2 ((gX4_find C.1 a1).getD 0)) a2)) ), (gX0_record C.2.1 C.1), C.2.2.1, C.2.2.2.1, C.2.2.2.2.1, C.2.2.2.2.2.1, C.2.2.2.2.2.2)) H := hP
          have hD : va_D (va_A (clW ck ca C) s.heap.size) (clW ck ca ((gX4_goThroughQueue (C.1.1, C.1.2.1, va_up C.1.2.2 ((gX4_find C.1 a1).getD 0) (gX1_changeWay (nI ((gX4_find C.1 a1).getD 0)) (C.1.2.2 ((gX4_find C.1 a1).getD 0)) a2)) ), (gX0_record C.2.1 C.1), C.2.2.1, C.2.2.2.1, C.2.2.2.2.1, C.2.2.2.2.2.1, C.2.2.2.2.2.2)) := hD
          refine lv_iload hx hb dX5_change_74 (lv_at hl 0 rfl) ?_
          exact xiret hx hb hr hlk hP hD hS (congrArg (fun z => z.1) (show gX5_change C a1 a2 = ((gX1_way (nI ((gX4_find C.1 a1).getD 0)) (C.1.2.2 ((gX4_find C.1 a1).getD 0)) ), ((gX4_goThroughQueue (C.1.1, C.1.2.1, va_up C.1.2.2 ((gX4_find C.1 a1).getD 0) (gX1_changeWay (nI ((gX4_find C.1 a1).getD 0)) (C.1.2.2 ((gX4_find C.1 a1).getD 0)) a2)) ), (gX0_record C.2.1 C.1), C.2.2.1, C.2.2.2.1, C.2.2.2.2.1, C.2.2.2.2.2.1, C.2.2.2.2.2.2)) from (Eq.trans (if_neg cq_5) (Eq.trans (if_neg c_19) (Eq.trans (if_neg c_30) (Eq.trans (if_neg c_45) rfl)))))).symm (congrArg (fun z => clW ck ca z.2) (show gX5_change C a1 a2 = ((gX1_way (nI ((gX4_find C.1 a1).getD 0)) (C.1.2.2 ((gX4_find C.1 a1).getD 0)) ), ((gX4_goThroughQueue (C.1.1, C.1.2.1, va_up C.1.2.2 ((gX4_find C.1 a1).getD 0) (gX1_changeWay (nI ((gX4_find C.1 a1).getD 0)) (C.1.2.2 ((gX4_find C.1 a1).getD 0)) a2)) ), (gX0_record C.2.1 C.1), C.2.2.1, C.2.2.2.1, C.2.2.2.2.1, C.2.2.2.2.2.1, C.2.2.2.2.2.2)) from (Eq.trans (if_neg cq_5) (Eq.trans (if_neg c_19) (Eq.trans (if_neg c_30) (Eq.trans (if_neg c_45) rfl)))))).symm dX5_change_76
        · --f
          refine lv_bipush (v := (-5)) hx hb dX5_change_48 (by decide) ?_
          exact xiret hx hb hr hlk hP hD hS (congrArg (fun z => z.1) (show gX5_change C a1 a2 = ((-5), C) from (Eq.trans (if_neg cq_5) (Eq.trans (if_neg c_19) (Eq.trans (if_neg c_30) (Eq.trans (if_pos c_45) rfl)))))).symm (congrArg (fun z => clW ck ca z.2) (show gX5_change C a1 a2 = ((-5), C) from (Eq.trans (if_neg cq_5) (Eq.trans (if_neg c_19) (Eq.trans (if_neg c_30) (Eq.trans (if_pos c_45) rfl)))))).symm dX5_change_50
      · --f
        refine lv_bipush (v := (-4)) hx hb dX5_change_33 (by decide) ?_
        exact xiret hx hb hr hlk hP hD hS (congrArg (fun z => z.1) (show gX5_change C a1 a2 = ((-4), C) from (Eq.trans (if_neg cq_5) (Eq.trans (if_neg c_19) (Eq.trans (if_pos c_30) rfl))))).symm (congrArg (fun z => clW ck ca z.2) (show gX5_change C a1 a2 = ((-4), C) from (Eq.trans (if_neg cq_5) (Eq.trans (if_neg c_19) (Eq.trans (if_pos c_30) rfl))))).symm dX5_change_35
    · --f
      refine lv_bipush (v := (-2)) hx hb dX5_change_22 (by decide) ?_
      exact xiret hx hb hr hlk hP hD hS (congrArg (fun z => z.1) (show gX5_change C a1 a2 = ((-2), C) from (Eq.trans (if_neg cq_5) (Eq.trans (if_pos c_19) rfl)))).symm (congrArg (fun z => clW ck ca z.2) (show gX5_change C a1 a2 = ((-2), C) from (Eq.trans (if_neg cq_5) (Eq.trans (if_pos c_19) rfl)))).symm dX5_change_24

def rmX5_step : Room := { frames := 6, cells := 0, slots := 0, locals := 147 }
set_option maxHeartbeats 4000000 in
set_option maxRecDepth 100000 in
theorem mX5_step (l : Launch) (D : va_G) (ck : Nat → ClassId) (ca : Nat → Nat → Nat) (C : CS) (a1 : Int32) (hz : ¬ C.2.1.1 < 0) : xMi l yX5_step wsX5_step rmX5_step D ck [.ref (ca 0 0), .int a1] (clW ck ca C) (clW ck ca ((gX5_step C a1).2)) ((gX5_step C a1).1) 0 0 := by
  refine xMet (by decide) rfl (Nat.le_of_ble_eq_true rfl) ?_
  intro zp ze s zm zb zt zc hx hb hr hml hown hts hlk hnm hN hK hP hD ls hl
  have hown : s.vm.findClass RX5 = some zm.cls := hown
  have hl : lv_has ls 4 [(0, .ref (ca 0 0)), (1, .int a1)] := hl
  have hS : va_S (va_A (clW ck ca C) s.heap.size) s.heap s.heap [] := va_S.rf
  have hA : ∀ zq : Nat, s.heap.size ≤ zq → va_A (clW ck ca C) s.heap.size zq := fun zq h => Or.inr h
  have hinX5 : ∀ w ∈ u_ws RX5 TX5 7, w ∈ wsX5_step := by decide +kernel
  refine lv_iload_n hx hb dX5_step_0 rfl (lv_at hl 1 rfl) ?_
  refine lv_iconst (v := 1) hx hb dX5_step_1 (by decide) ?_
  refine lv_icmp_lt (tgt := 12) hx hb dX5_step_2 (by decide) (fun c_2 => ?_) (fun c_2 => ?_)
  · --t
    refine lv_bipush (v := (-2)) hx hb dX5_step_12 (by decide) ?_
    exact xiret hx hb hr hlk hP hD hS (congrArg (fun z => z.1) (show gX5_step C a1 = ((-2), C) from (Eq.trans (if_pos c_2) rfl))).symm (congrArg (fun z => clW ck ca z.2) (show gX5_step C a1 = ((-2), C) from (Eq.trans (if_pos c_2) rfl))).symm dX5_step_14
  · --f
    refine lv_iload_n hx hb dX5_step_5 rfl (lv_at hl 1 rfl) ?_
    refine lv_sipush (v := 1000) hx hb dX5_step_6 (by decide) ?_
    refine lv_icmp_le (tgt := 15) hx hb dX5_step_9 (by decide) (fun c_9 => ?_) (fun c_9 => ?_)
    · --t
      refine lv_aload_n hx hb dX5_step_15 rfl (lv_at hl 0 rfl) ?_
      refine va_get (D := D) (ci := 5) (v := .ref (ca 2 0)) (C := RX5) (T := TX5) (N := 7) hx hb hts hinX5 hown hK hP 0 rfl rfl 1 (by decide) (hts (.fieldLink RX5 19 "JoinGrants" "history" "LJoinGrants$History;") (List.mem_of_getElem? (i := 1) rfl)) (fun _ h9 => h9) rfl dX5_step_16 ?_
      refine lv_aload_n hx hb dX5_step_19 rfl (lv_at hl 0 rfl) ?_
      refine va_get (D := D) (ci := 5) (v := .ref (ca 1 0)) (C := RX5) (T := TX5) (N := 7) hx hb hts hinX5 hown hK hP 0 rfl rfl 0 (by decide) (hts (.fieldLink RX5 10 "JoinGrants" "pool" "LJoinGrants$Pool;") (List.mem_of_getElem? (i := 2) rfl)) (fun _ h9 => h9) rfl dX5_step_20 ?_
      refine xretv (va_runV (As := [.ref (ca 1 0)]) (rest := []) ⟨hx, hb, hml, hown, hts⟩ (mX0_record l D ck (ca 2) (ca 1) C.2.1 C.1 hz _) (cwV 1 hts gX5_step_X0_record rfl rfl rfl (by decide +kernel) ⟨Nat.le_of_ble_eq_true rfl, Nat.le_of_ble_eq_true rfl⟩) (xpreV hN hK hP hD (cm_H C) 0 rfl rfl rfl) rfl rfl hl.1 rfl (lv_room (Nat.le_of_ble_eq_true rfl)) dX5_step_23 ⟨Nat.le_of_ble_eq_true rfl, Nat.le_of_ble_eq_true rfl⟩) hP hD hS hA (cm_H C) (cm_H' C) (fun H locs hP hD hS => ?_)
      have hP : va_P D vwCl (clW ck ca (C.1, (gX0_record C.2.1 C.1), C.2.2.1, C.2.2.2.1, C.2.2.2.2.1, C.2.2.2.2.2.1, C.2.2.2.2.2.2)) H := hP
      have hD : va_D (va_A (clW ck ca C) s.heap.size) (clW ck ca (C.1, (gX0_record C.2.1 C.1), C.2.2.1, C.2.2.2.1, C.2.2.2.2.1, C.2.2.2.2.2.1, C.2.2.2.2.2.2)) := hD
      refine lv_aload_n hx hb dX5_step_26 rfl (lv_at hl 0 rfl) ?_
      refine va_get (D := D) (ci := 5) (v := .ref (ca 1 0)) (C := RX5) (T := TX5) (N := 7) hx hb hts hinX5 hown hK hP 0 rfl rfl 0 (by decide) (hts (.fieldLink RX5 10 "JoinGrants" "pool" "LJoinGrants$Pool;") (List.mem_of_getElem? (i := 2) rfl)) (fun _ h9 => h9) rfl dX5_step_27 ?_
      refine lv_iconst (v := 2) hx hb dX5_step_30 (by decide) ?_
      refine xreti (va_runV (As := [.int 2]) (rest := []) ⟨hx, hb, hml, hown, hts⟩ (mX4_joinsIn l D ck (ca 1) C.1 2  _) (cwV 1 hts gX5_step_X4_joinsIn rfl rfl rfl (by decide +kernel) ⟨Nat.le_of_ble_eq_true rfl, Nat.le_of_ble_eq_true rfl⟩) (xpreV hN hK hP hD (cm_P (C.1, (gX0_record C.2.1 C.1), C.2.2.1, C.2.2.2.1, C.2.2.2.2.1, C.2.2.2.2.2.1, C.2.2.2.2.2.2)) 0 rfl rfl rfl) rfl rfl hl.1 rfl (lv_room (Nat.le_of_ble_eq_true rfl)) dX5_step_31 ⟨Nat.le_of_ble_eq_true rfl, Nat.le_of_ble_eq_true rfl⟩) hP hD hS hA (cm_P (C.1, (gX0_record C.2.1 C.1), C.2.2.1, C.2.2.2.1, C.2.2.2.2.1, C.2.2.2.2.2.1, C.2.2.2.2.2.2)) (cm_P (C.1, (gX0_record C.2.1 C.1), C.2.2.1, C.2.2.2.1, C.2.2.2.2.1, C.2.2.2.2.2.1, C.2.2.2.2.2.2)).symm (fun H locs hP hD hS => ?_)
      refine lv_istore_n (lv' := [(2, .int (gX4_joinsIn C.1 2)), (0, .ref (ca 0 0)), (1, .int a1)]) hx hb dX5_step_34 rfl hl (by decide) rfl (fun ls hl => ?_)
      refine lv_iconst (v := 0) hx hb dX5_step_35 (by decide) ?_
      refine lv_istore_n (lv' := [(3, .int 0), (2, .int (gX4_joinsIn C.1 2)), (0, .ref (ca 0 0)), (1, .int a1)]) hx hb dX5_step_36 rfl hl (by decide) rfl (fun ls hl => ?_)
      have loop37 : ∀ (fu : Nat) (x3 : Int32) (C1 : CS), (0 ≤ x3.toInt ∧ x3.toInt ≤ a1.toInt ∧ a1.toInt ≤ 20000 ∧ a1.toInt ≤ x3.toInt + (fu : Int)) → gX5_step C a1 = gX5_step_L37 C a1 fu x3 C1 → ∀ (H : Heap) (locs : List Loc) (ls : Array Slot), va_P D vwCl (clW ck ca C1) H → va_D (va_A (clW ck ca C) s.heap.size) (clW ck ca C1) → va_S (va_A (clW ck ca C) s.heap.size) s.heap H locs → lv_has ls 4 [(0, .ref (ca 0 0)), (1, .int a1), (2, .int (gX4_joinsIn C.1 2)), (3, .int x3)] → W zp l ze rmX5_step s zm ([.ref (ca 0 0), .int a1] : List Value).toArray zb zt zc H locs 0 0 (MQ zb (xQi D (clW ck ca C) (clW ck ca ((gX5_step C a1).2)) ((gX5_step C a1).1) s.heap.size) ([.ref (ca 0 0), .int a1] : List Value).toArray s 0 0 (va_A (clW ck ca C) s.heap.size)) (F0 zm 37 ls []) := by
        intro fu
        induction fu with
        | zero =>
          intro x3 C1 hlp hg H locs ls hP hD hS hl
          refine lv_iload_n hx hb dX5_step_37 rfl (lv_at hl 3 rfl) ?_
          refine lv_iload_n hx hb dX5_step_38 rfl (lv_at hl 1 rfl) ?_
          refine lv_icmp_ge (tgt := 62) hx hb dX5_step_39 (by decide) (fun c_39 => ?_) (fun c_39 => ?_)
          · --t
            refine lv_aload_n hx hb dX5_step_62 rfl (lv_at hl 0 rfl) ?_
            refine va_get (D := D) (ci := 5) (v := .ref (ca 1 0)) (C := RX5) (T := TX5) (N := 7) hx hb hts hinX5 hown hK hP 0 rfl rfl 0 (by decide) (hts (.fieldLink RX5 10 "JoinGrants" "pool" "LJoinGrants$Pool;") (List.mem_of_getElem? (i := 2) rfl)) (fun _ h9 => h9) rfl dX5_step_63 ?_
            refine lv_iconst (v := 2) hx hb dX5_step_66 (by decide) ?_
            refine xreti (va_runV (As := [.int 2]) (rest := []) ⟨hx, hb, hml, hown, hts⟩ (mX4_joinsIn l D ck (ca 1) C1.1 2  _) (cwV 1 hts gX5_step_X4_joinsIn rfl rfl rfl (by decide +kernel) ⟨Nat.le_of_ble_eq_true rfl, Nat.le_of_ble_eq_true rfl⟩) (xpreV hN hK hP hD (cm_P C1) 0 rfl rfl rfl) rfl rfl hl.1 rfl (lv_room (Nat.le_of_ble_eq_true rfl)) dX5_step_67 ⟨Nat.le_of_ble_eq_true rfl, Nat.le_of_ble_eq_true rfl⟩) hP hD hS hA (cm_P C1) (cm_P C1).symm (fun H locs hP hD hS => ?_)
            refine lv_iload_n hx hb dX5_step_70 rfl (lv_at hl 2 rfl) ?_
            refine lv_isub hx hb dX5_step_71 ?_
            exact xiret hx hb hr hlk hP hD hS (congrArg (fun z => z.1) (hg.trans (show gX5_step_L37 C a1 0 x3 C1 = (((gX4_joinsIn C1.1 2) - (gX4_joinsIn C.1 2)), C1) from rfl))).symm (congrArg (fun z => clW ck ca z.2) (hg.trans (show gX5_step_L37 C a1 0 x3 C1 = (((gX4_joinsIn C1.1 2) - (gX4_joinsIn C.1 2)), C1) from rfl))).symm dX5_step_72
          · --f
            exact absurd (lp_z hlp) c_39
        | succ fu ih37 =>
          intro x3 C1 hlp hg H locs ls hP hD hS hl
          refine lv_iload_n hx hb dX5_step_37 rfl (lv_at hl 3 rfl) ?_
          refine lv_iload_n hx hb dX5_step_38 rfl (lv_at hl 1 rfl) ?_
          refine lv_icmp_ge (tgt := 62) hx hb dX5_step_39 (by decide) (fun c_39 => ?_) (fun c_39 => ?_)
          · --t
            refine lv_aload_n hx hb dX5_step_62 rfl (lv_at hl 0 rfl) ?_
            refine va_get (D := D) (ci := 5) (v := .ref (ca 1 0)) (C := RX5) (T := TX5) (N := 7) hx hb hts hinX5 hown hK hP 0 rfl rfl 0 (by decide) (hts (.fieldLink RX5 10 "JoinGrants" "pool" "LJoinGrants$Pool;") (List.mem_of_getElem? (i := 2) rfl)) (fun _ h9 => h9) rfl dX5_step_63 ?_
            refine lv_iconst (v := 2) hx hb dX5_step_66 (by decide) ?_
            refine xreti (va_runV (As := [.int 2]) (rest := []) ⟨hx, hb, hml, hown, hts⟩ (mX4_joinsIn l D ck (ca 1) C1.1 2  _) (cwV 1 hts gX5_step_X4_joinsIn rfl rfl rfl (by decide +kernel) ⟨Nat.le_of_ble_eq_true rfl, Nat.le_of_ble_eq_true rfl⟩) (xpreV hN hK hP hD (cm_P C1) 0 rfl rfl rfl) rfl rfl hl.1 rfl (lv_room (Nat.le_of_ble_eq_true rfl)) dX5_step_67 ⟨Nat.le_of_ble_eq_true rfl, Nat.le_of_ble_eq_true rfl⟩) hP hD hS hA (cm_P C1) (cm_P C1).symm (fun H locs hP hD hS => ?_)
            refine lv_iload_n hx hb dX5_step_70 rfl (lv_at hl 2 rfl) ?_
            refine lv_isub hx hb dX5_step_71 ?_
            exact xiret hx hb hr hlk hP hD hS (congrArg (fun z => z.1) (hg.trans (show gX5_step_L37 C a1 (fu + 1) x3 C1 = (((gX4_joinsIn C1.1 2) - (gX4_joinsIn C.1 2)), C1) from (Eq.trans (if_pos c_39) rfl)))).symm (congrArg (fun z => clW ck ca z.2) (hg.trans (show gX5_step_L37 C a1 (fu + 1) x3 C1 = (((gX4_joinsIn C1.1 2) - (gX4_joinsIn C.1 2)), C1) from (Eq.trans (if_pos c_39) rfl)))).symm dX5_step_72
          · --f
            refine lv_iload_n hx hb dX5_step_42 rfl (lv_at hl 3 rfl) ?_
            refine lv_iconst (v := 1) hx hb dX5_step_43 (by decide) ?_
            refine lv_aload_n hx hb dX5_step_44 rfl (lv_at hl 0 rfl) ?_
            refine va_get (D := D) (ci := 5) (v := .ref (ca 1 0)) (C := RX5) (T := TX5) (N := 7) hx hb hts hinX5 hown hK hP 0 rfl rfl 0 (by decide) (hts (.fieldLink RX5 10 "JoinGrants" "pool" "LJoinGrants$Pool;") (List.mem_of_getElem? (i := 2) rfl)) (fun _ h9 => h9) rfl dX5_step_45 ?_
            refine lv_iload_n hx hb dX5_step_48 rfl (lv_at hl 1 rfl) ?_
            refine lv_iload_n hx hb dX5_step_49 rfl (lv_at hl 3 rfl) ?_
            refine lv_isub hx hb dX5_step_50 ?_
            refine xreti (va_runV (As := [.int (a1 - x3)]) (rest := [.int 1, .int x3]) ⟨hx, hb, hml, hown, hts⟩ (mX4_leap l D ck (ca 1) C1.1 (a1 - x3)  _) (cwV 1 hts gX5_step_X4_leap rfl rfl rfl (by decide +kernel) ⟨Nat.le_of_ble_eq_true rfl, Nat.le_of_ble_eq_true rfl⟩) (xpreV hN hK hP hD (cm_P C1) 0 rfl rfl rfl) rfl rfl hl.1 rfl (lv_room (Nat.le_of_ble_eq_true rfl)) dX5_step_51 ⟨Nat.le_of_ble_eq_true rfl, Nat.le_of_ble_eq_true rfl⟩) hP hD hS hA (cm_P C1) (cm_P' C1) (fun H locs hP hD hS => ?_)
            have hP : va_P D vwCl (clW ck ca ((gX4_leap C1.1 (a1 - x3)).2, C1.2.1, C1.2.2.1, C1.2.2.2.1, C1.2.2.2.2.1, C1.2.2.2.2.2.1, C1.2.2.2.2.2.2)) H := hP
            have hD : va_D (va_A (clW ck ca C) s.heap.size) (clW ck ca ((gX4_leap C1.1 (a1 - x3)).2, C1.2.1, C1.2.2.1, C1.2.2.2.1, C1.2.2.2.2.1, C1.2.2.2.2.2.1, C1.2.2.2.2.2.2)) := hD
            refine va_mmax hx hb (hml.trans hl.1.symm) hown (hts (.methodLink RX5 114 Lib.Math.max.name) (List.mem_of_getElem? (i := 3) rfl)) (hts (.static Lib.Math.max.name) (List.mem_of_getElem? (i := 4) rfl)) (hts (.initialized "java/lang/Math") (List.mem_of_getElem? (i := 5) rfl)) (hts (.code Lib.Math.max.name Lib.Math.max.code 2 (some .int)) (List.mem_of_getElem? (i := 6) rfl)) (Nat.le_of_ble_eq_true rfl) (Nat.le_of_ble_eq_true rfl) (Nat.le_of_ble_eq_true rfl) (Nat.le_of_ble_eq_true rfl) dX5_step_54 ?_
            refine lv_iadd hx hb dX5_step_57 ?_
            refine lv_istore_n (lv' := [(3, .int (x3 + (if 1 < ((gX4_leap C1.1 (a1 - x3)).1) then ((gX4_leap C1.1 (a1 - x3)).1) else 1))), (0, .ref (ca 0 0)), (1, .int a1), (2, .int (gX4_joinsIn C.1 2))]) hx hb dX5_step_58 rfl hl (by decide) rfl (fun ls hl => ?_)
            refine lv_goto (tgt := 37) hx hb dX5_step_59 (by decide) ?_
            exact ih37 (x3 + (if 1 < ((gX4_leap C1.1 (a1 - x3)).1) then ((gX4_leap C1.1 (a1 - x3)).1) else 1)) ((gX4_leap C1.1 (a1 - x3)).2, C1.2.1, C1.2.2.1, C1.2.2.2.1, C1.2.2.2.2.1, C1.2.2.2.2.2.1, C1.2.2.2.2.2.2) (lp_s hlp c_39) (hg.trans (show gX5_step_L37 C a1 (fu + 1) x3 C1 = (gX5_step_L37 C a1 fu (x3 + (if 1 < ((gX4_leap C1.1 (a1 - x3)).1) then ((gX4_leap C1.1 (a1 - x3)).1) else 1)) ((gX4_leap C1.1 (a1 - x3)).2, C1.2.1, C1.2.2.1, C1.2.2.2.1, C1.2.2.2.2.1, C1.2.2.2.2.2.1, C1.2.2.2.2.2.2)) from (Eq.trans (if_neg c_39) rfl))) _ _ _ hP hD hS (lv_sub hl [1, 2, 3, 0] rfl)
      exact loop37 a1.toInt.toNat 0 (C.1, (gX0_record C.2.1 C.1), C.2.2.1, C.2.2.2.1, C.2.2.2.2.1, C.2.2.2.2.2.1, C.2.2.2.2.2.2) (lp_0 c_2 c_9) (show gX5_step C a1 = (gX5_step_L37 C a1 a1.toInt.toNat 0 (C.1, (gX0_record C.2.1 C.1), C.2.2.1, C.2.2.2.1, C.2.2.2.2.1, C.2.2.2.2.2.1, C.2.2.2.2.2.2)) from (Eq.trans (if_neg c_2) (Eq.trans (if_pos c_9) rfl))) _ _ _ hP hD hS (lv_sub hl [2, 3, 1, 0] rfl)
    · --f
      refine lv_bipush (v := (-2)) hx hb dX5_step_12 (by decide) ?_
      exact xiret hx hb hr hlk hP hD hS (congrArg (fun z => z.1) (show gX5_step C a1 = ((-2), C) from (Eq.trans (if_neg c_2) (Eq.trans (if_neg c_9) rfl)))).symm (congrArg (fun z => clW ck ca z.2) (show gX5_step C a1 = ((-2), C) from (Eq.trans (if_neg c_2) (Eq.trans (if_neg c_9) rfl)))).symm dX5_step_14

def rmX5_set : Room := { frames := 6, cells := 0, slots := 0, locals := 141 }
set_option maxHeartbeats 4000000 in
set_option maxRecDepth 100000 in
theorem mX5_set (l : Launch) (D : va_G) (ck : Nat → ClassId) (tt : Nat → Nat) (ca : Nat → Nat → Nat) (C : CS) (a1 : Int32) (a2 : Int32) (hz : ¬ C.2.1.1 < 0) : xMiZ tt l yX5_set wsX5_set rmX5_set D ck [.ref (ca 0 0), .int a1, .int a2] (clW ck ca C) (clW ck ca ((gX5_set C a1 a2).2)) ((gX5_set C a1 a2).1) 0 0 := by
  refine xMetZ (by decide) rfl (Nat.le_of_ble_eq_true rfl) ?_
  intro zp ze s zm zb zt zc hx hb hr hml hown hts hlk hnm hN hK hP hD hZ ls hl
  have hown : s.vm.findClass RX5 = some zm.cls := hown
  have hl : lv_has ls 4 [(0, .ref (ca 0 0)), (1, .int a1), (2, .int a2)] := hl
  have hS : va_S (va_A (clW ck ca C) s.heap.size) s.heap s.heap [] := va_S.rf
  have hA : ∀ zq : Nat, s.heap.size ≤ zq → va_A (clW ck ca C) s.heap.size zq := fun zq h => Or.inr h
  have hinX5 : ∀ w ∈ u_ws RX5 TX5 7, w ∈ wsX5_set := by decide +kernel
  refine lv_iload_n hx hb dX5_set_0 rfl (lv_at hl 1 rfl) ?_
  refine lv_iload_n hx hb dX5_set_1 rfl (lv_at hl 2 rfl) ?_
  refine xreti (va_runS (As := [.int a1, .int a2]) (rest := []) ⟨hx, hb, hml, hown, hts⟩ (mX4_allows l D ck tt a1 a2 _) (va_cwS 2 hts gX5_set_X4_allows rfl rfl rfl (by decide +kernel) ⟨Nat.le_of_ble_eq_true rfl, Nat.le_of_ble_eq_true rfl⟩) (xpreSZ hZ hS hA hN hK hP hD pm_none) rfl rfl hl.1 rfl (lv_room (Nat.le_of_ble_eq_true rfl)) dX5_set_2 ⟨Nat.le_of_ble_eq_true rfl, Nat.le_of_ble_eq_true rfl⟩) hP hD hS hA pm_none pm_none (fun H locs hP hD hS => ?_)
  have hP : va_P D vwCl (clW ck ca C) H := hP
  have hD : va_D (va_A (clW ck ca C) s.heap.size) (clW ck ca C) := hD
  refine lv_if_ne (tgt := 11) hx hb dX5_set_5 (by decide) (fun c_5 => ?_) (fun c_5 => ?_)
  · --t
    refine lv_aload_n hx hb dX5_set_11 rfl (lv_at hl 0 rfl) ?_
    refine va_get (D := D) (ci := 5) (v := .ref (ca 1 0)) (C := RX5) (T := TX5) (N := 7) hx hb hts hinX5 hown hK hP 0 rfl rfl 0 (by decide) (hts (.fieldLink RX5 10 "JoinGrants" "pool" "LJoinGrants$Pool;") (List.mem_of_getElem? (i := 1) rfl)) (fun _ h9 => h9) rfl dX5_set_12 ?_
    refine lv_iload_n hx hb dX5_set_15 rfl (lv_at hl 1 rfl) ?_
    refine xreti (va_runV (As := [.int a1]) (rest := []) ⟨hx, hb, hml, hown, hts⟩ (mX4_setting l D ck (ca 1) C.1 a1  _) (cwV 1 hts gX5_set_X4_setting rfl rfl rfl (by decide +kernel) ⟨Nat.le_of_ble_eq_true rfl, Nat.le_of_ble_eq_true rfl⟩) (xpreV hN hK hP hD (cm_P C) 0 rfl rfl rfl) rfl rfl hl.1 rfl (lv_room (Nat.le_of_ble_eq_true rfl)) dX5_set_16 ⟨Nat.le_of_ble_eq_true rfl, Nat.le_of_ble_eq_true rfl⟩) hP hD hS hA (cm_P C) (cm_P C).symm (fun H locs hP hD hS => ?_)
    refine lv_istore_n (lv' := [(3, .int (gX4_setting C.1 a1)), (0, .ref (ca 0 0)), (1, .int a1), (2, .int a2)]) hx hb dX5_set_19 rfl hl (by decide) rfl (fun ls hl => ?_)
    refine lv_iload_n hx hb dX5_set_20 rfl (lv_at hl 0 rfl) ?_
    refine lv_iload_n hx hb dX5_set_21 rfl (lv_at hl 3 rfl) ?_
    refine lv_icmp_ne (tgt := 28) hx hb dX5_set_22 (by decide) (fun c_22 => ?_) (fun c_22 => ?_)
    · --t
      refine lv_aload_n hx hb dX5_set_28 rfl (lv_at hl 1 rfl) ?_
      refine va_get (D := D) (ci := 5) (v := .ref (ca 2 0)) (C := RX5) (T := TX5) (N := 7) hx hb hts hinX5 hown hK hP 0 rfl rfl 1 (by decide) (hts (.fieldLink RX5 19 "JoinGrants" "history" "LJoinGrants$History;") (List.mem_of_getElem? (i := 2) rfl)) (fun _ h9 => h9) rfl dX5_set_29 ?_
      refine lv_aload_n hx hb dX5_set_32 rfl (lv_at hl 1 rfl) ?_
      refine va_get (D := D) (ci := 5) (v := .ref (ca 1 0)) (C := RX5) (T := TX5) (N := 7) hx hb hts hinX5 hown hK hP 0 rfl rfl 0 (by decide) (hts (.fieldLink RX5 10 "JoinGrants" "pool" "LJoinGrants$Pool;") (List.mem_of_getElem? (i := 1) rfl)) (fun _ h9 => h9) rfl dX5_set_33 ?_
      refine xretv (va_runV (As := [.ref (ca 1 0)]) (rest := []) ⟨hx, hb, hml, hown, hts⟩ (mX0_record l D ck (ca 2) (ca 1) C.2.1 C.1 hz _) (cwV 1 hts gX5_set_X0_record rfl rfl rfl (by decide +kernel) ⟨Nat.le_of_ble_eq_true rfl, Nat.le_of_ble_eq_true rfl⟩) (xpreV hN hK hP hD (cm_H C) 0 rfl rfl rfl) rfl rfl hl.1 rfl (lv_room (Nat.le_of_ble_eq_true rfl)) dX5_set_36 ⟨Nat.le_of_ble_eq_true rfl, Nat.le_of_ble_eq_true rfl⟩) hP hD hS hA (cm_H C) (cm_H' C) (fun H locs hP hD hS => ?_)
      have hP : va_P D vwCl (clW ck ca (C.1, (gX0_record C.2.1 C.1), C.2.2.1, C.2.2.2.1, C.2.2.2.2.1, C.2.2.2.2.2.1, C.2.2.2.2.2.2)) H := hP
      have hD : va_D (va_A (clW ck ca C) s.heap.size) (clW ck ca (C.1, (gX0_record C.2.1 C.1), C.2.2.1, C.2.2.2.1, C.2.2.2.2.1, C.2.2.2.2.2.1, C.2.2.2.2.2.2)) := hD
      refine lv_aload_n hx hb dX5_set_39 rfl (lv_at hl 1 rfl) ?_
      refine va_get (D := D) (ci := 5) (v := .ref (ca 1 0)) (C := RX5) (T := TX5) (N := 7) hx hb hts hinX5 hown hK hP 0 rfl rfl 0 (by decide) (hts (.fieldLink RX5 10 "JoinGrants" "pool" "LJoinGrants$Pool;") (List.mem_of_getElem? (i := 1) rfl)) (fun _ h9 => h9) rfl dX5_set_40 ?_
      refine lv_iload_n hx hb dX5_set_43 rfl (lv_at hl 2 rfl) ?_
      refine lv_iload_n hx hb dX5_set_44 rfl (lv_at hl 3 rfl) ?_
      refine xretv (va_runV (As := [.int a1, .int a2]) (rest := []) ⟨hx, hb, hml, hown, hts⟩ (mX4_changeSetting l D ck (ca 1) C.1 a1 a2  _) (cwV 2 hts gX5_set_X4_changeSetting rfl rfl rfl (by decide +kernel) ⟨Nat.le_of_ble_eq_true rfl, Nat.le_of_ble_eq_true rfl⟩) (xpreV hN hK hP hD (cm_P (C.1, (gX0_record C.2.1 C.1), C.2.2.1, C.2.2.2.1, C.2.2.2.2.1, C.2.2.2.2.2.1, C.2.2.2.2.2.2)) 0 rfl rfl rfl) rfl rfl hl.1 rfl (lv_room (Nat.le_of_ble_eq_true rfl)) dX5_set_45 ⟨Nat.le_of_ble_eq_true rfl, Nat.le_of_ble_eq_true rfl⟩) hP hD hS hA (cm_P (C.1, (gX0_record C.2.1 C.1), C.2.2.1, C.2.2.2.1, C.2.2.2.2.1, C.2.2.2.2.2.1, C.2.2.2.2.2.2)) (cm_P' (C.1, (gX0_record C.2.1 C.1), C.2.2.1, C.2.2.2.1, C.2.2.2.2.1, C.2.2.2.2.2.1, C.2.2.2.2.2.2)) (fun H locs hP hD hS => ?_)
      have hP : va_P D vwCl (clW ck ca ((gX4_changeSetting C.1 a1 a2), (gX0_record C.2.1 C.1), C.2.2.1, C.2.2.2.1, C.2.2.2.2.1, C.2.2.2.2.2.1, C.2.2.2.2.2.2)) H := hP
      have hD : va_D (va_A (clW ck ca C) s.heap.size) (clW ck ca ((gX4_changeSetting C.1 a1 a2), (gX0_record C.2.1 C.1), C.2.2.1, C.2.2.2.1, C.2.2.2.2.1, C.2.2.2.2.2.1, C.2.2.2.2.2.2)) := hD
      refine lv_iload_n hx hb dX5_set_48 rfl (lv_at hl 0 rfl) ?_
      exact xiret hx hb hr hlk hP hD hS (congrArg (fun z => z.1) (show gX5_set C a1 a2 = ((gX4_setting C.1 a1), ((gX4_changeSetting C.1 a1 a2), (gX0_record C.2.1 C.1), C.2.2.1, C.2.2.2.1, C.2.2.2.2.1, C.2.2.2.2.2.1, C.2.2.2.2.2.2)) from (Eq.trans (if_neg c_5) (Eq.trans (if_neg c_22) rfl)))).symm (congrArg (fun z => clW ck ca z.2) (show gX5_set C a1 a2 = ((gX4_setting C.1 a1), ((gX4_changeSetting C.1 a1 a2), (gX0_record C.2.1 C.1), C.2.2.1, C.2.2.2.1, C.2.2.2.2.1, C.2.2.2.2.2.1, C.2.2.2.2.2.2)) from (Eq.trans (if_neg c_5) (Eq.trans (if_neg c_22) rfl)))).symm dX5_set_49
    · --f
      refine lv_bipush (v := (-5)) hx hb dX5_set_25 (by decide) ?_
      exact xiret hx hb hr hlk hP hD hS (congrArg (fun z => z.1) (show gX5_set C a1 a2 = ((-5), C) from (Eq.trans (if_neg c_5) (Eq.trans (if_pos c_22) rfl)))).symm (congrArg (fun z => clW ck ca z.2) (show gX5_set C a1 a2 = ((-5), C) from (Eq.trans (if_neg c_5) (Eq.trans (if_pos c_22) rfl)))).symm dX5_set_27
  · --f
    refine lv_bipush (v := (-2)) hx hb dX5_set_8 (by decide) ?_
    exact xiret hx hb hr hlk hP hD hS (congrArg (fun z => z.1) (show gX5_set C a1 a2 = ((-2), C) from (Eq.trans (if_pos c_5) rfl))).symm (congrArg (fun z => clW ck ca z.2) (show gX5_set C a1 a2 = ((-2), C) from (Eq.trans (if_pos c_5) rfl))).symm dX5_set_10

def rmX5_type : Room := { frames := 1, cells := 0, slots := 0, locals := 21 }
set_option maxHeartbeats 4000000 in
set_option maxRecDepth 100000 in
theorem mX5_type (l : Launch) (D : va_G) (ck : Nat → ClassId) (ca : Nat → Nat → Nat) (C : CS) (a1 : Int32) (ht : ¬ C.2.2.1.1 0 < 0) : xMi l yX5_type wsX5_type rmX5_type D ck [.ref (ca 0 0), .int a1] (clW ck ca C) (clW ck ca ((gX5_type C a1).2)) ((gX5_type C a1).1) 0 0 := by
  refine xMet (by decide) rfl (Nat.le_of_ble_eq_true rfl) ?_
  intro zp ze s zm zb zt zc hx hb hr hml hown hts hlk hnm hN hK hP hD ls hl
  have hown : s.vm.findClass RX5 = some zm.cls := hown
  have hl : lv_has ls 2 [(0, .ref (ca 0 0)), (1, .int a1)] := hl
  have hS : va_S (va_A (clW ck ca C) s.heap.size) s.heap s.heap [] := va_S.rf
  have hA : ∀ zq : Nat, s.heap.size ≤ zq → va_A (clW ck ca C) s.heap.size zq := fun zq h => Or.inr h
  have hinX5 : ∀ w ∈ u_ws RX5 TX5 7, w ∈ wsX5_type := by decide +kernel
  refine lv_aload_n hx hb dX5_type_0 rfl (lv_at hl 0 rfl) ?_
  refine va_get (D := D) (ci := 5) (v := .ref (ca 3 0)) (C := RX5) (T := TX5) (N := 7) hx hb hts hinX5 hown hK hP 0 rfl rfl 2 (by decide) (hts (.fieldLink RX5 26 "JoinGrants" "text" "LJoinGrants$JoinText;") (List.mem_of_getElem? (i := 1) rfl)) (fun _ h9 => h9) rfl dX5_type_1 ?_
  refine lv_iload_n hx hb dX5_type_4 rfl (lv_at hl 1 rfl) ?_
  refine xreti (va_runV (As := [.int a1]) (rest := []) ⟨hx, hb, hml, hown, hts⟩ (mX2_append l D ck (ca 3) C.2.2.1 a1 ht _) (cwV 1 hts gX5_type_X2_append rfl rfl rfl (by decide +kernel) ⟨Nat.le_of_ble_eq_true rfl, Nat.le_of_ble_eq_true rfl⟩) (xpreV hN hK hP hD (cm_T C) 0 rfl rfl rfl) rfl rfl hl.1 rfl (lv_room (Nat.le_of_ble_eq_true rfl)) dX5_type_5 ⟨Nat.le_of_ble_eq_true rfl, Nat.le_of_ble_eq_true rfl⟩) hP hD hS hA (cm_T C) (cm_T' C) (fun H locs hP hD hS => ?_)
  have hP : va_P D vwCl (clW ck ca (C.1, C.2.1, (gX2_append C.2.2.1 a1).2, C.2.2.2.1, C.2.2.2.2.1, C.2.2.2.2.2.1, C.2.2.2.2.2.2)) H := hP
  have hD : va_D (va_A (clW ck ca C) s.heap.size) (clW ck ca (C.1, C.2.1, (gX2_append C.2.2.1 a1).2, C.2.2.2.1, C.2.2.2.2.1, C.2.2.2.2.2.1, C.2.2.2.2.2.2)) := hD
  refine lv_if_eq (tgt := 21) hx hb dX5_type_8 (by decide) (fun c_8 => ?_) (fun c_8 => ?_)
  · --t
    refine lv_bipush (v := (-3)) hx hb dX5_type_21 (by decide) ?_
    exact xiret hx hb hr hlk hP hD hS (congrArg (fun z => z.1) (show gX5_type C a1 = ((-3), (C.1, C.2.1, (gX2_append C.2.2.1 a1).2, C.2.2.2.1, C.2.2.2.2.1, C.2.2.2.2.2.1, C.2.2.2.2.2.2)) from (Eq.trans (if_pos c_8) rfl))).symm (congrArg (fun z => clW ck ca z.2) (show gX5_type C a1 = ((-3), (C.1, C.2.1, (gX2_append C.2.2.1 a1).2, C.2.2.2.1, C.2.2.2.2.1, C.2.2.2.2.2.1, C.2.2.2.2.2.2)) from (Eq.trans (if_pos c_8) rfl))).symm dX5_type_23
  · --f
    refine lv_aload_n hx hb dX5_type_11 rfl (lv_at hl 0 rfl) ?_
    refine va_get (D := D) (ci := 5) (v := .ref (ca 3 0)) (C := RX5) (T := TX5) (N := 7) hx hb hts hinX5 hown hK hP 0 rfl rfl 2 (by decide) (hts (.fieldLink RX5 26 "JoinGrants" "text" "LJoinGrants$JoinText;") (List.mem_of_getElem? (i := 1) rfl)) (fun _ h9 => h9) rfl dX5_type_12 ?_
    refine xreti (va_runV (As := []) (rest := []) ⟨hx, hb, hml, hown, hts⟩ (mX2_length l D ck (ca 3) ((gX2_append C.2.2.1 a1).2)   _) (cwV 0 hts gX5_type_X2_length rfl rfl rfl (by decide +kernel) ⟨Nat.le_of_ble_eq_true rfl, Nat.le_of_ble_eq_true rfl⟩) (xpreV hN hK hP hD (cm_T (C.1, C.2.1, (gX2_append C.2.2.1 a1).2, C.2.2.2.1, C.2.2.2.2.1, C.2.2.2.2.2.1, C.2.2.2.2.2.2)) 0 rfl rfl rfl) rfl rfl hl.1 rfl (lv_room (Nat.le_of_ble_eq_true rfl)) dX5_type_15 ⟨Nat.le_of_ble_eq_true rfl, Nat.le_of_ble_eq_true rfl⟩) hP hD hS hA (cm_T (C.1, C.2.1, (gX2_append C.2.2.1 a1).2, C.2.2.2.1, C.2.2.2.2.1, C.2.2.2.2.2.1, C.2.2.2.2.2.2)) (cm_T (C.1, C.2.1, (gX2_append C.2.2.1 a1).2, C.2.2.2.1, C.2.2.2.2.1, C.2.2.2.2.2.1, C.2.2.2.2.2.2)).symm (fun H locs hP hD hS => ?_)
    refine lv_goto (tgt := 23) hx hb dX5_type_18 (by decide) ?_
    exact xiret hx hb hr hlk hP hD hS (congrArg (fun z => z.1) (show gX5_type C a1 = ((gX2_length ((gX2_append C.2.2.1 a1).2) ), (C.1, C.2.1, (gX2_append C.2.2.1 a1).2, C.2.2.2.1, C.2.2.2.2.1, C.2.2.2.2.2.1, C.2.2.2.2.2.2)) from (Eq.trans (if_neg c_8) rfl))).symm (congrArg (fun z => clW ck ca z.2) (show gX5_type C a1 = ((gX2_length ((gX2_append C.2.2.1 a1).2) ), (C.1, C.2.1, (gX2_append C.2.2.1 a1).2, C.2.2.2.1, C.2.2.2.2.1, C.2.2.2.2.2.1, C.2.2.2.2.2.2)) from (Eq.trans (if_neg c_8) rfl))).symm dX5_type_23

def rmX5_clearText : Room := { frames := 1, cells := 0, slots := 0, locals := 20 }
set_option maxHeartbeats 4000000 in
set_option maxRecDepth 100000 in
theorem mX5_clearText (l : Launch) (D : va_G) (ck : Nat → ClassId) (ca : Nat → Nat → Nat) (C : CS) : xMi l yX5_clearText wsX5_clearText rmX5_clearText D ck [.ref (ca 0 0)] (clW ck ca C) (clW ck ca ((gX5_clearText C).2)) ((gX5_clearText C).1) 0 0 := by
  refine xMet (by decide) rfl (Nat.le_of_ble_eq_true rfl) ?_
  intro zp ze s zm zb zt zc hx hb hr hml hown hts hlk hnm hN hK hP hD ls hl
  have hown : s.vm.findClass RX5 = some zm.cls := hown
  have hl : lv_has ls 2 [(0, .ref (ca 0 0))] := hl
  have hS : va_S (va_A (clW ck ca C) s.heap.size) s.heap s.heap [] := va_S.rf
  have hA : ∀ zq : Nat, s.heap.size ≤ zq → va_A (clW ck ca C) s.heap.size zq := fun zq h => Or.inr h
  have hinX5 : ∀ w ∈ u_ws RX5 TX5 7, w ∈ wsX5_clearText := by decide +kernel
  refine lv_aload_n hx hb dX5_clearText_0 rfl (lv_at hl 0 rfl) ?_
  refine va_get (D := D) (ci := 5) (v := .ref (ca 3 0)) (C := RX5) (T := TX5) (N := 7) hx hb hts hinX5 hown hK hP 0 rfl rfl 2 (by decide) (hts (.fieldLink RX5 26 "JoinGrants" "text" "LJoinGrants$JoinText;") (List.mem_of_getElem? (i := 1) rfl)) (fun _ h9 => h9) rfl dX5_clearText_1 ?_
  refine xreti (va_runV (As := []) (rest := []) ⟨hx, hb, hml, hown, hts⟩ (mX2_length l D ck (ca 3) C.2.2.1   _) (cwV 0 hts gX5_clearText_X2_length rfl rfl rfl (by decide +kernel) ⟨Nat.le_of_ble_eq_true rfl, Nat.le_of_ble_eq_true rfl⟩) (xpreV hN hK hP hD (cm_T C) 0 rfl rfl rfl) rfl rfl hl.1 rfl (lv_room (Nat.le_of_ble_eq_true rfl)) dX5_clearText_4 ⟨Nat.le_of_ble_eq_true rfl, Nat.le_of_ble_eq_true rfl⟩) hP hD hS hA (cm_T C) (cm_T C).symm (fun H locs hP hD hS => ?_)
  refine lv_istore_n (lv' := [(1, .int (gX2_length C.2.2.1 )), (0, .ref (ca 0 0))]) hx hb dX5_clearText_7 rfl hl (by decide) rfl (fun ls hl => ?_)
  refine lv_aload_n hx hb dX5_clearText_8 rfl (lv_at hl 1 rfl) ?_
  refine va_get (D := D) (ci := 5) (v := .ref (ca 3 0)) (C := RX5) (T := TX5) (N := 7) hx hb hts hinX5 hown hK hP 0 rfl rfl 2 (by decide) (hts (.fieldLink RX5 26 "JoinGrants" "text" "LJoinGrants$JoinText;") (List.mem_of_getElem? (i := 1) rfl)) (fun _ h9 => h9) rfl dX5_clearText_9 ?_
  refine xretv (va_runV (As := []) (rest := []) ⟨hx, hb, hml, hown, hts⟩ (mX2_clear l D ck (ca 3) C.2.2.1   _) (cwV 0 hts gX5_clearText_X2_clear rfl rfl rfl (by decide +kernel) ⟨Nat.le_of_ble_eq_true rfl, Nat.le_of_ble_eq_true rfl⟩) (xpreV hN hK hP hD (cm_T C) 0 rfl rfl rfl) rfl rfl hl.1 rfl (lv_room (Nat.le_of_ble_eq_true rfl)) dX5_clearText_12 ⟨Nat.le_of_ble_eq_true rfl, Nat.le_of_ble_eq_true rfl⟩) hP hD hS hA (cm_T C) (cm_T' C) (fun H locs hP hD hS => ?_)
  have hP : va_P D vwCl (clW ck ca (C.1, C.2.1, (gX2_clear C.2.2.1 ), C.2.2.2.1, C.2.2.2.2.1, C.2.2.2.2.2.1, C.2.2.2.2.2.2)) H := hP
  have hD : va_D (va_A (clW ck ca C) s.heap.size) (clW ck ca (C.1, C.2.1, (gX2_clear C.2.2.1 ), C.2.2.2.1, C.2.2.2.2.1, C.2.2.2.2.2.1, C.2.2.2.2.2.2)) := hD
  refine lv_iload_n hx hb dX5_clearText_15 rfl (lv_at hl 0 rfl) ?_
  exact xiret hx hb hr hlk hP hD hS (congrArg (fun z => z.1) (show gX5_clearText C = ((gX2_length C.2.2.1 ), (C.1, C.2.1, (gX2_clear C.2.2.1 ), C.2.2.2.1, C.2.2.2.2.1, C.2.2.2.2.2.1, C.2.2.2.2.2.2)) from rfl)).symm (congrArg (fun z => clW ck ca z.2) (show gX5_clearText C = ((gX2_length C.2.2.1 ), (C.1, C.2.1, (gX2_clear C.2.2.1 ), C.2.2.2.1, C.2.2.2.2.1, C.2.2.2.2.2.1, C.2.2.2.2.2.2)) from rfl)).symm dX5_clearText_16

def rmX5_join : Room := { frames := 3, cells := 0, slots := 0, locals := 62 }
set_option maxHeartbeats 4000000 in
set_option maxRecDepth 100000 in
theorem mX5_join (l : Launch) (D : va_G) (ck : Nat → ClassId) (ca : Nat → Nat → Nat) (C : CS) (a1 : Int32) (a2 : Int32) : xMi l yX5_join wsX5_join rmX5_join D ck [.ref (ca 0 0), .int a1, .int a2] (clW ck ca C) (clW ck ca C) (gX5_join C a1 a2) 0 0 := by
  refine xMet (by decide) rfl (Nat.le_of_ble_eq_true rfl) ?_
  intro zp ze s zm zb zt zc hx hb hr hml hown hts hlk hnm hN hK hP hD ls hl
  have hown : s.vm.findClass RX5 = some zm.cls := hown
  have hl : lv_has ls 4 [(0, .ref (ca 0 0)), (1, .int a1), (2, .int a2)] := hl
  have hS : va_S (va_A (clW ck ca C) s.heap.size) s.heap s.heap [] := va_S.rf
  have hA : ∀ zq : Nat, s.heap.size ≤ zq → va_A (clW ck ca C) s.heap.size zq := fun zq h => Or.inr h
  have hinX5 : ∀ w ∈ u_ws RX5 TX5 7, w ∈ wsX5_join := by decide +kernel
  refine lv_aload_n hx hb dX5_join_0 rfl (lv_at hl 0 rfl) ?_
  refine va_get (D := D) (ci := 5) (v := .ref (ca 1 0)) (C := RX5) (T := TX5) (N := 7) hx hb hts hinX5 hown hK hP 0 rfl rfl 0 (by decide) (hts (.fieldLink RX5 10 "JoinGrants" "pool" "LJoinGrants$Pool;") (List.mem_of_getElem? (i := 1) rfl)) (fun _ h9 => h9) rfl dX5_join_1 ?_
  refine lv_iload_n hx hb dX5_join_4 rfl (lv_at hl 1 rfl) ?_
  refine xretq (va_runV (As := [.int a1]) (rest := []) ⟨hx, hb, hml, hown, hts⟩ (mX4_find l D ck (ca 1) C.1 a1  _) (cwV 1 hts gX5_join_X4_find rfl rfl rfl (by decide +kernel) ⟨Nat.le_of_ble_eq_true rfl, Nat.le_of_ble_eq_true rfl⟩) (xpreV hN hK hP hD (cm_P C) 0 rfl rfl rfl) rfl rfl hl.1 rfl (lv_room (Nat.le_of_ble_eq_true rfl)) dX5_join_5 ⟨Nat.le_of_ble_eq_true rfl, Nat.le_of_ble_eq_true rfl⟩) hP hD hS hA (cm_P C) (cm_P C).symm (fun H locs hP hD hS => ?_)
  by_cases cq_5 : (gX4_find C.1 a1) = none
  ·
    rw [xrf_none cq_5]
    refine lv_astore_nN (lv' := [(3, .null), (0, .ref (ca 0 0)), (1, .int a1), (2, .int a2)]) hx hb dX5_join_8 rfl hl (by decide) rfl (fun ls hl => ?_)
    refine lv_aload_nN hx hb dX5_join_9 rfl (lv_at hl 0 rfl) ?_
    refine lv_ifnonnullN hx hb dX5_join_10 ?_
    refine lv_iconst (v := (-1)) hx hb dX5_join_13 (by decide) ?_
    exact xiret hx hb hr hlk hP hD hS (show gX5_join C a1 a2 = (-1) from (Eq.trans (if_pos cq_5) rfl)).symm rfl dX5_join_14
  ·
    rw [xrf_some cq_5]
    have hlt_5 : ((gX4_find C.1 a1)).getD 0 < 16 := lt_X4_find cq_5
    refine lv_astore_n (lv' := [(3, .ref (jA (ca 1) ((gX4_find C.1 a1).getD 0))), (0, .ref (ca 0 0)), (1, .int a1), (2, .int a2)]) hx hb dX5_join_8 rfl hl (by decide) rfl (fun ls hl => ?_)
    refine lv_aload_n hx hb dX5_join_9 rfl (lv_at hl 0 rfl) ?_
    refine lv_ifnonnull (tgt := 15) hx hb dX5_join_10 (by decide) ?_
    refine lv_iload_n hx hb dX5_join_15 rfl (lv_at hl 3 rfl) ?_
    refine xreti (va_runS (As := [.int a2]) (rest := []) ⟨hx, hb, hml, hown, hts⟩ (mX1_canTell l D ck a2 _) (va_cwS 1 hts gX5_join_X1_canTell rfl rfl rfl (by decide +kernel) ⟨Nat.le_of_ble_eq_true rfl, Nat.le_of_ble_eq_true rfl⟩) (xpreS hN hK hP hD pm_none) rfl rfl hl.1 rfl (lv_room (Nat.le_of_ble_eq_true rfl)) dX5_join_16 ⟨Nat.le_of_ble_eq_true rfl, Nat.le_of_ble_eq_true rfl⟩) hP hD hS hA pm_none pm_none (fun H locs hP hD hS => ?_)
    have hP : va_P D vwCl (clW ck ca C) H := hP
    have hD : va_D (va_A (clW ck ca C) s.heap.size) (clW ck ca C) := hD
    refine lv_if_eq (tgt := 30) hx hb dX5_join_19 (by decide) (fun c_19 => ?_) (fun c_19 => ?_)
    · --t
      refine lv_bipush (v := (-2)) hx hb dX5_join_30 (by decide) ?_
      exact xiret hx hb hr hlk hP hD hS (show gX5_join C a1 a2 = (-2) from (Eq.trans (if_neg cq_5) (Eq.trans (if_pos c_19) rfl))).symm rfl dX5_join_32
    · --f
      refine lv_aload_n hx hb dX5_join_22 rfl (lv_at hl 0 rfl) ?_
      refine lv_iload_n hx hb dX5_join_23 rfl (lv_at hl 3 rfl) ?_
      refine xreti (va_runV (As := [.int a2]) (rest := []) ⟨hx, hb, hml, hown, hts⟩ (mX1_tell l D ck (jA (ca 1) ((gX4_find C.1 a1).getD 0)) (qA (ca 1) ((gX4_find C.1 a1).getD 0)) (nI ((gX4_find C.1 a1).getD 0)) (C.1.2.2 ((gX4_find C.1 a1).getD 0)) a2 _) (cwV 1 hts gX5_join_X1_tell rfl rfl rfl (by decide +kernel) ⟨Nat.le_of_ble_eq_true rfl, Nat.le_of_ble_eq_true rfl⟩) (xpreV hN hK hP hD (cm_J C (by omega)) 0 rfl rfl rfl) rfl rfl hl.1 rfl (lv_room (Nat.le_of_ble_eq_true rfl)) dX5_join_24 ⟨Nat.le_of_ble_eq_true rfl, Nat.le_of_ble_eq_true rfl⟩) hP hD hS hA (cm_J C (by omega)) (cm_J C (by omega)).symm (fun H locs hP hD hS => ?_)
      refine lv_goto (tgt := 32) hx hb dX5_join_27 (by decide) ?_
      exact xiret hx hb hr hlk hP hD hS (show gX5_join C a1 a2 = (gX1_tell (nI ((gX4_find C.1 a1).getD 0)) (C.1.2.2 ((gX4_find C.1 a1).getD 0)) a2) from (Eq.trans (if_neg cq_5) (Eq.trans (if_neg c_19) rfl))).symm rfl dX5_join_32

def rmX5_why : Room := { frames := 4, cells := 0, slots := 0, locals := 92 }
set_option maxHeartbeats 4000000 in
set_option maxRecDepth 100000 in
theorem mX5_why (l : Launch) (D : va_G) (ck : Nat → ClassId) (ca : Nat → Nat → Nat) (C : CS) (a1 : Int32) : xMi l yX5_why wsX5_why rmX5_why D ck [.ref (ca 0 0), .int a1] (clW ck ca C) (clW ck ca C) (gX5_why C a1) 0 0 := by
  refine xMet (by decide) rfl (Nat.le_of_ble_eq_true rfl) ?_
  intro zp ze s zm zb zt zc hx hb hr hml hown hts hlk hnm hN hK hP hD ls hl
  have hown : s.vm.findClass RX5 = some zm.cls := hown
  have hl : lv_has ls 3 [(0, .ref (ca 0 0)), (1, .int a1)] := hl
  have hS : va_S (va_A (clW ck ca C) s.heap.size) s.heap s.heap [] := va_S.rf
  have hA : ∀ zq : Nat, s.heap.size ≤ zq → va_A (clW ck ca C) s.heap.size zq := fun zq h => Or.inr h
  have hinX5 : ∀ w ∈ u_ws RX5 TX5 7, w ∈ wsX5_why := by decide +kernel
  refine lv_aload_n hx hb dX5_why_0 rfl (lv_at hl 0 rfl) ?_
  refine va_get (D := D) (ci := 5) (v := .ref (ca 1 0)) (C := RX5) (T := TX5) (N := 7) hx hb hts hinX5 hown hK hP 0 rfl rfl 0 (by decide) (hts (.fieldLink RX5 10 "JoinGrants" "pool" "LJoinGrants$Pool;") (List.mem_of_getElem? (i := 1) rfl)) (fun _ h9 => h9) rfl dX5_why_1 ?_
  refine lv_iload_n hx hb dX5_why_4 rfl (lv_at hl 1 rfl) ?_
  refine xretq (va_runV (As := [.int a1]) (rest := []) ⟨hx, hb, hml, hown, hts⟩ (mX4_find l D ck (ca 1) C.1 a1  _) (cwV 1 hts gX5_why_X4_find rfl rfl rfl (by decide +kernel) ⟨Nat.le_of_ble_eq_true rfl, Nat.le_of_ble_eq_true rfl⟩) (xpreV hN hK hP hD (cm_P C) 0 rfl rfl rfl) rfl rfl hl.1 rfl (lv_room (Nat.le_of_ble_eq_true rfl)) dX5_why_5 ⟨Nat.le_of_ble_eq_true rfl, Nat.le_of_ble_eq_true rfl⟩) hP hD hS hA (cm_P C) (cm_P C).symm (fun H locs hP hD hS => ?_)
  by_cases cq_5 : (gX4_find C.1 a1) = none
  ·
    rw [xrf_none cq_5]
    refine lv_astore_nN (lv' := [(2, .null), (0, .ref (ca 0 0)), (1, .int a1)]) hx hb dX5_why_8 rfl hl (by decide) rfl (fun ls hl => ?_)
    refine lv_aload_nN hx hb dX5_why_9 rfl (lv_at hl 0 rfl) ?_
    refine lv_ifnonnullN hx hb dX5_why_10 ?_
    refine lv_iconst (v := (-1)) hx hb dX5_why_13 (by decide) ?_
    refine lv_goto (tgt := 25) hx hb dX5_why_14 (by decide) ?_
    exact xiret hx hb hr hlk hP hD hS (show gX5_why C a1 = (-1) from (Eq.trans (if_pos cq_5) rfl)).symm rfl dX5_why_25
  ·
    rw [xrf_some cq_5]
    have hlt_5 : ((gX4_find C.1 a1)).getD 0 < 16 := lt_X4_find cq_5
    refine lv_astore_n (lv' := [(2, .ref (jA (ca 1) ((gX4_find C.1 a1).getD 0))), (0, .ref (ca 0 0)), (1, .int a1)]) hx hb dX5_why_8 rfl hl (by decide) rfl (fun ls hl => ?_)
    refine lv_aload_n hx hb dX5_why_9 rfl (lv_at hl 0 rfl) ?_
    refine lv_ifnonnull (tgt := 17) hx hb dX5_why_10 (by decide) ?_
    refine lv_aload_n hx hb dX5_why_17 rfl (lv_at hl 1 rfl) ?_
    refine va_get (D := D) (ci := 5) (v := .ref (ca 1 0)) (C := RX5) (T := TX5) (N := 7) hx hb hts hinX5 hown hK hP 0 rfl rfl 0 (by decide) (hts (.fieldLink RX5 10 "JoinGrants" "pool" "LJoinGrants$Pool;") (List.mem_of_getElem? (i := 1) rfl)) (fun _ h9 => h9) rfl dX5_why_18 ?_
    refine lv_aload_n hx hb dX5_why_21 rfl (lv_at hl 0 rfl) ?_
    refine xreti (va_runV (As := [.ref (jA (ca 1) ((gX4_find C.1 a1).getD 0))]) (rest := []) ⟨hx, hb, hml, hown, hts⟩ (mX4_hindrance l D ck (ca 1) C.1 ((gX4_find C.1 a1).getD 0) (by omega) _) (cwV 1 hts gX5_why_X4_hindrance rfl rfl rfl (by decide +kernel) ⟨Nat.le_of_ble_eq_true rfl, Nat.le_of_ble_eq_true rfl⟩) (xpreV hN hK hP hD (cm_P C) 0 rfl rfl rfl) rfl rfl hl.1 rfl (lv_room (Nat.le_of_ble_eq_true rfl)) dX5_why_22 ⟨Nat.le_of_ble_eq_true rfl, Nat.le_of_ble_eq_true rfl⟩) hP hD hS hA (cm_P C) (cm_P C).symm (fun H locs hP hD hS => ?_)
    exact xiret hx hb hr hlk hP hD hS (show gX5_why C a1 = (gX4_hindrance C.1 ((gX4_find C.1 a1).getD 0)) from (Eq.trans (if_neg cq_5) rfl)).symm rfl dX5_why_25

def rmX5_queue : Room := { frames := 4, cells := 0, slots := 0, locals := 96 }
set_option maxHeartbeats 4000000 in
set_option maxRecDepth 100000 in
theorem mX5_queue (l : Launch) (D : va_G) (ck : Nat → ClassId) (ca : Nat → Nat → Nat) (C : CS) (a1 : Int32) : xMi l yX5_queue wsX5_queue rmX5_queue D ck [.ref (ca 0 0), .int a1] (clW ck ca C) (clW ck ca C) (gX5_queue C a1) 0 0 := by
  refine xMet (by decide) rfl (Nat.le_of_ble_eq_true rfl) ?_
  intro zp ze s zm zb zt zc hx hb hr hml hown hts hlk hnm hN hK hP hD ls hl
  have hown : s.vm.findClass RX5 = some zm.cls := hown
  have hl : lv_has ls 3 [(0, .ref (ca 0 0)), (1, .int a1)] := hl
  have hS : va_S (va_A (clW ck ca C) s.heap.size) s.heap s.heap [] := va_S.rf
  have hA : ∀ zq : Nat, s.heap.size ≤ zq → va_A (clW ck ca C) s.heap.size zq := fun zq h => Or.inr h
  have hinX5 : ∀ w ∈ u_ws RX5 TX5 7, w ∈ wsX5_queue := by decide +kernel
  refine lv_iload_n hx hb dX5_queue_0 rfl (lv_at hl 1 rfl) ?_
  refine lv_if_ge (tgt := 7) hx hb dX5_queue_1 (by decide) (fun c_1 => ?_) (fun c_1 => ?_)
  · --t
    refine lv_aload_n hx hb dX5_queue_7 rfl (lv_at hl 0 rfl) ?_
    refine va_get (D := D) (ci := 5) (v := .ref (ca 1 0)) (C := RX5) (T := TX5) (N := 7) hx hb hts hinX5 hown hK hP 0 rfl rfl 0 (by decide) (hts (.fieldLink RX5 10 "JoinGrants" "pool" "LJoinGrants$Pool;") (List.mem_of_getElem? (i := 1) rfl)) (fun _ h9 => h9) rfl dX5_queue_8 ?_
    refine lv_iload_n hx hb dX5_queue_11 rfl (lv_at hl 1 rfl) ?_
    refine xretq (va_runV (As := [.int a1]) (rest := []) ⟨hx, hb, hml, hown, hts⟩ (mX4_atRank l D ck (ca 1) C.1 a1  _) (cwV 1 hts gX5_queue_X4_atRank rfl rfl rfl (by decide +kernel) ⟨Nat.le_of_ble_eq_true rfl, Nat.le_of_ble_eq_true rfl⟩) (xpreV hN hK hP hD (cm_P C) 0 rfl rfl rfl) rfl rfl hl.1 rfl (lv_room (Nat.le_of_ble_eq_true rfl)) dX5_queue_12 ⟨Nat.le_of_ble_eq_true rfl, Nat.le_of_ble_eq_true rfl⟩) hP hD hS hA (cm_P C) (cm_P C).symm (fun H locs hP hD hS => ?_)
    by_cases cq_12 : (gX4_atRank C.1 a1) = none
    ·
      rw [xrf_none cq_12]
      refine lv_astore_nN (lv' := [(2, .null), (0, .ref (ca 0 0)), (1, .int a1)]) hx hb dX5_queue_15 rfl hl (by decide) rfl (fun ls hl => ?_)
      refine lv_aload_nN hx hb dX5_queue_16 rfl (lv_at hl 0 rfl) ?_
      refine lv_ifnonnullN hx hb dX5_queue_17 ?_
      refine lv_bipush (v := (-5)) hx hb dX5_queue_20 (by decide) ?_
      refine lv_goto (tgt := 29) hx hb dX5_queue_22 (by decide) ?_
      exact xiret hx hb hr hlk hP hD hS (show gX5_queue C a1 = (-5) from (Eq.trans (if_pos c_1) (Eq.trans (if_pos cq_12) rfl))).symm rfl dX5_queue_29
    ·
      rw [xrf_some cq_12]
      have hlt_12 : ((gX4_atRank C.1 a1)).getD 0 < 16 := lt_X4_atRank cq_12
      refine lv_astore_n (lv' := [(2, .ref (jA (ca 1) ((gX4_atRank C.1 a1).getD 0))), (0, .ref (ca 0 0)), (1, .int a1)]) hx hb dX5_queue_15 rfl hl (by decide) rfl (fun ls hl => ?_)
      refine lv_aload_n hx hb dX5_queue_16 rfl (lv_at hl 0 rfl) ?_
      refine lv_ifnonnull (tgt := 25) hx hb dX5_queue_17 (by decide) ?_
      refine lv_aload_n hx hb dX5_queue_25 rfl (lv_at hl 0 rfl) ?_
      refine xreti (va_runV (As := []) (rest := []) ⟨hx, hb, hml, hown, hts⟩ (mX1_number l D ck (jA (ca 1) ((gX4_atRank C.1 a1).getD 0)) (qA (ca 1) ((gX4_atRank C.1 a1).getD 0)) (nI ((gX4_atRank C.1 a1).getD 0)) (C.1.2.2 ((gX4_atRank C.1 a1).getD 0))  _) (cwV 0 hts gX5_queue_X1_number rfl rfl rfl (by decide +kernel) ⟨Nat.le_of_ble_eq_true rfl, Nat.le_of_ble_eq_true rfl⟩) (xpreV hN hK hP hD (cm_J C (by omega)) 0 rfl rfl rfl) rfl rfl hl.1 rfl (lv_room (Nat.le_of_ble_eq_true rfl)) dX5_queue_26 ⟨Nat.le_of_ble_eq_true rfl, Nat.le_of_ble_eq_true rfl⟩) hP hD hS hA (cm_J C (by omega)) (cm_J C (by omega)).symm (fun H locs hP hD hS => ?_)
      exact xiret hx hb hr hlk hP hD hS (show gX5_queue C a1 = (gX1_number (nI ((gX4_atRank C.1 a1).getD 0)) (C.1.2.2 ((gX4_atRank C.1 a1).getD 0)) ) from (Eq.trans (if_pos c_1) (Eq.trans (if_neg cq_12) rfl))).symm rfl dX5_queue_29
  · --f
    refine lv_bipush (v := (-2)) hx hb dX5_queue_4 (by decide) ?_
    exact xiret hx hb hr hlk hP hD hS (show gX5_queue C a1 = (-2) from (Eq.trans (if_neg c_1) rfl)).symm rfl dX5_queue_6

def rmX5_work : Room := { frames := 4, cells := 0, slots := 0, locals := 85 }
set_option maxHeartbeats 4000000 in
set_option maxRecDepth 100000 in
theorem mX5_work (l : Launch) (D : va_G) (ck : Nat → ClassId) (ca : Nat → Nat → Nat) (C : CS) (a1 : Int32) (a2 : Int32) (a3 : Int32) (a4 : Int32) : xMi l yX5_work wsX5_work rmX5_work D ck [.ref (ca 0 0), .int a1, .int a2, .int a3, .int a4] (clW ck ca C) (clW ck ca ((gX5_work C a1 a2 a3 a4).2)) ((gX5_work C a1 a2 a3 a4).1) 0 0 := by
  refine xMet (by decide) rfl (Nat.le_of_ble_eq_true rfl) ?_
  intro zp ze s zm zb zt zc hx hb hr hml hown hts hlk hnm hN hK hP hD ls hl
  have hown : s.vm.findClass RX5 = some zm.cls := hown
  have hl : lv_has ls 5 [(0, .ref (ca 0 0)), (1, .int a1), (2, .int a2), (3, .int a3), (4, .int a4)] := hl
  have hS : va_S (va_A (clW ck ca C) s.heap.size) s.heap s.heap [] := va_S.rf
  have hA : ∀ zq : Nat, s.heap.size ≤ zq → va_A (clW ck ca C) s.heap.size zq := fun zq h => Or.inr h
  have hinX3 : ∀ w ∈ u_ws RX3 TX3 5, w ∈ wsX5_work := by decide +kernel
  have hinX5 : ∀ w ∈ u_ws RX5 TX5 7, w ∈ wsX5_work := by decide +kernel
  refine lv_iload_n hx hb dX5_work_0 rfl (lv_at hl 1 rfl) ?_
  refine lv_iload_n hx hb dX5_work_1 rfl (lv_at hl 2 rfl) ?_
  refine lv_iload_n hx hb dX5_work_2 rfl (lv_at hl 3 rfl) ?_
  refine xreti (va_runS (As := [.int a1, .int a2, .int a3]) (rest := []) ⟨hx, hb, hml, hown, hts⟩ (mX3_fits l D ck a1 a2 a3 _) (va_cwS 3 hts gX5_work_X3_fits rfl rfl rfl (by decide +kernel) ⟨Nat.le_of_ble_eq_true rfl, Nat.le_of_ble_eq_true rfl⟩) (xpreS hN hK hP hD pm_none) rfl rfl hl.1 rfl (lv_room (Nat.le_of_ble_eq_true rfl)) dX5_work_3 ⟨Nat.le_of_ble_eq_true rfl, Nat.le_of_ble_eq_true rfl⟩) hP hD hS hA pm_none pm_none (fun H locs hP hD hS => ?_)
  have hP : va_P D vwCl (clW ck ca C) H := hP
  have hD : va_D (va_A (clW ck ca C) s.heap.size) (clW ck ca C) := hD
  refine lv_if_eq (tgt := 17) hx hb dX5_work_6 (by decide) (fun c_6 => ?_) (fun c_6 => ?_)
  · --t
    refine lv_bipush (v := (-2)) hx hb dX5_work_17 (by decide) ?_
    exact xiret hx hb hr hlk hP hD hS (congrArg (fun z => z.1) (show gX5_work C a1 a2 a3 a4 = ((-2), C) from (Eq.trans (if_pos c_6) rfl))).symm (congrArg (fun z => clW ck ca z.2) (show gX5_work C a1 a2 a3 a4 = ((-2), C) from (Eq.trans (if_pos c_6) rfl))).symm dX5_work_19
  · --f
    refine lv_iload hx hb dX5_work_9 (lv_at hl 4 rfl) ?_
    refine xreti (va_runS (As := [.int a4]) (rest := []) ⟨hx, hb, hml, hown, hts⟩ (mX5_isPages l D ck a4 _) (va_cwS 1 hts gX5_work_X5_isPages rfl rfl rfl (by decide +kernel) ⟨Nat.le_of_ble_eq_true rfl, Nat.le_of_ble_eq_true rfl⟩) (xpreS hN hK hP hD pm_none) rfl rfl hl.1 rfl (lv_room (Nat.le_of_ble_eq_true rfl)) dX5_work_11 ⟨Nat.le_of_ble_eq_true rfl, Nat.le_of_ble_eq_true rfl⟩) hP hD hS hA pm_none pm_none (fun H locs hP hD hS => ?_)
    have hP : va_P D vwCl (clW ck ca C) H := hP
    have hD : va_D (va_A (clW ck ca C) s.heap.size) (clW ck ca C) := hD
    refine lv_if_ne (tgt := 20) hx hb dX5_work_14 (by decide) (fun c_14 => ?_) (fun c_14 => ?_)
    · --t
      refine lv_aload_n hx hb dX5_work_20 rfl (lv_at hl 0 rfl) ?_
      refine va_get (D := D) (ci := 5) (v := .ref (ca 6 0)) (C := RX5) (T := TX5) (N := 7) hx hb hts hinX5 hown hK hP 0 rfl rfl 6 (by decide) (hts (.fieldLink RX5 39 "JoinGrants" "trialPlan" "LJoinGrants$Plan;") (List.mem_of_getElem? (i := 1) rfl)) (fun _ h9 => h9) rfl dX5_work_21 ?_
      refine lv_iload_n hx hb dX5_work_24 rfl (lv_at hl 1 rfl) ?_
      refine lv_iload_n hx hb dX5_work_25 rfl (lv_at hl 2 rfl) ?_
      refine lv_iload_n hx hb dX5_work_26 rfl (lv_at hl 3 rfl) ?_
      refine xretv (va_runV (As := [.int a1, .int a2, .int a3]) (rest := []) ⟨hx, hb, hml, hown, hts⟩ (mX3_make l D ck (ca 6 0) C.2.2.2.2.2.2 a1 a2 a3 _) (cwV 3 hts gX5_work_X3_make rfl rfl rfl (by decide +kernel) ⟨Nat.le_of_ble_eq_true rfl, Nat.le_of_ble_eq_true rfl⟩) (xpreV hN hK hP hD (cm_p C) 0 rfl rfl rfl) rfl rfl hl.1 rfl (lv_room (Nat.le_of_ble_eq_true rfl)) dX5_work_27 ⟨Nat.le_of_ble_eq_true rfl, Nat.le_of_ble_eq_true rfl⟩) hP hD hS hA (cm_p C) (cm_p' C) (fun H locs hP hD hS => ?_)
      have hP : va_P D vwCl (clW ck ca (C.1, C.2.1, C.2.2.1, C.2.2.2.1, C.2.2.2.2.1, C.2.2.2.2.2.1, (gX3_make C.2.2.2.2.2.2 a1 a2 a3))) H := hP
      have hD : va_D (va_A (clW ck ca C) s.heap.size) (clW ck ca (C.1, C.2.1, C.2.2.1, C.2.2.2.1, C.2.2.2.2.1, C.2.2.2.2.2.1, (gX3_make C.2.2.2.2.2.2 a1 a2 a3))) := hD
      refine lv_iload hx hb dX5_work_30 (lv_at hl 4 rfl) ?_
      refine lv_aload_n hx hb dX5_work_32 rfl (lv_at hl 0 rfl) ?_
      refine va_get (D := D) (ci := 5) (v := .ref (ca 6 0)) (C := RX5) (T := TX5) (N := 7) hx hb hts hinX5 hown hK hP 0 rfl rfl 6 (by decide) (hts (.fieldLink RX5 39 "JoinGrants" "trialPlan" "LJoinGrants$Plan;") (List.mem_of_getElem? (i := 1) rfl)) (fun _ h9 => h9) rfl dX5_work_33 ?_
      refine va_getN (D := D) (ci := 3) (v := .int ((gX3_make C.2.2.2.2.2.2 a1 a2 a3) 3)) (C := RX3) (T := TX3) (N := 5) hx hb hts hinX3 hown hK (xP_perm (cm_p (C.1, C.2.1, C.2.2.1, C.2.2.2.1, C.2.2.2.2.1, C.2.2.2.2.2.1, (gX3_make C.2.2.2.2.2.2 a1 a2 a3))) hP) 0 rfl rfl 3 (by decide) (va_Nw.use rfl hN.2.2.2.2.2.2.2.2) (fun _ h9 => h9) rfl dX5_work_36 ?_
      refine lv_icmp_ge (tgt := 47) hx hb dX5_work_39 (by decide) (fun c_39 => ?_) (fun c_39 => ?_)
      · --t
        refine lv_aload_n hx hb dX5_work_47 rfl (lv_at hl 0 rfl) ?_
        refine va_get (D := D) (ci := 5) (v := .ref (ca 6 0)) (C := RX5) (T := TX5) (N := 7) hx hb hts hinX5 hown hK hP 0 rfl rfl 6 (by decide) (hts (.fieldLink RX5 39 "JoinGrants" "trialPlan" "LJoinGrants$Plan;") (List.mem_of_getElem? (i := 1) rfl)) (fun _ h9 => h9) rfl dX5_work_48 ?_
        refine lv_iload hx hb dX5_work_51 (lv_at hl 4 rfl) ?_
        refine xreti (va_runV (As := [.int a4]) (rest := []) ⟨hx, hb, hml, hown, hts⟩ (mX3_workWith l D ck (ca 6 0) (gX3_make C.2.2.2.2.2.2 a1 a2 a3) a4 _) (cwV 1 hts gX5_work_X3_workWith rfl rfl rfl (by decide +kernel) ⟨Nat.le_of_ble_eq_true rfl, Nat.le_of_ble_eq_true rfl⟩) (xpreV hN hK hP hD (cm_p (C.1, C.2.1, C.2.2.1, C.2.2.2.1, C.2.2.2.2.1, C.2.2.2.2.2.1, (gX3_make C.2.2.2.2.2.2 a1 a2 a3))) 0 rfl rfl rfl) rfl rfl hl.1 rfl (lv_room (Nat.le_of_ble_eq_true rfl)) dX5_work_53 ⟨Nat.le_of_ble_eq_true rfl, Nat.le_of_ble_eq_true rfl⟩) hP hD hS hA (cm_p (C.1, C.2.1, C.2.2.1, C.2.2.2.1, C.2.2.2.2.1, C.2.2.2.2.2.1, (gX3_make C.2.2.2.2.2.2 a1 a2 a3))) (cm_p (C.1, C.2.1, C.2.2.1, C.2.2.2.1, C.2.2.2.2.1, C.2.2.2.2.2.1, (gX3_make C.2.2.2.2.2.2 a1 a2 a3))).symm (fun H locs hP hD hS => ?_)
        exact xiret hx hb hr hlk hP hD hS (congrArg (fun z => z.1) (show gX5_work C a1 a2 a3 a4 = ((gX3_workWith (gX3_make C.2.2.2.2.2.2 a1 a2 a3) a4), (C.1, C.2.1, C.2.2.1, C.2.2.2.1, C.2.2.2.2.1, C.2.2.2.2.2.1, (gX3_make C.2.2.2.2.2.2 a1 a2 a3))) from (Eq.trans (if_neg c_6) (Eq.trans (if_neg c_14) (Eq.trans (if_pos c_39) rfl))))).symm (congrArg (fun z => clW ck ca z.2) (show gX5_work C a1 a2 a3 a4 = ((gX3_workWith (gX3_make C.2.2.2.2.2.2 a1 a2 a3) a4), (C.1, C.2.1, C.2.2.1, C.2.2.2.1, C.2.2.2.2.1, C.2.2.2.2.2.1, (gX3_make C.2.2.2.2.2.2 a1 a2 a3))) from (Eq.trans (if_neg c_6) (Eq.trans (if_neg c_14) (Eq.trans (if_pos c_39) rfl))))).symm dX5_work_56
      · --f
        refine lv_bipush (v := (-5)) hx hb dX5_work_42 (by decide) ?_
        refine lv_goto (tgt := 56) hx hb dX5_work_44 (by decide) ?_
        exact xiret hx hb hr hlk hP hD hS (congrArg (fun z => z.1) (show gX5_work C a1 a2 a3 a4 = ((-5), (C.1, C.2.1, C.2.2.1, C.2.2.2.1, C.2.2.2.2.1, C.2.2.2.2.2.1, (gX3_make C.2.2.2.2.2.2 a1 a2 a3))) from (Eq.trans (if_neg c_6) (Eq.trans (if_neg c_14) (Eq.trans (if_neg c_39) rfl))))).symm (congrArg (fun z => clW ck ca z.2) (show gX5_work C a1 a2 a3 a4 = ((-5), (C.1, C.2.1, C.2.2.1, C.2.2.2.1, C.2.2.2.2.1, C.2.2.2.2.2.1, (gX3_make C.2.2.2.2.2.2 a1 a2 a3))) from (Eq.trans (if_neg c_6) (Eq.trans (if_neg c_14) (Eq.trans (if_neg c_39) rfl))))).symm dX5_work_56
    · --f
      refine lv_bipush (v := (-2)) hx hb dX5_work_17 (by decide) ?_
      exact xiret hx hb hr hlk hP hD hS (congrArg (fun z => z.1) (show gX5_work C a1 a2 a3 a4 = ((-2), C) from (Eq.trans (if_neg c_6) (Eq.trans (if_pos c_14) rfl)))).symm (congrArg (fun z => clW ck ca z.2) (show gX5_work C a1 a2 a3 a4 = ((-2), C) from (Eq.trans (if_neg c_6) (Eq.trans (if_pos c_14) rfl)))).symm dX5_work_19

def rmX5_bestWay : Room := { frames := 4, cells := 0, slots := 0, locals := 85 }
set_option maxHeartbeats 4000000 in
set_option maxRecDepth 100000 in
theorem mX5_bestWay (l : Launch) (D : va_G) (ck : Nat → ClassId) (ca : Nat → Nat → Nat) (C : CS) (a1 : Int32) (a2 : Int32) (a3 : Int32) : xMi l yX5_bestWay wsX5_bestWay rmX5_bestWay D ck [.ref (ca 0 0), .int a1, .int a2, .int a3] (clW ck ca C) (clW ck ca ((gX5_bestWay C a1 a2 a3).2)) ((gX5_bestWay C a1 a2 a3).1) 0 0 := by
  refine xMet (by decide) rfl (Nat.le_of_ble_eq_true rfl) ?_
  intro zp ze s zm zb zt zc hx hb hr hml hown hts hlk hnm hN hK hP hD ls hl
  have hown : s.vm.findClass RX5 = some zm.cls := hown
  have hl : lv_has ls 7 [(0, .ref (ca 0 0)), (1, .int a1), (2, .int a2), (3, .int a3)] := hl
  have hS : va_S (va_A (clW ck ca C) s.heap.size) s.heap s.heap [] := va_S.rf
  have hA : ∀ zq : Nat, s.heap.size ≤ zq → va_A (clW ck ca C) s.heap.size zq := fun zq h => Or.inr h
  have hinX3 : ∀ w ∈ u_ws RX3 TX3 5, w ∈ wsX5_bestWay := by decide +kernel
  have hinX5 : ∀ w ∈ u_ws RX5 TX5 7, w ∈ wsX5_bestWay := by decide +kernel
  refine lv_iconst (v := 0) hx hb dX5_bestWay_0 (by decide) ?_
  refine lv_iload_n hx hb dX5_bestWay_1 rfl (lv_at hl 1 rfl) ?_
  refine lv_iload_n hx hb dX5_bestWay_2 rfl (lv_at hl 2 rfl) ?_
  refine xreti (va_runS (As := [.int 0, .int a1, .int a2]) (rest := []) ⟨hx, hb, hml, hown, hts⟩ (mX3_fits l D ck 0 a1 a2 _) (va_cwS 3 hts gX5_bestWay_X3_fits rfl rfl rfl (by decide +kernel) ⟨Nat.le_of_ble_eq_true rfl, Nat.le_of_ble_eq_true rfl⟩) (xpreS hN hK hP hD pm_none) rfl rfl hl.1 rfl (lv_room (Nat.le_of_ble_eq_true rfl)) dX5_bestWay_3 ⟨Nat.le_of_ble_eq_true rfl, Nat.le_of_ble_eq_true rfl⟩) hP hD hS hA pm_none pm_none (fun H locs hP hD hS => ?_)
  have hP : va_P D vwCl (clW ck ca C) H := hP
  have hD : va_D (va_A (clW ck ca C) s.heap.size) (clW ck ca C) := hD
  refine lv_if_eq (tgt := 16) hx hb dX5_bestWay_6 (by decide) (fun c_6 => ?_) (fun c_6 => ?_)
  · --t
    refine lv_bipush (v := (-2)) hx hb dX5_bestWay_16 (by decide) ?_
    exact xiret hx hb hr hlk hP hD hS (congrArg (fun z => z.1) (show gX5_bestWay C a1 a2 a3 = ((-2), C) from (Eq.trans (if_pos c_6) rfl))).symm (congrArg (fun z => clW ck ca z.2) (show gX5_bestWay C a1 a2 a3 = ((-2), C) from (Eq.trans (if_pos c_6) rfl))).symm dX5_bestWay_18
  · --f
    refine lv_iload_n hx hb dX5_bestWay_9 rfl (lv_at hl 3 rfl) ?_
    refine xreti (va_runS (As := [.int a3]) (rest := []) ⟨hx, hb, hml, hown, hts⟩ (mX5_isPages l D ck a3 _) (va_cwS 1 hts gX5_bestWay_X5_isPages rfl rfl rfl (by decide +kernel) ⟨Nat.le_of_ble_eq_true rfl, Nat.le_of_ble_eq_true rfl⟩) (xpreS hN hK hP hD pm_none) rfl rfl hl.1 rfl (lv_room (Nat.le_of_ble_eq_true rfl)) dX5_bestWay_10 ⟨Nat.le_of_ble_eq_true rfl, Nat.le_of_ble_eq_true rfl⟩) hP hD hS hA pm_none pm_none (fun H locs hP hD hS => ?_)
    have hP : va_P D vwCl (clW ck ca C) H := hP
    have hD : va_D (va_A (clW ck ca C) s.heap.size) (clW ck ca C) := hD
    refine lv_if_ne (tgt := 19) hx hb dX5_bestWay_13 (by decide) (fun c_13 => ?_) (fun c_13 => ?_)
    · --t
      refine lv_aload_n hx hb dX5_bestWay_19 rfl (lv_at hl 0 rfl) ?_
      refine va_get (D := D) (ci := 5) (v := .ref (ca 6 0)) (C := RX5) (T := TX5) (N := 7) hx hb hts hinX5 hown hK hP 0 rfl rfl 6 (by decide) (hts (.fieldLink RX5 39 "JoinGrants" "trialPlan" "LJoinGrants$Plan;") (List.mem_of_getElem? (i := 1) rfl)) (fun _ h9 => h9) rfl dX5_bestWay_20 ?_
      refine lv_iconst (v := 0) hx hb dX5_bestWay_23 (by decide) ?_
      refine lv_iload_n hx hb dX5_bestWay_24 rfl (lv_at hl 1 rfl) ?_
      refine lv_iload_n hx hb dX5_bestWay_25 rfl (lv_at hl 2 rfl) ?_
      refine xretv (va_runV (As := [.int 0, .int a1, .int a2]) (rest := []) ⟨hx, hb, hml, hown, hts⟩ (mX3_make l D ck (ca 6 0) C.2.2.2.2.2.2 0 a1 a2 _) (cwV 3 hts gX5_bestWay_X3_make rfl rfl rfl (by decide +kernel) ⟨Nat.le_of_ble_eq_true rfl, Nat.le_of_ble_eq_true rfl⟩) (xpreV hN hK hP hD (cm_p C) 0 rfl rfl rfl) rfl rfl hl.1 rfl (lv_room (Nat.le_of_ble_eq_true rfl)) dX5_bestWay_26 ⟨Nat.le_of_ble_eq_true rfl, Nat.le_of_ble_eq_true rfl⟩) hP hD hS hA (cm_p C) (cm_p' C) (fun H locs hP hD hS => ?_)
      have hP : va_P D vwCl (clW ck ca (C.1, C.2.1, C.2.2.1, C.2.2.2.1, C.2.2.2.2.1, C.2.2.2.2.2.1, (gX3_make C.2.2.2.2.2.2 0 a1 a2))) H := hP
      have hD : va_D (va_A (clW ck ca C) s.heap.size) (clW ck ca (C.1, C.2.1, C.2.2.1, C.2.2.2.1, C.2.2.2.2.1, C.2.2.2.2.2.1, (gX3_make C.2.2.2.2.2.2 0 a1 a2))) := hD
      refine lv_iconst (v := 0) hx hb dX5_bestWay_29 (by decide) ?_
      refine lv_istore (lv' := [(4, .int 0), (0, .ref (ca 0 0)), (1, .int a1), (2, .int a2), (3, .int a3)]) hx hb dX5_bestWay_30 hl (by decide) rfl (fun ls hl => ?_)
      refine lv_aload_n hx hb dX5_bestWay_32 rfl (lv_at hl 1 rfl) ?_
      refine va_get (D := D) (ci := 5) (v := .ref (ca 6 0)) (C := RX5) (T := TX5) (N := 7) hx hb hts hinX5 hown hK hP 0 rfl rfl 6 (by decide) (hts (.fieldLink RX5 39 "JoinGrants" "trialPlan" "LJoinGrants$Plan;") (List.mem_of_getElem? (i := 1) rfl)) (fun _ h9 => h9) rfl dX5_bestWay_33 ?_
      refine lv_iload_n hx hb dX5_bestWay_36 rfl (lv_at hl 4 rfl) ?_
      refine xreti (va_runV (As := [.int a3]) (rest := []) ⟨hx, hb, hml, hown, hts⟩ (mX3_workWith l D ck (ca 6 0) (gX3_make C.2.2.2.2.2.2 0 a1 a2) a3 _) (cwV 1 hts gX5_bestWay_X3_workWith rfl rfl rfl (by decide +kernel) ⟨Nat.le_of_ble_eq_true rfl, Nat.le_of_ble_eq_true rfl⟩) (xpreV hN hK hP hD (cm_p (C.1, C.2.1, C.2.2.1, C.2.2.2.1, C.2.2.2.2.1, C.2.2.2.2.2.1, (gX3_make C.2.2.2.2.2.2 0 a1 a2))) 0 rfl rfl rfl) rfl rfl hl.1 rfl (lv_room (Nat.le_of_ble_eq_true rfl)) dX5_bestWay_37 ⟨Nat.le_of_ble_eq_true rfl, Nat.le_of_ble_eq_true rfl⟩) hP hD hS hA (cm_p (C.1, C.2.1, C.2.2.1, C.2.2.2.1, C.2.2.2.2.1, C.2.2.2.2.2.1, (gX3_make C.2.2.2.2.2.2 0 a1 a2))) (cm_p (C.1, C.2.1, C.2.2.1, C.2.2.2.1, C.2.2.2.2.1, C.2.2.2.2.2.1, (gX3_make C.2.2.2.2.2.2 0 a1 a2))).symm (fun H locs hP hD hS => ?_)
      refine lv_istore (lv' := [(5, .int (gX3_workWith (gX3_make C.2.2.2.2.2.2 0 a1 a2) a3)), (4, .int 0), (0, .ref (ca 0 0)), (1, .int a1), (2, .int a2), (3, .int a3)]) hx hb dX5_bestWay_40 hl (by decide) rfl (fun ls hl => ?_)
      refine lv_iconst (v := (nI 1)) hx hb dX5_bestWay_42 (by decide) ?_
      refine lv_istore (lv' := [(6, .int (nI 1)), (5, .int (gX3_workWith (gX3_make C.2.2.2.2.2.2 0 a1 a2) a3)), (4, .int 0), (0, .ref (ca 0 0)), (1, .int a1), (2, .int a2), (3, .int a3)]) hx hb dX5_bestWay_43 hl (by decide) rfl (fun ls hl => ?_)
      have loop45 : ∀ (fu : Nat) (i : Nat) (x4 : Int32) (x5 : Int32) (C1 : CS), (i + fu = 3) → gX5_bestWay C a1 a2 a3 = gX5_bestWay_L45 C a1 a2 a3 fu i x4 x5 C1 → ∀ (H : Heap) (locs : List Loc) (ls : Array Slot), va_P D vwCl (clW ck ca C1) H → va_D (va_A (clW ck ca C) s.heap.size) (clW ck ca C1) → va_S (va_A (clW ck ca C) s.heap.size) s.heap H locs → lv_has ls 7 [(0, .ref (ca 0 0)), (1, .int a1), (2, .int a2), (3, .int a3), (4, .int x4), (5, .int x5), (6, .int (nI i))] → W zp l ze rmX5_bestWay s zm ([.ref (ca 0 0), .int a1, .int a2, .int a3] : List Value).toArray zb zt zc H locs 0 0 (MQ zb (xQi D (clW ck ca C) (clW ck ca ((gX5_bestWay C a1 a2 a3).2)) ((gX5_bestWay C a1 a2 a3).1) s.heap.size) ([.ref (ca 0 0), .int a1, .int a2, .int a3] : List Value).toArray s 0 0 (va_A (clW ck ca C) s.heap.size)) (F0 zm 45 ls []) := by
        intro fu
        induction fu with
        | zero =>
          intro i x4 x5 C1 hif hg H locs ls hP hD hS hl
          refine lv_iload hx hb dX5_bestWay_45 (lv_at hl 6 rfl) ?_
          refine lv_iconst (v := (nI 2)) hx hb dX5_bestWay_47 (by decide) ?_
          refine lv_icmp_gt (tgt := 106) hx hb dX5_bestWay_48 (by decide) (fun c_48 => ?_) (fun c_48 => ?_)
          · --t
            refine lv_iload hx hb dX5_bestWay_106 (lv_at hl 4 rfl) ?_
            exact xiret hx hb hr hlk hP hD hS (congrArg (fun z => z.1) (hg.trans (show gX5_bestWay_L45 C a1 a2 a3 0 i x4 x5 C1 = (x4, C1) from rfl))).symm (congrArg (fun z => clW ck ca z.2) (hg.trans (show gX5_bestWay_L45 C a1 a2 a3 0 i x4 x5 C1 = (x4, C1) from rfl))).symm dX5_bestWay_108
          · --f
            exact absurd (nI_lt (by omega) (by omega)) c_48
        | succ fu ih45 =>
          intro i x4 x5 C1 hif hg H locs ls hP hD hS hl
          refine lv_iload hx hb dX5_bestWay_45 (lv_at hl 6 rfl) ?_
          refine lv_iconst (v := (nI 2)) hx hb dX5_bestWay_47 (by decide) ?_
          refine lv_icmp_gt (tgt := 106) hx hb dX5_bestWay_48 (by decide) (fun c_48 => ?_) (fun c_48 => ?_)
          · --t
            exact absurd c_48 (nI_nlt (by omega) (by omega))
          · --f
            refine lv_aload_n hx hb dX5_bestWay_51 rfl (lv_at hl 0 rfl) ?_
            refine va_get (D := D) (ci := 5) (v := .ref (ca 6 0)) (C := RX5) (T := TX5) (N := 7) hx hb hts hinX5 hown hK hP 0 rfl rfl 6 (by decide) (hts (.fieldLink RX5 39 "JoinGrants" "trialPlan" "LJoinGrants$Plan;") (List.mem_of_getElem? (i := 1) rfl)) (fun _ h9 => h9) rfl dX5_bestWay_52 ?_
            refine lv_iload hx hb dX5_bestWay_55 (lv_at hl 6 rfl) ?_
            refine lv_iload_n hx hb dX5_bestWay_57 rfl (lv_at hl 1 rfl) ?_
            refine lv_iload_n hx hb dX5_bestWay_58 rfl (lv_at hl 2 rfl) ?_
            refine xretv (va_runV (As := [.int (nI i), .int a1, .int a2]) (rest := []) ⟨hx, hb, hml, hown, hts⟩ (mX3_make l D ck (ca 6 0) C1.2.2.2.2.2.2 (nI i) a1 a2 _) (cwV 3 hts gX5_bestWay_X3_make rfl rfl rfl (by decide +kernel) ⟨Nat.le_of_ble_eq_true rfl, Nat.le_of_ble_eq_true rfl⟩) (xpreV hN hK hP hD (cm_p C1) 0 rfl rfl rfl) rfl rfl hl.1 rfl (lv_room (Nat.le_of_ble_eq_true rfl)) dX5_bestWay_59 ⟨Nat.le_of_ble_eq_true rfl, Nat.le_of_ble_eq_true rfl⟩) hP hD hS hA (cm_p C1) (cm_p' C1) (fun H locs hP hD hS => ?_)
            have hP : va_P D vwCl (clW ck ca (C1.1, C1.2.1, C1.2.2.1, C1.2.2.2.1, C1.2.2.2.2.1, C1.2.2.2.2.2.1, (gX3_make C1.2.2.2.2.2.2 (nI i) a1 a2))) H := hP
            have hD : va_D (va_A (clW ck ca C) s.heap.size) (clW ck ca (C1.1, C1.2.1, C1.2.2.1, C1.2.2.2.1, C1.2.2.2.2.1, C1.2.2.2.2.2.1, (gX3_make C1.2.2.2.2.2.2 (nI i) a1 a2))) := hD
            refine lv_iload_n hx hb dX5_bestWay_62 rfl (lv_at hl 3 rfl) ?_
            refine lv_aload_n hx hb dX5_bestWay_63 rfl (lv_at hl 0 rfl) ?_
            refine va_get (D := D) (ci := 5) (v := .ref (ca 6 0)) (C := RX5) (T := TX5) (N := 7) hx hb hts hinX5 hown hK hP 0 rfl rfl 6 (by decide) (hts (.fieldLink RX5 39 "JoinGrants" "trialPlan" "LJoinGrants$Plan;") (List.mem_of_getElem? (i := 1) rfl)) (fun _ h9 => h9) rfl dX5_bestWay_64 ?_
            refine va_getN (D := D) (ci := 3) (v := .int ((gX3_make C1.2.2.2.2.2.2 (nI i) a1 a2) 3)) (C := RX3) (T := TX3) (N := 5) hx hb hts hinX3 hown hK (xP_perm (cm_p (C1.1, C1.2.1, C1.2.2.1, C1.2.2.2.1, C1.2.2.2.2.1, C1.2.2.2.2.2.1, (gX3_make C1.2.2.2.2.2.2 (nI i) a1 a2))) hP) 0 rfl rfl 3 (by decide) (va_Nw.use rfl hN.2.2.2.2.2.2.2.2) (fun _ h9 => h9) rfl dX5_bestWay_67 ?_
            refine lv_icmp_lt (tgt := 100) hx hb dX5_bestWay_70 (by decide) (fun c_70 => ?_) (fun c_70 => ?_)
            · --t
              refine lv_iinc (v := (nI (i + 1))) (lv' := [(6, .int (nI (i + 1))), (0, .ref (ca 0 0)), (1, .int a1), (2, .int a2), (3, .int a3), (4, .int x4), (5, .int x5)]) hx hb dX5_bestWay_100 hl (k := 6) rfl (nI_1 i) (by decide) rfl (fun ls hl => ?_)
              refine lv_goto (tgt := 45) hx hb dX5_bestWay_103 (by decide) ?_
              exact ih45 (i + 1) x4 x5 (C1.1, C1.2.1, C1.2.2.1, C1.2.2.2.1, C1.2.2.2.2.1, C1.2.2.2.2.2.1, (gX3_make C1.2.2.2.2.2.2 (nI i) a1 a2)) (by omega) (hg.trans (show gX5_bestWay_L45 C a1 a2 a3 (fu + 1) i x4 x5 C1 = (gX5_bestWay_L45 C a1 a2 a3 fu (i + 1) x4 x5 (C1.1, C1.2.1, C1.2.2.1, C1.2.2.2.1, C1.2.2.2.2.1, C1.2.2.2.2.2.1, (gX3_make C1.2.2.2.2.2.2 (nI i) a1 a2))) from (Eq.trans (if_pos c_70) rfl))) _ _ _ hP hD hS (lv_sub hl [1, 2, 3, 4, 5, 6, 0] rfl)
            · --f
              refine lv_aload_n hx hb dX5_bestWay_73 rfl (lv_at hl 0 rfl) ?_
              refine va_get (D := D) (ci := 5) (v := .ref (ca 6 0)) (C := RX5) (T := TX5) (N := 7) hx hb hts hinX5 hown hK hP 0 rfl rfl 6 (by decide) (hts (.fieldLink RX5 39 "JoinGrants" "trialPlan" "LJoinGrants$Plan;") (List.mem_of_getElem? (i := 1) rfl)) (fun _ h9 => h9) rfl dX5_bestWay_74 ?_
              refine lv_iload_n hx hb dX5_bestWay_77 rfl (lv_at hl 3 rfl) ?_
              refine xreti (va_runV (As := [.int a3]) (rest := []) ⟨hx, hb, hml, hown, hts⟩ (mX3_workWith l D ck (ca 6 0) (gX3_make C1.2.2.2.2.2.2 (nI i) a1 a2) a3 _) (cwV 1 hts gX5_bestWay_X3_workWith rfl rfl rfl (by decide +kernel) ⟨Nat.le_of_ble_eq_true rfl, Nat.le_of_ble_eq_true rfl⟩) (xpreV hN hK hP hD (cm_p (C1.1, C1.2.1, C1.2.2.1, C1.2.2.2.1, C1.2.2.2.2.1, C1.2.2.2.2.2.1, (gX3_make C1.2.2.2.2.2.2 (nI i) a1 a2))) 0 rfl rfl rfl) rfl rfl hl.1 rfl (lv_room (Nat.le_of_ble_eq_true rfl)) dX5_bestWay_78 ⟨Nat.le_of_ble_eq_true rfl, Nat.le_of_ble_eq_true rfl⟩) hP hD hS hA (cm_p (C1.1, C1.2.1, C1.2.2.1, C1.2.2.2.1, C1.2.2.2.2.1, C1.2.2.2.2.2.1, (gX3_make C1.2.2.2.2.2.2 (nI i) a1 a2))) (cm_p (C1.1, C1.2.1, C1.2.2.1, C1.2.2.2.1, C1.2.2.2.2.1, C1.2.2.2.2.2.1, (gX3_make C1.2.2.2.2.2.2 (nI i) a1 a2))).symm (fun H locs hP hD hS => ?_)
              refine lv_iload hx hb dX5_bestWay_81 (lv_at hl 5 rfl) ?_
              refine lv_icmp_ge (tgt := 100) hx hb dX5_bestWay_83 (by decide) (fun c_83 => ?_) (fun c_83 => ?_)
              · --t
                refine lv_iinc (v := (nI (i + 1))) (lv' := [(6, .int (nI (i + 1))), (0, .ref (ca 0 0)), (1, .int a1), (2, .int a2), (3, .int a3), (4, .int x4), (5, .int x5)]) hx hb dX5_bestWay_100 hl (k := 6) rfl (nI_1 i) (by decide) rfl (fun ls hl => ?_)
                refine lv_goto (tgt := 45) hx hb dX5_bestWay_103 (by decide) ?_
                exact ih45 (i + 1) x4 x5 (C1.1, C1.2.1, C1.2.2.1, C1.2.2.2.1, C1.2.2.2.2.1, C1.2.2.2.2.2.1, (gX3_make C1.2.2.2.2.2.2 (nI i) a1 a2)) (by omega) (hg.trans (show gX5_bestWay_L45 C a1 a2 a3 (fu + 1) i x4 x5 C1 = (gX5_bestWay_L45 C a1 a2 a3 fu (i + 1) x4 x5 (C1.1, C1.2.1, C1.2.2.1, C1.2.2.2.1, C1.2.2.2.2.1, C1.2.2.2.2.2.1, (gX3_make C1.2.2.2.2.2.2 (nI i) a1 a2))) from (Eq.trans (if_neg c_70) (Eq.trans (if_pos c_83) rfl)))) _ _ _ hP hD hS (lv_sub hl [1, 2, 3, 4, 5, 6, 0] rfl)
              · --f
                refine lv_iload hx hb dX5_bestWay_86 (lv_at hl 6 rfl) ?_
                refine lv_istore (lv' := [(4, .int (nI i)), (0, .ref (ca 0 0)), (1, .int a1), (2, .int a2), (3, .int a3), (5, .int x5), (6, .int (nI i))]) hx hb dX5_bestWay_88 hl (by decide) rfl (fun ls hl => ?_)
                refine lv_aload_n hx hb dX5_bestWay_90 rfl (lv_at hl 1 rfl) ?_
                refine va_get (D := D) (ci := 5) (v := .ref (ca 6 0)) (C := RX5) (T := TX5) (N := 7) hx hb hts hinX5 hown hK hP 0 rfl rfl 6 (by decide) (hts (.fieldLink RX5 39 "JoinGrants" "trialPlan" "LJoinGrants$Plan;") (List.mem_of_getElem? (i := 1) rfl)) (fun _ h9 => h9) rfl dX5_bestWay_91 ?_
                refine lv_iload_n hx hb dX5_bestWay_94 rfl (lv_at hl 4 rfl) ?_
                refine xreti (va_runV (As := [.int a3]) (rest := []) ⟨hx, hb, hml, hown, hts⟩ (mX3_workWith l D ck (ca 6 0) (gX3_make C1.2.2.2.2.2.2 (nI i) a1 a2) a3 _) (cwV 1 hts gX5_bestWay_X3_workWith rfl rfl rfl (by decide +kernel) ⟨Nat.le_of_ble_eq_true rfl, Nat.le_of_ble_eq_true rfl⟩) (xpreV hN hK hP hD (cm_p (C1.1, C1.2.1, C1.2.2.1, C1.2.2.2.1, C1.2.2.2.2.1, C1.2.2.2.2.2.1, (gX3_make C1.2.2.2.2.2.2 (nI i) a1 a2))) 0 rfl rfl rfl) rfl rfl hl.1 rfl (lv_room (Nat.le_of_ble_eq_true rfl)) dX5_bestWay_95 ⟨Nat.le_of_ble_eq_true rfl, Nat.le_of_ble_eq_true rfl⟩) hP hD hS hA (cm_p (C1.1, C1.2.1, C1.2.2.1, C1.2.2.2.1, C1.2.2.2.2.1, C1.2.2.2.2.2.1, (gX3_make C1.2.2.2.2.2.2 (nI i) a1 a2))) (cm_p (C1.1, C1.2.1, C1.2.2.1, C1.2.2.2.1, C1.2.2.2.2.1, C1.2.2.2.2.2.1, (gX3_make C1.2.2.2.2.2.2 (nI i) a1 a2))).symm (fun H locs hP hD hS => ?_)
                refine lv_istore (lv' := [(5, .int (gX3_workWith (gX3_make C1.2.2.2.2.2.2 (nI i) a1 a2) a3)), (4, .int (nI i)), (0, .ref (ca 0 0)), (1, .int a1), (2, .int a2), (3, .int a3), (6, .int (nI i))]) hx hb dX5_bestWay_98 hl (by decide) rfl (fun ls hl => ?_)
                refine lv_iinc (v := (nI (i + 1))) (lv' := [(6, .int (nI (i + 1))), (5, .int (gX3_workWith (gX3_make C1.2.2.2.2.2.2 (nI i) a1 a2) a3)), (4, .int (nI i)), (0, .ref (ca 0 0)), (1, .int a1), (2, .int a2), (3, .int a3)]) hx hb dX5_bestWay_100 hl (k := 6) rfl (nI_1 i) (by decide) rfl (fun ls hl => ?_)
                refine lv_goto (tgt := 45) hx hb dX5_bestWay_103 (by decide) ?_
                exact ih45 (i + 1) (nI i) (gX3_workWith (gX3_make C1.2.2.2.2.2.2 (nI i) a1 a2) a3) (C1.1, C1.2.1, C1.2.2.1, C1.2.2.2.1, C1.2.2.2.2.1, C1.2.2.2.2.2.1, (gX3_make C1.2.2.2.2.2.2 (nI i) a1 a2)) (by omega) (hg.trans (show gX5_bestWay_L45 C a1 a2 a3 (fu + 1) i x4 x5 C1 = (gX5_bestWay_L45 C a1 a2 a3 fu (i + 1) (nI i) (gX3_workWith (gX3_make C1.2.2.2.2.2.2 (nI i) a1 a2) a3) (C1.1, C1.2.1, C1.2.2.1, C1.2.2.2.1, C1.2.2.2.2.1, C1.2.2.2.2.2.1, (gX3_make C1.2.2.2.2.2.2 (nI i) a1 a2))) from (Eq.trans (if_neg c_70) (Eq.trans (if_neg c_83) rfl)))) _ _ _ hP hD hS (lv_sub hl [3, 4, 5, 6, 2, 1, 0] rfl)
      exact loop45 2 1 0 (gX3_workWith (gX3_make C.2.2.2.2.2.2 0 a1 a2) a3) (C.1, C.2.1, C.2.2.1, C.2.2.2.1, C.2.2.2.2.1, C.2.2.2.2.2.1, (gX3_make C.2.2.2.2.2.2 0 a1 a2)) (by omega) (show gX5_bestWay C a1 a2 a3 = (gX5_bestWay_L45 C a1 a2 a3 2 1 0 (gX3_workWith (gX3_make C.2.2.2.2.2.2 0 a1 a2) a3) (C.1, C.2.1, C.2.2.1, C.2.2.2.1, C.2.2.2.2.1, C.2.2.2.2.2.1, (gX3_make C.2.2.2.2.2.2 0 a1 a2))) from (Eq.trans (if_neg c_6) (Eq.trans (if_neg c_13) rfl))) _ _ _ hP hD hS (lv_sub hl [3, 4, 5, 6, 2, 1, 0] rfl)
    · --f
      refine lv_bipush (v := (-2)) hx hb dX5_bestWay_16 (by decide) ?_
      exact xiret hx hb hr hlk hP hD hS (congrArg (fun z => z.1) (show gX5_bestWay C a1 a2 a3 = ((-2), C) from (Eq.trans (if_neg c_6) (Eq.trans (if_pos c_13) rfl)))).symm (congrArg (fun z => clW ck ca z.2) (show gX5_bestWay C a1 a2 a3 = ((-2), C) from (Eq.trans (if_neg c_6) (Eq.trans (if_pos c_13) rfl)))).symm dX5_bestWay_18

def rmX5_doneIn : Room := { frames := 6, cells := 0, slots := 0, locals := 147 }
set_option maxHeartbeats 4000000 in
set_option maxRecDepth 100000 in
theorem mX5_doneIn (l : Launch) (D : va_G) (ck : Nat → ClassId) (ca : Nat → Nat → Nat) (C : CS) (a1 : Int32) : xMi l yX5_doneIn wsX5_doneIn rmX5_doneIn D ck [.ref (ca 0 0), .int a1] (clW ck ca C) (clW ck ca ((gX5_doneIn C a1).2)) ((gX5_doneIn C a1).1) 0 0 := by
  refine xMet (by decide) rfl (Nat.le_of_ble_eq_true rfl) ?_
  intro zp ze s zm zb zt zc hx hb hr hml hown hts hlk hnm hN hK hP hD ls hl
  have hown : s.vm.findClass RX5 = some zm.cls := hown
  have hl : lv_has ls 4 [(0, .ref (ca 0 0)), (1, .int a1)] := hl
  have hS : va_S (va_A (clW ck ca C) s.heap.size) s.heap s.heap [] := va_S.rf
  have hA : ∀ zq : Nat, s.heap.size ≤ zq → va_A (clW ck ca C) s.heap.size zq := fun zq h => Or.inr h
  have hinX5 : ∀ w ∈ u_ws RX5 TX5 7, w ∈ wsX5_doneIn := by decide +kernel
  refine lv_aload_n hx hb dX5_doneIn_0 rfl (lv_at hl 0 rfl) ?_
  refine va_get (D := D) (ci := 5) (v := .ref (ca 5 0)) (C := RX5) (T := TX5) (N := 7) hx hb hts hinX5 hown hK hP 0 rfl rfl 5 (by decide) (hts (.fieldLink RX5 33 "JoinGrants" "trialPool" "LJoinGrants$Pool;") (List.mem_of_getElem? (i := 1) rfl)) (fun _ h9 => h9) rfl dX5_doneIn_1 ?_
  refine lv_aload_n hx hb dX5_doneIn_4 rfl (lv_at hl 0 rfl) ?_
  refine va_get (D := D) (ci := 5) (v := .ref (ca 1 0)) (C := RX5) (T := TX5) (N := 7) hx hb hts hinX5 hown hK hP 0 rfl rfl 0 (by decide) (hts (.fieldLink RX5 10 "JoinGrants" "pool" "LJoinGrants$Pool;") (List.mem_of_getElem? (i := 2) rfl)) (fun _ h9 => h9) rfl dX5_doneIn_5 ?_
  refine xretv (va_runV (As := [.ref (ca 1 0)]) (rest := []) ⟨hx, hb, hml, hown, hts⟩ (mX4_copyFrom l D ck (ca 5) (ca 1) C.2.2.2.2.2.1 C.1 _) (cwV 1 hts gX5_doneIn_X4_copyFrom rfl rfl rfl (by decide +kernel) ⟨Nat.le_of_ble_eq_true rfl, Nat.le_of_ble_eq_true rfl⟩) (xpreV hN hK hP hD (cm_RP C) 0 rfl rfl rfl) rfl rfl hl.1 rfl (lv_room (Nat.le_of_ble_eq_true rfl)) dX5_doneIn_8 ⟨Nat.le_of_ble_eq_true rfl, Nat.le_of_ble_eq_true rfl⟩) hP hD hS hA (cm_RP C) (cm_RP' C) (fun H locs hP hD hS => ?_)
  have hP : va_P D vwCl (clW ck ca (C.1, C.2.1, C.2.2.1, C.2.2.2.1, C.2.2.2.2.1, gX4_copyFrom C.2.2.2.2.2.1 C.1, C.2.2.2.2.2.2)) H := hP
  have hD : va_D (va_A (clW ck ca C) s.heap.size) (clW ck ca (C.1, C.2.1, C.2.2.1, C.2.2.2.1, C.2.2.2.2.1, gX4_copyFrom C.2.2.2.2.2.1 C.1, C.2.2.2.2.2.2)) := hD
  refine lv_aload_n hx hb dX5_doneIn_11 rfl (lv_at hl 0 rfl) ?_
  refine va_get (D := D) (ci := 5) (v := .ref (ca 5 0)) (C := RX5) (T := TX5) (N := 7) hx hb hts hinX5 hown hK hP 0 rfl rfl 5 (by decide) (hts (.fieldLink RX5 33 "JoinGrants" "trialPool" "LJoinGrants$Pool;") (List.mem_of_getElem? (i := 1) rfl)) (fun _ h9 => h9) rfl dX5_doneIn_12 ?_
  refine lv_iload_n hx hb dX5_doneIn_15 rfl (lv_at hl 1 rfl) ?_
  refine xretq (va_runV (As := [.int a1]) (rest := []) ⟨hx, hb, hml, hown, hts⟩ (mX4_find l D ck (ca 5) (gX4_copyFrom C.2.2.2.2.2.1 C.1) a1  _) (cwV 1 hts gX5_doneIn_X4_find rfl rfl rfl (by decide +kernel) ⟨Nat.le_of_ble_eq_true rfl, Nat.le_of_ble_eq_true rfl⟩) (xpreV hN hK hP hD (cm_R (C.1, C.2.1, C.2.2.1, C.2.2.2.1, C.2.2.2.2.1, gX4_copyFrom C.2.2.2.2.2.1 C.1, C.2.2.2.2.2.2)) 0 rfl rfl rfl) rfl rfl hl.1 rfl (lv_room (Nat.le_of_ble_eq_true rfl)) dX5_doneIn_16 ⟨Nat.le_of_ble_eq_true rfl, Nat.le_of_ble_eq_true rfl⟩) hP hD hS hA (cm_R (C.1, C.2.1, C.2.2.1, C.2.2.2.1, C.2.2.2.2.1, gX4_copyFrom C.2.2.2.2.2.1 C.1, C.2.2.2.2.2.2)) (cm_R (C.1, C.2.1, C.2.2.1, C.2.2.2.1, C.2.2.2.2.1, gX4_copyFrom C.2.2.2.2.2.1 C.1, C.2.2.2.2.2.2)).symm (fun H locs hP hD hS => ?_)
  by_cases cq_16 : (gX4_find (gX4_copyFrom C.2.2.2.2.2.1 C.1) a1) = none
  ·
    rw [xrf_none cq_16]
    refine lv_astore_nN (lv' := [(2, .null), (0, .ref (ca 0 0)), (1, .int a1)]) hx hb dX5_doneIn_19 rfl hl (by decide) rfl (fun ls hl => ?_)
    refine lv_aload_nN hx hb dX5_doneIn_20 rfl (lv_at hl 0 rfl) ?_
    refine lv_ifnonnullN hx hb dX5_doneIn_21 ?_
    refine lv_iconst (v := (-1)) hx hb dX5_doneIn_24 (by decide) ?_
    exact xiret hx hb hr hlk hP hD hS (congrArg (fun z => z.1) (show gX5_doneIn C a1 = ((-1), (C.1, C.2.1, C.2.2.1, C.2.2.2.1, C.2.2.2.2.1, gX4_copyFrom C.2.2.2.2.2.1 C.1, C.2.2.2.2.2.2)) from (Eq.trans (if_pos cq_16) rfl))).symm (congrArg (fun z => clW ck ca z.2) (show gX5_doneIn C a1 = ((-1), (C.1, C.2.1, C.2.2.1, C.2.2.2.1, C.2.2.2.2.1, gX4_copyFrom C.2.2.2.2.2.1 C.1, C.2.2.2.2.2.2)) from (Eq.trans (if_pos cq_16) rfl))).symm dX5_doneIn_25
  ·
    rw [xrf_some cq_16]
    have hlt_16 : ((gX4_find (gX4_copyFrom C.2.2.2.2.2.1 C.1) a1)).getD 0 < 16 := lt_X4_find cq_16
    refine lv_astore_n (lv' := [(2, .ref (jA (ca 5) ((gX4_find (gX4_copyFrom C.2.2.2.2.2.1 C.1) a1).getD 0))), (0, .ref (ca 0 0)), (1, .int a1)]) hx hb dX5_doneIn_19 rfl hl (by decide) rfl (fun ls hl => ?_)
    refine lv_aload_n hx hb dX5_doneIn_20 rfl (lv_at hl 0 rfl) ?_
    refine lv_ifnonnull (tgt := 26) hx hb dX5_doneIn_21 (by decide) ?_
    refine lv_aload_n hx hb dX5_doneIn_26 rfl (lv_at hl 0 rfl) ?_
    refine lv_iconst (v := 3) hx hb dX5_doneIn_27 (by decide) ?_
    refine xreti (va_runV (As := [.int 3]) (rest := []) ⟨hx, hb, hml, hown, hts⟩ (mX1_isIn l D ck (jA (ca 5) ((gX4_find (gX4_copyFrom C.2.2.2.2.2.1 C.1) a1).getD 0)) (qA (ca 5) ((gX4_find (gX4_copyFrom C.2.2.2.2.2.1 C.1) a1).getD 0)) (nI ((gX4_find (gX4_copyFrom C.2.2.2.2.2.1 C.1) a1).getD 0)) ((gX4_copyFrom C.2.2.2.2.2.1 C.1).2.2 ((gX4_find (gX4_copyFrom C.2.2.2.2.2.1 C.1) a1).getD 0)) 3 _) (cwV 1 hts gX5_doneIn_X1_isIn rfl rfl rfl (by decide +kernel) ⟨Nat.le_of_ble_eq_true rfl, Nat.le_of_ble_eq_true rfl⟩) (xpreV hN hK hP hD (cm_K (C.1, C.2.1, C.2.2.1, C.2.2.2.1, C.2.2.2.2.1, gX4_copyFrom C.2.2.2.2.2.1 C.1, C.2.2.2.2.2.2) (by omega)) 0 rfl rfl rfl) rfl rfl hl.1 rfl (lv_room (Nat.le_of_ble_eq_true rfl)) dX5_doneIn_28 ⟨Nat.le_of_ble_eq_true rfl, Nat.le_of_ble_eq_true rfl⟩) hP hD hS hA (cm_K (C.1, C.2.1, C.2.2.1, C.2.2.2.1, C.2.2.2.2.1, gX4_copyFrom C.2.2.2.2.2.1 C.1, C.2.2.2.2.2.2) (by omega)) (cm_K (C.1, C.2.1, C.2.2.1, C.2.2.2.1, C.2.2.2.2.1, gX4_copyFrom C.2.2.2.2.2.1 C.1, C.2.2.2.2.2.2) (by omega)).symm (fun H locs hP hD hS => ?_)
    refine lv_if_eq (tgt := 37) hx hb dX5_doneIn_31 (by decide) (fun c_31 => ?_) (fun c_31 => ?_)
    · --t
      refine lv_iconst (v := 0) hx hb dX5_doneIn_37 (by decide) ?_
      refine lv_istore_n (lv' := [(3, .int 0), (2, .ref (jA (ca 5) ((gX4_find (gX4_copyFrom C.2.2.2.2.2.1 C.1) a1).getD 0))), (0, .ref (ca 0 0)), (1, .int a1)]) hx hb dX5_doneIn_38 rfl hl (by decide) rfl (fun ls hl => ?_)
      have loop39 : ∀ (fu : Nat) (x3 : Int32) (C1 : CS), (0 ≤ x3.toInt ∧ x3.toInt ≤ (20000 : Int32).toInt ∧ (20000 : Int32).toInt ≤ 20000 ∧ (20000 : Int32).toInt ≤ x3.toInt + (fu : Int)) → gX5_doneIn C a1 = gX5_doneIn_L39 C a1 fu x3 C1 → ∀ (H : Heap) (locs : List Loc) (ls : Array Slot), va_P D vwCl (clW ck ca C1) H → va_D (va_A (clW ck ca C) s.heap.size) (clW ck ca C1) → va_S (va_A (clW ck ca C) s.heap.size) s.heap H locs → lv_has ls 4 [(0, .ref (ca 0 0)), (2, .ref (jA (ca 5) ((gX4_find (gX4_copyFrom C.2.2.2.2.2.1 C.1) a1).getD 0))), (3, .int x3)] → W zp l ze rmX5_doneIn s zm ([.ref (ca 0 0), .int a1] : List Value).toArray zb zt zc H locs 0 0 (MQ zb (xQi D (clW ck ca C) (clW ck ca ((gX5_doneIn C a1).2)) ((gX5_doneIn C a1).1) s.heap.size) ([.ref (ca 0 0), .int a1] : List Value).toArray s 0 0 (va_A (clW ck ca C) s.heap.size)) (F0 zm 39 ls []) := by
        intro fu
        induction fu with
        | zero =>
          intro x3 C1 hlp hg H locs ls hP hD hS hl
          refine lv_aload_n hx hb dX5_doneIn_39 rfl (lv_at hl 1 rfl) ?_
          refine lv_iconst (v := 2) hx hb dX5_doneIn_40 (by decide) ?_
          refine xreti (va_runV (As := [.int 2]) (rest := []) ⟨hx, hb, hml, hown, hts⟩ (mX1_isIn l D ck (jA (ca 5) ((gX4_find (gX4_copyFrom C.2.2.2.2.2.1 C.1) a1).getD 0)) (qA (ca 5) ((gX4_find (gX4_copyFrom C.2.2.2.2.2.1 C.1) a1).getD 0)) (nI ((gX4_find (gX4_copyFrom C.2.2.2.2.2.1 C.1) a1).getD 0)) (C1.2.2.2.2.2.1.2.2 ((gX4_find (gX4_copyFrom C.2.2.2.2.2.1 C.1) a1).getD 0)) 2 _) (cwV 1 hts gX5_doneIn_X1_isIn rfl rfl rfl (by decide +kernel) ⟨Nat.le_of_ble_eq_true rfl, Nat.le_of_ble_eq_true rfl⟩) (xpreV hN hK hP hD (cm_K C1 (by omega)) 0 rfl rfl rfl) rfl rfl hl.1 rfl (lv_room (Nat.le_of_ble_eq_true rfl)) dX5_doneIn_41 ⟨Nat.le_of_ble_eq_true rfl, Nat.le_of_ble_eq_true rfl⟩) hP hD hS hA (cm_K C1 (by omega)) (cm_K C1 (by omega)).symm (fun H locs hP hD hS => ?_)
          refine lv_if_ne (tgt := 76) hx hb dX5_doneIn_44 (by decide) (fun c_44 => ?_) (fun c_44 => ?_)
          · --t
            refine lv_aload_n hx hb dX5_doneIn_76 rfl (lv_at hl 1 rfl) ?_
            refine lv_iconst (v := 2) hx hb dX5_doneIn_77 (by decide) ?_
            refine xreti (va_runV (As := [.int 2]) (rest := []) ⟨hx, hb, hml, hown, hts⟩ (mX1_isIn l D ck (jA (ca 5) ((gX4_find (gX4_copyFrom C.2.2.2.2.2.1 C.1) a1).getD 0)) (qA (ca 5) ((gX4_find (gX4_copyFrom C.2.2.2.2.2.1 C.1) a1).getD 0)) (nI ((gX4_find (gX4_copyFrom C.2.2.2.2.2.1 C.1) a1).getD 0)) (C1.2.2.2.2.2.1.2.2 ((gX4_find (gX4_copyFrom C.2.2.2.2.2.1 C.1) a1).getD 0)) 2 _) (cwV 1 hts gX5_doneIn_X1_isIn rfl rfl rfl (by decide +kernel) ⟨Nat.le_of_ble_eq_true rfl, Nat.le_of_ble_eq_true rfl⟩) (xpreV hN hK hP hD (cm_K C1 (by omega)) 0 rfl rfl rfl) rfl rfl hl.1 rfl (lv_room (Nat.le_of_ble_eq_true rfl)) dX5_doneIn_78 ⟨Nat.le_of_ble_eq_true rfl, Nat.le_of_ble_eq_true rfl⟩) hP hD hS hA (cm_K C1 (by omega)) (cm_K C1 (by omega)).symm (fun H locs hP hD hS => ?_)
            refine lv_if_eq (tgt := 88) hx hb dX5_doneIn_81 (by decide) (fun c_81 => ?_) (fun c_81 => ?_)
            · --t
              refine lv_bipush (v := (-5)) hx hb dX5_doneIn_88 (by decide) ?_
              exact xiret hx hb hr hlk hP hD hS (congrArg (fun z => z.1) (hg.trans (show gX5_doneIn_L39 C a1 0 x3 C1 = ((-5), C1) from (Eq.trans (if_neg c_44) (Eq.trans (if_pos c_81) rfl))))).symm (congrArg (fun z => clW ck ca z.2) (hg.trans (show gX5_doneIn_L39 C a1 0 x3 C1 = ((-5), C1) from (Eq.trans (if_neg c_44) (Eq.trans (if_pos c_81) rfl))))).symm dX5_doneIn_90
            · --f
              refine lv_iload_n hx hb dX5_doneIn_84 rfl (lv_at hl 2 rfl) ?_
              refine lv_goto (tgt := 90) hx hb dX5_doneIn_85 (by decide) ?_
              exact xiret hx hb hr hlk hP hD hS (congrArg (fun z => z.1) (hg.trans (show gX5_doneIn_L39 C a1 0 x3 C1 = (x3, C1) from (Eq.trans (if_neg c_44) (Eq.trans (if_neg c_81) rfl))))).symm (congrArg (fun z => clW ck ca z.2) (hg.trans (show gX5_doneIn_L39 C a1 0 x3 C1 = (x3, C1) from (Eq.trans (if_neg c_44) (Eq.trans (if_neg c_81) rfl))))).symm dX5_doneIn_90
          · --f
            refine lv_iload_n hx hb dX5_doneIn_47 rfl (lv_at hl 2 rfl) ?_
            refine lv_sipush (v := 20000) hx hb dX5_doneIn_48 (by decide) ?_
            refine lv_icmp_ge (tgt := 76) hx hb dX5_doneIn_51 (by decide) (fun c_51 => ?_) (fun c_51 => ?_)
            · --t
              refine lv_aload_n hx hb dX5_doneIn_76 rfl (lv_at hl 1 rfl) ?_
              refine lv_iconst (v := 2) hx hb dX5_doneIn_77 (by decide) ?_
              refine xreti (va_runV (As := [.int 2]) (rest := []) ⟨hx, hb, hml, hown, hts⟩ (mX1_isIn l D ck (jA (ca 5) ((gX4_find (gX4_copyFrom C.2.2.2.2.2.1 C.1) a1).getD 0)) (qA (ca 5) ((gX4_find (gX4_copyFrom C.2.2.2.2.2.1 C.1) a1).getD 0)) (nI ((gX4_find (gX4_copyFrom C.2.2.2.2.2.1 C.1) a1).getD 0)) (C1.2.2.2.2.2.1.2.2 ((gX4_find (gX4_copyFrom C.2.2.2.2.2.1 C.1) a1).getD 0)) 2 _) (cwV 1 hts gX5_doneIn_X1_isIn rfl rfl rfl (by decide +kernel) ⟨Nat.le_of_ble_eq_true rfl, Nat.le_of_ble_eq_true rfl⟩) (xpreV hN hK hP hD (cm_K C1 (by omega)) 0 rfl rfl rfl) rfl rfl hl.1 rfl (lv_room (Nat.le_of_ble_eq_true rfl)) dX5_doneIn_78 ⟨Nat.le_of_ble_eq_true rfl, Nat.le_of_ble_eq_true rfl⟩) hP hD hS hA (cm_K C1 (by omega)) (cm_K C1 (by omega)).symm (fun H locs hP hD hS => ?_)
              refine lv_if_eq (tgt := 88) hx hb dX5_doneIn_81 (by decide) (fun c_81 => ?_) (fun c_81 => ?_)
              · --t
                refine lv_bipush (v := (-5)) hx hb dX5_doneIn_88 (by decide) ?_
                exact xiret hx hb hr hlk hP hD hS (congrArg (fun z => z.1) (hg.trans (show gX5_doneIn_L39 C a1 0 x3 C1 = ((-5), C1) from (Eq.trans (if_pos c_44) (Eq.trans (if_pos c_81) rfl))))).symm (congrArg (fun z => clW ck ca z.2) (hg.trans (show gX5_doneIn_L39 C a1 0 x3 C1 = ((-5), C1) from (Eq.trans (if_pos c_44) (Eq.trans (if_pos c_81) rfl))))).symm dX5_doneIn_90
              · --f
                refine lv_iload_n hx hb dX5_doneIn_84 rfl (lv_at hl 2 rfl) ?_
                refine lv_goto (tgt := 90) hx hb dX5_doneIn_85 (by decide) ?_
                exact xiret hx hb hr hlk hP hD hS (congrArg (fun z => z.1) (hg.trans (show gX5_doneIn_L39 C a1 0 x3 C1 = (x3, C1) from (Eq.trans (if_pos c_44) (Eq.trans (if_neg c_81) rfl))))).symm (congrArg (fun z => clW ck ca z.2) (hg.trans (show gX5_doneIn_L39 C a1 0 x3 C1 = (x3, C1) from (Eq.trans (if_pos c_44) (Eq.trans (if_neg c_81) rfl))))).symm dX5_doneIn_90
            · --f
              exact absurd (lp_z hlp) c_51
        | succ fu ih39 =>
          intro x3 C1 hlp hg H locs ls hP hD hS hl
          refine lv_aload_n hx hb dX5_doneIn_39 rfl (lv_at hl 1 rfl) ?_
          refine lv_iconst (v := 2) hx hb dX5_doneIn_40 (by decide) ?_
          refine xreti (va_runV (As := [.int 2]) (rest := []) ⟨hx, hb, hml, hown, hts⟩ (mX1_isIn l D ck (jA (ca 5) ((gX4_find (gX4_copyFrom C.2.2.2.2.2.1 C.1) a1).getD 0)) (qA (ca 5) ((gX4_find (gX4_copyFrom C.2.2.2.2.2.1 C.1) a1).getD 0)) (nI ((gX4_find (gX4_copyFrom C.2.2.2.2.2.1 C.1) a1).getD 0)) (C1.2.2.2.2.2.1.2.2 ((gX4_find (gX4_copyFrom C.2.2.2.2.2.1 C.1) a1).getD 0)) 2 _) (cwV 1 hts gX5_doneIn_X1_isIn rfl rfl rfl (by decide +kernel) ⟨Nat.le_of_ble_eq_true rfl, Nat.le_of_ble_eq_true rfl⟩) (xpreV hN hK hP hD (cm_K C1 (by omega)) 0 rfl rfl rfl) rfl rfl hl.1 rfl (lv_room (Nat.le_of_ble_eq_true rfl)) dX5_doneIn_41 ⟨Nat.le_of_ble_eq_true rfl, Nat.le_of_ble_eq_true rfl⟩) hP hD hS hA (cm_K C1 (by omega)) (cm_K C1 (by omega)).symm (fun H locs hP hD hS => ?_)
          refine lv_if_ne (tgt := 76) hx hb dX5_doneIn_44 (by decide) (fun c_44 => ?_) (fun c_44 => ?_)
          · --t
            refine lv_aload_n hx hb dX5_doneIn_76 rfl (lv_at hl 1 rfl) ?_
            refine lv_iconst (v := 2) hx hb dX5_doneIn_77 (by decide) ?_
            refine xreti (va_runV (As := [.int 2]) (rest := []) ⟨hx, hb, hml, hown, hts⟩ (mX1_isIn l D ck (jA (ca 5) ((gX4_find (gX4_copyFrom C.2.2.2.2.2.1 C.1) a1).getD 0)) (qA (ca 5) ((gX4_find (gX4_copyFrom C.2.2.2.2.2.1 C.1) a1).getD 0)) (nI ((gX4_find (gX4_copyFrom C.2.2.2.2.2.1 C.1) a1).getD 0)) (C1.2.2.2.2.2.1.2.2 ((gX4_find (gX4_copyFrom C.2.2.2.2.2.1 C.1) a1).getD 0)) 2 _) (cwV 1 hts gX5_doneIn_X1_isIn rfl rfl rfl (by decide +kernel) ⟨Nat.le_of_ble_eq_true rfl, Nat.le_of_ble_eq_true rfl⟩) (xpreV hN hK hP hD (cm_K C1 (by omega)) 0 rfl rfl rfl) rfl rfl hl.1 rfl (lv_room (Nat.le_of_ble_eq_true rfl)) dX5_doneIn_78 ⟨Nat.le_of_ble_eq_true rfl, Nat.le_of_ble_eq_true rfl⟩) hP hD hS hA (cm_K C1 (by omega)) (cm_K C1 (by omega)).symm (fun H locs hP hD hS => ?_)
            refine lv_if_eq (tgt := 88) hx hb dX5_doneIn_81 (by decide) (fun c_81 => ?_) (fun c_81 => ?_)
            · --t
              refine lv_bipush (v := (-5)) hx hb dX5_doneIn_88 (by decide) ?_
              exact xiret hx hb hr hlk hP hD hS (congrArg (fun z => z.1) (hg.trans (show gX5_doneIn_L39 C a1 (fu + 1) x3 C1 = ((-5), C1) from (Eq.trans (if_neg c_44) (Eq.trans (if_pos c_81) rfl))))).symm (congrArg (fun z => clW ck ca z.2) (hg.trans (show gX5_doneIn_L39 C a1 (fu + 1) x3 C1 = ((-5), C1) from (Eq.trans (if_neg c_44) (Eq.trans (if_pos c_81) rfl))))).symm dX5_doneIn_90
            · --f
              refine lv_iload_n hx hb dX5_doneIn_84 rfl (lv_at hl 2 rfl) ?_
              refine lv_goto (tgt := 90) hx hb dX5_doneIn_85 (by decide) ?_
              exact xiret hx hb hr hlk hP hD hS (congrArg (fun z => z.1) (hg.trans (show gX5_doneIn_L39 C a1 (fu + 1) x3 C1 = (x3, C1) from (Eq.trans (if_neg c_44) (Eq.trans (if_neg c_81) rfl))))).symm (congrArg (fun z => clW ck ca z.2) (hg.trans (show gX5_doneIn_L39 C a1 (fu + 1) x3 C1 = (x3, C1) from (Eq.trans (if_neg c_44) (Eq.trans (if_neg c_81) rfl))))).symm dX5_doneIn_90
          · --f
            refine lv_iload_n hx hb dX5_doneIn_47 rfl (lv_at hl 2 rfl) ?_
            refine lv_sipush (v := 20000) hx hb dX5_doneIn_48 (by decide) ?_
            refine lv_icmp_ge (tgt := 76) hx hb dX5_doneIn_51 (by decide) (fun c_51 => ?_) (fun c_51 => ?_)
            · --t
              refine lv_aload_n hx hb dX5_doneIn_76 rfl (lv_at hl 1 rfl) ?_
              refine lv_iconst (v := 2) hx hb dX5_doneIn_77 (by decide) ?_
              refine xreti (va_runV (As := [.int 2]) (rest := []) ⟨hx, hb, hml, hown, hts⟩ (mX1_isIn l D ck (jA (ca 5) ((gX4_find (gX4_copyFrom C.2.2.2.2.2.1 C.1) a1).getD 0)) (qA (ca 5) ((gX4_find (gX4_copyFrom C.2.2.2.2.2.1 C.1) a1).getD 0)) (nI ((gX4_find (gX4_copyFrom C.2.2.2.2.2.1 C.1) a1).getD 0)) (C1.2.2.2.2.2.1.2.2 ((gX4_find (gX4_copyFrom C.2.2.2.2.2.1 C.1) a1).getD 0)) 2 _) (cwV 1 hts gX5_doneIn_X1_isIn rfl rfl rfl (by decide +kernel) ⟨Nat.le_of_ble_eq_true rfl, Nat.le_of_ble_eq_true rfl⟩) (xpreV hN hK hP hD (cm_K C1 (by omega)) 0 rfl rfl rfl) rfl rfl hl.1 rfl (lv_room (Nat.le_of_ble_eq_true rfl)) dX5_doneIn_78 ⟨Nat.le_of_ble_eq_true rfl, Nat.le_of_ble_eq_true rfl⟩) hP hD hS hA (cm_K C1 (by omega)) (cm_K C1 (by omega)).symm (fun H locs hP hD hS => ?_)
              refine lv_if_eq (tgt := 88) hx hb dX5_doneIn_81 (by decide) (fun c_81 => ?_) (fun c_81 => ?_)
              · --t
                refine lv_bipush (v := (-5)) hx hb dX5_doneIn_88 (by decide) ?_
                exact xiret hx hb hr hlk hP hD hS (congrArg (fun z => z.1) (hg.trans (show gX5_doneIn_L39 C a1 (fu + 1) x3 C1 = ((-5), C1) from (Eq.trans (if_pos c_44) (Eq.trans (if_pos c_51) (Eq.trans (if_pos c_81) rfl)))))).symm (congrArg (fun z => clW ck ca z.2) (hg.trans (show gX5_doneIn_L39 C a1 (fu + 1) x3 C1 = ((-5), C1) from (Eq.trans (if_pos c_44) (Eq.trans (if_pos c_51) (Eq.trans (if_pos c_81) rfl)))))).symm dX5_doneIn_90
              · --f
                refine lv_iload_n hx hb dX5_doneIn_84 rfl (lv_at hl 2 rfl) ?_
                refine lv_goto (tgt := 90) hx hb dX5_doneIn_85 (by decide) ?_
                exact xiret hx hb hr hlk hP hD hS (congrArg (fun z => z.1) (hg.trans (show gX5_doneIn_L39 C a1 (fu + 1) x3 C1 = (x3, C1) from (Eq.trans (if_pos c_44) (Eq.trans (if_pos c_51) (Eq.trans (if_neg c_81) rfl)))))).symm (congrArg (fun z => clW ck ca z.2) (hg.trans (show gX5_doneIn_L39 C a1 (fu + 1) x3 C1 = (x3, C1) from (Eq.trans (if_pos c_44) (Eq.trans (if_pos c_51) (Eq.trans (if_neg c_81) rfl)))))).symm dX5_doneIn_90
            · --f
              refine lv_iload_n hx hb dX5_doneIn_54 rfl (lv_at hl 2 rfl) ?_
              refine lv_iconst (v := 1) hx hb dX5_doneIn_55 (by decide) ?_
              refine lv_aload_n hx hb dX5_doneIn_56 rfl (lv_at hl 0 rfl) ?_
              refine va_get (D := D) (ci := 5) (v := .ref (ca 5 0)) (C := RX5) (T := TX5) (N := 7) hx hb hts hinX5 hown hK hP 0 rfl rfl 5 (by decide) (hts (.fieldLink RX5 33 "JoinGrants" "trialPool" "LJoinGrants$Pool;") (List.mem_of_getElem? (i := 1) rfl)) (fun _ h9 => h9) rfl dX5_doneIn_57 ?_
              refine lv_sipush (v := 20000) hx hb dX5_doneIn_60 (by decide) ?_
              refine lv_iload_n hx hb dX5_doneIn_63 rfl (lv_at hl 2 rfl) ?_
              refine lv_isub hx hb dX5_doneIn_64 ?_
              refine xreti (va_runV (As := [.int (20000 - x3)]) (rest := [.int 1, .int x3]) ⟨hx, hb, hml, hown, hts⟩ (mX4_leap l D ck (ca 5) C1.2.2.2.2.2.1 (20000 - x3)  _) (cwV 1 hts gX5_doneIn_X4_leap rfl rfl rfl (by decide +kernel) ⟨Nat.le_of_ble_eq_true rfl, Nat.le_of_ble_eq_true rfl⟩) (xpreV hN hK hP hD (cm_R C1) 0 rfl rfl rfl) rfl rfl hl.1 rfl (lv_room (Nat.le_of_ble_eq_true rfl)) dX5_doneIn_65 ⟨Nat.le_of_ble_eq_true rfl, Nat.le_of_ble_eq_true rfl⟩) hP hD hS hA (cm_R C1) (cm_R' C1) (fun H locs hP hD hS => ?_)
              have hP : va_P D vwCl (clW ck ca (C1.1, C1.2.1, C1.2.2.1, C1.2.2.2.1, C1.2.2.2.2.1, (gX4_leap C1.2.2.2.2.2.1 (20000 - x3)).2, C1.2.2.2.2.2.2)) H := hP
              have hD : va_D (va_A (clW ck ca C) s.heap.size) (clW ck ca (C1.1, C1.2.1, C1.2.2.1, C1.2.2.2.1, C1.2.2.2.2.1, (gX4_leap C1.2.2.2.2.2.1 (20000 - x3)).2, C1.2.2.2.2.2.2)) := hD
              refine va_mmax hx hb (hml.trans hl.1.symm) hown (hts (.methodLink RX5 114 Lib.Math.max.name) (List.mem_of_getElem? (i := 3) rfl)) (hts (.static Lib.Math.max.name) (List.mem_of_getElem? (i := 4) rfl)) (hts (.initialized "java/lang/Math") (List.mem_of_getElem? (i := 5) rfl)) (hts (.code Lib.Math.max.name Lib.Math.max.code 2 (some .int)) (List.mem_of_getElem? (i := 6) rfl)) (Nat.le_of_ble_eq_true rfl) (Nat.le_of_ble_eq_true rfl) (Nat.le_of_ble_eq_true rfl) (Nat.le_of_ble_eq_true rfl) dX5_doneIn_68 ?_
              refine lv_iadd hx hb dX5_doneIn_71 ?_
              refine lv_istore_n (lv' := [(3, .int (x3 + (if 1 < ((gX4_leap C1.2.2.2.2.2.1 (20000 - x3)).1) then ((gX4_leap C1.2.2.2.2.2.1 (20000 - x3)).1) else 1))), (0, .ref (ca 0 0)), (2, .ref (jA (ca 5) ((gX4_find (gX4_copyFrom C.2.2.2.2.2.1 C.1) a1).getD 0)))]) hx hb dX5_doneIn_72 rfl hl (by decide) rfl (fun ls hl => ?_)
              refine lv_goto (tgt := 39) hx hb dX5_doneIn_73 (by decide) ?_
              exact ih39 (x3 + (if 1 < ((gX4_leap C1.2.2.2.2.2.1 (20000 - x3)).1) then ((gX4_leap C1.2.2.2.2.2.1 (20000 - x3)).1) else 1)) (C1.1, C1.2.1, C1.2.2.1, C1.2.2.2.1, C1.2.2.2.2.1, (gX4_leap C1.2.2.2.2.2.1 (20000 - x3)).2, C1.2.2.2.2.2.2) (lp_s hlp c_51) (hg.trans (show gX5_doneIn_L39 C a1 (fu + 1) x3 C1 = (gX5_doneIn_L39 C a1 fu (x3 + (if 1 < ((gX4_leap C1.2.2.2.2.2.1 (20000 - x3)).1) then ((gX4_leap C1.2.2.2.2.2.1 (20000 - x3)).1) else 1)) (C1.1, C1.2.1, C1.2.2.1, C1.2.2.2.1, C1.2.2.2.2.1, (gX4_leap C1.2.2.2.2.2.1 (20000 - x3)).2, C1.2.2.2.2.2.2)) from (Eq.trans (if_pos c_44) (Eq.trans (if_neg c_51) rfl)))) _ _ _ hP hD hS (lv_sub hl [1, 2, 0] rfl)
      exact loop39 20000 0 (C.1, C.2.1, C.2.2.1, C.2.2.2.1, C.2.2.2.2.1, gX4_copyFrom C.2.2.2.2.2.1 C.1, C.2.2.2.2.2.2) lp_00 (show gX5_doneIn C a1 = (gX5_doneIn_L39 C a1 20000 0 (C.1, C.2.1, C.2.2.1, C.2.2.2.1, C.2.2.2.2.1, gX4_copyFrom C.2.2.2.2.2.1 C.1, C.2.2.2.2.2.2)) from (Eq.trans (if_neg cq_16) (Eq.trans (if_pos c_31) rfl))) _ _ _ hP hD hS (lv_sub hl [2, 1, 0] rfl)
    · --f
      refine lv_bipush (v := (-4)) hx hb dX5_doneIn_34 (by decide) ?_
      exact xiret hx hb hr hlk hP hD hS (congrArg (fun z => z.1) (show gX5_doneIn C a1 = ((-4), (C.1, C.2.1, C.2.2.1, C.2.2.2.1, C.2.2.2.2.1, gX4_copyFrom C.2.2.2.2.2.1 C.1, C.2.2.2.2.2.2)) from (Eq.trans (if_neg cq_16) (Eq.trans (if_neg c_31) rfl)))).symm (congrArg (fun z => clW ck ca z.2) (show gX5_doneIn C a1 = ((-4), (C.1, C.2.1, C.2.2.1, C.2.2.2.1, C.2.2.2.2.1, gX4_copyFrom C.2.2.2.2.2.1 C.1, C.2.2.2.2.2.2)) from (Eq.trans (if_neg cq_16) (Eq.trans (if_neg c_31) rfl)))).symm dX5_doneIn_36

def rmX5_count : Room := { frames := 4, cells := 0, slots := 0, locals := 87 }
set_option maxHeartbeats 4000000 in
set_option maxRecDepth 100000 in
theorem mX5_count (l : Launch) (D : va_G) (ck : Nat → ClassId) (ca : Nat → Nat → Nat) (C : CS) (a1 : Int32) : xMi l yX5_count wsX5_count rmX5_count D ck [.ref (ca 0 0), .int a1] (clW ck ca C) (clW ck ca C) (gX5_count C a1) 0 0 := by
  refine xMet (by decide) rfl (Nat.le_of_ble_eq_true rfl) ?_
  intro zp ze s zm zb zt zc hx hb hr hml hown hts hlk hnm hN hK hP hD ls hl
  have hown : s.vm.findClass RX5 = some zm.cls := hown
  have hl : lv_has ls 2 [(0, .ref (ca 0 0)), (1, .int a1)] := hl
  have hS : va_S (va_A (clW ck ca C) s.heap.size) s.heap s.heap [] := va_S.rf
  have hA : ∀ zq : Nat, s.heap.size ≤ zq → va_A (clW ck ca C) s.heap.size zq := fun zq h => Or.inr h
  have hinX5 : ∀ w ∈ u_ws RX5 TX5 7, w ∈ wsX5_count := by decide +kernel
  refine lv_iload_n hx hb dX5_count_0 rfl (lv_at hl 1 rfl) ?_
  refine lv_bipush (v := 16) hx hb dX5_count_1 (by decide) ?_
  refine lv_icmp_ne (tgt := 14) hx hb dX5_count_3 (by decide) (fun c_3 => ?_) (fun c_3 => ?_)
  · --t
    refine lv_iload_n hx hb dX5_count_14 rfl (lv_at hl 1 rfl) ?_
    refine lv_bipush (v := 17) hx hb dX5_count_15 (by decide) ?_
    refine lv_icmp_ne (tgt := 28) hx hb dX5_count_17 (by decide) (fun c_17 => ?_) (fun c_17 => ?_)
    · --t
      refine lv_iload_n hx hb dX5_count_28 rfl (lv_at hl 1 rfl) ?_
      refine xreti (va_runS (As := [.int a1]) (rest := []) ⟨hx, hb, hml, hown, hts⟩ (mX4_canTell l D ck a1 _) (va_cwS 1 hts gX5_count_X4_canTell rfl rfl rfl (by decide +kernel) ⟨Nat.le_of_ble_eq_true rfl, Nat.le_of_ble_eq_true rfl⟩) (xpreS hN hK hP hD pm_none) rfl rfl hl.1 rfl (lv_room (Nat.le_of_ble_eq_true rfl)) dX5_count_29 ⟨Nat.le_of_ble_eq_true rfl, Nat.le_of_ble_eq_true rfl⟩) hP hD hS hA pm_none pm_none (fun H locs hP hD hS => ?_)
      have hP : va_P D vwCl (clW ck ca C) H := hP
      have hD : va_D (va_A (clW ck ca C) s.heap.size) (clW ck ca C) := hD
      refine lv_if_eq (tgt := 46) hx hb dX5_count_32 (by decide) (fun c_32 => ?_) (fun c_32 => ?_)
      · --t
        refine lv_bipush (v := (-2)) hx hb dX5_count_46 (by decide) ?_
        exact xiret hx hb hr hlk hP hD hS (show gX5_count C a1 = (-2) from (Eq.trans (if_neg c_3) (Eq.trans (if_neg c_17) (Eq.trans (if_pos c_32) rfl)))).symm rfl dX5_count_48
      · --f
        refine lv_aload_n hx hb dX5_count_35 rfl (lv_at hl 0 rfl) ?_
        refine va_get (D := D) (ci := 5) (v := .ref (ca 1 0)) (C := RX5) (T := TX5) (N := 7) hx hb hts hinX5 hown hK hP 0 rfl rfl 0 (by decide) (hts (.fieldLink RX5 10 "JoinGrants" "pool" "LJoinGrants$Pool;") (List.mem_of_getElem? (i := 3) rfl)) (fun _ h9 => h9) rfl dX5_count_36 ?_
        refine lv_iload_n hx hb dX5_count_39 rfl (lv_at hl 1 rfl) ?_
        refine xreti (va_runV (As := [.int a1]) (rest := []) ⟨hx, hb, hml, hown, hts⟩ (mX4_tell l D ck (ca 1) C.1 a1  _) (cwV 1 hts gX5_count_X4_tell rfl rfl rfl (by decide +kernel) ⟨Nat.le_of_ble_eq_true rfl, Nat.le_of_ble_eq_true rfl⟩) (xpreV hN hK hP hD (cm_P C) 0 rfl rfl rfl) rfl rfl hl.1 rfl (lv_room (Nat.le_of_ble_eq_true rfl)) dX5_count_40 ⟨Nat.le_of_ble_eq_true rfl, Nat.le_of_ble_eq_true rfl⟩) hP hD hS hA (cm_P C) (cm_P C).symm (fun H locs hP hD hS => ?_)
        refine lv_goto (tgt := 48) hx hb dX5_count_43 (by decide) ?_
        exact xiret hx hb hr hlk hP hD hS (show gX5_count C a1 = (gX4_tell C.1 a1) from (Eq.trans (if_neg c_3) (Eq.trans (if_neg c_17) (Eq.trans (if_neg c_32) rfl)))).symm rfl dX5_count_48
    · --f
      refine lv_aload_n hx hb dX5_count_20 rfl (lv_at hl 0 rfl) ?_
      refine va_get (D := D) (ci := 5) (v := .ref (ca 3 0)) (C := RX5) (T := TX5) (N := 7) hx hb hts hinX5 hown hK hP 0 rfl rfl 2 (by decide) (hts (.fieldLink RX5 26 "JoinGrants" "text" "LJoinGrants$JoinText;") (List.mem_of_getElem? (i := 2) rfl)) (fun _ h9 => h9) rfl dX5_count_21 ?_
      refine xreti (va_runV (As := []) (rest := []) ⟨hx, hb, hml, hown, hts⟩ (mX2_length l D ck (ca 3) C.2.2.1   _) (cwV 0 hts gX5_count_X2_length rfl rfl rfl (by decide +kernel) ⟨Nat.le_of_ble_eq_true rfl, Nat.le_of_ble_eq_true rfl⟩) (xpreV hN hK hP hD (cm_T C) 0 rfl rfl rfl) rfl rfl hl.1 rfl (lv_room (Nat.le_of_ble_eq_true rfl)) dX5_count_24 ⟨Nat.le_of_ble_eq_true rfl, Nat.le_of_ble_eq_true rfl⟩) hP hD hS hA (cm_T C) (cm_T C).symm (fun H locs hP hD hS => ?_)
      exact xiret hx hb hr hlk hP hD hS (show gX5_count C a1 = (gX2_length C.2.2.1 ) from (Eq.trans (if_neg c_3) (Eq.trans (if_pos c_17) rfl))).symm rfl dX5_count_27
  · --f
    refine lv_aload_n hx hb dX5_count_6 rfl (lv_at hl 0 rfl) ?_
    refine va_get (D := D) (ci := 5) (v := .ref (ca 2 0)) (C := RX5) (T := TX5) (N := 7) hx hb hts hinX5 hown hK hP 0 rfl rfl 1 (by decide) (hts (.fieldLink RX5 19 "JoinGrants" "history" "LJoinGrants$History;") (List.mem_of_getElem? (i := 1) rfl)) (fun _ h9 => h9) rfl dX5_count_7 ?_
    refine xreti (va_runV (As := []) (rest := []) ⟨hx, hb, hml, hown, hts⟩ (mX0_size l D ck (ca 2) (ca 1) C.2.1 C.1  _) (cwV 0 hts gX5_count_X0_size rfl rfl rfl (by decide +kernel) ⟨Nat.le_of_ble_eq_true rfl, Nat.le_of_ble_eq_true rfl⟩) (xpreV hN hK hP hD (cm_H C) 0 rfl rfl rfl) rfl rfl hl.1 rfl (lv_room (Nat.le_of_ble_eq_true rfl)) dX5_count_10 ⟨Nat.le_of_ble_eq_true rfl, Nat.le_of_ble_eq_true rfl⟩) hP hD hS hA (cm_H C) (cm_H C).symm (fun H locs hP hD hS => ?_)
    exact xiret hx hb hr hlk hP hD hS (show gX5_count C a1 = (gX0_size C.2.1 C.1) from (Eq.trans (if_pos c_3) rfl)).symm rfl dX5_count_13

def rmX5_spare : Room := { frames := 2, cells := 0, slots := 0, locals := 45 }
set_option maxHeartbeats 4000000 in
set_option maxRecDepth 100000 in
theorem mX5_spare (l : Launch) (D : va_G) (ck : Nat → ClassId) (ca : Nat → Nat → Nat) (C : CS) : xMi l yX5_spare wsX5_spare rmX5_spare D ck [.ref (ca 0 0)] (clW ck ca C) (clW ck ca C) (gX5_spare C) 0 0 := by
  refine xMet (by decide) rfl (Nat.le_of_ble_eq_true rfl) ?_
  intro zp ze s zm zb zt zc hx hb hr hml hown hts hlk hnm hN hK hP hD ls hl
  have hown : s.vm.findClass RX5 = some zm.cls := hown
  have hl : lv_has ls 1 [(0, .ref (ca 0 0))] := hl
  have hS : va_S (va_A (clW ck ca C) s.heap.size) s.heap s.heap [] := va_S.rf
  have hA : ∀ zq : Nat, s.heap.size ≤ zq → va_A (clW ck ca C) s.heap.size zq := fun zq h => Or.inr h
  have hinX5 : ∀ w ∈ u_ws RX5 TX5 7, w ∈ wsX5_spare := by decide +kernel
  refine lv_aload_n hx hb dX5_spare_0 rfl (lv_at hl 0 rfl) ?_
  refine va_get (D := D) (ci := 5) (v := .ref (ca 1 0)) (C := RX5) (T := TX5) (N := 7) hx hb hts hinX5 hown hK hP 0 rfl rfl 0 (by decide) (hts (.fieldLink RX5 10 "JoinGrants" "pool" "LJoinGrants$Pool;") (List.mem_of_getElem? (i := 1) rfl)) (fun _ h9 => h9) rfl dX5_spare_1 ?_
  refine xreti (va_runV (As := []) (rest := []) ⟨hx, hb, hml, hown, hts⟩ (mX4_surplus l D ck (ca 1) C.1   _) (cwV 0 hts gX5_spare_X4_surplus rfl rfl rfl (by decide +kernel) ⟨Nat.le_of_ble_eq_true rfl, Nat.le_of_ble_eq_true rfl⟩) (xpreV hN hK hP hD (cm_P C) 0 rfl rfl rfl) rfl rfl hl.1 rfl (lv_room (Nat.le_of_ble_eq_true rfl)) dX5_spare_4 ⟨Nat.le_of_ble_eq_true rfl, Nat.le_of_ble_eq_true rfl⟩) hP hD hS hA (cm_P C) (cm_P C).symm (fun H locs hP hD hS => ?_)
  exact xiret hx hb hr hlk hP hD hS (show gX5_spare C = (gX4_surplus C.1 ) from rfl).symm rfl dX5_spare_7
