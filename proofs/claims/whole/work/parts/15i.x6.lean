def rmX6_isHere : Room := { frames := 1, cells := 0, slots := 0, locals := 25 }
set_option maxHeartbeats 4000000 in
set_option maxRecDepth 100000 in
theorem mX6_isHere (l : Launch) (D : va_G) (ck : Nat → ClassId) (ma : Nat → Nat) (Y : YS) (a1 : Int32) (a2 : Int32) (ht : tI Y.1) : xMi l yX6_isHere wsX6_isHere rmX6_isHere D ck [.ref (ma 0), .int a1, .int a2] (mtxW ck ma Y) (mtxW ck ma Y) (gX6_isHere Y a1 a2) 0 0 := by
  refine xMet (by decide) rfl (Nat.le_of_ble_eq_true rfl) ?_
  intro zp ze s zm zb zt zc hx hb hr hml hown hts hlk hnm hN hK hP hD ls hl
  have hown : s.vm.findClass RX6 = some zm.cls := hown
  have hl : lv_has ls 3 [(0, .ref (ma 0)), (1, .int a1), (2, .int a2)] := hl
  have hS : va_S (va_A (mtxW ck ma Y) s.heap.size) s.heap s.heap [] := va_S.rf
  have hA : ∀ zq : Nat, s.heap.size ≤ zq → va_A (mtxW ck ma Y) s.heap.size zq := fun zq h => Or.inr h
  have hinX6 : ∀ w ∈ u_ws RX6 TX6 13, w ∈ wsX6_isHere := by decide +kernel
  refine lv_aload_n hx hb dX6_isHere_0 rfl (lv_at hl 0 rfl) ?_
  refine va_get (D := D) (ci := 6) (v := .int (Y.1 3)) (C := RX6) (T := TX6) (N := 13) hx hb hts hinX6 hown hK hP 0 rfl rfl 9 (by decide) (hts (.fieldLink RX6 158 "JoinGrantsModel" "spot" "I") (List.mem_of_getElem? (i := 1) rfl)) (fun _ h9 => h9) rfl dX6_isHere_1 ?_
  refine lv_aload_n hx hb dX6_isHere_4 rfl (lv_at hl 0 rfl) ?_
  refine va_get (D := D) (ci := 6) (v := .int (Y.1 2)) (C := RX6) (T := TX6) (N := 13) hx hb hts hinX6 hown hK hP 0 rfl rfl 8 (by decide) (hts (.fieldLink RX6 155 "JoinGrantsModel" "textLong" "I") (List.mem_of_getElem? (i := 2) rfl)) (fun _ h9 => h9) rfl dX6_isHere_5 ?_
  refine lv_icmp_ge (tgt := 35) hx hb dX6_isHere_8 (by decide) (fun c_8 => ?_) (fun c_8 => ?_)
  · --t
    refine lv_iconst (v := 0) hx hb dX6_isHere_35 (by decide) ?_
    exact xzret hx hb hr hlk hP hD hS (Or.inl rfl) (show gX6_isHere Y a1 a2 = 0 from (Eq.trans (if_pos c_8) rfl)).symm rfl dX6_isHere_36
  · --f
    refine lv_aload_n hx hb dX6_isHere_11 rfl (lv_at hl 0 rfl) ?_
    refine va_get (D := D) (ci := 6) (v := .ref (ma 6)) (C := RX6) (T := TX6) (N := 13) hx hb hts hinX6 hown hK hP 0 rfl rfl 7 (by decide) (hts (.fieldLink RX6 25 "JoinGrantsModel" "text" "[I") (List.mem_of_getElem? (i := 3) rfl)) (fun _ h9 => h9) rfl dX6_isHere_12 ?_
    refine lv_aload_n hx hb dX6_isHere_15 rfl (lv_at hl 0 rfl) ?_
    refine va_get (D := D) (ci := 6) (v := .int (Y.1 3)) (C := RX6) (T := TX6) (N := 13) hx hb hts hinX6 hown hK hP 0 rfl rfl 9 (by decide) (hts (.fieldLink RX6 158 "JoinGrantsModel" "spot" "I") (List.mem_of_getElem? (i := 1) rfl)) (fun _ h9 => h9) rfl dX6_isHere_16 ?_
    refine va_iald hx hb hK hP 1 0 rfl rfl (tI_in ht c_8) dX6_isHere_19 ?_
    refine lv_i2l (v := ((Y.2.1 (Y.1 3).toNatClampNeg)).toInt64) hx hb dX6_isHere_20 rfl ?_
    refine lv_iload_n hx hb dX6_isHere_21 rfl (lv_at hl 1 rfl) ?_
    refine lv_i2l (v := (a1).toInt64) hx hb dX6_isHere_22 rfl ?_
    refine lv_iload_n hx hb dX6_isHere_23 rfl (lv_at hl 2 rfl) ?_
    refine lv_i2l (v := (a2).toInt64) hx hb dX6_isHere_24 rfl ?_
    refine xreti (va_runS (As := [.long (((Y.2.1 (Y.1 3).toNatClampNeg)).toInt64), .long ((a1).toInt64), .long ((a2).toInt64)]) (rest := []) ⟨hx, hb, hml, hown, hts⟩ (mX6_in l D ck (((Y.2.1 (Y.1 3).toNatClampNeg)).toInt64) ((a1).toInt64) ((a2).toInt64)  _) (va_cwS 3 hts gX6_isHere_X6_in rfl rfl rfl (by decide +kernel) ⟨Nat.le_of_ble_eq_true rfl, Nat.le_of_ble_eq_true rfl⟩) (xpreS hN hK hP hD pm_none) rfl rfl hl.1 rfl (lv_room (Nat.le_of_ble_eq_true rfl)) dX6_isHere_25 ⟨Nat.le_of_ble_eq_true rfl, Nat.le_of_ble_eq_true rfl⟩) hP hD hS hA pm_none pm_none (fun H locs hP hD hS => ?_)
    refine lv_if_eq (tgt := 35) hx hb dX6_isHere_28 (by decide) (fun c_28 => ?_) (fun c_28 => ?_)
    · --t
      refine lv_iconst (v := 0) hx hb dX6_isHere_35 (by decide) ?_
      exact xzret hx hb hr hlk hP hD hS (Or.inl rfl) (show gX6_isHere Y a1 a2 = 0 from (Eq.trans (if_neg c_8) (Eq.trans (if_pos c_28) rfl))).symm rfl dX6_isHere_36
    · --f
      refine lv_iconst (v := 1) hx hb dX6_isHere_31 (by decide) ?_
      refine lv_goto (tgt := 36) hx hb dX6_isHere_32 (by decide) ?_
      exact xzret hx hb hr hlk hP hD hS (Or.inr rfl) (show gX6_isHere Y a1 a2 = 1 from (Eq.trans (if_neg c_8) (Eq.trans (if_neg c_28) rfl))).symm rfl dX6_isHere_36

def rmX6_takes : Room := { frames := 2, cells := 0, slots := 0, locals := 47 }
set_option maxHeartbeats 4000000 in
set_option maxRecDepth 100000 in
theorem mX6_takes (l : Launch) (D : va_G) (ck : Nat → ClassId) (ma : Nat → Nat) (Y : YS) (a1 : Int32) (ht : tI Y.1) : xMi l yX6_takes wsX6_takes rmX6_takes D ck [.ref (ma 0), .int a1] (mtxW ck ma Y) (mtxW ck ma ((gX6_takes Y a1).2)) ((gX6_takes Y a1).1) 0 0 := by
  refine xMet (by decide) rfl (Nat.le_of_ble_eq_true rfl) ?_
  intro zp ze s zm zb zt zc hx hb hr hml hown hts hlk hnm hN hK hP hD ls hl
  have hown : s.vm.findClass RX6 = some zm.cls := hown
  have hl : lv_has ls 3 [(0, .ref (ma 0)), (1, .int a1)] := hl
  have hS : va_S (va_A (mtxW ck ma Y) s.heap.size) s.heap s.heap [] := va_S.rf
  have hA : ∀ zq : Nat, s.heap.size ≤ zq → va_A (mtxW ck ma Y) s.heap.size zq := fun zq h => Or.inr h
  have hinX6 : ∀ w ∈ u_ws RX6 TX6 13, w ∈ wsX6_takes := by decide +kernel
  refine lv_aload_n hx hb dX6_takes_0 rfl (lv_at hl 0 rfl) ?_
  refine lv_iload_n hx hb dX6_takes_1 rfl (lv_at hl 1 rfl) ?_
  refine lv_iload_n hx hb dX6_takes_2 rfl (lv_at hl 1 rfl) ?_
  refine xreti (va_runV (As := [.int a1, .int a1]) (rest := []) ⟨hx, hb, hml, hown, hts⟩ (mX6_isHere l D ck ma Y a1 a1 ht _) (cwV 2 hts gX6_takes_X6_isHere rfl rfl rfl (by decide +kernel) ⟨Nat.le_of_ble_eq_true rfl, Nat.le_of_ble_eq_true rfl⟩) (xpreV hN hK hP hD pm_all 0 rfl rfl rfl) rfl rfl hl.1 rfl (lv_room (Nat.le_of_ble_eq_true rfl)) dX6_takes_3 ⟨Nat.le_of_ble_eq_true rfl, Nat.le_of_ble_eq_true rfl⟩) hP hD hS hA pm_all pm_all' (fun H locs hP hD hS => ?_)
  refine lv_istore_n (lv' := [(2, .int (gX6_isHere Y a1 a1)), (0, .ref (ma 0)), (1, .int a1)]) hx hb dX6_takes_6 rfl hl (by decide) rfl (fun ls hl => ?_)
  refine lv_aload_n hx hb dX6_takes_7 rfl (lv_at hl 1 rfl) ?_
  refine lv_dup hx hb dX6_takes_8 rfl ?_
  refine va_get (D := D) (ci := 6) (v := .int (Y.1 3)) (C := RX6) (T := TX6) (N := 13) hx hb hts hinX6 hown hK hP 0 rfl rfl 9 (by decide) (hts (.fieldLink RX6 158 "JoinGrantsModel" "spot" "I") (List.mem_of_getElem? (i := 1) rfl)) (fun _ h9 => h9) rfl dX6_takes_9 ?_
  refine lv_iload_n hx hb dX6_takes_12 rfl (lv_at hl 0 rfl) ?_
  refine lv_if_eq (tgt := 20) hx hb dX6_takes_13 (by decide) (fun c_13 => ?_) (fun c_13 => ?_)
  · --t
    refine lv_iconst (v := 0) hx hb dX6_takes_20 (by decide) ?_
    refine lv_iadd hx hb dX6_takes_21 ?_
    refine va_put (D := D) (ci := 6) (v := .int ((Y.1 3) + 0)) (ty := .int) (C := RX6) (T := TX6) (N := 13) hx hb hts hinX6 tyX6 tyX6_ok nmX6 hown hK hP hD hS 0 rfl rfl 9 (by decide) (hts (.fieldLink RX6 158 "JoinGrantsModel" "spot" "I") (List.mem_of_getElem? (i := 1) rfl)) (fun _ h9 => h9) rfl (by decide +kernel) rfl rfl (Nat.le_of_ble_eq_true rfl) dX6_takes_22 (fun H locs hP hD hS => ?_)
    have hP : va_P D vwCl (mtxW ck ma (upd Y.1 3 ((Y.1 3) + 0), Y.2.1, Y.2.2)) H := hP
    have hD : va_D (va_A (mtxW ck ma Y) s.heap.size) (mtxW ck ma (upd Y.1 3 ((Y.1 3) + 0), Y.2.1, Y.2.2)) := hD
    refine lv_iload_n hx hb dX6_takes_25 rfl (lv_at hl 0 rfl) ?_
    exact xzret hx hb hr hlk hP hD hS z_X6_isHere (congrArg (fun z => z.1) (show gX6_takes Y a1 = ((gX6_isHere Y a1 a1), (upd Y.1 3 ((Y.1 3) + 0), Y.2.1, Y.2.2)) from (Eq.trans (if_pos c_13) rfl))).symm (congrArg (fun z => mtxW ck ma z.2) (show gX6_takes Y a1 = ((gX6_isHere Y a1 a1), (upd Y.1 3 ((Y.1 3) + 0), Y.2.1, Y.2.2)) from (Eq.trans (if_pos c_13) rfl))).symm dX6_takes_26
  · --f
    refine lv_iconst (v := 1) hx hb dX6_takes_16 (by decide) ?_
    refine lv_goto (tgt := 21) hx hb dX6_takes_17 (by decide) ?_
    refine lv_iadd hx hb dX6_takes_21 ?_
    refine va_put (D := D) (ci := 6) (v := .int ((Y.1 3) + 1)) (ty := .int) (C := RX6) (T := TX6) (N := 13) hx hb hts hinX6 tyX6 tyX6_ok nmX6 hown hK hP hD hS 0 rfl rfl 9 (by decide) (hts (.fieldLink RX6 158 "JoinGrantsModel" "spot" "I") (List.mem_of_getElem? (i := 1) rfl)) (fun _ h9 => h9) rfl (by decide +kernel) rfl rfl (Nat.le_of_ble_eq_true rfl) dX6_takes_22 (fun H locs hP hD hS => ?_)
    have hP : va_P D vwCl (mtxW ck ma (upd Y.1 3 ((Y.1 3) + 1), Y.2.1, Y.2.2)) H := hP
    have hD : va_D (va_A (mtxW ck ma Y) s.heap.size) (mtxW ck ma (upd Y.1 3 ((Y.1 3) + 1), Y.2.1, Y.2.2)) := hD
    refine lv_iload_n hx hb dX6_takes_25 rfl (lv_at hl 0 rfl) ?_
    exact xzret hx hb hr hlk hP hD hS z_X6_isHere (congrArg (fun z => z.1) (show gX6_takes Y a1 = ((gX6_isHere Y a1 a1), (upd Y.1 3 ((Y.1 3) + 1), Y.2.1, Y.2.2)) from (Eq.trans (if_neg c_13) rfl))).symm (congrArg (fun z => mtxW ck ma z.2) (show gX6_takes Y a1 = ((gX6_isHere Y a1 a1), (upd Y.1 3 ((Y.1 3) + 1), Y.2.1, Y.2.2)) from (Eq.trans (if_neg c_13) rfl))).symm dX6_takes_26

def rmX6_readsNumber : Room := { frames := 2, cells := 0, slots := 0, locals := 47 }
set_option maxHeartbeats 4000000 in
set_option maxRecDepth 100000 in
theorem mX6_readsNumber (l : Launch) (D : va_G) (ck : Nat → ClassId) (ma : Nat → Nat) (Y : YS)  (ht : tI Y.1) : xMi l yX6_readsNumber wsX6_readsNumber rmX6_readsNumber D ck [.ref (ma 0)] (mtxW ck ma Y) (mtxW ck ma ((gX6_readsNumber Y).2)) ((gX6_readsNumber Y).1) 0 0 := by
  refine xMet (by decide) rfl (Nat.le_of_ble_eq_true rfl) ?_
  intro zp ze s zm zb zt zc hx hb hr hml hown hts hlk hnm hN hK hP hD ls hl
  have hown : s.vm.findClass RX6 = some zm.cls := hown
  have hl : lv_has ls 1 [(0, .ref (ma 0))] := hl
  have hS : va_S (va_A (mtxW ck ma Y) s.heap.size) s.heap s.heap [] := va_S.rf
  have hA : ∀ zq : Nat, s.heap.size ≤ zq → va_A (mtxW ck ma Y) s.heap.size zq := fun zq h => Or.inr h
  have hinX6 : ∀ w ∈ u_ws RX6 TX6 13, w ∈ wsX6_readsNumber := by decide +kernel
  refine lv_aload_n hx hb dX6_readsNumber_0 rfl (lv_at hl 0 rfl) ?_
  refine lv_bipush (v := 49) hx hb dX6_readsNumber_1 (by decide) ?_
  refine lv_bipush (v := 57) hx hb dX6_readsNumber_3 (by decide) ?_
  refine xreti (va_runV (As := [.int 49, .int 57]) (rest := []) ⟨hx, hb, hml, hown, hts⟩ (mX6_isHere l D ck ma Y 49 57 ht _) (cwV 2 hts gX6_readsNumber_X6_isHere rfl rfl rfl (by decide +kernel) ⟨Nat.le_of_ble_eq_true rfl, Nat.le_of_ble_eq_true rfl⟩) (xpreV hN hK hP hD pm_all 0 rfl rfl rfl) rfl rfl hl.1 rfl (lv_room (Nat.le_of_ble_eq_true rfl)) dX6_readsNumber_5 ⟨Nat.le_of_ble_eq_true rfl, Nat.le_of_ble_eq_true rfl⟩) hP hD hS hA pm_all pm_all' (fun H locs hP hD hS => ?_)
  refine lv_if_ne (tgt := 13) hx hb dX6_readsNumber_8 (by decide) (fun c_8 => ?_) (fun c_8 => ?_)
  · --t
    refine lv_aload_n hx hb dX6_readsNumber_13 rfl (lv_at hl 0 rfl) ?_
    refine lv_aload_n hx hb dX6_readsNumber_14 rfl (lv_at hl 0 rfl) ?_
    refine va_get (D := D) (ci := 6) (v := .ref (ma 6)) (C := RX6) (T := TX6) (N := 13) hx hb hts hinX6 hown hK hP 0 rfl rfl 7 (by decide) (hts (.fieldLink RX6 25 "JoinGrantsModel" "text" "[I") (List.mem_of_getElem? (i := 1) rfl)) (fun _ h9 => h9) rfl dX6_readsNumber_15 ?_
    refine lv_aload_n hx hb dX6_readsNumber_18 rfl (lv_at hl 0 rfl) ?_
    refine va_get (D := D) (ci := 6) (v := .int (Y.1 3)) (C := RX6) (T := TX6) (N := 13) hx hb hts hinX6 hown hK hP 0 rfl rfl 9 (by decide) (hts (.fieldLink RX6 158 "JoinGrantsModel" "spot" "I") (List.mem_of_getElem? (i := 2) rfl)) (fun _ h9 => h9) rfl dX6_readsNumber_19 ?_
    refine va_iald hx hb hK hP 1 0 rfl rfl (tI_here ht c_8) dX6_readsNumber_22 ?_
    refine lv_bipush (v := 48) hx hb dX6_readsNumber_23 (by decide) ?_
    refine lv_isub hx hb dX6_readsNumber_25 ?_
    refine va_put (D := D) (ci := 6) (v := .int ((Y.2.1 (Y.1 3).toNatClampNeg) - 48)) (ty := .int) (C := RX6) (T := TX6) (N := 13) hx hb hts hinX6 tyX6 tyX6_ok nmX6 hown hK hP hD hS 0 rfl rfl 10 (by decide) (hts (.fieldLink RX6 164 "JoinGrantsModel" "number" "I") (List.mem_of_getElem? (i := 3) rfl)) (fun _ h9 => h9) rfl (by decide +kernel) rfl rfl (Nat.le_of_ble_eq_true rfl) dX6_readsNumber_26 (fun H locs hP hD hS => ?_)
    have hP : va_P D vwCl (mtxW ck ma (upd Y.1 4 ((Y.2.1 (Y.1 3).toNatClampNeg) - 48), Y.2.1, Y.2.2)) H := hP
    have hD : va_D (va_A (mtxW ck ma Y) s.heap.size) (mtxW ck ma (upd Y.1 4 ((Y.2.1 (Y.1 3).toNatClampNeg) - 48), Y.2.1, Y.2.2)) := hD
    refine lv_aload_n hx hb dX6_readsNumber_29 rfl (lv_at hl 0 rfl) ?_
    refine lv_dup hx hb dX6_readsNumber_30 rfl ?_
    refine va_get (D := D) (ci := 6) (v := .int (Y.1 3)) (C := RX6) (T := TX6) (N := 13) hx hb hts hinX6 hown hK hP 0 rfl rfl 9 (by decide) (hts (.fieldLink RX6 158 "JoinGrantsModel" "spot" "I") (List.mem_of_getElem? (i := 2) rfl)) (fun _ h9 => h9) rfl dX6_readsNumber_31 ?_
    refine lv_iconst (v := 1) hx hb dX6_readsNumber_34 (by decide) ?_
    refine lv_iadd hx hb dX6_readsNumber_35 ?_
    refine va_put (D := D) (ci := 6) (v := .int ((Y.1 3) + 1)) (ty := .int) (C := RX6) (T := TX6) (N := 13) hx hb hts hinX6 tyX6 tyX6_ok nmX6 hown hK hP hD hS 0 rfl rfl 9 (by decide) (hts (.fieldLink RX6 158 "JoinGrantsModel" "spot" "I") (List.mem_of_getElem? (i := 2) rfl)) (fun _ h9 => h9) rfl (by decide +kernel) rfl rfl (Nat.le_of_ble_eq_true rfl) dX6_readsNumber_36 (fun H locs hP hD hS => ?_)
    have hP : va_P D vwCl (mtxW ck ma (upd (upd Y.1 4 ((Y.2.1 (Y.1 3).toNatClampNeg) - 48)) 3 ((Y.1 3) + 1), Y.2.1, Y.2.2)) H := hP
    have hD : va_D (va_A (mtxW ck ma Y) s.heap.size) (mtxW ck ma (upd (upd Y.1 4 ((Y.2.1 (Y.1 3).toNatClampNeg) - 48)) 3 ((Y.1 3) + 1), Y.2.1, Y.2.2)) := hD
    have loop39 : ∀ (fu : Nat) (Y1 : YS), (tI Y1.1) → (60 ≤ (Y1.1 3).toInt + fu) → gX6_readsNumber Y = gX6_readsNumber_L39 Y fu Y1 → ∀ (H : Heap) (locs : List Loc) (ls : Array Slot), va_P D vwCl (mtxW ck ma Y1) H → va_D (va_A (mtxW ck ma Y) s.heap.size) (mtxW ck ma Y1) → va_S (va_A (mtxW ck ma Y) s.heap.size) s.heap H locs → lv_has ls 1 [(0, .ref (ma 0))] → W zp l ze rmX6_readsNumber s zm ([.ref (ma 0)] : List Value).toArray zb zt zc H locs 0 0 (MQ zb (xQi D (mtxW ck ma Y) (mtxW ck ma ((gX6_readsNumber Y).2)) ((gX6_readsNumber Y).1) s.heap.size) ([.ref (ma 0)] : List Value).toArray s 0 0 (va_A (mtxW ck ma Y) s.heap.size)) (F0 zm 39 ls []) := by
      intro fu
      induction fu with
      | zero =>
        intro Y1 ht hfu hg H locs ls hP hD hS hl
        refine lv_aload_n hx hb dX6_readsNumber_39 rfl (lv_at hl 0 rfl) ?_
        refine lv_bipush (v := 48) hx hb dX6_readsNumber_40 (by decide) ?_
        refine lv_bipush (v := 57) hx hb dX6_readsNumber_42 (by decide) ?_
        refine xreti (va_runV (As := [.int 48, .int 57]) (rest := []) ⟨hx, hb, hml, hown, hts⟩ (mX6_isHere l D ck ma Y1 48 57 ht _) (cwV 2 hts gX6_readsNumber_X6_isHere rfl rfl rfl (by decide +kernel) ⟨Nat.le_of_ble_eq_true rfl, Nat.le_of_ble_eq_true rfl⟩) (xpreV hN hK hP hD pm_all 0 rfl rfl rfl) rfl rfl hl.1 rfl (lv_room (Nat.le_of_ble_eq_true rfl)) dX6_readsNumber_44 ⟨Nat.le_of_ble_eq_true rfl, Nat.le_of_ble_eq_true rfl⟩) hP hD hS hA pm_all pm_all' (fun H locs hP hD hS => ?_)
        refine lv_if_eq (tgt := 113) hx hb dX6_readsNumber_47 (by decide) (fun c_47 => ?_) (fun c_47 => ?_)
        · --t
          refine lv_iconst (v := 1) hx hb dX6_readsNumber_113 (by decide) ?_
          exact xzret hx hb hr hlk hP hD hS (Or.inr rfl) (congrArg (fun z => z.1) (hg.trans (show gX6_readsNumber_L39 Y 0 Y1 = (1, Y1) from rfl))).symm (congrArg (fun z => mtxW ck ma z.2) (hg.trans (show gX6_readsNumber_L39 Y 0 Y1 = (1, Y1) from rfl))).symm dX6_readsNumber_114
        · --f
          exact absurd (isHere_no ht (by omega)) c_47
      | succ fu ih39 =>
        intro Y1 ht hfu hg H locs ls hP hD hS hl
        refine lv_aload_n hx hb dX6_readsNumber_39 rfl (lv_at hl 0 rfl) ?_
        refine lv_bipush (v := 48) hx hb dX6_readsNumber_40 (by decide) ?_
        refine lv_bipush (v := 57) hx hb dX6_readsNumber_42 (by decide) ?_
        refine xreti (va_runV (As := [.int 48, .int 57]) (rest := []) ⟨hx, hb, hml, hown, hts⟩ (mX6_isHere l D ck ma Y1 48 57 ht _) (cwV 2 hts gX6_readsNumber_X6_isHere rfl rfl rfl (by decide +kernel) ⟨Nat.le_of_ble_eq_true rfl, Nat.le_of_ble_eq_true rfl⟩) (xpreV hN hK hP hD pm_all 0 rfl rfl rfl) rfl rfl hl.1 rfl (lv_room (Nat.le_of_ble_eq_true rfl)) dX6_readsNumber_44 ⟨Nat.le_of_ble_eq_true rfl, Nat.le_of_ble_eq_true rfl⟩) hP hD hS hA pm_all pm_all' (fun H locs hP hD hS => ?_)
        refine lv_if_eq (tgt := 113) hx hb dX6_readsNumber_47 (by decide) (fun c_47 => ?_) (fun c_47 => ?_)
        · --t
          refine lv_iconst (v := 1) hx hb dX6_readsNumber_113 (by decide) ?_
          exact xzret hx hb hr hlk hP hD hS (Or.inr rfl) (congrArg (fun z => z.1) (hg.trans (show gX6_readsNumber_L39 Y (fu + 1) Y1 = (1, Y1) from (Eq.trans (if_pos c_47) rfl)))).symm (congrArg (fun z => mtxW ck ma z.2) (hg.trans (show gX6_readsNumber_L39 Y (fu + 1) Y1 = (1, Y1) from (Eq.trans (if_pos c_47) rfl)))).symm dX6_readsNumber_114
        · --f
          refine lv_bipush (v := 10) hx hb dX6_readsNumber_50 (by decide) ?_
          refine lv_aload_n hx hb dX6_readsNumber_52 rfl (lv_at hl 0 rfl) ?_
          refine va_get (D := D) (ci := 6) (v := .int (Y1.1 4)) (C := RX6) (T := TX6) (N := 13) hx hb hts hinX6 hown hK hP 0 rfl rfl 10 (by decide) (hts (.fieldLink RX6 164 "JoinGrantsModel" "number" "I") (List.mem_of_getElem? (i := 3) rfl)) (fun _ h9 => h9) rfl dX6_readsNumber_53 ?_
          refine lv_imul hx hb dX6_readsNumber_56 ?_
          refine lv_aload_n hx hb dX6_readsNumber_57 rfl (lv_at hl 0 rfl) ?_
          refine va_get (D := D) (ci := 6) (v := .ref (ma 6)) (C := RX6) (T := TX6) (N := 13) hx hb hts hinX6 hown hK hP 0 rfl rfl 7 (by decide) (hts (.fieldLink RX6 25 "JoinGrantsModel" "text" "[I") (List.mem_of_getElem? (i := 1) rfl)) (fun _ h9 => h9) rfl dX6_readsNumber_58 ?_
          refine lv_aload_n hx hb dX6_readsNumber_61 rfl (lv_at hl 0 rfl) ?_
          refine va_get (D := D) (ci := 6) (v := .int (Y1.1 3)) (C := RX6) (T := TX6) (N := 13) hx hb hts hinX6 hown hK hP 0 rfl rfl 9 (by decide) (hts (.fieldLink RX6 158 "JoinGrantsModel" "spot" "I") (List.mem_of_getElem? (i := 2) rfl)) (fun _ h9 => h9) rfl dX6_readsNumber_62 ?_
          refine va_iald hx hb hK hP 1 0 rfl rfl (tI_here ht c_47) dX6_readsNumber_65 ?_
          refine lv_iadd hx hb dX6_readsNumber_66 ?_
          refine lv_bipush (v := 48) hx hb dX6_readsNumber_67 (by decide) ?_
          refine lv_isub hx hb dX6_readsNumber_69 ?_
          refine lv_sipush (v := 200) hx hb dX6_readsNumber_70 (by decide) ?_
          refine lv_icmp_gt (tgt := 113) hx hb dX6_readsNumber_73 (by decide) (fun c_73 => ?_) (fun c_73 => ?_)
          · --t
            refine lv_iconst (v := 1) hx hb dX6_readsNumber_113 (by decide) ?_
            exact xzret hx hb hr hlk hP hD hS (Or.inr rfl) (congrArg (fun z => z.1) (hg.trans (show gX6_readsNumber_L39 Y (fu + 1) Y1 = (1, Y1) from (Eq.trans (if_neg c_47) (Eq.trans (if_pos c_73) rfl))))).symm (congrArg (fun z => mtxW ck ma z.2) (hg.trans (show gX6_readsNumber_L39 Y (fu + 1) Y1 = (1, Y1) from (Eq.trans (if_neg c_47) (Eq.trans (if_pos c_73) rfl))))).symm dX6_readsNumber_114
          · --f
            refine lv_aload_n hx hb dX6_readsNumber_76 rfl (lv_at hl 0 rfl) ?_
            refine lv_bipush (v := 10) hx hb dX6_readsNumber_77 (by decide) ?_
            refine lv_aload_n hx hb dX6_readsNumber_79 rfl (lv_at hl 0 rfl) ?_
            refine va_get (D := D) (ci := 6) (v := .int (Y1.1 4)) (C := RX6) (T := TX6) (N := 13) hx hb hts hinX6 hown hK hP 0 rfl rfl 10 (by decide) (hts (.fieldLink RX6 164 "JoinGrantsModel" "number" "I") (List.mem_of_getElem? (i := 3) rfl)) (fun _ h9 => h9) rfl dX6_readsNumber_80 ?_
            refine lv_imul hx hb dX6_readsNumber_83 ?_
            refine lv_aload_n hx hb dX6_readsNumber_84 rfl (lv_at hl 0 rfl) ?_
            refine va_get (D := D) (ci := 6) (v := .ref (ma 6)) (C := RX6) (T := TX6) (N := 13) hx hb hts hinX6 hown hK hP 0 rfl rfl 7 (by decide) (hts (.fieldLink RX6 25 "JoinGrantsModel" "text" "[I") (List.mem_of_getElem? (i := 1) rfl)) (fun _ h9 => h9) rfl dX6_readsNumber_85 ?_
            refine lv_aload_n hx hb dX6_readsNumber_88 rfl (lv_at hl 0 rfl) ?_
            refine va_get (D := D) (ci := 6) (v := .int (Y1.1 3)) (C := RX6) (T := TX6) (N := 13) hx hb hts hinX6 hown hK hP 0 rfl rfl 9 (by decide) (hts (.fieldLink RX6 158 "JoinGrantsModel" "spot" "I") (List.mem_of_getElem? (i := 2) rfl)) (fun _ h9 => h9) rfl dX6_readsNumber_89 ?_
            refine va_iald hx hb hK hP 1 0 rfl rfl (tI_here ht c_47) dX6_readsNumber_92 ?_
            refine lv_iadd hx hb dX6_readsNumber_93 ?_
            refine lv_bipush (v := 48) hx hb dX6_readsNumber_94 (by decide) ?_
            refine lv_isub hx hb dX6_readsNumber_96 ?_
            refine va_put (D := D) (ci := 6) (v := .int (((10 * (Y1.1 4)) + (Y1.2.1 (Y1.1 3).toNatClampNeg)) - 48)) (ty := .int) (C := RX6) (T := TX6) (N := 13) hx hb hts hinX6 tyX6 tyX6_ok nmX6 hown hK hP hD hS 0 rfl rfl 10 (by decide) (hts (.fieldLink RX6 164 "JoinGrantsModel" "number" "I") (List.mem_of_getElem? (i := 3) rfl)) (fun _ h9 => h9) rfl (by decide +kernel) rfl rfl (Nat.le_of_ble_eq_true rfl) dX6_readsNumber_97 (fun H locs hP hD hS => ?_)
            have hP : va_P D vwCl (mtxW ck ma (upd Y1.1 4 (((10 * (Y1.1 4)) + (Y1.2.1 (Y1.1 3).toNatClampNeg)) - 48), Y1.2.1, Y1.2.2)) H := hP
            have hD : va_D (va_A (mtxW ck ma Y) s.heap.size) (mtxW ck ma (upd Y1.1 4 (((10 * (Y1.1 4)) + (Y1.2.1 (Y1.1 3).toNatClampNeg)) - 48), Y1.2.1, Y1.2.2)) := hD
            refine lv_aload_n hx hb dX6_readsNumber_100 rfl (lv_at hl 0 rfl) ?_
            refine lv_dup hx hb dX6_readsNumber_101 rfl ?_
            refine va_get (D := D) (ci := 6) (v := .int (Y1.1 3)) (C := RX6) (T := TX6) (N := 13) hx hb hts hinX6 hown hK hP 0 rfl rfl 9 (by decide) (hts (.fieldLink RX6 158 "JoinGrantsModel" "spot" "I") (List.mem_of_getElem? (i := 2) rfl)) (fun _ h9 => h9) rfl dX6_readsNumber_102 ?_
            refine lv_iconst (v := 1) hx hb dX6_readsNumber_105 (by decide) ?_
            refine lv_iadd hx hb dX6_readsNumber_106 ?_
            refine va_put (D := D) (ci := 6) (v := .int ((Y1.1 3) + 1)) (ty := .int) (C := RX6) (T := TX6) (N := 13) hx hb hts hinX6 tyX6 tyX6_ok nmX6 hown hK hP hD hS 0 rfl rfl 9 (by decide) (hts (.fieldLink RX6 158 "JoinGrantsModel" "spot" "I") (List.mem_of_getElem? (i := 2) rfl)) (fun _ h9 => h9) rfl (by decide +kernel) rfl rfl (Nat.le_of_ble_eq_true rfl) dX6_readsNumber_107 (fun H locs hP hD hS => ?_)
            have hP : va_P D vwCl (mtxW ck ma (upd (upd Y1.1 4 (((10 * (Y1.1 4)) + (Y1.2.1 (Y1.1 3).toNatClampNeg)) - 48)) 3 ((Y1.1 3) + 1), Y1.2.1, Y1.2.2)) H := hP
            have hD : va_D (va_A (mtxW ck ma Y) s.heap.size) (mtxW ck ma (upd (upd Y1.1 4 (((10 * (Y1.1 4)) + (Y1.2.1 (Y1.1 3).toNatClampNeg)) - 48)) 3 ((Y1.1 3) + 1), Y1.2.1, Y1.2.2)) := hD
            refine lv_goto (tgt := 39) hx hb dX6_readsNumber_110 (by decide) ?_
            exact ih39 (upd (upd Y1.1 4 (((10 * (Y1.1 4)) + (Y1.2.1 (Y1.1 3).toNatClampNeg)) - 48)) 3 ((Y1.1 3) + 1), Y1.2.1, Y1.2.2) (tI_adv ht c_47).1 (tI_fu ht c_47 hfu) (hg.trans (show gX6_readsNumber_L39 Y (fu + 1) Y1 = (gX6_readsNumber_L39 Y fu (upd (upd Y1.1 4 (((10 * (Y1.1 4)) + (Y1.2.1 (Y1.1 3).toNatClampNeg)) - 48)) 3 ((Y1.1 3) + 1), Y1.2.1, Y1.2.2)) from (Eq.trans (if_neg c_47) (Eq.trans (if_neg c_73) rfl)))) _ _ _ hP hD hS (lv_sub hl [0] rfl)
    exact loop39 60 (upd (upd Y.1 4 ((Y.2.1 (Y.1 3).toNatClampNeg) - 48)) 3 ((Y.1 3) + 1), Y.2.1, Y.2.2) (tI_adv ht c_8).1 (tI_fu0 ht c_8) (show gX6_readsNumber Y = (gX6_readsNumber_L39 Y 60 (upd (upd Y.1 4 ((Y.2.1 (Y.1 3).toNatClampNeg) - 48)) 3 ((Y.1 3) + 1), Y.2.1, Y.2.2)) from (Eq.trans (if_neg c_8) rfl)) _ _ _ hP hD hS (lv_sub hl [0] rfl)
  · --f
    refine lv_iconst (v := 0) hx hb dX6_readsNumber_11 (by decide) ?_
    exact xzret hx hb hr hlk hP hD hS (Or.inl rfl) (congrArg (fun z => z.1) (show gX6_readsNumber Y = (0, Y) from (Eq.trans (if_pos c_8) rfl))).symm (congrArg (fun z => mtxW ck ma z.2) (show gX6_readsNumber Y = (0, Y) from (Eq.trans (if_pos c_8) rfl))).symm dX6_readsNumber_12

def rmX6_readsJoin : Room := { frames := 3, cells := 0, slots := 0, locals := 69 }
set_option maxHeartbeats 4000000 in
set_option maxRecDepth 100000 in
theorem mX6_readsJoin (l : Launch) (D : va_G) (ck : Nat → ClassId) (ma : Nat → Nat) (Y : YS)  (ht : tI Y.1) (hrr : hrP Y.1) : xMi l yX6_readsJoin wsX6_readsJoin rmX6_readsJoin D ck [.ref (ma 0)] (mtxW ck ma Y) (mtxW ck ma ((gX6_readsJoin Y).2)) ((gX6_readsJoin Y).1) 0 0 := by
  refine xMet (by decide) rfl (Nat.le_of_ble_eq_true rfl) ?_
  intro zp ze s zm zb zt zc hx hb hr hml hown hts hlk hnm hN hK hP hD ls hl
  have hown : s.vm.findClass RX6 = some zm.cls := hown
  have hl : lv_has ls 3 [(0, .ref (ma 0))] := hl
  have hS : va_S (va_A (mtxW ck ma Y) s.heap.size) s.heap s.heap [] := va_S.rf
  have hA : ∀ zq : Nat, s.heap.size ≤ zq → va_A (mtxW ck ma Y) s.heap.size zq := fun zq h => Or.inr h
  have hinX6 : ∀ w ∈ u_ws RX6 TX6 13, w ∈ wsX6_readsJoin := by decide +kernel
  refine lv_aload_n hx hb dX6_readsJoin_0 rfl (lv_at hl 0 rfl) ?_
  refine lv_bipush (v := 108) hx hb dX6_readsJoin_1 (by decide) ?_
  refine xreti (va_runV (As := [.int 108]) (rest := []) ⟨hx, hb, hml, hown, hts⟩ (mX6_takes l D ck ma Y 108 ht _) (cwV 1 hts gX6_readsJoin_X6_takes rfl rfl rfl (by decide +kernel) ⟨Nat.le_of_ble_eq_true rfl, Nat.le_of_ble_eq_true rfl⟩) (xpreV hN hK hP hD pm_all 0 rfl rfl rfl) rfl rfl hl.1 rfl (lv_room (Nat.le_of_ble_eq_true rfl)) dX6_readsJoin_3 ⟨Nat.le_of_ble_eq_true rfl, Nat.le_of_ble_eq_true rfl⟩) hP hD hS hA pm_all pm_all' (fun H locs hP hD hS => ?_)
  have hP : va_P D vwCl (mtxW ck ma ((gX6_takes Y 108).2)) H := hP
  have hD : va_D (va_A (mtxW ck ma Y) s.heap.size) (mtxW ck ma ((gX6_takes Y 108).2)) := hD
  generalize hr_3 : gX6_takes Y 108 = r_3 at hP hD ⊢
  have ht_3 : tI r_3.2.1 := by rw [← hr_3]; exact tI_takes ht
  have hh_3 : hrP r_3.2.1 := by rw [← hr_3]; exact hr_takes hrr
  refine lv_if_eq (tgt := 13) hx hb dX6_readsJoin_6 (by decide) (fun c_6 => ?_) (fun c_6 => ?_)
  · --t
    refine lv_aload_n hx hb dX6_readsJoin_13 rfl (lv_at hl 0 rfl) ?_
    refine lv_bipush (v := 98) hx hb dX6_readsJoin_14 (by decide) ?_
    refine xreti (va_runV (As := [.int 98]) (rest := []) ⟨hx, hb, hml, hown, hts⟩ (mX6_takes l D ck ma r_3.2 98 ht_3 _) (cwV 1 hts gX6_readsJoin_X6_takes rfl rfl rfl (by decide +kernel) ⟨Nat.le_of_ble_eq_true rfl, Nat.le_of_ble_eq_true rfl⟩) (xpreV hN hK hP hD pm_all 0 rfl rfl rfl) rfl rfl hl.1 rfl (lv_room (Nat.le_of_ble_eq_true rfl)) dX6_readsJoin_16 ⟨Nat.le_of_ble_eq_true rfl, Nat.le_of_ble_eq_true rfl⟩) hP hD hS hA pm_all pm_all' (fun H locs hP hD hS => ?_)
    have hP : va_P D vwCl (mtxW ck ma ((gX6_takes r_3.2 98).2)) H := hP
    have hD : va_D (va_A (mtxW ck ma Y) s.heap.size) (mtxW ck ma ((gX6_takes r_3.2 98).2)) := hD
    generalize hr_16 : gX6_takes r_3.2 98 = r_16 at hP hD ⊢
    have ht_16 : tI r_16.2.1 := by rw [← hr_16]; exact tI_takes ht_3
    have hh_16 : hrP r_16.2.1 := by rw [← hr_16]; exact hr_takes hh_3
    refine lv_if_eq (tgt := 26) hx hb dX6_readsJoin_19 (by decide) (fun c_19 => ?_) (fun c_19 => ?_)
    · --t
      refine lv_aload_n hx hb dX6_readsJoin_26 rfl (lv_at hl 0 rfl) ?_
      refine lv_bipush (v := 109) hx hb dX6_readsJoin_27 (by decide) ?_
      refine xreti (va_runV (As := [.int 109]) (rest := []) ⟨hx, hb, hml, hown, hts⟩ (mX6_takes l D ck ma r_16.2 109 ht_16 _) (cwV 1 hts gX6_readsJoin_X6_takes rfl rfl rfl (by decide +kernel) ⟨Nat.le_of_ble_eq_true rfl, Nat.le_of_ble_eq_true rfl⟩) (xpreV hN hK hP hD pm_all 0 rfl rfl rfl) rfl rfl hl.1 rfl (lv_room (Nat.le_of_ble_eq_true rfl)) dX6_readsJoin_29 ⟨Nat.le_of_ble_eq_true rfl, Nat.le_of_ble_eq_true rfl⟩) hP hD hS hA pm_all pm_all' (fun H locs hP hD hS => ?_)
      have hP : va_P D vwCl (mtxW ck ma ((gX6_takes r_16.2 109).2)) H := hP
      have hD : va_D (va_A (mtxW ck ma Y) s.heap.size) (mtxW ck ma ((gX6_takes r_16.2 109).2)) := hD
      generalize hr_29 : gX6_takes r_16.2 109 = r_29 at hP hD ⊢
      have ht_29 : tI r_29.2.1 := by rw [← hr_29]; exact tI_takes ht_16
      have hh_29 : hrP r_29.2.1 := by rw [← hr_29]; exact hr_takes hh_16
      refine lv_if_eq (tgt := 39) hx hb dX6_readsJoin_32 (by decide) (fun c_32 => ?_) (fun c_32 => ?_)
      · --t
        refine lv_bipush (v := (-5)) hx hb dX6_readsJoin_39 (by decide) ?_
        refine lv_istore_n (lv' := [(1, .int (-5)), (0, .ref (ma 0))]) hx hb dX6_readsJoin_41 rfl hl (by decide) rfl (fun ls hl => ?_)
        refine lv_iload_n hx hb dX6_readsJoin_42 rfl (lv_at hl 0 rfl) ?_
        refine lv_bipush (v := (-5)) hx hb dX6_readsJoin_43 (by decide) ?_
        refine lv_icmp_eq (tgt := 55) hx hb dX6_readsJoin_45 (by decide) (fun c_45 => ?_) (fun c_45 => ?_)
        · --t
          refine lv_iconst (v := 0) hx hb dX6_readsJoin_55 (by decide) ?_
          subst hr_29 hr_16 hr_3
          have hg9 : gX6_readsJoin Y = (0, (gX6_takes (gX6_takes (gX6_takes Y 108).2 98).2 109).2) := by rw [gX6_readsJoin, if_pos c_6, if_pos c_19, if_pos c_32]
          have hv9 : 0 = (gX6_readsJoin Y).1 := by rw [hg9]
          have hw9 : mtxW ck ma ((gX6_takes (gX6_takes (gX6_takes Y 108).2 98).2 109).2) = mtxW ck ma ((gX6_readsJoin Y).2) := by rw [hg9]
          exact xzret hx hb hr hlk hP hD hS (Or.inl rfl) hv9 hw9 dX6_readsJoin_56
        · --f
          exact absurd (by decide) c_45
      · --f
        refine lv_iconst (v := 2) hx hb dX6_readsJoin_35 (by decide) ?_
        refine lv_goto (tgt := 41) hx hb dX6_readsJoin_36 (by decide) ?_
        refine lv_istore_n (lv' := [(1, .int 2), (0, .ref (ma 0))]) hx hb dX6_readsJoin_41 rfl hl (by decide) rfl (fun ls hl => ?_)
        refine lv_iload_n hx hb dX6_readsJoin_42 rfl (lv_at hl 0 rfl) ?_
        refine lv_bipush (v := (-5)) hx hb dX6_readsJoin_43 (by decide) ?_
        refine lv_icmp_eq (tgt := 55) hx hb dX6_readsJoin_45 (by decide) (fun c_45 => ?_) (fun c_45 => ?_)
        · --t
          exact absurd c_45 (by decide)
        · --f
          refine lv_aload_n hx hb dX6_readsJoin_48 rfl (lv_at hl 1 rfl) ?_
          refine xreti (va_runV (As := []) (rest := []) ⟨hx, hb, hml, hown, hts⟩ (mX6_readsNumber l D ck ma r_29.2  ht_29 _) (cwV 0 hts gX6_readsJoin_X6_readsNumber rfl rfl rfl (by decide +kernel) ⟨Nat.le_of_ble_eq_true rfl, Nat.le_of_ble_eq_true rfl⟩) (xpreV hN hK hP hD pm_all 0 rfl rfl rfl) rfl rfl hl.1 rfl (lv_room (Nat.le_of_ble_eq_true rfl)) dX6_readsJoin_49 ⟨Nat.le_of_ble_eq_true rfl, Nat.le_of_ble_eq_true rfl⟩) hP hD hS hA pm_all pm_all' (fun H locs hP hD hS => ?_)
          have hP : va_P D vwCl (mtxW ck ma ((gX6_readsNumber r_29.2 ).2)) H := hP
          have hD : va_D (va_A (mtxW ck ma Y) s.heap.size) (mtxW ck ma ((gX6_readsNumber r_29.2 ).2)) := hD
          generalize hr_49 : gX6_readsNumber r_29.2  = r_49 at hP hD ⊢
          have ht_49 : tI r_49.2.1 := by rw [← hr_49]; exact tI_readsNumber ht_29
          have hh_49 : hrP r_49.2.1 := by rw [← hr_49]; exact hr_readsNumber ht_29 hh_29
          refine lv_if_ne (tgt := 57) hx hb dX6_readsJoin_52 (by decide) (fun c_52 => ?_) (fun c_52 => ?_)
          · --t
            refine lv_aload_n hx hb dX6_readsJoin_57 rfl (lv_at hl 1 rfl) ?_
            refine va_get (D := D) (ci := 6) (v := .int (r_49.2.1 4)) (C := RX6) (T := TX6) (N := 13) hx hb hts hinX6 hown hK hP 0 rfl rfl 10 (by decide) (hts (.fieldLink RX6 164 "JoinGrantsModel" "number" "I") (List.mem_of_getElem? (i := 1) rfl)) (fun _ h9 => h9) rfl dX6_readsJoin_58 ?_
            refine lv_istore_n (lv' := [(2, .int (r_49.2.1 4)), (1, .int 2), (0, .ref (ma 0))]) hx hb dX6_readsJoin_61 rfl hl (by decide) rfl (fun ls hl => ?_)
            refine lv_aload_n hx hb dX6_readsJoin_62 rfl (lv_at hl 2 rfl) ?_
            refine lv_bipush (v := 120) hx hb dX6_readsJoin_63 (by decide) ?_
            refine xreti (va_runV (As := [.int 120]) (rest := []) ⟨hx, hb, hml, hown, hts⟩ (mX6_takes l D ck ma r_49.2 120 ht_49 _) (cwV 1 hts gX6_readsJoin_X6_takes rfl rfl rfl (by decide +kernel) ⟨Nat.le_of_ble_eq_true rfl, Nat.le_of_ble_eq_true rfl⟩) (xpreV hN hK hP hD pm_all 0 rfl rfl rfl) rfl rfl hl.1 rfl (lv_room (Nat.le_of_ble_eq_true rfl)) dX6_readsJoin_65 ⟨Nat.le_of_ble_eq_true rfl, Nat.le_of_ble_eq_true rfl⟩) hP hD hS hA pm_all pm_all' (fun H locs hP hD hS => ?_)
            have hP : va_P D vwCl (mtxW ck ma ((gX6_takes r_49.2 120).2)) H := hP
            have hD : va_D (va_A (mtxW ck ma Y) s.heap.size) (mtxW ck ma ((gX6_takes r_49.2 120).2)) := hD
            generalize hr_65 : gX6_takes r_49.2 120 = r_65 at hP hD ⊢
            have ht_65 : tI r_65.2.1 := by rw [← hr_65]; exact tI_takes ht_49
            have hh_65 : hrP r_65.2.1 := by rw [← hr_65]; exact hr_takes hh_49
            refine lv_if_eq (tgt := 78) hx hb dX6_readsJoin_68 (by decide) (fun c_68 => ?_) (fun c_68 => ?_)
            · --t
              refine lv_iconst (v := 0) hx hb dX6_readsJoin_78 (by decide) ?_
              subst hr_65 hr_49 hr_29 hr_16 hr_3
              have hg9 : gX6_readsJoin Y = (0, (gX6_takes (gX6_readsNumber (gX6_takes (gX6_takes (gX6_takes Y 108).2 98).2 109).2).2 120).2) := by rw [gX6_readsJoin, if_pos c_6, if_pos c_19, if_neg c_32, if_neg c_52, if_pos c_68]
              have hv9 : 0 = (gX6_readsJoin Y).1 := by rw [hg9]
              have hw9 : mtxW ck ma ((gX6_takes (gX6_readsNumber (gX6_takes (gX6_takes (gX6_takes Y 108).2 98).2 109).2).2 120).2) = mtxW ck ma ((gX6_readsJoin Y).2) := by rw [hg9]
              exact xzret hx hb hr hlk hP hD hS (Or.inl rfl) hv9 hw9 dX6_readsJoin_79
            · --f
              refine lv_aload_n hx hb dX6_readsJoin_71 rfl (lv_at hl 2 rfl) ?_
              refine xreti (va_runV (As := []) (rest := []) ⟨hx, hb, hml, hown, hts⟩ (mX6_readsNumber l D ck ma r_65.2  ht_65 _) (cwV 0 hts gX6_readsJoin_X6_readsNumber rfl rfl rfl (by decide +kernel) ⟨Nat.le_of_ble_eq_true rfl, Nat.le_of_ble_eq_true rfl⟩) (xpreV hN hK hP hD pm_all 0 rfl rfl rfl) rfl rfl hl.1 rfl (lv_room (Nat.le_of_ble_eq_true rfl)) dX6_readsJoin_72 ⟨Nat.le_of_ble_eq_true rfl, Nat.le_of_ble_eq_true rfl⟩) hP hD hS hA pm_all pm_all' (fun H locs hP hD hS => ?_)
              have hP : va_P D vwCl (mtxW ck ma ((gX6_readsNumber r_65.2 ).2)) H := hP
              have hD : va_D (va_A (mtxW ck ma Y) s.heap.size) (mtxW ck ma ((gX6_readsNumber r_65.2 ).2)) := hD
              generalize hr_72 : gX6_readsNumber r_65.2  = r_72 at hP hD ⊢
              have ht_72 : tI r_72.2.1 := by rw [← hr_72]; exact tI_readsNumber ht_65
              have hh_72 : hrP r_72.2.1 := by rw [← hr_72]; exact hr_readsNumber ht_65 hh_65
              refine lv_if_ne (tgt := 80) hx hb dX6_readsJoin_75 (by decide) (fun c_75 => ?_) (fun c_75 => ?_)
              · --t
                refine lv_aload_n hx hb dX6_readsJoin_80 rfl (lv_at hl 2 rfl) ?_
                refine va_get (D := D) (ci := 6) (v := .ref (ma 7)) (C := RX6) (T := TX6) (N := 13) hx hb hts hinX6 hown hK hP 0 rfl rfl 11 (by decide) (hts (.fieldLink RX6 28 "JoinGrantsModel" "read" "[I") (List.mem_of_getElem? (i := 2) rfl)) (fun _ h9 => h9) rfl dX6_readsJoin_81 ?_
                refine lv_iconst (v := 3) hx hb dX6_readsJoin_84 (by decide) ?_
                refine lv_aload_n hx hb dX6_readsJoin_85 rfl (lv_at hl 2 rfl) ?_
                refine va_get (D := D) (ci := 6) (v := .int (r_72.2.1 5)) (C := RX6) (T := TX6) (N := 13) hx hb hts hinX6 hown hK hP 0 rfl rfl 12 (by decide) (hts (.fieldLink RX6 174 "JoinGrantsModel" "readMany" "I") (List.mem_of_getElem? (i := 3) rfl)) (fun _ h9 => h9) rfl dX6_readsJoin_86 ?_
                refine lv_imul hx hb dX6_readsJoin_89 ?_
                refine lv_iload_n hx hb dX6_readsJoin_90 rfl (lv_at hl 1 rfl) ?_
                refine xiast (j := (3 * (r_72.2.1 5).toNatClampNeg)) (x_3c hh_72) hx hb hK hP hD hS 2 0 rfl rfl (x_3i hh_72) dX6_readsJoin_91 (fun H locs hP hD hS => ?_)
                have hP : va_P D vwCl (mtxW ck ma (r_72.2.1, r_72.2.2.1, upd r_72.2.2.2 (3 * (r_72.2.1 5).toNatClampNeg) 2)) H := hP
                have hD : va_D (va_A (mtxW ck ma Y) s.heap.size) (mtxW ck ma (r_72.2.1, r_72.2.2.1, upd r_72.2.2.2 (3 * (r_72.2.1 5).toNatClampNeg) 2)) := hD
                refine lv_aload_n hx hb dX6_readsJoin_92 rfl (lv_at hl 2 rfl) ?_
                refine va_get (D := D) (ci := 6) (v := .ref (ma 7)) (C := RX6) (T := TX6) (N := 13) hx hb hts hinX6 hown hK hP 0 rfl rfl 11 (by decide) (hts (.fieldLink RX6 28 "JoinGrantsModel" "read" "[I") (List.mem_of_getElem? (i := 2) rfl)) (fun _ h9 => h9) rfl dX6_readsJoin_93 ?_
                refine lv_iconst (v := 3) hx hb dX6_readsJoin_96 (by decide) ?_
                refine lv_aload_n hx hb dX6_readsJoin_97 rfl (lv_at hl 2 rfl) ?_
                refine va_get (D := D) (ci := 6) (v := .int (r_72.2.1 5)) (C := RX6) (T := TX6) (N := 13) hx hb hts hinX6 hown hK hP 0 rfl rfl 12 (by decide) (hts (.fieldLink RX6 174 "JoinGrantsModel" "readMany" "I") (List.mem_of_getElem? (i := 3) rfl)) (fun _ h9 => h9) rfl dX6_readsJoin_98 ?_
                refine lv_imul hx hb dX6_readsJoin_101 ?_
                refine lv_iconst (v := 1) hx hb dX6_readsJoin_102 (by decide) ?_
                refine lv_iadd hx hb dX6_readsJoin_103 ?_
                refine lv_iload_n hx hb dX6_readsJoin_104 rfl (lv_at hl 0 rfl) ?_
                refine xiast (j := (3 * (r_72.2.1 5).toNatClampNeg + 1)) (x_3c1 hh_72) hx hb hK hP hD hS 2 0 rfl rfl (x_3i1 hh_72) dX6_readsJoin_105 (fun H locs hP hD hS => ?_)
                have hP : va_P D vwCl (mtxW ck ma (r_72.2.1, r_72.2.2.1, upd (upd r_72.2.2.2 (3 * (r_72.2.1 5).toNatClampNeg) 2) (3 * (r_72.2.1 5).toNatClampNeg + 1) (r_49.2.1 4))) H := hP
                have hD : va_D (va_A (mtxW ck ma Y) s.heap.size) (mtxW ck ma (r_72.2.1, r_72.2.2.1, upd (upd r_72.2.2.2 (3 * (r_72.2.1 5).toNatClampNeg) 2) (3 * (r_72.2.1 5).toNatClampNeg + 1) (r_49.2.1 4))) := hD
                refine lv_aload_n hx hb dX6_readsJoin_106 rfl (lv_at hl 2 rfl) ?_
                refine va_get (D := D) (ci := 6) (v := .ref (ma 7)) (C := RX6) (T := TX6) (N := 13) hx hb hts hinX6 hown hK hP 0 rfl rfl 11 (by decide) (hts (.fieldLink RX6 28 "JoinGrantsModel" "read" "[I") (List.mem_of_getElem? (i := 2) rfl)) (fun _ h9 => h9) rfl dX6_readsJoin_107 ?_
                refine lv_iconst (v := 3) hx hb dX6_readsJoin_110 (by decide) ?_
                refine lv_aload_n hx hb dX6_readsJoin_111 rfl (lv_at hl 2 rfl) ?_
                refine va_get (D := D) (ci := 6) (v := .int (r_72.2.1 5)) (C := RX6) (T := TX6) (N := 13) hx hb hts hinX6 hown hK hP 0 rfl rfl 12 (by decide) (hts (.fieldLink RX6 174 "JoinGrantsModel" "readMany" "I") (List.mem_of_getElem? (i := 3) rfl)) (fun _ h9 => h9) rfl dX6_readsJoin_112 ?_
                refine lv_imul hx hb dX6_readsJoin_115 ?_
                refine lv_iconst (v := 2) hx hb dX6_readsJoin_116 (by decide) ?_
                refine lv_iadd hx hb dX6_readsJoin_117 ?_
                refine lv_aload_n hx hb dX6_readsJoin_118 rfl (lv_at hl 2 rfl) ?_
                refine va_get (D := D) (ci := 6) (v := .int (r_72.2.1 4)) (C := RX6) (T := TX6) (N := 13) hx hb hts hinX6 hown hK hP 0 rfl rfl 10 (by decide) (hts (.fieldLink RX6 164 "JoinGrantsModel" "number" "I") (List.mem_of_getElem? (i := 1) rfl)) (fun _ h9 => h9) rfl dX6_readsJoin_119 ?_
                refine xiast (j := (3 * (r_72.2.1 5).toNatClampNeg + 2)) (x_3c2 hh_72) hx hb hK hP hD hS 2 0 rfl rfl (x_3i2 hh_72) dX6_readsJoin_122 (fun H locs hP hD hS => ?_)
                have hP : va_P D vwCl (mtxW ck ma (r_72.2.1, r_72.2.2.1, upd (upd (upd r_72.2.2.2 (3 * (r_72.2.1 5).toNatClampNeg) 2) (3 * (r_72.2.1 5).toNatClampNeg + 1) (r_49.2.1 4)) (3 * (r_72.2.1 5).toNatClampNeg + 2) (r_72.2.1 4))) H := hP
                have hD : va_D (va_A (mtxW ck ma Y) s.heap.size) (mtxW ck ma (r_72.2.1, r_72.2.2.1, upd (upd (upd r_72.2.2.2 (3 * (r_72.2.1 5).toNatClampNeg) 2) (3 * (r_72.2.1 5).toNatClampNeg + 1) (r_49.2.1 4)) (3 * (r_72.2.1 5).toNatClampNeg + 2) (r_72.2.1 4))) := hD
                refine lv_aload_n hx hb dX6_readsJoin_123 rfl (lv_at hl 2 rfl) ?_
                refine lv_dup hx hb dX6_readsJoin_124 rfl ?_
                refine va_get (D := D) (ci := 6) (v := .int (r_72.2.1 5)) (C := RX6) (T := TX6) (N := 13) hx hb hts hinX6 hown hK hP 0 rfl rfl 12 (by decide) (hts (.fieldLink RX6 174 "JoinGrantsModel" "readMany" "I") (List.mem_of_getElem? (i := 3) rfl)) (fun _ h9 => h9) rfl dX6_readsJoin_125 ?_
                refine lv_iconst (v := 1) hx hb dX6_readsJoin_128 (by decide) ?_
                refine lv_iadd hx hb dX6_readsJoin_129 ?_
                refine va_put (D := D) (ci := 6) (v := .int ((r_72.2.1 5) + 1)) (ty := .int) (C := RX6) (T := TX6) (N := 13) hx hb hts hinX6 tyX6 tyX6_ok nmX6 hown hK hP hD hS 0 rfl rfl 12 (by decide) (hts (.fieldLink RX6 174 "JoinGrantsModel" "readMany" "I") (List.mem_of_getElem? (i := 3) rfl)) (fun _ h9 => h9) rfl (by decide +kernel) rfl rfl (Nat.le_of_ble_eq_true rfl) dX6_readsJoin_130 (fun H locs hP hD hS => ?_)
                have hP : va_P D vwCl (mtxW ck ma (upd r_72.2.1 5 ((r_72.2.1 5) + 1), r_72.2.2.1, upd (upd (upd r_72.2.2.2 (3 * (r_72.2.1 5).toNatClampNeg) 2) (3 * (r_72.2.1 5).toNatClampNeg + 1) (r_49.2.1 4)) (3 * (r_72.2.1 5).toNatClampNeg + 2) (r_72.2.1 4))) H := hP
                have hD : va_D (va_A (mtxW ck ma Y) s.heap.size) (mtxW ck ma (upd r_72.2.1 5 ((r_72.2.1 5) + 1), r_72.2.2.1, upd (upd (upd r_72.2.2.2 (3 * (r_72.2.1 5).toNatClampNeg) 2) (3 * (r_72.2.1 5).toNatClampNeg + 1) (r_49.2.1 4)) (3 * (r_72.2.1 5).toNatClampNeg + 2) (r_72.2.1 4))) := hD
                refine lv_iconst (v := 1) hx hb dX6_readsJoin_133 (by decide) ?_
                subst hr_72 hr_65 hr_49 hr_29 hr_16 hr_3
                have hg9 : gX6_readsJoin Y = (1, (upd (gX6_readsNumber (gX6_takes (gX6_readsNumber (gX6_takes (gX6_takes (gX6_takes Y 108).2 98).2 109).2).2 120).2).2.1 5 (((gX6_readsNumber (gX6_takes (gX6_readsNumber (gX6_takes (gX6_takes (gX6_takes Y 108).2 98).2 109).2).2 120).2).2.1 5) + 1), (gX6_readsNumber (gX6_takes (gX6_readsNumber (gX6_takes (gX6_takes (gX6_takes Y 108).2 98).2 109).2).2 120).2).2.2.1, upd (upd (upd (gX6_readsNumber (gX6_takes (gX6_readsNumber (gX6_takes (gX6_takes (gX6_takes Y 108).2 98).2 109).2).2 120).2).2.2.2 (3 * ((gX6_readsNumber (gX6_takes (gX6_readsNumber (gX6_takes (gX6_takes (gX6_takes Y 108).2 98).2 109).2).2 120).2).2.1 5).toNatClampNeg) 2) (3 * ((gX6_readsNumber (gX6_takes (gX6_readsNumber (gX6_takes (gX6_takes (gX6_takes Y 108).2 98).2 109).2).2 120).2).2.1 5).toNatClampNeg + 1) ((gX6_readsNumber (gX6_takes (gX6_takes (gX6_takes Y 108).2 98).2 109).2).2.1 4)) (3 * ((gX6_readsNumber (gX6_takes (gX6_readsNumber (gX6_takes (gX6_takes (gX6_takes Y 108).2 98).2 109).2).2 120).2).2.1 5).toNatClampNeg + 2) ((gX6_readsNumber (gX6_takes (gX6_readsNumber (gX6_takes (gX6_takes (gX6_takes Y 108).2 98).2 109).2).2 120).2).2.1 4))) := by rw [gX6_readsJoin, if_pos c_6, if_pos c_19, if_neg c_32, if_neg c_52, if_neg c_68, if_neg c_75]
                have hv9 : 1 = (gX6_readsJoin Y).1 := by rw [hg9]
                have hw9 : mtxW ck ma (upd (gX6_readsNumber (gX6_takes (gX6_readsNumber (gX6_takes (gX6_takes (gX6_takes Y 108).2 98).2 109).2).2 120).2).2.1 5 (((gX6_readsNumber (gX6_takes (gX6_readsNumber (gX6_takes (gX6_takes (gX6_takes Y 108).2 98).2 109).2).2 120).2).2.1 5) + 1), (gX6_readsNumber (gX6_takes (gX6_readsNumber (gX6_takes (gX6_takes (gX6_takes Y 108).2 98).2 109).2).2 120).2).2.2.1, upd (upd (upd (gX6_readsNumber (gX6_takes (gX6_readsNumber (gX6_takes (gX6_takes (gX6_takes Y 108).2 98).2 109).2).2 120).2).2.2.2 (3 * ((gX6_readsNumber (gX6_takes (gX6_readsNumber (gX6_takes (gX6_takes (gX6_takes Y 108).2 98).2 109).2).2 120).2).2.1 5).toNatClampNeg) 2) (3 * ((gX6_readsNumber (gX6_takes (gX6_readsNumber (gX6_takes (gX6_takes (gX6_takes Y 108).2 98).2 109).2).2 120).2).2.1 5).toNatClampNeg + 1) ((gX6_readsNumber (gX6_takes (gX6_takes (gX6_takes Y 108).2 98).2 109).2).2.1 4)) (3 * ((gX6_readsNumber (gX6_takes (gX6_readsNumber (gX6_takes (gX6_takes (gX6_takes Y 108).2 98).2 109).2).2 120).2).2.1 5).toNatClampNeg + 2) ((gX6_readsNumber (gX6_takes (gX6_readsNumber (gX6_takes (gX6_takes (gX6_takes Y 108).2 98).2 109).2).2 120).2).2.1 4)) = mtxW ck ma ((gX6_readsJoin Y).2) := by rw [hg9]
                exact xzret hx hb hr hlk hP hD hS (Or.inr rfl) hv9 hw9 dX6_readsJoin_134
              · --f
                refine lv_iconst (v := 0) hx hb dX6_readsJoin_78 (by decide) ?_
                subst hr_72 hr_65 hr_49 hr_29 hr_16 hr_3
                have hg9 : gX6_readsJoin Y = (0, (gX6_readsNumber (gX6_takes (gX6_readsNumber (gX6_takes (gX6_takes (gX6_takes Y 108).2 98).2 109).2).2 120).2).2) := by rw [gX6_readsJoin, if_pos c_6, if_pos c_19, if_neg c_32, if_neg c_52, if_neg c_68, if_pos c_75]
                have hv9 : 0 = (gX6_readsJoin Y).1 := by rw [hg9]
                have hw9 : mtxW ck ma ((gX6_readsNumber (gX6_takes (gX6_readsNumber (gX6_takes (gX6_takes (gX6_takes Y 108).2 98).2 109).2).2 120).2).2) = mtxW ck ma ((gX6_readsJoin Y).2) := by rw [hg9]
                exact xzret hx hb hr hlk hP hD hS (Or.inl rfl) hv9 hw9 dX6_readsJoin_79
          · --f
            refine lv_iconst (v := 0) hx hb dX6_readsJoin_55 (by decide) ?_
            subst hr_49 hr_29 hr_16 hr_3
            have hg9 : gX6_readsJoin Y = (0, (gX6_readsNumber (gX6_takes (gX6_takes (gX6_takes Y 108).2 98).2 109).2).2) := by rw [gX6_readsJoin, if_pos c_6, if_pos c_19, if_neg c_32, if_pos c_52]
            have hv9 : 0 = (gX6_readsJoin Y).1 := by rw [hg9]
            have hw9 : mtxW ck ma ((gX6_readsNumber (gX6_takes (gX6_takes (gX6_takes Y 108).2 98).2 109).2).2) = mtxW ck ma ((gX6_readsJoin Y).2) := by rw [hg9]
            exact xzret hx hb hr hlk hP hD hS (Or.inl rfl) hv9 hw9 dX6_readsJoin_56
    · --f
      refine lv_iconst (v := 1) hx hb dX6_readsJoin_22 (by decide) ?_
      refine lv_goto (tgt := 41) hx hb dX6_readsJoin_23 (by decide) ?_
      refine lv_istore_n (lv' := [(1, .int 1), (0, .ref (ma 0))]) hx hb dX6_readsJoin_41 rfl hl (by decide) rfl (fun ls hl => ?_)
      refine lv_iload_n hx hb dX6_readsJoin_42 rfl (lv_at hl 0 rfl) ?_
      refine lv_bipush (v := (-5)) hx hb dX6_readsJoin_43 (by decide) ?_
      refine lv_icmp_eq (tgt := 55) hx hb dX6_readsJoin_45 (by decide) (fun c_45 => ?_) (fun c_45 => ?_)
      · --t
        exact absurd c_45 (by decide)
      · --f
        refine lv_aload_n hx hb dX6_readsJoin_48 rfl (lv_at hl 1 rfl) ?_
        refine xreti (va_runV (As := []) (rest := []) ⟨hx, hb, hml, hown, hts⟩ (mX6_readsNumber l D ck ma r_16.2  ht_16 _) (cwV 0 hts gX6_readsJoin_X6_readsNumber rfl rfl rfl (by decide +kernel) ⟨Nat.le_of_ble_eq_true rfl, Nat.le_of_ble_eq_true rfl⟩) (xpreV hN hK hP hD pm_all 0 rfl rfl rfl) rfl rfl hl.1 rfl (lv_room (Nat.le_of_ble_eq_true rfl)) dX6_readsJoin_49 ⟨Nat.le_of_ble_eq_true rfl, Nat.le_of_ble_eq_true rfl⟩) hP hD hS hA pm_all pm_all' (fun H locs hP hD hS => ?_)
        have hP : va_P D vwCl (mtxW ck ma ((gX6_readsNumber r_16.2 ).2)) H := hP
        have hD : va_D (va_A (mtxW ck ma Y) s.heap.size) (mtxW ck ma ((gX6_readsNumber r_16.2 ).2)) := hD
        generalize hr_49 : gX6_readsNumber r_16.2  = r_49 at hP hD ⊢
        have ht_49 : tI r_49.2.1 := by rw [← hr_49]; exact tI_readsNumber ht_16
        have hh_49 : hrP r_49.2.1 := by rw [← hr_49]; exact hr_readsNumber ht_16 hh_16
        refine lv_if_ne (tgt := 57) hx hb dX6_readsJoin_52 (by decide) (fun c_52 => ?_) (fun c_52 => ?_)
        · --t
          refine lv_aload_n hx hb dX6_readsJoin_57 rfl (lv_at hl 1 rfl) ?_
          refine va_get (D := D) (ci := 6) (v := .int (r_49.2.1 4)) (C := RX6) (T := TX6) (N := 13) hx hb hts hinX6 hown hK hP 0 rfl rfl 10 (by decide) (hts (.fieldLink RX6 164 "JoinGrantsModel" "number" "I") (List.mem_of_getElem? (i := 1) rfl)) (fun _ h9 => h9) rfl dX6_readsJoin_58 ?_
          refine lv_istore_n (lv' := [(2, .int (r_49.2.1 4)), (1, .int 1), (0, .ref (ma 0))]) hx hb dX6_readsJoin_61 rfl hl (by decide) rfl (fun ls hl => ?_)
          refine lv_aload_n hx hb dX6_readsJoin_62 rfl (lv_at hl 2 rfl) ?_
          refine lv_bipush (v := 120) hx hb dX6_readsJoin_63 (by decide) ?_
          refine xreti (va_runV (As := [.int 120]) (rest := []) ⟨hx, hb, hml, hown, hts⟩ (mX6_takes l D ck ma r_49.2 120 ht_49 _) (cwV 1 hts gX6_readsJoin_X6_takes rfl rfl rfl (by decide +kernel) ⟨Nat.le_of_ble_eq_true rfl, Nat.le_of_ble_eq_true rfl⟩) (xpreV hN hK hP hD pm_all 0 rfl rfl rfl) rfl rfl hl.1 rfl (lv_room (Nat.le_of_ble_eq_true rfl)) dX6_readsJoin_65 ⟨Nat.le_of_ble_eq_true rfl, Nat.le_of_ble_eq_true rfl⟩) hP hD hS hA pm_all pm_all' (fun H locs hP hD hS => ?_)
          have hP : va_P D vwCl (mtxW ck ma ((gX6_takes r_49.2 120).2)) H := hP
          have hD : va_D (va_A (mtxW ck ma Y) s.heap.size) (mtxW ck ma ((gX6_takes r_49.2 120).2)) := hD
          generalize hr_65 : gX6_takes r_49.2 120 = r_65 at hP hD ⊢
          have ht_65 : tI r_65.2.1 := by rw [← hr_65]; exact tI_takes ht_49
          have hh_65 : hrP r_65.2.1 := by rw [← hr_65]; exact hr_takes hh_49
          refine lv_if_eq (tgt := 78) hx hb dX6_readsJoin_68 (by decide) (fun c_68 => ?_) (fun c_68 => ?_)
          · --t
            refine lv_iconst (v := 0) hx hb dX6_readsJoin_78 (by decide) ?_
            subst hr_65 hr_49 hr_16 hr_3
            have hg9 : gX6_readsJoin Y = (0, (gX6_takes (gX6_readsNumber (gX6_takes (gX6_takes Y 108).2 98).2).2 120).2) := by rw [gX6_readsJoin, if_pos c_6, if_neg c_19, if_neg c_52, if_pos c_68]
            have hv9 : 0 = (gX6_readsJoin Y).1 := by rw [hg9]
            have hw9 : mtxW ck ma ((gX6_takes (gX6_readsNumber (gX6_takes (gX6_takes Y 108).2 98).2).2 120).2) = mtxW ck ma ((gX6_readsJoin Y).2) := by rw [hg9]
            exact xzret hx hb hr hlk hP hD hS (Or.inl rfl) hv9 hw9 dX6_readsJoin_79
          · --f
            refine lv_aload_n hx hb dX6_readsJoin_71 rfl (lv_at hl 2 rfl) ?_
            refine xreti (va_runV (As := []) (rest := []) ⟨hx, hb, hml, hown, hts⟩ (mX6_readsNumber l D ck ma r_65.2  ht_65 _) (cwV 0 hts gX6_readsJoin_X6_readsNumber rfl rfl rfl (by decide +kernel) ⟨Nat.le_of_ble_eq_true rfl, Nat.le_of_ble_eq_true rfl⟩) (xpreV hN hK hP hD pm_all 0 rfl rfl rfl) rfl rfl hl.1 rfl (lv_room (Nat.le_of_ble_eq_true rfl)) dX6_readsJoin_72 ⟨Nat.le_of_ble_eq_true rfl, Nat.le_of_ble_eq_true rfl⟩) hP hD hS hA pm_all pm_all' (fun H locs hP hD hS => ?_)
            have hP : va_P D vwCl (mtxW ck ma ((gX6_readsNumber r_65.2 ).2)) H := hP
            have hD : va_D (va_A (mtxW ck ma Y) s.heap.size) (mtxW ck ma ((gX6_readsNumber r_65.2 ).2)) := hD
            generalize hr_72 : gX6_readsNumber r_65.2  = r_72 at hP hD ⊢
            have ht_72 : tI r_72.2.1 := by rw [← hr_72]; exact tI_readsNumber ht_65
            have hh_72 : hrP r_72.2.1 := by rw [← hr_72]; exact hr_readsNumber ht_65 hh_65
            refine lv_if_ne (tgt := 80) hx hb dX6_readsJoin_75 (by decide) (fun c_75 => ?_) (fun c_75 => ?_)
            · --t
              refine lv_aload_n hx hb dX6_readsJoin_80 rfl (lv_at hl 2 rfl) ?_
              refine va_get (D := D) (ci := 6) (v := .ref (ma 7)) (C := RX6) (T := TX6) (N := 13) hx hb hts hinX6 hown hK hP 0 rfl rfl 11 (by decide) (hts (.fieldLink RX6 28 "JoinGrantsModel" "read" "[I") (List.mem_of_getElem? (i := 2) rfl)) (fun _ h9 => h9) rfl dX6_readsJoin_81 ?_
              refine lv_iconst (v := 3) hx hb dX6_readsJoin_84 (by decide) ?_
              refine lv_aload_n hx hb dX6_readsJoin_85 rfl (lv_at hl 2 rfl) ?_
              refine va_get (D := D) (ci := 6) (v := .int (r_72.2.1 5)) (C := RX6) (T := TX6) (N := 13) hx hb hts hinX6 hown hK hP 0 rfl rfl 12 (by decide) (hts (.fieldLink RX6 174 "JoinGrantsModel" "readMany" "I") (List.mem_of_getElem? (i := 3) rfl)) (fun _ h9 => h9) rfl dX6_readsJoin_86 ?_
              refine lv_imul hx hb dX6_readsJoin_89 ?_
              refine lv_iload_n hx hb dX6_readsJoin_90 rfl (lv_at hl 1 rfl) ?_
              refine xiast (j := (3 * (r_72.2.1 5).toNatClampNeg)) (x_3c hh_72) hx hb hK hP hD hS 2 0 rfl rfl (x_3i hh_72) dX6_readsJoin_91 (fun H locs hP hD hS => ?_)
              have hP : va_P D vwCl (mtxW ck ma (r_72.2.1, r_72.2.2.1, upd r_72.2.2.2 (3 * (r_72.2.1 5).toNatClampNeg) 1)) H := hP
              have hD : va_D (va_A (mtxW ck ma Y) s.heap.size) (mtxW ck ma (r_72.2.1, r_72.2.2.1, upd r_72.2.2.2 (3 * (r_72.2.1 5).toNatClampNeg) 1)) := hD
              refine lv_aload_n hx hb dX6_readsJoin_92 rfl (lv_at hl 2 rfl) ?_
              refine va_get (D := D) (ci := 6) (v := .ref (ma 7)) (C := RX6) (T := TX6) (N := 13) hx hb hts hinX6 hown hK hP 0 rfl rfl 11 (by decide) (hts (.fieldLink RX6 28 "JoinGrantsModel" "read" "[I") (List.mem_of_getElem? (i := 2) rfl)) (fun _ h9 => h9) rfl dX6_readsJoin_93 ?_
              refine lv_iconst (v := 3) hx hb dX6_readsJoin_96 (by decide) ?_
              refine lv_aload_n hx hb dX6_readsJoin_97 rfl (lv_at hl 2 rfl) ?_
              refine va_get (D := D) (ci := 6) (v := .int (r_72.2.1 5)) (C := RX6) (T := TX6) (N := 13) hx hb hts hinX6 hown hK hP 0 rfl rfl 12 (by decide) (hts (.fieldLink RX6 174 "JoinGrantsModel" "readMany" "I") (List.mem_of_getElem? (i := 3) rfl)) (fun _ h9 => h9) rfl dX6_readsJoin_98 ?_
              refine lv_imul hx hb dX6_readsJoin_101 ?_
              refine lv_iconst (v := 1) hx hb dX6_readsJoin_102 (by decide) ?_
              refine lv_iadd hx hb dX6_readsJoin_103 ?_
              refine lv_iload_n hx hb dX6_readsJoin_104 rfl (lv_at hl 0 rfl) ?_
              refine xiast (j := (3 * (r_72.2.1 5).toNatClampNeg + 1)) (x_3c1 hh_72) hx hb hK hP hD hS 2 0 rfl rfl (x_3i1 hh_72) dX6_readsJoin_105 (fun H locs hP hD hS => ?_)
              have hP : va_P D vwCl (mtxW ck ma (r_72.2.1, r_72.2.2.1, upd (upd r_72.2.2.2 (3 * (r_72.2.1 5).toNatClampNeg) 1) (3 * (r_72.2.1 5).toNatClampNeg + 1) (r_49.2.1 4))) H := hP
              have hD : va_D (va_A (mtxW ck ma Y) s.heap.size) (mtxW ck ma (r_72.2.1, r_72.2.2.1, upd (upd r_72.2.2.2 (3 * (r_72.2.1 5).toNatClampNeg) 1) (3 * (r_72.2.1 5).toNatClampNeg + 1) (r_49.2.1 4))) := hD
              refine lv_aload_n hx hb dX6_readsJoin_106 rfl (lv_at hl 2 rfl) ?_
              refine va_get (D := D) (ci := 6) (v := .ref (ma 7)) (C := RX6) (T := TX6) (N := 13) hx hb hts hinX6 hown hK hP 0 rfl rfl 11 (by decide) (hts (.fieldLink RX6 28 "JoinGrantsModel" "read" "[I") (List.mem_of_getElem? (i := 2) rfl)) (fun _ h9 => h9) rfl dX6_readsJoin_107 ?_
              refine lv_iconst (v := 3) hx hb dX6_readsJoin_110 (by decide) ?_
              refine lv_aload_n hx hb dX6_readsJoin_111 rfl (lv_at hl 2 rfl) ?_
              refine va_get (D := D) (ci := 6) (v := .int (r_72.2.1 5)) (C := RX6) (T := TX6) (N := 13) hx hb hts hinX6 hown hK hP 0 rfl rfl 12 (by decide) (hts (.fieldLink RX6 174 "JoinGrantsModel" "readMany" "I") (List.mem_of_getElem? (i := 3) rfl)) (fun _ h9 => h9) rfl dX6_readsJoin_112 ?_
              refine lv_imul hx hb dX6_readsJoin_115 ?_
              refine lv_iconst (v := 2) hx hb dX6_readsJoin_116 (by decide) ?_
              refine lv_iadd hx hb dX6_readsJoin_117 ?_
              refine lv_aload_n hx hb dX6_readsJoin_118 rfl (lv_at hl 2 rfl) ?_
              refine va_get (D := D) (ci := 6) (v := .int (r_72.2.1 4)) (C := RX6) (T := TX6) (N := 13) hx hb hts hinX6 hown hK hP 0 rfl rfl 10 (by decide) (hts (.fieldLink RX6 164 "JoinGrantsModel" "number" "I") (List.mem_of_getElem? (i := 1) rfl)) (fun _ h9 => h9) rfl dX6_readsJoin_119 ?_
              refine xiast (j := (3 * (r_72.2.1 5).toNatClampNeg + 2)) (x_3c2 hh_72) hx hb hK hP hD hS 2 0 rfl rfl (x_3i2 hh_72) dX6_readsJoin_122 (fun H locs hP hD hS => ?_)
              have hP : va_P D vwCl (mtxW ck ma (r_72.2.1, r_72.2.2.1, upd (upd (upd r_72.2.2.2 (3 * (r_72.2.1 5).toNatClampNeg) 1) (3 * (r_72.2.1 5).toNatClampNeg + 1) (r_49.2.1 4)) (3 * (r_72.2.1 5).toNatClampNeg + 2) (r_72.2.1 4))) H := hP
              have hD : va_D (va_A (mtxW ck ma Y) s.heap.size) (mtxW ck ma (r_72.2.1, r_72.2.2.1, upd (upd (upd r_72.2.2.2 (3 * (r_72.2.1 5).toNatClampNeg) 1) (3 * (r_72.2.1 5).toNatClampNeg + 1) (r_49.2.1 4)) (3 * (r_72.2.1 5).toNatClampNeg + 2) (r_72.2.1 4))) := hD
              refine lv_aload_n hx hb dX6_readsJoin_123 rfl (lv_at hl 2 rfl) ?_
              refine lv_dup hx hb dX6_readsJoin_124 rfl ?_
              refine va_get (D := D) (ci := 6) (v := .int (r_72.2.1 5)) (C := RX6) (T := TX6) (N := 13) hx hb hts hinX6 hown hK hP 0 rfl rfl 12 (by decide) (hts (.fieldLink RX6 174 "JoinGrantsModel" "readMany" "I") (List.mem_of_getElem? (i := 3) rfl)) (fun _ h9 => h9) rfl dX6_readsJoin_125 ?_
              refine lv_iconst (v := 1) hx hb dX6_readsJoin_128 (by decide) ?_
              refine lv_iadd hx hb dX6_readsJoin_129 ?_
              refine va_put (D := D) (ci := 6) (v := .int ((r_72.2.1 5) + 1)) (ty := .int) (C := RX6) (T := TX6) (N := 13) hx hb hts hinX6 tyX6 tyX6_ok nmX6 hown hK hP hD hS 0 rfl rfl 12 (by decide) (hts (.fieldLink RX6 174 "JoinGrantsModel" "readMany" "I") (List.mem_of_getElem? (i := 3) rfl)) (fun _ h9 => h9) rfl (by decide +kernel) rfl rfl (Nat.le_of_ble_eq_true rfl) dX6_readsJoin_130 (fun H locs hP hD hS => ?_)
              have hP : va_P D vwCl (mtxW ck ma (upd r_72.2.1 5 ((r_72.2.1 5) + 1), r_72.2.2.1, upd (upd (upd r_72.2.2.2 (3 * (r_72.2.1 5).toNatClampNeg) 1) (3 * (r_72.2.1 5).toNatClampNeg + 1) (r_49.2.1 4)) (3 * (r_72.2.1 5).toNatClampNeg + 2) (r_72.2.1 4))) H := hP
              have hD : va_D (va_A (mtxW ck ma Y) s.heap.size) (mtxW ck ma (upd r_72.2.1 5 ((r_72.2.1 5) + 1), r_72.2.2.1, upd (upd (upd r_72.2.2.2 (3 * (r_72.2.1 5).toNatClampNeg) 1) (3 * (r_72.2.1 5).toNatClampNeg + 1) (r_49.2.1 4)) (3 * (r_72.2.1 5).toNatClampNeg + 2) (r_72.2.1 4))) := hD
              refine lv_iconst (v := 1) hx hb dX6_readsJoin_133 (by decide) ?_
              subst hr_72 hr_65 hr_49 hr_16 hr_3
              have hg9 : gX6_readsJoin Y = (1, (upd (gX6_readsNumber (gX6_takes (gX6_readsNumber (gX6_takes (gX6_takes Y 108).2 98).2).2 120).2).2.1 5 (((gX6_readsNumber (gX6_takes (gX6_readsNumber (gX6_takes (gX6_takes Y 108).2 98).2).2 120).2).2.1 5) + 1), (gX6_readsNumber (gX6_takes (gX6_readsNumber (gX6_takes (gX6_takes Y 108).2 98).2).2 120).2).2.2.1, upd (upd (upd (gX6_readsNumber (gX6_takes (gX6_readsNumber (gX6_takes (gX6_takes Y 108).2 98).2).2 120).2).2.2.2 (3 * ((gX6_readsNumber (gX6_takes (gX6_readsNumber (gX6_takes (gX6_takes Y 108).2 98).2).2 120).2).2.1 5).toNatClampNeg) 1) (3 * ((gX6_readsNumber (gX6_takes (gX6_readsNumber (gX6_takes (gX6_takes Y 108).2 98).2).2 120).2).2.1 5).toNatClampNeg + 1) ((gX6_readsNumber (gX6_takes (gX6_takes Y 108).2 98).2).2.1 4)) (3 * ((gX6_readsNumber (gX6_takes (gX6_readsNumber (gX6_takes (gX6_takes Y 108).2 98).2).2 120).2).2.1 5).toNatClampNeg + 2) ((gX6_readsNumber (gX6_takes (gX6_readsNumber (gX6_takes (gX6_takes Y 108).2 98).2).2 120).2).2.1 4))) := by rw [gX6_readsJoin, if_pos c_6, if_neg c_19, if_neg c_52, if_neg c_68, if_neg c_75]
              have hv9 : 1 = (gX6_readsJoin Y).1 := by rw [hg9]
              have hw9 : mtxW ck ma (upd (gX6_readsNumber (gX6_takes (gX6_readsNumber (gX6_takes (gX6_takes Y 108).2 98).2).2 120).2).2.1 5 (((gX6_readsNumber (gX6_takes (gX6_readsNumber (gX6_takes (gX6_takes Y 108).2 98).2).2 120).2).2.1 5) + 1), (gX6_readsNumber (gX6_takes (gX6_readsNumber (gX6_takes (gX6_takes Y 108).2 98).2).2 120).2).2.2.1, upd (upd (upd (gX6_readsNumber (gX6_takes (gX6_readsNumber (gX6_takes (gX6_takes Y 108).2 98).2).2 120).2).2.2.2 (3 * ((gX6_readsNumber (gX6_takes (gX6_readsNumber (gX6_takes (gX6_takes Y 108).2 98).2).2 120).2).2.1 5).toNatClampNeg) 1) (3 * ((gX6_readsNumber (gX6_takes (gX6_readsNumber (gX6_takes (gX6_takes Y 108).2 98).2).2 120).2).2.1 5).toNatClampNeg + 1) ((gX6_readsNumber (gX6_takes (gX6_takes Y 108).2 98).2).2.1 4)) (3 * ((gX6_readsNumber (gX6_takes (gX6_readsNumber (gX6_takes (gX6_takes Y 108).2 98).2).2 120).2).2.1 5).toNatClampNeg + 2) ((gX6_readsNumber (gX6_takes (gX6_readsNumber (gX6_takes (gX6_takes Y 108).2 98).2).2 120).2).2.1 4)) = mtxW ck ma ((gX6_readsJoin Y).2) := by rw [hg9]
              exact xzret hx hb hr hlk hP hD hS (Or.inr rfl) hv9 hw9 dX6_readsJoin_134
            · --f
              refine lv_iconst (v := 0) hx hb dX6_readsJoin_78 (by decide) ?_
              subst hr_72 hr_65 hr_49 hr_16 hr_3
              have hg9 : gX6_readsJoin Y = (0, (gX6_readsNumber (gX6_takes (gX6_readsNumber (gX6_takes (gX6_takes Y 108).2 98).2).2 120).2).2) := by rw [gX6_readsJoin, if_pos c_6, if_neg c_19, if_neg c_52, if_neg c_68, if_pos c_75]
              have hv9 : 0 = (gX6_readsJoin Y).1 := by rw [hg9]
              have hw9 : mtxW ck ma ((gX6_readsNumber (gX6_takes (gX6_readsNumber (gX6_takes (gX6_takes Y 108).2 98).2).2 120).2).2) = mtxW ck ma ((gX6_readsJoin Y).2) := by rw [hg9]
              exact xzret hx hb hr hlk hP hD hS (Or.inl rfl) hv9 hw9 dX6_readsJoin_79
        · --f
          refine lv_iconst (v := 0) hx hb dX6_readsJoin_55 (by decide) ?_
          subst hr_49 hr_16 hr_3
          have hg9 : gX6_readsJoin Y = (0, (gX6_readsNumber (gX6_takes (gX6_takes Y 108).2 98).2).2) := by rw [gX6_readsJoin, if_pos c_6, if_neg c_19, if_pos c_52]
          have hv9 : 0 = (gX6_readsJoin Y).1 := by rw [hg9]
          have hw9 : mtxW ck ma ((gX6_readsNumber (gX6_takes (gX6_takes Y 108).2 98).2).2) = mtxW ck ma ((gX6_readsJoin Y).2) := by rw [hg9]
          exact xzret hx hb hr hlk hP hD hS (Or.inl rfl) hv9 hw9 dX6_readsJoin_56
  · --f
    refine lv_iconst (v := 0) hx hb dX6_readsJoin_9 (by decide) ?_
    refine lv_goto (tgt := 41) hx hb dX6_readsJoin_10 (by decide) ?_
    refine lv_istore_n (lv' := [(1, .int 0), (0, .ref (ma 0))]) hx hb dX6_readsJoin_41 rfl hl (by decide) rfl (fun ls hl => ?_)
    refine lv_iload_n hx hb dX6_readsJoin_42 rfl (lv_at hl 0 rfl) ?_
    refine lv_bipush (v := (-5)) hx hb dX6_readsJoin_43 (by decide) ?_
    refine lv_icmp_eq (tgt := 55) hx hb dX6_readsJoin_45 (by decide) (fun c_45 => ?_) (fun c_45 => ?_)
    · --t
      exact absurd c_45 (by decide)
    · --f
      refine lv_aload_n hx hb dX6_readsJoin_48 rfl (lv_at hl 1 rfl) ?_
      refine xreti (va_runV (As := []) (rest := []) ⟨hx, hb, hml, hown, hts⟩ (mX6_readsNumber l D ck ma r_3.2  ht_3 _) (cwV 0 hts gX6_readsJoin_X6_readsNumber rfl rfl rfl (by decide +kernel) ⟨Nat.le_of_ble_eq_true rfl, Nat.le_of_ble_eq_true rfl⟩) (xpreV hN hK hP hD pm_all 0 rfl rfl rfl) rfl rfl hl.1 rfl (lv_room (Nat.le_of_ble_eq_true rfl)) dX6_readsJoin_49 ⟨Nat.le_of_ble_eq_true rfl, Nat.le_of_ble_eq_true rfl⟩) hP hD hS hA pm_all pm_all' (fun H locs hP hD hS => ?_)
      have hP : va_P D vwCl (mtxW ck ma ((gX6_readsNumber r_3.2 ).2)) H := hP
      have hD : va_D (va_A (mtxW ck ma Y) s.heap.size) (mtxW ck ma ((gX6_readsNumber r_3.2 ).2)) := hD
      generalize hr_49 : gX6_readsNumber r_3.2  = r_49 at hP hD ⊢
      have ht_49 : tI r_49.2.1 := by rw [← hr_49]; exact tI_readsNumber ht_3
      have hh_49 : hrP r_49.2.1 := by rw [← hr_49]; exact hr_readsNumber ht_3 hh_3
      refine lv_if_ne (tgt := 57) hx hb dX6_readsJoin_52 (by decide) (fun c_52 => ?_) (fun c_52 => ?_)
      · --t
        refine lv_aload_n hx hb dX6_readsJoin_57 rfl (lv_at hl 1 rfl) ?_
        refine va_get (D := D) (ci := 6) (v := .int (r_49.2.1 4)) (C := RX6) (T := TX6) (N := 13) hx hb hts hinX6 hown hK hP 0 rfl rfl 10 (by decide) (hts (.fieldLink RX6 164 "JoinGrantsModel" "number" "I") (List.mem_of_getElem? (i := 1) rfl)) (fun _ h9 => h9) rfl dX6_readsJoin_58 ?_
        refine lv_istore_n (lv' := [(2, .int (r_49.2.1 4)), (1, .int 0), (0, .ref (ma 0))]) hx hb dX6_readsJoin_61 rfl hl (by decide) rfl (fun ls hl => ?_)
        refine lv_aload_n hx hb dX6_readsJoin_62 rfl (lv_at hl 2 rfl) ?_
        refine lv_bipush (v := 120) hx hb dX6_readsJoin_63 (by decide) ?_
        refine xreti (va_runV (As := [.int 120]) (rest := []) ⟨hx, hb, hml, hown, hts⟩ (mX6_takes l D ck ma r_49.2 120 ht_49 _) (cwV 1 hts gX6_readsJoin_X6_takes rfl rfl rfl (by decide +kernel) ⟨Nat.le_of_ble_eq_true rfl, Nat.le_of_ble_eq_true rfl⟩) (xpreV hN hK hP hD pm_all 0 rfl rfl rfl) rfl rfl hl.1 rfl (lv_room (Nat.le_of_ble_eq_true rfl)) dX6_readsJoin_65 ⟨Nat.le_of_ble_eq_true rfl, Nat.le_of_ble_eq_true rfl⟩) hP hD hS hA pm_all pm_all' (fun H locs hP hD hS => ?_)
        have hP : va_P D vwCl (mtxW ck ma ((gX6_takes r_49.2 120).2)) H := hP
        have hD : va_D (va_A (mtxW ck ma Y) s.heap.size) (mtxW ck ma ((gX6_takes r_49.2 120).2)) := hD
        generalize hr_65 : gX6_takes r_49.2 120 = r_65 at hP hD ⊢
        have ht_65 : tI r_65.2.1 := by rw [← hr_65]; exact tI_takes ht_49
        have hh_65 : hrP r_65.2.1 := by rw [← hr_65]; exact hr_takes hh_49
        refine lv_if_eq (tgt := 78) hx hb dX6_readsJoin_68 (by decide) (fun c_68 => ?_) (fun c_68 => ?_)
        · --t
          refine lv_iconst (v := 0) hx hb dX6_readsJoin_78 (by decide) ?_
          subst hr_65 hr_49 hr_3
          have hg9 : gX6_readsJoin Y = (0, (gX6_takes (gX6_readsNumber (gX6_takes Y 108).2).2 120).2) := by rw [gX6_readsJoin, if_neg c_6, if_neg c_52, if_pos c_68]
          have hv9 : 0 = (gX6_readsJoin Y).1 := by rw [hg9]
          have hw9 : mtxW ck ma ((gX6_takes (gX6_readsNumber (gX6_takes Y 108).2).2 120).2) = mtxW ck ma ((gX6_readsJoin Y).2) := by rw [hg9]
          exact xzret hx hb hr hlk hP hD hS (Or.inl rfl) hv9 hw9 dX6_readsJoin_79
        · --f
          refine lv_aload_n hx hb dX6_readsJoin_71 rfl (lv_at hl 2 rfl) ?_
          refine xreti (va_runV (As := []) (rest := []) ⟨hx, hb, hml, hown, hts⟩ (mX6_readsNumber l D ck ma r_65.2  ht_65 _) (cwV 0 hts gX6_readsJoin_X6_readsNumber rfl rfl rfl (by decide +kernel) ⟨Nat.le_of_ble_eq_true rfl, Nat.le_of_ble_eq_true rfl⟩) (xpreV hN hK hP hD pm_all 0 rfl rfl rfl) rfl rfl hl.1 rfl (lv_room (Nat.le_of_ble_eq_true rfl)) dX6_readsJoin_72 ⟨Nat.le_of_ble_eq_true rfl, Nat.le_of_ble_eq_true rfl⟩) hP hD hS hA pm_all pm_all' (fun H locs hP hD hS => ?_)
          have hP : va_P D vwCl (mtxW ck ma ((gX6_readsNumber r_65.2 ).2)) H := hP
          have hD : va_D (va_A (mtxW ck ma Y) s.heap.size) (mtxW ck ma ((gX6_readsNumber r_65.2 ).2)) := hD
          generalize hr_72 : gX6_readsNumber r_65.2  = r_72 at hP hD ⊢
          have ht_72 : tI r_72.2.1 := by rw [← hr_72]; exact tI_readsNumber ht_65
          have hh_72 : hrP r_72.2.1 := by rw [← hr_72]; exact hr_readsNumber ht_65 hh_65
          refine lv_if_ne (tgt := 80) hx hb dX6_readsJoin_75 (by decide) (fun c_75 => ?_) (fun c_75 => ?_)
          · --t
            refine lv_aload_n hx hb dX6_readsJoin_80 rfl (lv_at hl 2 rfl) ?_
            refine va_get (D := D) (ci := 6) (v := .ref (ma 7)) (C := RX6) (T := TX6) (N := 13) hx hb hts hinX6 hown hK hP 0 rfl rfl 11 (by decide) (hts (.fieldLink RX6 28 "JoinGrantsModel" "read" "[I") (List.mem_of_getElem? (i := 2) rfl)) (fun _ h9 => h9) rfl dX6_readsJoin_81 ?_
            refine lv_iconst (v := 3) hx hb dX6_readsJoin_84 (by decide) ?_
            refine lv_aload_n hx hb dX6_readsJoin_85 rfl (lv_at hl 2 rfl) ?_
            refine va_get (D := D) (ci := 6) (v := .int (r_72.2.1 5)) (C := RX6) (T := TX6) (N := 13) hx hb hts hinX6 hown hK hP 0 rfl rfl 12 (by decide) (hts (.fieldLink RX6 174 "JoinGrantsModel" "readMany" "I") (List.mem_of_getElem? (i := 3) rfl)) (fun _ h9 => h9) rfl dX6_readsJoin_86 ?_
            refine lv_imul hx hb dX6_readsJoin_89 ?_
            refine lv_iload_n hx hb dX6_readsJoin_90 rfl (lv_at hl 1 rfl) ?_
            refine xiast (j := (3 * (r_72.2.1 5).toNatClampNeg)) (x_3c hh_72) hx hb hK hP hD hS 2 0 rfl rfl (x_3i hh_72) dX6_readsJoin_91 (fun H locs hP hD hS => ?_)
            have hP : va_P D vwCl (mtxW ck ma (r_72.2.1, r_72.2.2.1, upd r_72.2.2.2 (3 * (r_72.2.1 5).toNatClampNeg) 0)) H := hP
            have hD : va_D (va_A (mtxW ck ma Y) s.heap.size) (mtxW ck ma (r_72.2.1, r_72.2.2.1, upd r_72.2.2.2 (3 * (r_72.2.1 5).toNatClampNeg) 0)) := hD
            refine lv_aload_n hx hb dX6_readsJoin_92 rfl (lv_at hl 2 rfl) ?_
            refine va_get (D := D) (ci := 6) (v := .ref (ma 7)) (C := RX6) (T := TX6) (N := 13) hx hb hts hinX6 hown hK hP 0 rfl rfl 11 (by decide) (hts (.fieldLink RX6 28 "JoinGrantsModel" "read" "[I") (List.mem_of_getElem? (i := 2) rfl)) (fun _ h9 => h9) rfl dX6_readsJoin_93 ?_
            refine lv_iconst (v := 3) hx hb dX6_readsJoin_96 (by decide) ?_
            refine lv_aload_n hx hb dX6_readsJoin_97 rfl (lv_at hl 2 rfl) ?_
            refine va_get (D := D) (ci := 6) (v := .int (r_72.2.1 5)) (C := RX6) (T := TX6) (N := 13) hx hb hts hinX6 hown hK hP 0 rfl rfl 12 (by decide) (hts (.fieldLink RX6 174 "JoinGrantsModel" "readMany" "I") (List.mem_of_getElem? (i := 3) rfl)) (fun _ h9 => h9) rfl dX6_readsJoin_98 ?_
            refine lv_imul hx hb dX6_readsJoin_101 ?_
            refine lv_iconst (v := 1) hx hb dX6_readsJoin_102 (by decide) ?_
            refine lv_iadd hx hb dX6_readsJoin_103 ?_
            refine lv_iload_n hx hb dX6_readsJoin_104 rfl (lv_at hl 0 rfl) ?_
            refine xiast (j := (3 * (r_72.2.1 5).toNatClampNeg + 1)) (x_3c1 hh_72) hx hb hK hP hD hS 2 0 rfl rfl (x_3i1 hh_72) dX6_readsJoin_105 (fun H locs hP hD hS => ?_)
            have hP : va_P D vwCl (mtxW ck ma (r_72.2.1, r_72.2.2.1, upd (upd r_72.2.2.2 (3 * (r_72.2.1 5).toNatClampNeg) 0) (3 * (r_72.2.1 5).toNatClampNeg + 1) (r_49.2.1 4))) H := hP
            have hD : va_D (va_A (mtxW ck ma Y) s.heap.size) (mtxW ck ma (r_72.2.1, r_72.2.2.1, upd (upd r_72.2.2.2 (3 * (r_72.2.1 5).toNatClampNeg) 0) (3 * (r_72.2.1 5).toNatClampNeg + 1) (r_49.2.1 4))) := hD
            refine lv_aload_n hx hb dX6_readsJoin_106 rfl (lv_at hl 2 rfl) ?_
            refine va_get (D := D) (ci := 6) (v := .ref (ma 7)) (C := RX6) (T := TX6) (N := 13) hx hb hts hinX6 hown hK hP 0 rfl rfl 11 (by decide) (hts (.fieldLink RX6 28 "JoinGrantsModel" "read" "[I") (List.mem_of_getElem? (i := 2) rfl)) (fun _ h9 => h9) rfl dX6_readsJoin_107 ?_
            refine lv_iconst (v := 3) hx hb dX6_readsJoin_110 (by decide) ?_
            refine lv_aload_n hx hb dX6_readsJoin_111 rfl (lv_at hl 2 rfl) ?_
            refine va_get (D := D) (ci := 6) (v := .int (r_72.2.1 5)) (C := RX6) (T := TX6) (N := 13) hx hb hts hinX6 hown hK hP 0 rfl rfl 12 (by decide) (hts (.fieldLink RX6 174 "JoinGrantsModel" "readMany" "I") (List.mem_of_getElem? (i := 3) rfl)) (fun _ h9 => h9) rfl dX6_readsJoin_112 ?_
            refine lv_imul hx hb dX6_readsJoin_115 ?_
            refine lv_iconst (v := 2) hx hb dX6_readsJoin_116 (by decide) ?_
            refine lv_iadd hx hb dX6_readsJoin_117 ?_
            refine lv_aload_n hx hb dX6_readsJoin_118 rfl (lv_at hl 2 rfl) ?_
            refine va_get (D := D) (ci := 6) (v := .int (r_72.2.1 4)) (C := RX6) (T := TX6) (N := 13) hx hb hts hinX6 hown hK hP 0 rfl rfl 10 (by decide) (hts (.fieldLink RX6 164 "JoinGrantsModel" "number" "I") (List.mem_of_getElem? (i := 1) rfl)) (fun _ h9 => h9) rfl dX6_readsJoin_119 ?_
            refine xiast (j := (3 * (r_72.2.1 5).toNatClampNeg + 2)) (x_3c2 hh_72) hx hb hK hP hD hS 2 0 rfl rfl (x_3i2 hh_72) dX6_readsJoin_122 (fun H locs hP hD hS => ?_)
            have hP : va_P D vwCl (mtxW ck ma (r_72.2.1, r_72.2.2.1, upd (upd (upd r_72.2.2.2 (3 * (r_72.2.1 5).toNatClampNeg) 0) (3 * (r_72.2.1 5).toNatClampNeg + 1) (r_49.2.1 4)) (3 * (r_72.2.1 5).toNatClampNeg + 2) (r_72.2.1 4))) H := hP
            have hD : va_D (va_A (mtxW ck ma Y) s.heap.size) (mtxW ck ma (r_72.2.1, r_72.2.2.1, upd (upd (upd r_72.2.2.2 (3 * (r_72.2.1 5).toNatClampNeg) 0) (3 * (r_72.2.1 5).toNatClampNeg + 1) (r_49.2.1 4)) (3 * (r_72.2.1 5).toNatClampNeg + 2) (r_72.2.1 4))) := hD
            refine lv_aload_n hx hb dX6_readsJoin_123 rfl (lv_at hl 2 rfl) ?_
            refine lv_dup hx hb dX6_readsJoin_124 rfl ?_
            refine va_get (D := D) (ci := 6) (v := .int (r_72.2.1 5)) (C := RX6) (T := TX6) (N := 13) hx hb hts hinX6 hown hK hP 0 rfl rfl 12 (by decide) (hts (.fieldLink RX6 174 "JoinGrantsModel" "readMany" "I") (List.mem_of_getElem? (i := 3) rfl)) (fun _ h9 => h9) rfl dX6_readsJoin_125 ?_
            refine lv_iconst (v := 1) hx hb dX6_readsJoin_128 (by decide) ?_
            refine lv_iadd hx hb dX6_readsJoin_129 ?_
            refine va_put (D := D) (ci := 6) (v := .int ((r_72.2.1 5) + 1)) (ty := .int) (C := RX6) (T := TX6) (N := 13) hx hb hts hinX6 tyX6 tyX6_ok nmX6 hown hK hP hD hS 0 rfl rfl 12 (by decide) (hts (.fieldLink RX6 174 "JoinGrantsModel" "readMany" "I") (List.mem_of_getElem? (i := 3) rfl)) (fun _ h9 => h9) rfl (by decide +kernel) rfl rfl (Nat.le_of_ble_eq_true rfl) dX6_readsJoin_130 (fun H locs hP hD hS => ?_)
            have hP : va_P D vwCl (mtxW ck ma (upd r_72.2.1 5 ((r_72.2.1 5) + 1), r_72.2.2.1, upd (upd (upd r_72.2.2.2 (3 * (r_72.2.1 5).toNatClampNeg) 0) (3 * (r_72.2.1 5).toNatClampNeg + 1) (r_49.2.1 4)) (3 * (r_72.2.1 5).toNatClampNeg + 2) (r_72.2.1 4))) H := hP
            have hD : va_D (va_A (mtxW ck ma Y) s.heap.size) (mtxW ck ma (upd r_72.2.1 5 ((r_72.2.1 5) + 1), r_72.2.2.1, upd (upd (upd r_72.2.2.2 (3 * (r_72.2.1 5).toNatClampNeg) 0) (3 * (r_72.2.1 5).toNatClampNeg + 1) (r_49.2.1 4)) (3 * (r_72.2.1 5).toNatClampNeg + 2) (r_72.2.1 4))) := hD
            refine lv_iconst (v := 1) hx hb dX6_readsJoin_133 (by decide) ?_
            subst hr_72 hr_65 hr_49 hr_3
            have hg9 : gX6_readsJoin Y = (1, (upd (gX6_readsNumber (gX6_takes (gX6_readsNumber (gX6_takes Y 108).2).2 120).2).2.1 5 (((gX6_readsNumber (gX6_takes (gX6_readsNumber (gX6_takes Y 108).2).2 120).2).2.1 5) + 1), (gX6_readsNumber (gX6_takes (gX6_readsNumber (gX6_takes Y 108).2).2 120).2).2.2.1, upd (upd (upd (gX6_readsNumber (gX6_takes (gX6_readsNumber (gX6_takes Y 108).2).2 120).2).2.2.2 (3 * ((gX6_readsNumber (gX6_takes (gX6_readsNumber (gX6_takes Y 108).2).2 120).2).2.1 5).toNatClampNeg) 0) (3 * ((gX6_readsNumber (gX6_takes (gX6_readsNumber (gX6_takes Y 108).2).2 120).2).2.1 5).toNatClampNeg + 1) ((gX6_readsNumber (gX6_takes Y 108).2).2.1 4)) (3 * ((gX6_readsNumber (gX6_takes (gX6_readsNumber (gX6_takes Y 108).2).2 120).2).2.1 5).toNatClampNeg + 2) ((gX6_readsNumber (gX6_takes (gX6_readsNumber (gX6_takes Y 108).2).2 120).2).2.1 4))) := by rw [gX6_readsJoin, if_neg c_6, if_neg c_52, if_neg c_68, if_neg c_75]
            have hv9 : 1 = (gX6_readsJoin Y).1 := by rw [hg9]
            have hw9 : mtxW ck ma (upd (gX6_readsNumber (gX6_takes (gX6_readsNumber (gX6_takes Y 108).2).2 120).2).2.1 5 (((gX6_readsNumber (gX6_takes (gX6_readsNumber (gX6_takes Y 108).2).2 120).2).2.1 5) + 1), (gX6_readsNumber (gX6_takes (gX6_readsNumber (gX6_takes Y 108).2).2 120).2).2.2.1, upd (upd (upd (gX6_readsNumber (gX6_takes (gX6_readsNumber (gX6_takes Y 108).2).2 120).2).2.2.2 (3 * ((gX6_readsNumber (gX6_takes (gX6_readsNumber (gX6_takes Y 108).2).2 120).2).2.1 5).toNatClampNeg) 0) (3 * ((gX6_readsNumber (gX6_takes (gX6_readsNumber (gX6_takes Y 108).2).2 120).2).2.1 5).toNatClampNeg + 1) ((gX6_readsNumber (gX6_takes Y 108).2).2.1 4)) (3 * ((gX6_readsNumber (gX6_takes (gX6_readsNumber (gX6_takes Y 108).2).2 120).2).2.1 5).toNatClampNeg + 2) ((gX6_readsNumber (gX6_takes (gX6_readsNumber (gX6_takes Y 108).2).2 120).2).2.1 4)) = mtxW ck ma ((gX6_readsJoin Y).2) := by rw [hg9]
            exact xzret hx hb hr hlk hP hD hS (Or.inr rfl) hv9 hw9 dX6_readsJoin_134
          · --f
            refine lv_iconst (v := 0) hx hb dX6_readsJoin_78 (by decide) ?_
            subst hr_72 hr_65 hr_49 hr_3
            have hg9 : gX6_readsJoin Y = (0, (gX6_readsNumber (gX6_takes (gX6_readsNumber (gX6_takes Y 108).2).2 120).2).2) := by rw [gX6_readsJoin, if_neg c_6, if_neg c_52, if_neg c_68, if_pos c_75]
            have hv9 : 0 = (gX6_readsJoin Y).1 := by rw [hg9]
            have hw9 : mtxW ck ma ((gX6_readsNumber (gX6_takes (gX6_readsNumber (gX6_takes Y 108).2).2 120).2).2) = mtxW ck ma ((gX6_readsJoin Y).2) := by rw [hg9]
            exact xzret hx hb hr hlk hP hD hS (Or.inl rfl) hv9 hw9 dX6_readsJoin_79
      · --f
        refine lv_iconst (v := 0) hx hb dX6_readsJoin_55 (by decide) ?_
        subst hr_49 hr_3
        have hg9 : gX6_readsJoin Y = (0, (gX6_readsNumber (gX6_takes Y 108).2).2) := by rw [gX6_readsJoin, if_neg c_6, if_pos c_52]
        have hv9 : 0 = (gX6_readsJoin Y).1 := by rw [hg9]
        have hw9 : mtxW ck ma ((gX6_readsNumber (gX6_takes Y 108).2).2) = mtxW ck ma ((gX6_readsJoin Y).2) := by rw [hg9]
        exact xzret hx hb hr hlk hP hD hS (Or.inl rfl) hv9 hw9 dX6_readsJoin_56

def rmX6_fault : Room := { frames := 4, cells := 0, slots := 0, locals := 91 }
set_option maxHeartbeats 4000000 in
set_option maxRecDepth 100000 in
theorem mX6_fault (l : Launch) (D : va_G) (ck : Nat → ClassId) (ma : Nat → Nat) (Y : YS)  (hL : 0 ≤ (Y.1 2).toInt ∧ (Y.1 2).toInt ≤ 60) : xMi l yX6_fault wsX6_fault rmX6_fault D ck [.ref (ma 0)] (mtxW ck ma Y) (mtxW ck ma ((gX6_fault Y).2)) ((gX6_fault Y).1) 0 0 := by
  refine xMet (by decide) rfl (Nat.le_of_ble_eq_true rfl) ?_
  intro zp ze s zm zb zt zc hx hb hr hml hown hts hlk hnm hN hK hP hD ls hl
  have hown : s.vm.findClass RX6 = some zm.cls := hown
  have hl : lv_has ls 2 [(0, .ref (ma 0))] := hl
  have hS : va_S (va_A (mtxW ck ma Y) s.heap.size) s.heap s.heap [] := va_S.rf
  have hA : ∀ zq : Nat, s.heap.size ≤ zq → va_A (mtxW ck ma Y) s.heap.size zq := fun zq h => Or.inr h
  have hinX6 : ∀ w ∈ u_ws RX6 TX6 13, w ∈ wsX6_fault := by decide +kernel
  refine lv_aload_n hx hb dX6_fault_0 rfl (lv_at hl 0 rfl) ?_
  refine lv_iconst (v := 0) hx hb dX6_fault_1 (by decide) ?_
  refine va_put (D := D) (ci := 6) (v := .int 0) (ty := .int) (C := RX6) (T := TX6) (N := 13) hx hb hts hinX6 tyX6 tyX6_ok nmX6 hown hK hP hD hS 0 rfl rfl 9 (by decide) (hts (.fieldLink RX6 158 "JoinGrantsModel" "spot" "I") (List.mem_of_getElem? (i := 1) rfl)) (fun _ h9 => h9) rfl (by decide +kernel) rfl rfl (Nat.le_of_ble_eq_true rfl) dX6_fault_2 (fun H locs hP hD hS => ?_)
  have hP : va_P D vwCl (mtxW ck ma (upd Y.1 3 0, Y.2.1, Y.2.2)) H := hP
  have hD : va_D (va_A (mtxW ck ma Y) s.heap.size) (mtxW ck ma (upd Y.1 3 0, Y.2.1, Y.2.2)) := hD
  refine lv_aload_n hx hb dX6_fault_5 rfl (lv_at hl 0 rfl) ?_
  refine lv_iconst (v := 0) hx hb dX6_fault_6 (by decide) ?_
  refine va_put (D := D) (ci := 6) (v := .int 0) (ty := .int) (C := RX6) (T := TX6) (N := 13) hx hb hts hinX6 tyX6 tyX6_ok nmX6 hown hK hP hD hS 0 rfl rfl 12 (by decide) (hts (.fieldLink RX6 174 "JoinGrantsModel" "readMany" "I") (List.mem_of_getElem? (i := 2) rfl)) (fun _ h9 => h9) rfl (by decide +kernel) rfl rfl (Nat.le_of_ble_eq_true rfl) dX6_fault_7 (fun H locs hP hD hS => ?_)
  have hP : va_P D vwCl (mtxW ck ma (upd (upd Y.1 3 0) 5 0, Y.2.1, Y.2.2)) H := hP
  have hD : va_D (va_A (mtxW ck ma Y) s.heap.size) (mtxW ck ma (upd (upd Y.1 3 0) 5 0, Y.2.1, Y.2.2)) := hD
  refine lv_iconst (v := 1) hx hb dX6_fault_10 (by decide) ?_
  refine lv_istore_n (lv' := [(1, .int 1), (0, .ref (ma 0))]) hx hb dX6_fault_11 rfl hl (by decide) rfl (fun ls hl => ?_)
  have loop12 : ∀ (fu : Nat) (x1 : Int32) (Y1 : YS), (tI Y1.1) → (0 ≤ (Y1.1 5).toInt ∧ 4 * (Y1.1 5).toInt ≤ (Y1.1 3).toInt) → (61 ≤ (Y1.1 3).toInt + fu) → gX6_fault Y = gX6_fault_L12 Y fu x1 Y1 → ∀ (H : Heap) (locs : List Loc) (ls : Array Slot), va_P D vwCl (mtxW ck ma Y1) H → va_D (va_A (mtxW ck ma Y) s.heap.size) (mtxW ck ma Y1) → va_S (va_A (mtxW ck ma Y) s.heap.size) s.heap H locs → lv_has ls 2 [(0, .ref (ma 0)), (1, .int x1)] → W zp l ze rmX6_fault s zm ([.ref (ma 0)] : List Value).toArray zb zt zc H locs 0 0 (MQ zb (xQi D (mtxW ck ma Y) (mtxW ck ma ((gX6_fault Y).2)) ((gX6_fault Y).1) s.heap.size) ([.ref (ma 0)] : List Value).toArray s 0 0 (va_A (mtxW ck ma Y) s.heap.size)) (F0 zm 12 ls []) := by
    intro fu
    induction fu with
    | zero =>
      intro x1 Y1 ht h4 hfu hg H locs ls hP hD hS hl
      exact absurd hfu (by have h1 := ht.2.1; have h2 := ht.2.2; omega)
    | succ fu ih12 =>
      intro x1 Y1 ht h4 hfu hg H locs ls hP hD hS hl
      refine lv_iload_n hx hb dX6_fault_12 rfl (lv_at hl 1 rfl) ?_
      refine lv_if_eq (tgt := 38) hx hb dX6_fault_13 (by decide) (fun c_13 => ?_) (fun c_13 => ?_)
      · --t
        refine lv_aload_n hx hb dX6_fault_38 rfl (lv_at hl 0 rfl) ?_
        refine va_get (D := D) (ci := 6) (v := .int (Y1.1 3)) (C := RX6) (T := TX6) (N := 13) hx hb hts hinX6 hown hK hP 0 rfl rfl 9 (by decide) (hts (.fieldLink RX6 158 "JoinGrantsModel" "spot" "I") (List.mem_of_getElem? (i := 1) rfl)) (fun _ h9 => h9) rfl dX6_fault_39 ?_
        refine lv_aload_n hx hb dX6_fault_42 rfl (lv_at hl 0 rfl) ?_
        refine va_get (D := D) (ci := 6) (v := .int (Y1.1 2)) (C := RX6) (T := TX6) (N := 13) hx hb hts hinX6 hown hK hP 0 rfl rfl 8 (by decide) (hts (.fieldLink RX6 155 "JoinGrantsModel" "textLong" "I") (List.mem_of_getElem? (i := 3) rfl)) (fun _ h9 => h9) rfl dX6_fault_43 ?_
        refine lv_icmp_ne (tgt := 54) hx hb dX6_fault_46 (by decide) (fun c_46 => ?_) (fun c_46 => ?_)
        · --t
          refine lv_aload_n hx hb dX6_fault_54 rfl (lv_at hl 0 rfl) ?_
          refine va_get (D := D) (ci := 6) (v := .int (Y1.1 3)) (C := RX6) (T := TX6) (N := 13) hx hb hts hinX6 hown hK hP 0 rfl rfl 9 (by decide) (hts (.fieldLink RX6 158 "JoinGrantsModel" "spot" "I") (List.mem_of_getElem? (i := 1) rfl)) (fun _ h9 => h9) rfl dX6_fault_55 ?_
          exact xiret hx hb hr hlk hP hD hS (congrArg (fun z => z.1) (hg.trans (show gX6_fault_L12 Y (fu + 1) x1 Y1 = (Y1.1 3, Y1) from (Eq.trans (if_pos c_13) (Eq.trans (if_neg c_46) rfl))))).symm (congrArg (fun z => mtxW ck ma z.2) (hg.trans (show gX6_fault_L12 Y (fu + 1) x1 Y1 = (Y1.1 3, Y1) from (Eq.trans (if_pos c_13) (Eq.trans (if_neg c_46) rfl))))).symm dX6_fault_58
        · --f
          refine lv_bipush (v := (-5)) hx hb dX6_fault_49 (by decide) ?_
          refine lv_goto (tgt := 58) hx hb dX6_fault_51 (by decide) ?_
          exact xiret hx hb hr hlk hP hD hS (congrArg (fun z => z.1) (hg.trans (show gX6_fault_L12 Y (fu + 1) x1 Y1 = ((-5), Y1) from (Eq.trans (if_pos c_13) (Eq.trans (if_pos c_46) rfl))))).symm (congrArg (fun z => mtxW ck ma z.2) (hg.trans (show gX6_fault_L12 Y (fu + 1) x1 Y1 = ((-5), Y1) from (Eq.trans (if_pos c_13) (Eq.trans (if_pos c_46) rfl))))).symm dX6_fault_58
      · --f
        refine lv_aload_n hx hb dX6_fault_16 rfl (lv_at hl 0 rfl) ?_
        refine xreti (va_runV (As := []) (rest := []) ⟨hx, hb, hml, hown, hts⟩ (mX6_readsJoin l D ck ma Y1  ht (h4_r ht h4) _) (cwV 0 hts gX6_fault_X6_readsJoin rfl rfl rfl (by decide +kernel) ⟨Nat.le_of_ble_eq_true rfl, Nat.le_of_ble_eq_true rfl⟩) (xpreV hN hK hP hD pm_all 0 rfl rfl rfl) rfl rfl hl.1 rfl (lv_room (Nat.le_of_ble_eq_true rfl)) dX6_fault_17 ⟨Nat.le_of_ble_eq_true rfl, Nat.le_of_ble_eq_true rfl⟩) hP hD hS hA pm_all pm_all' (fun H locs hP hD hS => ?_)
        have hP : va_P D vwCl (mtxW ck ma ((gX6_readsJoin Y1 ).2)) H := hP
        have hD : va_D (va_A (mtxW ck ma Y) s.heap.size) (mtxW ck ma ((gX6_readsJoin Y1 ).2)) := hD
        refine lv_if_ne (tgt := 28) hx hb dX6_fault_20 (by decide) (fun c_20 => ?_) (fun c_20 => ?_)
        · --t
          refine lv_aload_n hx hb dX6_fault_28 rfl (lv_at hl 0 rfl) ?_
          refine lv_bipush (v := 44) hx hb dX6_fault_29 (by decide) ?_
          refine xreti (va_runV (As := [.int 44]) (rest := []) ⟨hx, hb, hml, hown, hts⟩ (mX6_takes l D ck ma ((gX6_readsJoin Y1 ).2) 44 ((rj_step (c2 := 0) ht h4 c_20).1) _) (cwV 1 hts gX6_fault_X6_takes rfl rfl rfl (by decide +kernel) ⟨Nat.le_of_ble_eq_true rfl, Nat.le_of_ble_eq_true rfl⟩) (xpreV hN hK hP hD pm_all 0 rfl rfl rfl) rfl rfl hl.1 rfl (lv_room (Nat.le_of_ble_eq_true rfl)) dX6_fault_31 ⟨Nat.le_of_ble_eq_true rfl, Nat.le_of_ble_eq_true rfl⟩) hP hD hS hA pm_all pm_all' (fun H locs hP hD hS => ?_)
          have hP : va_P D vwCl (mtxW ck ma ((gX6_takes ((gX6_readsJoin Y1 ).2) 44).2)) H := hP
          have hD : va_D (va_A (mtxW ck ma Y) s.heap.size) (mtxW ck ma ((gX6_takes ((gX6_readsJoin Y1 ).2) 44).2)) := hD
          refine lv_istore_n (lv' := [(1, .int ((gX6_takes ((gX6_readsJoin Y1 ).2) 44).1)), (0, .ref (ma 0))]) hx hb dX6_fault_34 rfl hl (by decide) rfl (fun ls hl => ?_)
          refine lv_goto (tgt := 12) hx hb dX6_fault_35 (by decide) ?_
          exact ih12 ((gX6_takes ((gX6_readsJoin Y1 ).2) 44).1) ((gX6_takes ((gX6_readsJoin Y1 ).2) 44).2) (rj_step ht h4 c_20).2.1 (rj_step ht h4 c_20).2.2.1 (rj_fu (rj_step ht h4 c_20).2.2.2 hfu) (hg.trans (show gX6_fault_L12 Y (fu + 1) x1 Y1 = (gX6_fault_L12 Y fu ((gX6_takes ((gX6_readsJoin Y1 ).2) 44).1) ((gX6_takes ((gX6_readsJoin Y1 ).2) 44).2)) from (Eq.trans (if_neg c_13) (Eq.trans (if_neg c_20) rfl)))) _ _ _ hP hD hS (lv_sub hl [1, 0] rfl)
        · --f
          refine lv_aload_n hx hb dX6_fault_23 rfl (lv_at hl 0 rfl) ?_
          refine va_get (D := D) (ci := 6) (v := .int ((((gX6_readsJoin Y1 ).2).1) 3)) (C := RX6) (T := TX6) (N := 13) hx hb hts hinX6 hown hK hP 0 rfl rfl 9 (by decide) (hts (.fieldLink RX6 158 "JoinGrantsModel" "spot" "I") (List.mem_of_getElem? (i := 1) rfl)) (fun _ h9 => h9) rfl dX6_fault_24 ?_
          exact xiret hx hb hr hlk hP hD hS (congrArg (fun z => z.1) (hg.trans (show gX6_fault_L12 Y (fu + 1) x1 Y1 = ((((gX6_readsJoin Y1 ).2).1) 3, (gX6_readsJoin Y1 ).2) from (Eq.trans (if_neg c_13) (Eq.trans (if_pos c_20) rfl))))).symm (congrArg (fun z => mtxW ck ma z.2) (hg.trans (show gX6_fault_L12 Y (fu + 1) x1 Y1 = ((((gX6_readsJoin Y1 ).2).1) 3, (gX6_readsJoin Y1 ).2) from (Eq.trans (if_neg c_13) (Eq.trans (if_pos c_20) rfl))))).symm dX6_fault_27
  exact loop12 61 1 (upd (upd Y.1 3 0) 5 0, Y.2.1, Y.2.2) (tI_0 hL) (by show 0 ≤ (0 : Int32).toInt ∧ 4 * (0 : Int32).toInt ≤ (0 : Int32).toInt; decide) (by show (61 : Int) ≤ (0 : Int32).toInt + (61 : Nat); decide) (show gX6_fault Y = (gX6_fault_L12 Y 61 1 (upd (upd Y.1 3 0) 5 0, Y.2.1, Y.2.2)) from rfl) _ _ _ hP hD hS (lv_sub hl [1, 0] rfl)
