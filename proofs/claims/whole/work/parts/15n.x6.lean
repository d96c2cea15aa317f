def rmX6_why : Room := { frames := 5, cells := 0, slots := 0, locals := 110 }
set_option maxHeartbeats 4000000 in
set_option maxRecDepth 100000 in
theorem mX6_why (l : Launch) (D : va_G) (ck : Nat → ClassId) (ma : Nat → Nat) (M : FS) (f : FS) (a1 : Int32) (hm : mInv f) : xMi l yX6_why wsX6_why rmX6_why D ck [.ref (ma 0), .int a1] (coreW ck ma M f) (coreW ck ma M f) (gX6_why f a1) 0 0 := by
  refine xMet (by decide) rfl (Nat.le_of_ble_eq_true rfl) ?_
  intro zp ze s zm zb zt zc hx hb hr hml hown hts hlk hnm hN hK hP hD ls hl
  have hown : s.vm.findClass RX6 = some zm.cls := hown
  have hl : lv_has ls 2 [(0, .ref (ma 0)), (1, .int a1)] := hl
  have hS : va_S (va_A (coreW ck ma M f) s.heap.size) s.heap s.heap [] := va_S.rf
  have hA : ∀ zq : Nat, s.heap.size ≤ zq → va_A (coreW ck ma M f) s.heap.size zq := fun zq h => Or.inr h
  have hinX6 : ∀ w ∈ u_ws RX6 TX6 13, w ∈ wsX6_why := by decide +kernel
  have hbi : bI f := bI_of hm
  refine lv_aload_n hx hb dX6_why_0 rfl (lv_at hl 0 rfl) ?_
  refine lv_iload_n hx hb dX6_why_1 rfl (lv_at hl 1 rfl) ?_
  refine xreti (va_runV (As := [.int a1]) (rest := []) ⟨hx, hb, hml, hown, hts⟩ (mX6_isJoin l D ck ma M f a1  _) (cwV 1 hts gX6_why_X6_isJoin rfl rfl rfl (by decide +kernel) ⟨Nat.le_of_ble_eq_true rfl, Nat.le_of_ble_eq_true rfl⟩) (xpreV hN hK hP hD pm_all 0 rfl rfl rfl) rfl rfl hl.1 rfl (lv_room (Nat.le_of_ble_eq_true rfl)) dX6_why_2 ⟨Nat.le_of_ble_eq_true rfl, Nat.le_of_ble_eq_true rfl⟩) hP hD hS hA pm_all pm_all' (fun H locs hP hD hS => ?_)
  refine lv_if_ne (tgt := 10) hx hb dX6_why_5 (by decide) (fun c_5 => ?_) (fun c_5 => ?_)
  · --t
    obtain ⟨hjx, hjn⟩ := ij_of hm c_5
    have hj16 : a1.toNatClampNeg < 16 := Nat.lt_of_lt_of_le hjn (n_le hm)
    refine lv_aload_n hx hb dX6_why_10 rfl (lv_at hl 0 rfl) ?_
    refine lv_iload_n hx hb dX6_why_11 rfl (lv_at hl 1 rfl) ?_
    refine lv_iconst (v := 0) hx hb dX6_why_12 (by decide) ?_
    refine xreti (va_runV (As := [.int a1, .int 0]) (rest := []) ⟨hx, hb, hml, hown, hts⟩ (mX6_is l D ck ma M f a1 a1.toNatClampNeg hjx (by omega) 0  _) (cwV 2 hts gX6_why_X6_is rfl rfl rfl (by decide +kernel) ⟨Nat.le_of_ble_eq_true rfl, Nat.le_of_ble_eq_true rfl⟩) (xpreV hN hK hP hD pm_all 0 rfl rfl rfl) rfl rfl hl.1 rfl (lv_room (Nat.le_of_ble_eq_true rfl)) dX6_why_13 ⟨Nat.le_of_ble_eq_true rfl, Nat.le_of_ble_eq_true rfl⟩) hP hD hS hA pm_all pm_all' (fun H locs hP hD hS => ?_)
    refine lv_if_ne (tgt := 23) hx hb dX6_why_16 (by decide) (fun c_16 => ?_) (fun c_16 => ?_)
    · --t
      refine lv_aload_n hx hb dX6_why_23 rfl (lv_at hl 0 rfl) ?_
      refine lv_iload_n hx hb dX6_why_24 rfl (lv_at hl 1 rfl) ?_
      refine xreti (va_runV (As := [.int a1]) (rest := []) ⟨hx, hb, hml, hown, hts⟩ (mX6_needs l D ck ma M f a1 a1.toNatClampNeg hjx (by omega) hbi _) (cwV 1 hts gX6_why_X6_needs rfl rfl rfl (by decide +kernel) ⟨Nat.le_of_ble_eq_true rfl, Nat.le_of_ble_eq_true rfl⟩) (xpreV hN hK hP hD pm_all 0 rfl rfl rfl) rfl rfl hl.1 rfl (lv_room (Nat.le_of_ble_eq_true rfl)) dX6_why_25 ⟨Nat.le_of_ble_eq_true rfl, Nat.le_of_ble_eq_true rfl⟩) hP hD hS hA pm_all pm_all' (fun H locs hP hD hS => ?_)
      refine lv_aload_n hx hb dX6_why_28 rfl (lv_at hl 0 rfl) ?_
      refine va_get (D := D) (ci := 6) (v := .ref (ma 1)) (C := RX6) (T := TX6) (N := 13) hx hb hts hinX6 hown hK hP 0 rfl rfl 0 (by decide) (hts (.fieldLink RX6 7 "JoinGrantsModel" "all" "[I") (List.mem_of_getElem? (i := 1) rfl)) (fun _ h9 => h9) rfl dX6_why_29 ?_
      refine lv_iconst (v := 0) hx hb dX6_why_32 (by decide) ?_
      refine xiald (j := 0) (by decide) hx hb hK hP 1 0 rfl rfl (show vp_in 0 153 from by unfold vp_in; decide) dX6_why_33 ?_
      refine lv_icmp_le (tgt := 41) hx hb dX6_why_34 (by decide) (fun c_34 => ?_) (fun c_34 => ?_)
      · --t
        refine lv_aload_n hx hb dX6_why_41 rfl (lv_at hl 0 rfl) ?_
        refine lv_iload_n hx hb dX6_why_42 rfl (lv_at hl 1 rfl) ?_
        refine xreti (va_runV (As := [.int a1]) (rest := []) ⟨hx, hb, hml, hown, hts⟩ (mX6_rankOf l D ck ma M f a1 a1.toNatClampNeg hjx (by omega) hbi _) (cwV 1 hts gX6_why_X6_rankOf rfl rfl rfl (by decide +kernel) ⟨Nat.le_of_ble_eq_true rfl, Nat.le_of_ble_eq_true rfl⟩) (xpreV hN hK hP hD pm_all 0 rfl rfl rfl) rfl rfl hl.1 rfl (lv_room (Nat.le_of_ble_eq_true rfl)) dX6_why_43 ⟨Nat.le_of_ble_eq_true rfl, Nat.le_of_ble_eq_true rfl⟩) hP hD hS hA pm_all pm_all' (fun H locs hP hD hS => ?_)
        refine lv_if_le (tgt := 53) hx hb dX6_why_46 (by decide) (fun c_46 => ?_) (fun c_46 => ?_)
        · --t
          refine lv_iconst (v := 3) hx hb dX6_why_53 (by decide) ?_
          exact xiret hx hb hr hlk hP hD hS (show gX6_why f a1 = 3 from (Eq.trans (if_neg c_5) (Eq.trans (if_neg c_16) (Eq.trans (if_pos c_34) (Eq.trans (if_pos c_46) rfl))))).symm rfl dX6_why_54
        · --f
          refine lv_iconst (v := 2) hx hb dX6_why_49 (by decide) ?_
          refine lv_goto (tgt := 54) hx hb dX6_why_50 (by decide) ?_
          exact xiret hx hb hr hlk hP hD hS (show gX6_why f a1 = 2 from (Eq.trans (if_neg c_5) (Eq.trans (if_neg c_16) (Eq.trans (if_pos c_34) (Eq.trans (if_neg c_46) rfl))))).symm rfl dX6_why_54
      · --f
        refine lv_iconst (v := 1) hx hb dX6_why_37 (by decide) ?_
        refine lv_goto (tgt := 54) hx hb dX6_why_38 (by decide) ?_
        exact xiret hx hb hr hlk hP hD hS (show gX6_why f a1 = 1 from (Eq.trans (if_neg c_5) (Eq.trans (if_neg c_16) (Eq.trans (if_neg c_34) rfl)))).symm rfl dX6_why_54
    · --f
      refine lv_iconst (v := 0) hx hb dX6_why_19 (by decide) ?_
      refine lv_goto (tgt := 54) hx hb dX6_why_20 (by decide) ?_
      exact xiret hx hb hr hlk hP hD hS (show gX6_why f a1 = 0 from (Eq.trans (if_neg c_5) (Eq.trans (if_pos c_16) rfl))).symm rfl dX6_why_54
  · --f
    refine lv_iconst (v := (-1)) hx hb dX6_why_8 (by decide) ?_
    exact xiret hx hb hr hlk hP hD hS (show gX6_why f a1 = (-1) from (Eq.trans (if_pos c_5) rfl)).symm rfl dX6_why_9

def rmX6_join : Room := { frames := 5, cells := 0, slots := 0, locals := 109 }
set_option maxHeartbeats 4000000 in
set_option maxRecDepth 100000 in
theorem mX6_join (l : Launch) (D : va_G) (ck : Nat → ClassId) (ma : Nat → Nat) (M : FS) (f : FS) (a1 : Int32) (a2 : Int32) (hm : mInv f) : xMi l yX6_join wsX6_join rmX6_join D ck [.ref (ma 0), .int a1, .int a2] (coreW ck ma M f) (coreW ck ma M f) (gX6_join f a1 a2) 0 0 := by
  refine xMet (by decide) rfl (Nat.le_of_ble_eq_true rfl) ?_
  intro zp ze s zm zb zt zc hx hb hr hml hown hts hlk hnm hN hK hP hD ls hl
  have hown : s.vm.findClass RX6 = some zm.cls := hown
  have hl : lv_has ls 3 [(0, .ref (ma 0)), (1, .int a1), (2, .int a2)] := hl
  have hS : va_S (va_A (coreW ck ma M f) s.heap.size) s.heap s.heap [] := va_S.rf
  have hA : ∀ zq : Nat, s.heap.size ≤ zq → va_A (coreW ck ma M f) s.heap.size zq := fun zq h => Or.inr h
  have hbi : bI f := bI_of hm
  refine lv_aload_n hx hb dX6_join_0 rfl (lv_at hl 0 rfl) ?_
  refine lv_iload_n hx hb dX6_join_1 rfl (lv_at hl 1 rfl) ?_
  refine xreti (va_runV (As := [.int a1]) (rest := []) ⟨hx, hb, hml, hown, hts⟩ (mX6_isJoin l D ck ma M f a1  _) (cwV 1 hts gX6_join_X6_isJoin rfl rfl rfl (by decide +kernel) ⟨Nat.le_of_ble_eq_true rfl, Nat.le_of_ble_eq_true rfl⟩) (xpreV hN hK hP hD pm_all 0 rfl rfl rfl) rfl rfl hl.1 rfl (lv_room (Nat.le_of_ble_eq_true rfl)) dX6_join_2 ⟨Nat.le_of_ble_eq_true rfl, Nat.le_of_ble_eq_true rfl⟩) hP hD hS hA pm_all pm_all' (fun H locs hP hD hS => ?_)
  refine lv_if_ne (tgt := 10) hx hb dX6_join_5 (by decide) (fun c_5 => ?_) (fun c_5 => ?_)
  · --t
    obtain ⟨hjx, hjn⟩ := ij_of hm c_5
    have hj16 : a1.toNatClampNeg < 16 := Nat.lt_of_lt_of_le hjn (n_le hm)
    refine lv_iload_n hx hb dX6_join_10 rfl (lv_at hl 2 rfl) ?_
    by_cases c_11_0 : a2 = 0
    · --0
      refine lv_tableIn (tgt := 72) (off := 61) hx hb dX6_join_11 (by rw [c_11_0]; decide) (by rw [c_11_0]; decide) (by rw [c_11_0]; decide) (by decide) ?_
      refine lv_aload_n hx hb dX6_join_72 rfl (lv_at hl 0 rfl) ?_
      refine lv_iload_n hx hb dX6_join_73 rfl (lv_at hl 1 rfl) ?_
      refine lv_iload_n hx hb dX6_join_74 rfl (lv_at hl 2 rfl) ?_
      refine xreti (va_runV (As := [.int a1, .int a2]) (rest := []) ⟨hx, hb, hml, hown, hts⟩ (mX6_of l D ck ma M f a1 a1.toNatClampNeg hjx (by omega) a2 0 c_11_0 (by omega)  _) (cwV 2 hts gX6_join_X6_of rfl rfl rfl (by decide +kernel) ⟨Nat.le_of_ble_eq_true rfl, Nat.le_of_ble_eq_true rfl⟩) (xpreV hN hK hP hD pm_all 0 rfl rfl rfl) rfl rfl hl.1 rfl (lv_room (Nat.le_of_ble_eq_true rfl)) dX6_join_75 ⟨Nat.le_of_ble_eq_true rfl, Nat.le_of_ble_eq_true rfl⟩) hP hD hS hA pm_all pm_all' (fun H locs hP hD hS => ?_)
      exact xiret hx hb hr hlk hP hD hS (show gX6_join f a1 a2 = (gX6_of f a1.toNatClampNeg 0) from (Eq.trans (if_neg c_5) (Eq.trans (if_pos c_11_0) rfl))).symm rfl dX6_join_78
    by_cases c_11_1 : a2 = 1
    · --1
      refine lv_tableIn (tgt := 72) (off := 61) hx hb dX6_join_11 (by rw [c_11_1]; decide) (by rw [c_11_1]; decide) (by rw [c_11_1]; decide) (by decide) ?_
      refine lv_aload_n hx hb dX6_join_72 rfl (lv_at hl 0 rfl) ?_
      refine lv_iload_n hx hb dX6_join_73 rfl (lv_at hl 1 rfl) ?_
      refine lv_iload_n hx hb dX6_join_74 rfl (lv_at hl 2 rfl) ?_
      refine xreti (va_runV (As := [.int a1, .int a2]) (rest := []) ⟨hx, hb, hml, hown, hts⟩ (mX6_of l D ck ma M f a1 a1.toNatClampNeg hjx (by omega) a2 1 c_11_1 (by omega)  _) (cwV 2 hts gX6_join_X6_of rfl rfl rfl (by decide +kernel) ⟨Nat.le_of_ble_eq_true rfl, Nat.le_of_ble_eq_true rfl⟩) (xpreV hN hK hP hD pm_all 0 rfl rfl rfl) rfl rfl hl.1 rfl (lv_room (Nat.le_of_ble_eq_true rfl)) dX6_join_75 ⟨Nat.le_of_ble_eq_true rfl, Nat.le_of_ble_eq_true rfl⟩) hP hD hS hA pm_all pm_all' (fun H locs hP hD hS => ?_)
      exact xiret hx hb hr hlk hP hD hS (show gX6_join f a1 a2 = (gX6_of f a1.toNatClampNeg 1) from (Eq.trans (if_neg c_5) (Eq.trans (if_neg c_11_0) (Eq.trans (if_pos c_11_1) rfl)))).symm rfl dX6_join_78
    by_cases c_11_2 : a2 = 2
    · --2
      refine lv_tableIn (tgt := 72) (off := 61) hx hb dX6_join_11 (by rw [c_11_2]; decide) (by rw [c_11_2]; decide) (by rw [c_11_2]; decide) (by decide) ?_
      refine lv_aload_n hx hb dX6_join_72 rfl (lv_at hl 0 rfl) ?_
      refine lv_iload_n hx hb dX6_join_73 rfl (lv_at hl 1 rfl) ?_
      refine lv_iload_n hx hb dX6_join_74 rfl (lv_at hl 2 rfl) ?_
      refine xreti (va_runV (As := [.int a1, .int a2]) (rest := []) ⟨hx, hb, hml, hown, hts⟩ (mX6_of l D ck ma M f a1 a1.toNatClampNeg hjx (by omega) a2 2 c_11_2 (by omega)  _) (cwV 2 hts gX6_join_X6_of rfl rfl rfl (by decide +kernel) ⟨Nat.le_of_ble_eq_true rfl, Nat.le_of_ble_eq_true rfl⟩) (xpreV hN hK hP hD pm_all 0 rfl rfl rfl) rfl rfl hl.1 rfl (lv_room (Nat.le_of_ble_eq_true rfl)) dX6_join_75 ⟨Nat.le_of_ble_eq_true rfl, Nat.le_of_ble_eq_true rfl⟩) hP hD hS hA pm_all pm_all' (fun H locs hP hD hS => ?_)
      exact xiret hx hb hr hlk hP hD hS (show gX6_join f a1 a2 = (gX6_of f a1.toNatClampNeg 2) from (Eq.trans (if_neg c_5) (Eq.trans (if_neg c_11_0) (Eq.trans (if_neg c_11_1) (Eq.trans (if_pos c_11_2) rfl))))).symm rfl dX6_join_78
    by_cases c_11_3 : a2 = 3
    · --3
      refine lv_tableIn (tgt := 72) (off := 61) hx hb dX6_join_11 (by rw [c_11_3]; decide) (by rw [c_11_3]; decide) (by rw [c_11_3]; decide) (by decide) ?_
      refine lv_aload_n hx hb dX6_join_72 rfl (lv_at hl 0 rfl) ?_
      refine lv_iload_n hx hb dX6_join_73 rfl (lv_at hl 1 rfl) ?_
      refine lv_iload_n hx hb dX6_join_74 rfl (lv_at hl 2 rfl) ?_
      refine xreti (va_runV (As := [.int a1, .int a2]) (rest := []) ⟨hx, hb, hml, hown, hts⟩ (mX6_of l D ck ma M f a1 a1.toNatClampNeg hjx (by omega) a2 3 c_11_3 (by omega)  _) (cwV 2 hts gX6_join_X6_of rfl rfl rfl (by decide +kernel) ⟨Nat.le_of_ble_eq_true rfl, Nat.le_of_ble_eq_true rfl⟩) (xpreV hN hK hP hD pm_all 0 rfl rfl rfl) rfl rfl hl.1 rfl (lv_room (Nat.le_of_ble_eq_true rfl)) dX6_join_75 ⟨Nat.le_of_ble_eq_true rfl, Nat.le_of_ble_eq_true rfl⟩) hP hD hS hA pm_all pm_all' (fun H locs hP hD hS => ?_)
      exact xiret hx hb hr hlk hP hD hS (show gX6_join f a1 a2 = (gX6_of f a1.toNatClampNeg 3) from (Eq.trans (if_neg c_5) (Eq.trans (if_neg c_11_0) (Eq.trans (if_neg c_11_1) (Eq.trans (if_neg c_11_2) (Eq.trans (if_pos c_11_3) rfl)))))).symm rfl dX6_join_78
    by_cases c_11_4 : a2 = 4
    · --4
      refine lv_tableIn (tgt := 79) (off := 68) hx hb dX6_join_11 (by rw [c_11_4]; decide) (by rw [c_11_4]; decide) (by rw [c_11_4]; decide) (by decide) ?_
      refine lv_aload_n hx hb dX6_join_79 rfl (lv_at hl 0 rfl) ?_
      refine lv_iload_n hx hb dX6_join_80 rfl (lv_at hl 1 rfl) ?_
      refine xreti (va_runV (As := [.int a1]) (rest := []) ⟨hx, hb, hml, hown, hts⟩ (mX6_needs l D ck ma M f a1 a1.toNatClampNeg hjx (by omega) hbi _) (cwV 1 hts gX6_join_X6_needs rfl rfl rfl (by decide +kernel) ⟨Nat.le_of_ble_eq_true rfl, Nat.le_of_ble_eq_true rfl⟩) (xpreV hN hK hP hD pm_all 0 rfl rfl rfl) rfl rfl hl.1 rfl (lv_room (Nat.le_of_ble_eq_true rfl)) dX6_join_81 ⟨Nat.le_of_ble_eq_true rfl, Nat.le_of_ble_eq_true rfl⟩) hP hD hS hA pm_all pm_all' (fun H locs hP hD hS => ?_)
      exact xiret hx hb hr hlk hP hD hS (show gX6_join f a1 a2 = (gX6_needs f a1.toNatClampNeg) from (Eq.trans (if_neg c_5) (Eq.trans (if_neg c_11_0) (Eq.trans (if_neg c_11_1) (Eq.trans (if_neg c_11_2) (Eq.trans (if_neg c_11_3) (Eq.trans (if_pos c_11_4) rfl))))))).symm rfl dX6_join_84
    by_cases c_11_5 : a2 = 5
    · --5
      refine lv_tableIn (tgt := 85) (off := 74) hx hb dX6_join_11 (by rw [c_11_5]; decide) (by rw [c_11_5]; decide) (by rw [c_11_5]; decide) (by decide) ?_
      refine lv_aload_n hx hb dX6_join_85 rfl (lv_at hl 0 rfl) ?_
      refine lv_iload_n hx hb dX6_join_86 rfl (lv_at hl 1 rfl) ?_
      refine xreti (va_runV (As := [.int a1]) (rest := []) ⟨hx, hb, hml, hown, hts⟩ (mX6_wants l D ck ma M f a1 a1.toNatClampNeg hjx (by omega) hbi _) (cwV 1 hts gX6_join_X6_wants rfl rfl rfl (by decide +kernel) ⟨Nat.le_of_ble_eq_true rfl, Nat.le_of_ble_eq_true rfl⟩) (xpreV hN hK hP hD pm_all 0 rfl rfl rfl) rfl rfl hl.1 rfl (lv_room (Nat.le_of_ble_eq_true rfl)) dX6_join_87 ⟨Nat.le_of_ble_eq_true rfl, Nat.le_of_ble_eq_true rfl⟩) hP hD hS hA pm_all pm_all' (fun H locs hP hD hS => ?_)
      exact xiret hx hb hr hlk hP hD hS (show gX6_join f a1 a2 = (gX6_wants f a1.toNatClampNeg) from (Eq.trans (if_neg c_5) (Eq.trans (if_neg c_11_0) (Eq.trans (if_neg c_11_1) (Eq.trans (if_neg c_11_2) (Eq.trans (if_neg c_11_3) (Eq.trans (if_neg c_11_4) (Eq.trans (if_pos c_11_5) rfl)))))))).symm rfl dX6_join_90
    by_cases c_11_6 : a2 = 6
    · --6
      refine lv_tableIn (tgt := 91) (off := 80) hx hb dX6_join_11 (by rw [c_11_6]; decide) (by rw [c_11_6]; decide) (by rw [c_11_6]; decide) (by decide) ?_
      refine lv_aload_n hx hb dX6_join_91 rfl (lv_at hl 0 rfl) ?_
      refine lv_iload_n hx hb dX6_join_92 rfl (lv_at hl 1 rfl) ?_
      refine lv_iconst (v := 4) hx hb dX6_join_93 (by decide) ?_
      refine lv_iload_n hx hb dX6_join_94 rfl (lv_at hl 2 rfl) ?_
      refine lv_iadd hx hb dX6_join_95 ?_
      refine lv_bipush (v := 6) hx hb dX6_join_96 (by decide) ?_
      refine lv_isub hx hb dX6_join_98 ?_
      refine xreti (va_runV (As := [.int a1, .int ((4 + a2) - 6)]) (rest := []) ⟨hx, hb, hml, hown, hts⟩ (mX6_of l D ck ma M f a1 a1.toNatClampNeg hjx (by omega) ((4 + a2) - 6) 4 (by rw [c_11_6]; rfl) (by omega)  _) (cwV 2 hts gX6_join_X6_of rfl rfl rfl (by decide +kernel) ⟨Nat.le_of_ble_eq_true rfl, Nat.le_of_ble_eq_true rfl⟩) (xpreV hN hK hP hD pm_all 0 rfl rfl rfl) rfl rfl hl.1 rfl (lv_room (Nat.le_of_ble_eq_true rfl)) dX6_join_99 ⟨Nat.le_of_ble_eq_true rfl, Nat.le_of_ble_eq_true rfl⟩) hP hD hS hA pm_all pm_all' (fun H locs hP hD hS => ?_)
      exact xiret hx hb hr hlk hP hD hS (show gX6_join f a1 a2 = (gX6_of f a1.toNatClampNeg 4) from (Eq.trans (if_neg c_5) (Eq.trans (if_neg c_11_0) (Eq.trans (if_neg c_11_1) (Eq.trans (if_neg c_11_2) (Eq.trans (if_neg c_11_3) (Eq.trans (if_neg c_11_4) (Eq.trans (if_neg c_11_5) (Eq.trans (if_pos c_11_6) rfl))))))))).symm rfl dX6_join_102
    by_cases c_11_7 : a2 = 7
    · --7
      refine lv_tableIn (tgt := 91) (off := 80) hx hb dX6_join_11 (by rw [c_11_7]; decide) (by rw [c_11_7]; decide) (by rw [c_11_7]; decide) (by decide) ?_
      refine lv_aload_n hx hb dX6_join_91 rfl (lv_at hl 0 rfl) ?_
      refine lv_iload_n hx hb dX6_join_92 rfl (lv_at hl 1 rfl) ?_
      refine lv_iconst (v := 4) hx hb dX6_join_93 (by decide) ?_
      refine lv_iload_n hx hb dX6_join_94 rfl (lv_at hl 2 rfl) ?_
      refine lv_iadd hx hb dX6_join_95 ?_
      refine lv_bipush (v := 6) hx hb dX6_join_96 (by decide) ?_
      refine lv_isub hx hb dX6_join_98 ?_
      refine xreti (va_runV (As := [.int a1, .int ((4 + a2) - 6)]) (rest := []) ⟨hx, hb, hml, hown, hts⟩ (mX6_of l D ck ma M f a1 a1.toNatClampNeg hjx (by omega) ((4 + a2) - 6) 5 (by rw [c_11_7]; rfl) (by omega)  _) (cwV 2 hts gX6_join_X6_of rfl rfl rfl (by decide +kernel) ⟨Nat.le_of_ble_eq_true rfl, Nat.le_of_ble_eq_true rfl⟩) (xpreV hN hK hP hD pm_all 0 rfl rfl rfl) rfl rfl hl.1 rfl (lv_room (Nat.le_of_ble_eq_true rfl)) dX6_join_99 ⟨Nat.le_of_ble_eq_true rfl, Nat.le_of_ble_eq_true rfl⟩) hP hD hS hA pm_all pm_all' (fun H locs hP hD hS => ?_)
      exact xiret hx hb hr hlk hP hD hS (show gX6_join f a1 a2 = (gX6_of f a1.toNatClampNeg 5) from (Eq.trans (if_neg c_5) (Eq.trans (if_neg c_11_0) (Eq.trans (if_neg c_11_1) (Eq.trans (if_neg c_11_2) (Eq.trans (if_neg c_11_3) (Eq.trans (if_neg c_11_4) (Eq.trans (if_neg c_11_5) (Eq.trans (if_neg c_11_6) (Eq.trans (if_pos c_11_7) rfl)))))))))).symm rfl dX6_join_102
    by_cases c_11_8 : a2 = 8
    · --8
      refine lv_tableIn (tgt := 91) (off := 80) hx hb dX6_join_11 (by rw [c_11_8]; decide) (by rw [c_11_8]; decide) (by rw [c_11_8]; decide) (by decide) ?_
      refine lv_aload_n hx hb dX6_join_91 rfl (lv_at hl 0 rfl) ?_
      refine lv_iload_n hx hb dX6_join_92 rfl (lv_at hl 1 rfl) ?_
      refine lv_iconst (v := 4) hx hb dX6_join_93 (by decide) ?_
      refine lv_iload_n hx hb dX6_join_94 rfl (lv_at hl 2 rfl) ?_
      refine lv_iadd hx hb dX6_join_95 ?_
      refine lv_bipush (v := 6) hx hb dX6_join_96 (by decide) ?_
      refine lv_isub hx hb dX6_join_98 ?_
      refine xreti (va_runV (As := [.int a1, .int ((4 + a2) - 6)]) (rest := []) ⟨hx, hb, hml, hown, hts⟩ (mX6_of l D ck ma M f a1 a1.toNatClampNeg hjx (by omega) ((4 + a2) - 6) 6 (by rw [c_11_8]; rfl) (by omega)  _) (cwV 2 hts gX6_join_X6_of rfl rfl rfl (by decide +kernel) ⟨Nat.le_of_ble_eq_true rfl, Nat.le_of_ble_eq_true rfl⟩) (xpreV hN hK hP hD pm_all 0 rfl rfl rfl) rfl rfl hl.1 rfl (lv_room (Nat.le_of_ble_eq_true rfl)) dX6_join_99 ⟨Nat.le_of_ble_eq_true rfl, Nat.le_of_ble_eq_true rfl⟩) hP hD hS hA pm_all pm_all' (fun H locs hP hD hS => ?_)
      exact xiret hx hb hr hlk hP hD hS (show gX6_join f a1 a2 = (gX6_of f a1.toNatClampNeg 6) from (Eq.trans (if_neg c_5) (Eq.trans (if_neg c_11_0) (Eq.trans (if_neg c_11_1) (Eq.trans (if_neg c_11_2) (Eq.trans (if_neg c_11_3) (Eq.trans (if_neg c_11_4) (Eq.trans (if_neg c_11_5) (Eq.trans (if_neg c_11_6) (Eq.trans (if_neg c_11_7) (Eq.trans (if_pos c_11_8) rfl))))))))))).symm rfl dX6_join_102
    by_cases c_11_9 : a2 = 9
    · --9
      refine lv_tableIn (tgt := 91) (off := 80) hx hb dX6_join_11 (by rw [c_11_9]; decide) (by rw [c_11_9]; decide) (by rw [c_11_9]; decide) (by decide) ?_
      refine lv_aload_n hx hb dX6_join_91 rfl (lv_at hl 0 rfl) ?_
      refine lv_iload_n hx hb dX6_join_92 rfl (lv_at hl 1 rfl) ?_
      refine lv_iconst (v := 4) hx hb dX6_join_93 (by decide) ?_
      refine lv_iload_n hx hb dX6_join_94 rfl (lv_at hl 2 rfl) ?_
      refine lv_iadd hx hb dX6_join_95 ?_
      refine lv_bipush (v := 6) hx hb dX6_join_96 (by decide) ?_
      refine lv_isub hx hb dX6_join_98 ?_
      refine xreti (va_runV (As := [.int a1, .int ((4 + a2) - 6)]) (rest := []) ⟨hx, hb, hml, hown, hts⟩ (mX6_of l D ck ma M f a1 a1.toNatClampNeg hjx (by omega) ((4 + a2) - 6) 7 (by rw [c_11_9]; rfl) (by omega)  _) (cwV 2 hts gX6_join_X6_of rfl rfl rfl (by decide +kernel) ⟨Nat.le_of_ble_eq_true rfl, Nat.le_of_ble_eq_true rfl⟩) (xpreV hN hK hP hD pm_all 0 rfl rfl rfl) rfl rfl hl.1 rfl (lv_room (Nat.le_of_ble_eq_true rfl)) dX6_join_99 ⟨Nat.le_of_ble_eq_true rfl, Nat.le_of_ble_eq_true rfl⟩) hP hD hS hA pm_all pm_all' (fun H locs hP hD hS => ?_)
      exact xiret hx hb hr hlk hP hD hS (show gX6_join f a1 a2 = (gX6_of f a1.toNatClampNeg 7) from (Eq.trans (if_neg c_5) (Eq.trans (if_neg c_11_0) (Eq.trans (if_neg c_11_1) (Eq.trans (if_neg c_11_2) (Eq.trans (if_neg c_11_3) (Eq.trans (if_neg c_11_4) (Eq.trans (if_neg c_11_5) (Eq.trans (if_neg c_11_6) (Eq.trans (if_neg c_11_7) (Eq.trans (if_neg c_11_8) (Eq.trans (if_pos c_11_9) rfl)))))))))))).symm rfl dX6_join_102
    by_cases c_11_10 : a2 = 10
    · --10
      refine lv_tableIn (tgt := 91) (off := 80) hx hb dX6_join_11 (by rw [c_11_10]; decide) (by rw [c_11_10]; decide) (by rw [c_11_10]; decide) (by decide) ?_
      refine lv_aload_n hx hb dX6_join_91 rfl (lv_at hl 0 rfl) ?_
      refine lv_iload_n hx hb dX6_join_92 rfl (lv_at hl 1 rfl) ?_
      refine lv_iconst (v := 4) hx hb dX6_join_93 (by decide) ?_
      refine lv_iload_n hx hb dX6_join_94 rfl (lv_at hl 2 rfl) ?_
      refine lv_iadd hx hb dX6_join_95 ?_
      refine lv_bipush (v := 6) hx hb dX6_join_96 (by decide) ?_
      refine lv_isub hx hb dX6_join_98 ?_
      refine xreti (va_runV (As := [.int a1, .int ((4 + a2) - 6)]) (rest := []) ⟨hx, hb, hml, hown, hts⟩ (mX6_of l D ck ma M f a1 a1.toNatClampNeg hjx (by omega) ((4 + a2) - 6) 8 (by rw [c_11_10]; rfl) (by omega)  _) (cwV 2 hts gX6_join_X6_of rfl rfl rfl (by decide +kernel) ⟨Nat.le_of_ble_eq_true rfl, Nat.le_of_ble_eq_true rfl⟩) (xpreV hN hK hP hD pm_all 0 rfl rfl rfl) rfl rfl hl.1 rfl (lv_room (Nat.le_of_ble_eq_true rfl)) dX6_join_99 ⟨Nat.le_of_ble_eq_true rfl, Nat.le_of_ble_eq_true rfl⟩) hP hD hS hA pm_all pm_all' (fun H locs hP hD hS => ?_)
      exact xiret hx hb hr hlk hP hD hS (show gX6_join f a1 a2 = (gX6_of f a1.toNatClampNeg 8) from (Eq.trans (if_neg c_5) (Eq.trans (if_neg c_11_0) (Eq.trans (if_neg c_11_1) (Eq.trans (if_neg c_11_2) (Eq.trans (if_neg c_11_3) (Eq.trans (if_neg c_11_4) (Eq.trans (if_neg c_11_5) (Eq.trans (if_neg c_11_6) (Eq.trans (if_neg c_11_7) (Eq.trans (if_neg c_11_8) (Eq.trans (if_neg c_11_9) (Eq.trans (if_pos c_11_10) rfl))))))))))))).symm rfl dX6_join_102
    by_cases c_11_11 : a2 = 11
    · --11
      refine lv_tableIn (tgt := 103) (off := 92) hx hb dX6_join_11 (by rw [c_11_11]; decide) (by rw [c_11_11]; decide) (by rw [c_11_11]; decide) (by decide) ?_
      refine lv_aload_n hx hb dX6_join_103 rfl (lv_at hl 0 rfl) ?_
      refine lv_iload_n hx hb dX6_join_104 rfl (lv_at hl 1 rfl) ?_
      refine xreti (va_runV (As := [.int a1]) (rest := []) ⟨hx, hb, hml, hown, hts⟩ (mX6_spills l D ck ma M f a1 a1.toNatClampNeg hjx (by omega) hbi _) (cwV 1 hts gX6_join_X6_spills rfl rfl rfl (by decide +kernel) ⟨Nat.le_of_ble_eq_true rfl, Nat.le_of_ble_eq_true rfl⟩) (xpreV hN hK hP hD pm_all 0 rfl rfl rfl) rfl rfl hl.1 rfl (lv_room (Nat.le_of_ble_eq_true rfl)) dX6_join_105 ⟨Nat.le_of_ble_eq_true rfl, Nat.le_of_ble_eq_true rfl⟩) hP hD hS hA pm_all pm_all' (fun H locs hP hD hS => ?_)
      refine lv_if_eq (tgt := 115) hx hb dX6_join_108 (by decide) (fun c_108 => ?_) (fun c_108 => ?_)
      · --t
        refine lv_iconst (v := 0) hx hb dX6_join_115 (by decide) ?_
        exact xiret hx hb hr hlk hP hD hS (show gX6_join f a1 a2 = 0 from (Eq.trans (if_neg c_5) (Eq.trans (if_neg c_11_0) (Eq.trans (if_neg c_11_1) (Eq.trans (if_neg c_11_2) (Eq.trans (if_neg c_11_3) (Eq.trans (if_neg c_11_4) (Eq.trans (if_neg c_11_5) (Eq.trans (if_neg c_11_6) (Eq.trans (if_neg c_11_7) (Eq.trans (if_neg c_11_8) (Eq.trans (if_neg c_11_9) (Eq.trans (if_neg c_11_10) (Eq.trans (if_pos c_11_11) (Eq.trans (if_pos c_108) rfl))))))))))))))).symm rfl dX6_join_116
      · --f
        refine lv_iconst (v := 1) hx hb dX6_join_111 (by decide) ?_
        refine lv_goto (tgt := 116) hx hb dX6_join_112 (by decide) ?_
        exact xiret hx hb hr hlk hP hD hS (show gX6_join f a1 a2 = 1 from (Eq.trans (if_neg c_5) (Eq.trans (if_neg c_11_0) (Eq.trans (if_neg c_11_1) (Eq.trans (if_neg c_11_2) (Eq.trans (if_neg c_11_3) (Eq.trans (if_neg c_11_4) (Eq.trans (if_neg c_11_5) (Eq.trans (if_neg c_11_6) (Eq.trans (if_neg c_11_7) (Eq.trans (if_neg c_11_8) (Eq.trans (if_neg c_11_9) (Eq.trans (if_neg c_11_10) (Eq.trans (if_pos c_11_11) (Eq.trans (if_neg c_108) rfl))))))))))))))).symm rfl dX6_join_116
    have z_c_11_0 : (a2).toInt ≠ 0 := fun e => c_11_0 (Int32.toInt_inj.mp e)
    have z_c_11_1 : (a2).toInt ≠ 1 := fun e => c_11_1 (Int32.toInt_inj.mp e)
    have z_c_11_2 : (a2).toInt ≠ 2 := fun e => c_11_2 (Int32.toInt_inj.mp e)
    have z_c_11_3 : (a2).toInt ≠ 3 := fun e => c_11_3 (Int32.toInt_inj.mp e)
    have z_c_11_4 : (a2).toInt ≠ 4 := fun e => c_11_4 (Int32.toInt_inj.mp e)
    have z_c_11_5 : (a2).toInt ≠ 5 := fun e => c_11_5 (Int32.toInt_inj.mp e)
    have z_c_11_6 : (a2).toInt ≠ 6 := fun e => c_11_6 (Int32.toInt_inj.mp e)
    have z_c_11_7 : (a2).toInt ≠ 7 := fun e => c_11_7 (Int32.toInt_inj.mp e)
    have z_c_11_8 : (a2).toInt ≠ 8 := fun e => c_11_8 (Int32.toInt_inj.mp e)
    have z_c_11_9 : (a2).toInt ≠ 9 := fun e => c_11_9 (Int32.toInt_inj.mp e)
    have z_c_11_10 : (a2).toInt ≠ 10 := fun e => c_11_10 (Int32.toInt_inj.mp e)
    have z_c_11_11 : (a2).toInt ≠ 11 := fun e => c_11_11 (Int32.toInt_inj.mp e)
    refine lv_tableOut (tgt := 117) hx hb dX6_join_11 (by omega) (by decide) ?_
    refine lv_bipush (v := (-2)) hx hb dX6_join_117 (by decide) ?_
    exact xiret hx hb hr hlk hP hD hS (show gX6_join f a1 a2 = (-2) from (Eq.trans (if_neg c_5) (Eq.trans (if_neg c_11_0) (Eq.trans (if_neg c_11_1) (Eq.trans (if_neg c_11_2) (Eq.trans (if_neg c_11_3) (Eq.trans (if_neg c_11_4) (Eq.trans (if_neg c_11_5) (Eq.trans (if_neg c_11_6) (Eq.trans (if_neg c_11_7) (Eq.trans (if_neg c_11_8) (Eq.trans (if_neg c_11_9) (Eq.trans (if_neg c_11_10) (Eq.trans (if_neg c_11_11) rfl)))))))))))))).symm rfl dX6_join_119
  · --f
    refine lv_iconst (v := (-1)) hx hb dX6_join_8 (by decide) ?_
    exact xiret hx hb hr hlk hP hD hS (show gX6_join f a1 a2 = (-1) from (Eq.trans (if_pos c_5) rfl)).symm rfl dX6_join_9

def rmX6_queue : Room := { frames := 6, cells := 0, slots := 0, locals := 132 }
set_option maxHeartbeats 4000000 in
set_option maxRecDepth 100000 in
theorem mX6_queue (l : Launch) (D : va_G) (ck : Nat → ClassId) (ma : Nat → Nat) (M : FS) (f : FS) (a1 : Int32) (hm : mInv f) : xMi l yX6_queue wsX6_queue rmX6_queue D ck [.ref (ma 0), .int a1] (coreW ck ma M f) (coreW ck ma M f) (gX6_queue f a1) 0 0 := by
  refine xMet (by decide) rfl (Nat.le_of_ble_eq_true rfl) ?_
  intro zp ze s zm zb zt zc hx hb hr hml hown hts hlk hnm hN hK hP hD ls hl
  have hown : s.vm.findClass RX6 = some zm.cls := hown
  have hl : lv_has ls 2 [(0, .ref (ma 0)), (1, .int a1)] := hl
  have hS : va_S (va_A (coreW ck ma M f) s.heap.size) s.heap s.heap [] := va_S.rf
  have hA : ∀ zq : Nat, s.heap.size ≤ zq → va_A (coreW ck ma M f) s.heap.size zq := fun zq h => Or.inr h
  have hbi : bI f := bI_of hm
  refine lv_iload_n hx hb dX6_queue_0 rfl (lv_at hl 1 rfl) ?_
  refine lv_if_ge (tgt := 9) hx hb dX6_queue_1 (by decide) (fun c_1 => ?_) (fun c_1 => ?_)
  · --t
    refine lv_aload_n hx hb dX6_queue_9 rfl (lv_at hl 0 rfl) ?_
    refine lv_iload_n hx hb dX6_queue_10 rfl (lv_at hl 1 rfl) ?_
    refine xreti (va_runV (As := [.int a1]) (rest := []) ⟨hx, hb, hml, hown, hts⟩ (mX6_ranked l D ck ma M f a1 hbi _) (cwV 1 hts gX6_queue_X6_ranked rfl rfl rfl (by decide +kernel) ⟨Nat.le_of_ble_eq_true rfl, Nat.le_of_ble_eq_true rfl⟩) (xpreV hN hK hP hD pm_all 0 rfl rfl rfl) rfl rfl hl.1 rfl (lv_room (Nat.le_of_ble_eq_true rfl)) dX6_queue_11 ⟨Nat.le_of_ble_eq_true rfl, Nat.le_of_ble_eq_true rfl⟩) hP hD hS hA pm_all pm_all' (fun H locs hP hD hS => ?_)
    exact xiret hx hb hr hlk hP hD hS (show gX6_queue f a1 = (gX6_ranked f a1) from (Eq.trans (if_pos c_1) rfl)).symm rfl dX6_queue_14
  · --f
    refine lv_bipush (v := (-2)) hx hb dX6_queue_4 (by decide) ?_
    refine lv_goto (tgt := 14) hx hb dX6_queue_6 (by decide) ?_
    exact xiret hx hb hr hlk hP hD hS (show gX6_queue f a1 = (-2) from (Eq.trans (if_neg c_1) rfl)).symm rfl dX6_queue_14

def rmX6_work : Room := { frames := 4, cells := 0, slots := 0, locals := 93 }
set_option maxHeartbeats 4000000 in
set_option maxRecDepth 100000 in
theorem mX6_work (l : Launch) (D : va_G) (ck : Nat → ClassId) (ma : Nat → Nat) (M : FS) (f : FS) (a1 : Int32) (a2 : Int32) (a3 : Int32) (a4 : Int32) (hm : mInv f) : xMi l yX6_work wsX6_work rmX6_work D ck [.ref (ma 0), .int a1, .int a2, .int a3, .int a4] (coreW ck ma M f) (coreW ck ma M f) (gX6_work f a1 a2 a3 a4) 0 0 := by
  refine xMet (by decide) rfl (Nat.le_of_ble_eq_true rfl) ?_
  intro zp ze s zm zb zt zc hx hb hr hml hown hts hlk hnm hN hK hP hD ls hl
  have hown : s.vm.findClass RX6 = some zm.cls := hown
  have hl : lv_has ls 5 [(0, .ref (ma 0)), (1, .int a1), (2, .int a2), (3, .int a3), (4, .int a4)] := hl
  have hS : va_S (va_A (coreW ck ma M f) s.heap.size) s.heap s.heap [] := va_S.rf
  have hA : ∀ zq : Nat, s.heap.size ≤ zq → va_A (coreW ck ma M f) s.heap.size zq := fun zq h => Or.inr h
  have hbi : bI f := bI_of hm
  refine lv_iload_n hx hb dX6_work_0 rfl (lv_at hl 1 rfl) ?_
  refine lv_i2l (v := (a1).toInt64) hx hb dX6_work_1 rfl ?_
  refine lv_lconst (v := 0) hx hb dX6_work_2 (by decide) ?_
  refine lv_ldc2 (v := 2) hx hb hown (hts (.constantLong RX6 124 (2)) (List.mem_of_getElem? (i := 1) rfl)) dX6_work_3 ?_
  refine xreti (va_runS (As := [.long ((a1).toInt64), .long 0, .long 2]) (rest := []) ⟨hx, hb, hml, hown, hts⟩ (mX6_in l D ck ((a1).toInt64) 0 2  _) (va_cwS 3 hts gX6_work_X6_in rfl rfl rfl (by decide +kernel) ⟨Nat.le_of_ble_eq_true rfl, Nat.le_of_ble_eq_true rfl⟩) (xpreS hN hK hP hD pm_none) rfl rfl hl.1 rfl (lv_room (Nat.le_of_ble_eq_true rfl)) dX6_work_6 ⟨Nat.le_of_ble_eq_true rfl, Nat.le_of_ble_eq_true rfl⟩) hP hD hS hA pm_none pm_none (fun H locs hP hD hS => ?_)
  refine lv_if_eq (tgt := 41) hx hb dX6_work_9 (by decide) (fun c_9 => ?_) (fun c_9 => ?_)
  · --t
    refine lv_bipush (v := (-2)) hx hb dX6_work_41 (by decide) ?_
    exact xiret hx hb hr hlk hP hD hS (show gX6_work f a1 a2 a3 a4 = (-2) from (Eq.trans (if_pos c_9) rfl)).symm rfl dX6_work_43
  · --f
    refine lv_iload_n hx hb dX6_work_12 rfl (lv_at hl 2 rfl) ?_
    refine xreti (va_runS (As := [.int a2]) (rest := []) ⟨hx, hb, hml, hown, hts⟩ (mX6_isTable l D ck a2  _) (va_cwS 1 hts gX6_work_X6_isTable rfl rfl rfl (by decide +kernel) ⟨Nat.le_of_ble_eq_true rfl, Nat.le_of_ble_eq_true rfl⟩) (xpreS hN hK hP hD pm_none) rfl rfl hl.1 rfl (lv_room (Nat.le_of_ble_eq_true rfl)) dX6_work_13 ⟨Nat.le_of_ble_eq_true rfl, Nat.le_of_ble_eq_true rfl⟩) hP hD hS hA pm_none pm_none (fun H locs hP hD hS => ?_)
    refine lv_if_eq (tgt := 41) hx hb dX6_work_16 (by decide) (fun c_16 => ?_) (fun c_16 => ?_)
    · --t
      refine lv_bipush (v := (-2)) hx hb dX6_work_41 (by decide) ?_
      exact xiret hx hb hr hlk hP hD hS (show gX6_work f a1 a2 a3 a4 = (-2) from (Eq.trans (if_neg c_9) (Eq.trans (if_pos c_16) rfl))).symm rfl dX6_work_43
    · --f
      refine lv_iload_n hx hb dX6_work_19 rfl (lv_at hl 3 rfl) ?_
      refine xreti (va_runS (As := [.int a3]) (rest := []) ⟨hx, hb, hml, hown, hts⟩ (mX6_isTable l D ck a3  _) (va_cwS 1 hts gX6_work_X6_isTable rfl rfl rfl (by decide +kernel) ⟨Nat.le_of_ble_eq_true rfl, Nat.le_of_ble_eq_true rfl⟩) (xpreS hN hK hP hD pm_none) rfl rfl hl.1 rfl (lv_room (Nat.le_of_ble_eq_true rfl)) dX6_work_20 ⟨Nat.le_of_ble_eq_true rfl, Nat.le_of_ble_eq_true rfl⟩) hP hD hS hA pm_none pm_none (fun H locs hP hD hS => ?_)
      refine lv_if_eq (tgt := 41) hx hb dX6_work_23 (by decide) (fun c_23 => ?_) (fun c_23 => ?_)
      · --t
        refine lv_bipush (v := (-2)) hx hb dX6_work_41 (by decide) ?_
        exact xiret hx hb hr hlk hP hD hS (show gX6_work f a1 a2 a3 a4 = (-2) from (Eq.trans (if_neg c_9) (Eq.trans (if_neg c_16) (Eq.trans (if_pos c_23) rfl)))).symm rfl dX6_work_43
      · --f
        refine lv_iload hx hb dX6_work_26 (lv_at hl 4 rfl) ?_
        refine lv_i2l (v := (a4).toInt64) hx hb dX6_work_28 rfl ?_
        refine lv_ldc2 (v := 3) hx hb hown (hts (.constantLong RX6 189 (3)) (List.mem_of_getElem? (i := 2) rfl)) dX6_work_29 ?_
        refine lv_ldc2 (v := 500) hx hb hown (hts (.constantLong RX6 148 (500)) (List.mem_of_getElem? (i := 3) rfl)) dX6_work_32 ?_
        refine xreti (va_runS (As := [.long ((a4).toInt64), .long 3, .long 500]) (rest := []) ⟨hx, hb, hml, hown, hts⟩ (mX6_in l D ck ((a4).toInt64) 3 500  _) (va_cwS 3 hts gX6_work_X6_in rfl rfl rfl (by decide +kernel) ⟨Nat.le_of_ble_eq_true rfl, Nat.le_of_ble_eq_true rfl⟩) (xpreS hN hK hP hD pm_none) rfl rfl hl.1 rfl (lv_room (Nat.le_of_ble_eq_true rfl)) dX6_work_35 ⟨Nat.le_of_ble_eq_true rfl, Nat.le_of_ble_eq_true rfl⟩) hP hD hS hA pm_none pm_none (fun H locs hP hD hS => ?_)
        refine lv_if_ne (tgt := 44) hx hb dX6_work_38 (by decide) (fun c_38 => ?_) (fun c_38 => ?_)
        · --t
          refine lv_iload_n hx hb dX6_work_44 rfl (lv_at hl 1 rfl) ?_
          refine lv_iload_n hx hb dX6_work_45 rfl (lv_at hl 2 rfl) ?_
          refine lv_iload_n hx hb dX6_work_46 rfl (lv_at hl 3 rfl) ?_
          refine xreti (va_runS (As := [.int a1, .int a2, .int a3]) (rest := []) ⟨hx, hb, hml, hown, hts⟩ (mX6_needsOf l D ck a1 a2 a3 (t2_in c_16) (t2_in c_23) _) (va_cwS 3 hts gX6_work_X6_needsOf rfl rfl rfl (by decide +kernel) ⟨Nat.le_of_ble_eq_true rfl, Nat.le_of_ble_eq_true rfl⟩) (xpreS hN hK hP hD pm_none) rfl rfl hl.1 rfl (lv_room (Nat.le_of_ble_eq_true rfl)) dX6_work_47 ⟨Nat.le_of_ble_eq_true rfl, Nat.le_of_ble_eq_true rfl⟩) hP hD hS hA pm_none pm_none (fun H locs hP hD hS => ?_)
          refine lv_iload hx hb dX6_work_50 (lv_at hl 4 rfl) ?_
          refine lv_icmp_le (tgt := 60) hx hb dX6_work_52 (by decide) (fun c_52 => ?_) (fun c_52 => ?_)
          · --t
            refine lv_iload_n hx hb dX6_work_60 rfl (lv_at hl 1 rfl) ?_
            refine lv_iload_n hx hb dX6_work_61 rfl (lv_at hl 2 rfl) ?_
            refine lv_iload_n hx hb dX6_work_62 rfl (lv_at hl 3 rfl) ?_
            refine lv_iload hx hb dX6_work_63 (lv_at hl 4 rfl) ?_
            refine xreti (va_runS (As := [.int a1, .int a2, .int a3, .int a4]) (rest := []) ⟨hx, hb, hml, hown, hts⟩ (mX6_workOf l D ck a1 a2 a3 a4 (t2_in c_16) (t2_in c_23) (pg_in c_38) _) (va_cwS 4 hts gX6_work_X6_workOf rfl rfl rfl (by decide +kernel) ⟨Nat.le_of_ble_eq_true rfl, Nat.le_of_ble_eq_true rfl⟩) (xpreS hN hK hP hD pm_none) rfl rfl hl.1 rfl (lv_room (Nat.le_of_ble_eq_true rfl)) dX6_work_65 ⟨Nat.le_of_ble_eq_true rfl, Nat.le_of_ble_eq_true rfl⟩) hP hD hS hA pm_none pm_none (fun H locs hP hD hS => ?_)
            exact xiret hx hb hr hlk hP hD hS (show gX6_work f a1 a2 a3 a4 = (gX6_workOf a1 a2 a3 a4) from (Eq.trans (if_neg c_9) (Eq.trans (if_neg c_16) (Eq.trans (if_neg c_23) (Eq.trans (if_neg c_38) (Eq.trans (if_pos c_52) rfl)))))).symm rfl dX6_work_68
          · --f
            refine lv_bipush (v := (-5)) hx hb dX6_work_55 (by decide) ?_
            refine lv_goto (tgt := 68) hx hb dX6_work_57 (by decide) ?_
            exact xiret hx hb hr hlk hP hD hS (show gX6_work f a1 a2 a3 a4 = (-5) from (Eq.trans (if_neg c_9) (Eq.trans (if_neg c_16) (Eq.trans (if_neg c_23) (Eq.trans (if_neg c_38) (Eq.trans (if_neg c_52) rfl)))))).symm rfl dX6_work_68
        · --f
          refine lv_bipush (v := (-2)) hx hb dX6_work_41 (by decide) ?_
          exact xiret hx hb hr hlk hP hD hS (show gX6_work f a1 a2 a3 a4 = (-2) from (Eq.trans (if_neg c_9) (Eq.trans (if_neg c_16) (Eq.trans (if_neg c_23) (Eq.trans (if_pos c_38) rfl))))).symm rfl dX6_work_43

def rmX6_bestWay : Room := { frames := 4, cells := 0, slots := 0, locals := 93 }
set_option maxHeartbeats 4000000 in
set_option maxRecDepth 100000 in
theorem mX6_bestWay (l : Launch) (D : va_G) (ck : Nat → ClassId) (ma : Nat → Nat) (M : FS) (f : FS) (a1 : Int32) (a2 : Int32) (a3 : Int32) (hm : mInv f) : xMi l yX6_bestWay wsX6_bestWay rmX6_bestWay D ck [.ref (ma 0), .int a1, .int a2, .int a3] (coreW ck ma M f) (coreW ck ma M f) (gX6_bestWay f a1 a2 a3) 0 0 := by
  refine xMet (by decide) rfl (Nat.le_of_ble_eq_true rfl) ?_
  intro zp ze s zm zb zt zc hx hb hr hml hown hts hlk hnm hN hK hP hD ls hl
  have hown : s.vm.findClass RX6 = some zm.cls := hown
  have hl : lv_has ls 7 [(0, .ref (ma 0)), (1, .int a1), (2, .int a2), (3, .int a3)] := hl
  have hS : va_S (va_A (coreW ck ma M f) s.heap.size) s.heap s.heap [] := va_S.rf
  have hA : ∀ zq : Nat, s.heap.size ≤ zq → va_A (coreW ck ma M f) s.heap.size zq := fun zq h => Or.inr h
  have hbi : bI f := bI_of hm
  refine lv_iload_n hx hb dX6_bestWay_0 rfl (lv_at hl 1 rfl) ?_
  refine xreti (va_runS (As := [.int a1]) (rest := []) ⟨hx, hb, hml, hown, hts⟩ (mX6_isTable l D ck a1  _) (va_cwS 1 hts gX6_bestWay_X6_isTable rfl rfl rfl (by decide +kernel) ⟨Nat.le_of_ble_eq_true rfl, Nat.le_of_ble_eq_true rfl⟩) (xpreS hN hK hP hD pm_none) rfl rfl hl.1 rfl (lv_room (Nat.le_of_ble_eq_true rfl)) dX6_bestWay_1 ⟨Nat.le_of_ble_eq_true rfl, Nat.le_of_ble_eq_true rfl⟩) hP hD hS hA pm_none pm_none (fun H locs hP hD hS => ?_)
  refine lv_if_eq (tgt := 28) hx hb dX6_bestWay_4 (by decide) (fun c_4 => ?_) (fun c_4 => ?_)
  · --t
    refine lv_bipush (v := (-2)) hx hb dX6_bestWay_28 (by decide) ?_
    exact xiret hx hb hr hlk hP hD hS (show gX6_bestWay f a1 a2 a3 = (-2) from (Eq.trans (if_pos c_4) rfl)).symm rfl dX6_bestWay_30
  · --f
    refine lv_iload_n hx hb dX6_bestWay_7 rfl (lv_at hl 2 rfl) ?_
    refine xreti (va_runS (As := [.int a2]) (rest := []) ⟨hx, hb, hml, hown, hts⟩ (mX6_isTable l D ck a2  _) (va_cwS 1 hts gX6_bestWay_X6_isTable rfl rfl rfl (by decide +kernel) ⟨Nat.le_of_ble_eq_true rfl, Nat.le_of_ble_eq_true rfl⟩) (xpreS hN hK hP hD pm_none) rfl rfl hl.1 rfl (lv_room (Nat.le_of_ble_eq_true rfl)) dX6_bestWay_8 ⟨Nat.le_of_ble_eq_true rfl, Nat.le_of_ble_eq_true rfl⟩) hP hD hS hA pm_none pm_none (fun H locs hP hD hS => ?_)
    refine lv_if_eq (tgt := 28) hx hb dX6_bestWay_11 (by decide) (fun c_11 => ?_) (fun c_11 => ?_)
    · --t
      refine lv_bipush (v := (-2)) hx hb dX6_bestWay_28 (by decide) ?_
      exact xiret hx hb hr hlk hP hD hS (show gX6_bestWay f a1 a2 a3 = (-2) from (Eq.trans (if_neg c_4) (Eq.trans (if_pos c_11) rfl))).symm rfl dX6_bestWay_30
    · --f
      refine lv_iload_n hx hb dX6_bestWay_14 rfl (lv_at hl 3 rfl) ?_
      refine lv_i2l (v := (a3).toInt64) hx hb dX6_bestWay_15 rfl ?_
      refine lv_ldc2 (v := 3) hx hb hown (hts (.constantLong RX6 189 (3)) (List.mem_of_getElem? (i := 1) rfl)) dX6_bestWay_16 ?_
      refine lv_ldc2 (v := 500) hx hb hown (hts (.constantLong RX6 148 (500)) (List.mem_of_getElem? (i := 2) rfl)) dX6_bestWay_19 ?_
      refine xreti (va_runS (As := [.long ((a3).toInt64), .long 3, .long 500]) (rest := []) ⟨hx, hb, hml, hown, hts⟩ (mX6_in l D ck ((a3).toInt64) 3 500  _) (va_cwS 3 hts gX6_bestWay_X6_in rfl rfl rfl (by decide +kernel) ⟨Nat.le_of_ble_eq_true rfl, Nat.le_of_ble_eq_true rfl⟩) (xpreS hN hK hP hD pm_none) rfl rfl hl.1 rfl (lv_room (Nat.le_of_ble_eq_true rfl)) dX6_bestWay_22 ⟨Nat.le_of_ble_eq_true rfl, Nat.le_of_ble_eq_true rfl⟩) hP hD hS hA pm_none pm_none (fun H locs hP hD hS => ?_)
      refine lv_if_ne (tgt := 31) hx hb dX6_bestWay_25 (by decide) (fun c_25 => ?_) (fun c_25 => ?_)
      · --t
        refine lv_iconst (v := 0) hx hb dX6_bestWay_31 (by decide) ?_
        refine lv_istore (lv' := [(4, .int 0), (0, .ref (ma 0)), (1, .int a1), (2, .int a2), (3, .int a3)]) hx hb dX6_bestWay_32 hl (by decide) rfl (fun ls hl => ?_)
        refine lv_iconst (v := (nI 1)) hx hb dX6_bestWay_34 (by decide) ?_
        refine lv_istore (lv' := [(5, .int (nI 1)), (4, .int 0), (0, .ref (ma 0)), (1, .int a1), (2, .int a2), (3, .int a3)]) hx hb dX6_bestWay_35 hl (by decide) rfl (fun ls hl => ?_)
        have loop37 : ∀ (fu : Nat) (i : Nat) (x4 : Int32), (i + fu = 3) → gX6_bestWay f a1 a2 a3 = gX6_bestWay_L37 f a1 a2 a3 fu i x4 → ∀ (H : Heap) (locs : List Loc) (ls : Array Slot), va_P D vwCl (coreW ck ma M f) H → va_D (va_A (coreW ck ma M f) s.heap.size) (coreW ck ma M f) → va_S (va_A (coreW ck ma M f) s.heap.size) s.heap H locs → lv_has ls 7 [(0, .ref (ma 0)), (1, .int a1), (2, .int a2), (3, .int a3), (4, .int x4), (5, .int (nI i))] → W zp l ze rmX6_bestWay s zm ([.ref (ma 0), .int a1, .int a2, .int a3] : List Value).toArray zb zt zc H locs 0 0 (MQ zb (xQi D (coreW ck ma M f) (coreW ck ma M f) (gX6_bestWay f a1 a2 a3) s.heap.size) ([.ref (ma 0), .int a1, .int a2, .int a3] : List Value).toArray s 0 0 (va_A (coreW ck ma M f) s.heap.size)) (F0 zm 37 ls []) := by
          intro fu
          induction fu with
          | zero =>
            intro i x4 hif hg H locs ls hP hD hS hl
            refine lv_iload hx hb dX6_bestWay_37 (lv_at hl 5 rfl) ?_
            refine lv_iconst (v := (nI 2)) hx hb dX6_bestWay_39 (by decide) ?_
            refine lv_icmp_gt (tgt := 100) hx hb dX6_bestWay_40 (by decide) (fun c_40 => ?_) (fun c_40 => ?_)
            · --t
              refine lv_iload hx hb dX6_bestWay_100 (lv_at hl 4 rfl) ?_
              exact xiret hx hb hr hlk hP hD hS (hg.trans (show gX6_bestWay_L37 f a1 a2 a3 0 i x4 = x4 from rfl)).symm rfl dX6_bestWay_102
            · --f
              exact absurd (nI_lt (by omega) (by omega)) c_40
          | succ fu ih37 =>
            intro i x4 hif hg H locs ls hP hD hS hl
            refine lv_iload hx hb dX6_bestWay_37 (lv_at hl 5 rfl) ?_
            refine lv_iconst (v := (nI 2)) hx hb dX6_bestWay_39 (by decide) ?_
            refine lv_icmp_gt (tgt := 100) hx hb dX6_bestWay_40 (by decide) (fun c_40 => ?_) (fun c_40 => ?_)
            · --t
              exact absurd c_40 (nI_nlt (by omega) (by omega))
            · --f
              refine lv_iload hx hb dX6_bestWay_43 (lv_at hl 5 rfl) ?_
              refine lv_iload_n hx hb dX6_bestWay_45 rfl (lv_at hl 1 rfl) ?_
              refine lv_iload_n hx hb dX6_bestWay_46 rfl (lv_at hl 2 rfl) ?_
              refine xreti (va_runS (As := [.int (nI i), .int a1, .int a2]) (rest := []) ⟨hx, hb, hml, hown, hts⟩ (mX6_needsOf l D ck (nI i) a1 a2 (t2_in c_4) (t2_in c_11) _) (va_cwS 3 hts gX6_bestWay_X6_needsOf rfl rfl rfl (by decide +kernel) ⟨Nat.le_of_ble_eq_true rfl, Nat.le_of_ble_eq_true rfl⟩) (xpreS hN hK hP hD pm_none) rfl rfl hl.1 rfl (lv_room (Nat.le_of_ble_eq_true rfl)) dX6_bestWay_47 ⟨Nat.le_of_ble_eq_true rfl, Nat.le_of_ble_eq_true rfl⟩) hP hD hS hA pm_none pm_none (fun H locs hP hD hS => ?_)
              refine lv_iload_n hx hb dX6_bestWay_50 rfl (lv_at hl 3 rfl) ?_
              refine lv_icmp_gt (tgt := 77) hx hb dX6_bestWay_51 (by decide) (fun c_51 => ?_) (fun c_51 => ?_)
              · --t
                refine lv_iconst (v := 0) hx hb dX6_bestWay_77 (by decide) ?_
                refine lv_istore (lv' := [(6, .int 0), (0, .ref (ma 0)), (1, .int a1), (2, .int a2), (3, .int a3), (4, .int x4), (5, .int (nI i))]) hx hb dX6_bestWay_78 hl (by decide) rfl (fun ls hl => ?_)
                refine lv_iload hx hb dX6_bestWay_80 (lv_at hl 0 rfl) ?_
                refine lv_if_eq (tgt := 90) hx hb dX6_bestWay_82 (by decide) (fun c_82 => ?_) (fun c_82 => ?_)
                · --t
                  refine lv_iload hx hb dX6_bestWay_90 (lv_at hl 5 rfl) ?_
                  refine lv_istore (lv' := [(4, .int x4), (6, .int 0), (0, .ref (ma 0)), (1, .int a1), (2, .int a2), (3, .int a3), (5, .int (nI i))]) hx hb dX6_bestWay_92 hl (by decide) rfl (fun ls hl => ?_)
                  refine lv_iinc (v := (nI (i + 1))) (lv' := [(5, .int (nI (i + 1))), (4, .int x4), (6, .int 0), (0, .ref (ma 0)), (1, .int a1), (2, .int a2), (3, .int a3)]) hx hb dX6_bestWay_94 hl (k := 6) rfl (nI_1 i) (by decide) rfl (fun ls hl => ?_)
                  refine lv_goto (tgt := 37) hx hb dX6_bestWay_97 (by decide) ?_
                  exact ih37 (i + 1) x4 (by omega) (hg.trans (show gX6_bestWay_L37 f a1 a2 a3 (fu + 1) i x4 = (gX6_bestWay_L37 f a1 a2 a3 fu (i + 1) x4) from (Eq.trans (if_pos c_51) rfl))) _ _ _ hP hD hS (lv_sub hl [3, 4, 5, 6, 1, 0] rfl)
                · --f
                  exact absurd (by decide) c_82
              · --f
                refine lv_iload hx hb dX6_bestWay_54 (lv_at hl 5 rfl) ?_
                refine lv_iload_n hx hb dX6_bestWay_56 rfl (lv_at hl 1 rfl) ?_
                refine lv_iload_n hx hb dX6_bestWay_57 rfl (lv_at hl 2 rfl) ?_
                refine lv_iload_n hx hb dX6_bestWay_58 rfl (lv_at hl 3 rfl) ?_
                refine xreti (va_runS (As := [.int (nI i), .int a1, .int a2, .int a3]) (rest := []) ⟨hx, hb, hml, hown, hts⟩ (mX6_workOf l D ck (nI i) a1 a2 a3 (t2_in c_4) (t2_in c_11) (pg_in c_25) _) (va_cwS 4 hts gX6_bestWay_X6_workOf rfl rfl rfl (by decide +kernel) ⟨Nat.le_of_ble_eq_true rfl, Nat.le_of_ble_eq_true rfl⟩) (xpreS hN hK hP hD pm_none) rfl rfl hl.1 rfl (lv_room (Nat.le_of_ble_eq_true rfl)) dX6_bestWay_59 ⟨Nat.le_of_ble_eq_true rfl, Nat.le_of_ble_eq_true rfl⟩) hP hD hS hA pm_none pm_none (fun H locs hP hD hS => ?_)
                refine lv_iload hx hb dX6_bestWay_62 (lv_at hl 4 rfl) ?_
                refine lv_iload_n hx hb dX6_bestWay_64 rfl (lv_at hl 1 rfl) ?_
                refine lv_iload_n hx hb dX6_bestWay_65 rfl (lv_at hl 2 rfl) ?_
                refine lv_iload_n hx hb dX6_bestWay_66 rfl (lv_at hl 3 rfl) ?_
                refine xreti (va_runS (As := [.int x4, .int a1, .int a2, .int a3]) (rest := [.int (gX6_workOf (nI i) a1 a2 a3)]) ⟨hx, hb, hml, hown, hts⟩ (mX6_workOf l D ck x4 a1 a2 a3 (t2_in c_4) (t2_in c_11) (pg_in c_25) _) (va_cwS 4 hts gX6_bestWay_X6_workOf rfl rfl rfl (by decide +kernel) ⟨Nat.le_of_ble_eq_true rfl, Nat.le_of_ble_eq_true rfl⟩) (xpreS hN hK hP hD pm_none) rfl rfl hl.1 rfl (lv_room (Nat.le_of_ble_eq_true rfl)) dX6_bestWay_67 ⟨Nat.le_of_ble_eq_true rfl, Nat.le_of_ble_eq_true rfl⟩) hP hD hS hA pm_none pm_none (fun H locs hP hD hS => ?_)
                refine lv_icmp_ge (tgt := 77) hx hb dX6_bestWay_70 (by decide) (fun c_70 => ?_) (fun c_70 => ?_)
                · --t
                  refine lv_iconst (v := 0) hx hb dX6_bestWay_77 (by decide) ?_
                  refine lv_istore (lv' := [(6, .int 0), (0, .ref (ma 0)), (1, .int a1), (2, .int a2), (3, .int a3), (4, .int x4), (5, .int (nI i))]) hx hb dX6_bestWay_78 hl (by decide) rfl (fun ls hl => ?_)
                  refine lv_iload hx hb dX6_bestWay_80 (lv_at hl 0 rfl) ?_
                  refine lv_if_eq (tgt := 90) hx hb dX6_bestWay_82 (by decide) (fun c_82 => ?_) (fun c_82 => ?_)
                  · --t
                    refine lv_iload hx hb dX6_bestWay_90 (lv_at hl 5 rfl) ?_
                    refine lv_istore (lv' := [(4, .int x4), (6, .int 0), (0, .ref (ma 0)), (1, .int a1), (2, .int a2), (3, .int a3), (5, .int (nI i))]) hx hb dX6_bestWay_92 hl (by decide) rfl (fun ls hl => ?_)
                    refine lv_iinc (v := (nI (i + 1))) (lv' := [(5, .int (nI (i + 1))), (4, .int x4), (6, .int 0), (0, .ref (ma 0)), (1, .int a1), (2, .int a2), (3, .int a3)]) hx hb dX6_bestWay_94 hl (k := 6) rfl (nI_1 i) (by decide) rfl (fun ls hl => ?_)
                    refine lv_goto (tgt := 37) hx hb dX6_bestWay_97 (by decide) ?_
                    exact ih37 (i + 1) x4 (by omega) (hg.trans (show gX6_bestWay_L37 f a1 a2 a3 (fu + 1) i x4 = (gX6_bestWay_L37 f a1 a2 a3 fu (i + 1) x4) from (Eq.trans (if_neg c_51) (Eq.trans (if_pos c_70) rfl)))) _ _ _ hP hD hS (lv_sub hl [3, 4, 5, 6, 1, 0] rfl)
                  · --f
                    exact absurd (by decide) c_82
                · --f
                  refine lv_iconst (v := 1) hx hb dX6_bestWay_73 (by decide) ?_
                  refine lv_goto (tgt := 78) hx hb dX6_bestWay_74 (by decide) ?_
                  refine lv_istore (lv' := [(6, .int 1), (0, .ref (ma 0)), (1, .int a1), (2, .int a2), (3, .int a3), (4, .int x4), (5, .int (nI i))]) hx hb dX6_bestWay_78 hl (by decide) rfl (fun ls hl => ?_)
                  refine lv_iload hx hb dX6_bestWay_80 (lv_at hl 0 rfl) ?_
                  refine lv_if_eq (tgt := 90) hx hb dX6_bestWay_82 (by decide) (fun c_82 => ?_) (fun c_82 => ?_)
                  · --t
                    exact absurd c_82 (by decide)
                  · --f
                    refine lv_iload hx hb dX6_bestWay_85 (lv_at hl 6 rfl) ?_
                    refine lv_goto (tgt := 92) hx hb dX6_bestWay_87 (by decide) ?_
                    refine lv_istore (lv' := [(4, .int (nI i)), (6, .int 1), (0, .ref (ma 0)), (1, .int a1), (2, .int a2), (3, .int a3), (5, .int (nI i))]) hx hb dX6_bestWay_92 hl (by decide) rfl (fun ls hl => ?_)
                    refine lv_iinc (v := (nI (i + 1))) (lv' := [(5, .int (nI (i + 1))), (4, .int (nI i)), (6, .int 1), (0, .ref (ma 0)), (1, .int a1), (2, .int a2), (3, .int a3)]) hx hb dX6_bestWay_94 hl (k := 6) rfl (nI_1 i) (by decide) rfl (fun ls hl => ?_)
                    refine lv_goto (tgt := 37) hx hb dX6_bestWay_97 (by decide) ?_
                    exact ih37 (i + 1) (nI i) (by omega) (hg.trans (show gX6_bestWay_L37 f a1 a2 a3 (fu + 1) i x4 = (gX6_bestWay_L37 f a1 a2 a3 fu (i + 1) (nI i)) from (Eq.trans (if_neg c_51) (Eq.trans (if_neg c_70) rfl)))) _ _ _ hP hD hS (lv_sub hl [3, 4, 5, 6, 1, 0] rfl)
        exact loop37 2 1 0 (by omega) (show gX6_bestWay f a1 a2 a3 = (gX6_bestWay_L37 f a1 a2 a3 2 1 0) from (Eq.trans (if_neg c_4) (Eq.trans (if_neg c_11) (Eq.trans (if_neg c_25) rfl)))) _ _ _ hP hD hS (lv_sub hl [2, 3, 4, 5, 1, 0] rfl)
      · --f
        refine lv_bipush (v := (-2)) hx hb dX6_bestWay_28 (by decide) ?_
        exact xiret hx hb hr hlk hP hD hS (show gX6_bestWay f a1 a2 a3 = (-2) from (Eq.trans (if_neg c_4) (Eq.trans (if_neg c_11) (Eq.trans (if_pos c_25) rfl)))).symm rfl dX6_bestWay_30

def rmX6_count : Room := { frames := 6, cells := 0, slots := 0, locals := 131 }
set_option maxHeartbeats 4000000 in
set_option maxRecDepth 100000 in
theorem mX6_count (l : Launch) (D : va_G) (ck : Nat → ClassId) (ma : Nat → Nat) (M f : FS) (a1 : Int32) (hm : mInv f) : xMi l yX6_count wsX6_count rmX6_count D ck [.ref (ma 0), .int a1] (coreW ck ma M f) (coreW ck ma M f) (gX6_count M f a1) 0 0 := by
  refine xMet (by decide) rfl (Nat.le_of_ble_eq_true rfl) ?_
  intro zp ze s zm zb zt zc hx hb hr hml hown hts hlk hnm hN hK hP hD ls hl
  have hown : s.vm.findClass RX6 = some zm.cls := hown
  have hl : lv_has ls 2 [(0, .ref (ma 0)), (1, .int a1)] := hl
  have hS : va_S (va_A (coreW ck ma M f) s.heap.size) s.heap s.heap [] := va_S.rf
  have hA : ∀ zq : Nat, s.heap.size ≤ zq → va_A (coreW ck ma M f) s.heap.size zq := fun zq h => Or.inr h
  have hinX6 : ∀ w ∈ u_ws RX6 TX6 13, w ∈ wsX6_count := by decide +kernel
  have hbi : bI f := bI_of hm
  refine lv_iload_n hx hb dX6_count_0 rfl (lv_at hl 1 rfl) ?_
  refine lv_i2l (v := (a1).toInt64) hx hb dX6_count_1 rfl ?_
  refine lv_lconst (v := 1) hx hb dX6_count_2 (by decide) ?_
  refine lv_ldc2 (v := 4) hx hb hown (hts (.constantLong RX6 191 (4)) (List.mem_of_getElem? (i := 1) rfl)) dX6_count_3 ?_
  refine xreti (va_runS (As := [.long ((a1).toInt64), .long 1, .long 4]) (rest := []) ⟨hx, hb, hml, hown, hts⟩ (mX6_in l D ck ((a1).toInt64) 1 4  _) (va_cwS 3 hts gX6_count_X6_in rfl rfl rfl (by decide +kernel) ⟨Nat.le_of_ble_eq_true rfl, Nat.le_of_ble_eq_true rfl⟩) (xpreS hN hK hP hD pm_none) rfl rfl hl.1 rfl (lv_room (Nat.le_of_ble_eq_true rfl)) dX6_count_6 ⟨Nat.le_of_ble_eq_true rfl, Nat.le_of_ble_eq_true rfl⟩) hP hD hS hA pm_none pm_none (fun H locs hP hD hS => ?_)
  refine lv_if_eq (tgt := 20) hx hb dX6_count_9 (by decide) (fun c_9 => ?_) (fun c_9 => ?_)
  · --t
    refine lv_iload_n hx hb dX6_count_20 rfl (lv_at hl 1 rfl) ?_
    refine lv_i2l (v := (a1).toInt64) hx hb dX6_count_21 rfl ?_
    refine lv_ldc2 (v := 7) hx hb hown (hts (.constantLong RX6 196 (7)) (List.mem_of_getElem? (i := 2) rfl)) dX6_count_22 ?_
    refine lv_ldc2 (v := 10) hx hb hown (hts (.constantLong RX6 198 (10)) (List.mem_of_getElem? (i := 3) rfl)) dX6_count_25 ?_
    refine xreti (va_runS (As := [.long ((a1).toInt64), .long 7, .long 10]) (rest := []) ⟨hx, hb, hml, hown, hts⟩ (mX6_in l D ck ((a1).toInt64) 7 10  _) (va_cwS 3 hts gX6_count_X6_in rfl rfl rfl (by decide +kernel) ⟨Nat.le_of_ble_eq_true rfl, Nat.le_of_ble_eq_true rfl⟩) (xpreS hN hK hP hD pm_none) rfl rfl hl.1 rfl (lv_room (Nat.le_of_ble_eq_true rfl)) dX6_count_28 ⟨Nat.le_of_ble_eq_true rfl, Nat.le_of_ble_eq_true rfl⟩) hP hD hS hA pm_none pm_none (fun H locs hP hD hS => ?_)
    refine lv_if_eq (tgt := 46) hx hb dX6_count_31 (by decide) (fun c_31 => ?_) (fun c_31 => ?_)
    · --t
      refine lv_iload_n hx hb dX6_count_46 rfl (lv_at hl 1 rfl) ?_
      refine lv_i2l (v := (a1).toInt64) hx hb dX6_count_47 rfl ?_
      refine lv_ldc2 (v := 12) hx hb hown (hts (.constantLong RX6 200 (12)) (List.mem_of_getElem? (i := 5) rfl)) dX6_count_48 ?_
      refine lv_ldc2 (v := 15) hx hb hown (hts (.constantLong RX6 202 (15)) (List.mem_of_getElem? (i := 6) rfl)) dX6_count_51 ?_
      refine xreti (va_runS (As := [.long ((a1).toInt64), .long 12, .long 15]) (rest := []) ⟨hx, hb, hml, hown, hts⟩ (mX6_in l D ck ((a1).toInt64) 12 15  _) (va_cwS 3 hts gX6_count_X6_in rfl rfl rfl (by decide +kernel) ⟨Nat.le_of_ble_eq_true rfl, Nat.le_of_ble_eq_true rfl⟩) (xpreS hN hK hP hD pm_none) rfl rfl hl.1 rfl (lv_room (Nat.le_of_ble_eq_true rfl)) dX6_count_54 ⟨Nat.le_of_ble_eq_true rfl, Nat.le_of_ble_eq_true rfl⟩) hP hD hS hA pm_none pm_none (fun H locs hP hD hS => ?_)
      refine lv_if_eq (tgt := 72) hx hb dX6_count_57 (by decide) (fun c_57 => ?_) (fun c_57 => ?_)
      · --t
        refine lv_iload_n hx hb dX6_count_72 rfl (lv_at hl 1 rfl) ?_
        by_cases c_73_0 : a1 = 0
        · --0
          refine lv_tableIn (tgt := 160) (off := 87) hx hb dX6_count_73 (by rw [c_73_0]; decide) (by rw [c_73_0]; decide) (by rw [c_73_0]; decide) (by decide) ?_
          refine lv_aload_n hx hb dX6_count_160 rfl (lv_at hl 0 rfl) ?_
          refine va_get (D := D) (ci := 6) (v := .ref (ma 1)) (C := RX6) (T := TX6) (N := 13) hx hb hts hinX6 hown hK hP 0 rfl rfl 0 (by decide) (hts (.fieldLink RX6 7 "JoinGrantsModel" "all" "[I") (List.mem_of_getElem? (i := 4) rfl)) (fun _ h9 => h9) rfl dX6_count_161 ?_
          refine lv_iconst (v := 4) hx hb dX6_count_164 (by decide) ?_
          refine xiald (j := 4) (by decide) hx hb hK hP 1 0 rfl rfl (show vp_in 4 153 from by unfold vp_in; decide) dX6_count_165 ?_
          exact xiret hx hb hr hlk hP hD hS (show gX6_count M f a1 = (f 4) from (Eq.trans (if_pos c_9) (Eq.trans (if_pos c_31) (Eq.trans (if_pos c_57) (Eq.trans (if_pos c_73_0) rfl))))).symm rfl dX6_count_166
        by_cases c_73_1 : a1 = 1
        · --1
          refine lv_tableIn (tgt := 192) (off := 119) hx hb dX6_count_73 (by rw [c_73_1]; decide) (by rw [c_73_1]; decide) (by rw [c_73_1]; decide) (by decide) ?_
          refine lv_bipush (v := (-2)) hx hb dX6_count_192 (by decide) ?_
          exact xiret hx hb hr hlk hP hD hS (show gX6_count M f a1 = (-2) from (Eq.trans (if_pos c_9) (Eq.trans (if_pos c_31) (Eq.trans (if_pos c_57) (Eq.trans (if_neg c_73_0) (Eq.trans (if_pos c_73_1) rfl)))))).symm rfl dX6_count_194
        by_cases c_73_2 : a1 = 2
        · --2
          refine lv_tableIn (tgt := 192) (off := 119) hx hb dX6_count_73 (by rw [c_73_2]; decide) (by rw [c_73_2]; decide) (by rw [c_73_2]; decide) (by decide) ?_
          refine lv_bipush (v := (-2)) hx hb dX6_count_192 (by decide) ?_
          exact xiret hx hb hr hlk hP hD hS (show gX6_count M f a1 = (-2) from (Eq.trans (if_pos c_9) (Eq.trans (if_pos c_31) (Eq.trans (if_pos c_57) (Eq.trans (if_neg c_73_0) (Eq.trans (if_neg c_73_1) (Eq.trans (if_pos c_73_2) rfl))))))).symm rfl dX6_count_194
        by_cases c_73_3 : a1 = 3
        · --3
          refine lv_tableIn (tgt := 192) (off := 119) hx hb dX6_count_73 (by rw [c_73_3]; decide) (by rw [c_73_3]; decide) (by rw [c_73_3]; decide) (by decide) ?_
          refine lv_bipush (v := (-2)) hx hb dX6_count_192 (by decide) ?_
          exact xiret hx hb hr hlk hP hD hS (show gX6_count M f a1 = (-2) from (Eq.trans (if_pos c_9) (Eq.trans (if_pos c_31) (Eq.trans (if_pos c_57) (Eq.trans (if_neg c_73_0) (Eq.trans (if_neg c_73_1) (Eq.trans (if_neg c_73_2) (Eq.trans (if_pos c_73_3) rfl)))))))).symm rfl dX6_count_194
        by_cases c_73_4 : a1 = 4
        · --4
          refine lv_tableIn (tgt := 192) (off := 119) hx hb dX6_count_73 (by rw [c_73_4]; decide) (by rw [c_73_4]; decide) (by rw [c_73_4]; decide) (by decide) ?_
          refine lv_bipush (v := (-2)) hx hb dX6_count_192 (by decide) ?_
          exact xiret hx hb hr hlk hP hD hS (show gX6_count M f a1 = (-2) from (Eq.trans (if_pos c_9) (Eq.trans (if_pos c_31) (Eq.trans (if_pos c_57) (Eq.trans (if_neg c_73_0) (Eq.trans (if_neg c_73_1) (Eq.trans (if_neg c_73_2) (Eq.trans (if_neg c_73_3) (Eq.trans (if_pos c_73_4) rfl))))))))).symm rfl dX6_count_194
        by_cases c_73_5 : a1 = 5
        · --5
          refine lv_tableIn (tgt := 167) (off := 94) hx hb dX6_count_73 (by rw [c_73_5]; decide) (by rw [c_73_5]; decide) (by rw [c_73_5]; decide) (by decide) ?_
          refine lv_aload_n hx hb dX6_count_167 rfl (lv_at hl 0 rfl) ?_
          refine xreti (va_runV (As := []) (rest := []) ⟨hx, hb, hml, hown, hts⟩ (mX6_granted l D ck ma M f  hbi _) (cwV 0 hts gX6_count_X6_granted rfl rfl rfl (by decide +kernel) ⟨Nat.le_of_ble_eq_true rfl, Nat.le_of_ble_eq_true rfl⟩) (xpreV hN hK hP hD pm_all 0 rfl rfl rfl) rfl rfl hl.1 rfl (lv_room (Nat.le_of_ble_eq_true rfl)) dX6_count_168 ⟨Nat.le_of_ble_eq_true rfl, Nat.le_of_ble_eq_true rfl⟩) hP hD hS hA pm_all pm_all' (fun H locs hP hD hS => ?_)
          exact xiret hx hb hr hlk hP hD hS (show gX6_count M f a1 = (gX6_granted f ) from (Eq.trans (if_pos c_9) (Eq.trans (if_pos c_31) (Eq.trans (if_pos c_57) (Eq.trans (if_neg c_73_0) (Eq.trans (if_neg c_73_1) (Eq.trans (if_neg c_73_2) (Eq.trans (if_neg c_73_3) (Eq.trans (if_neg c_73_4) (Eq.trans (if_pos c_73_5) rfl)))))))))).symm rfl dX6_count_171
        by_cases c_73_6 : a1 = 6
        · --6
          refine lv_tableIn (tgt := 172) (off := 99) hx hb dX6_count_73 (by rw [c_73_6]; decide) (by rw [c_73_6]; decide) (by rw [c_73_6]; decide) (by decide) ?_
          refine lv_aload_n hx hb dX6_count_172 rfl (lv_at hl 0 rfl) ?_
          refine xreti (va_runV (As := []) (rest := []) ⟨hx, hb, hml, hown, hts⟩ (mX6_free l D ck ma M f  hbi _) (cwV 0 hts gX6_count_X6_free rfl rfl rfl (by decide +kernel) ⟨Nat.le_of_ble_eq_true rfl, Nat.le_of_ble_eq_true rfl⟩) (xpreV hN hK hP hD pm_all 0 rfl rfl rfl) rfl rfl hl.1 rfl (lv_room (Nat.le_of_ble_eq_true rfl)) dX6_count_173 ⟨Nat.le_of_ble_eq_true rfl, Nat.le_of_ble_eq_true rfl⟩) hP hD hS hA pm_all pm_all' (fun H locs hP hD hS => ?_)
          exact xiret hx hb hr hlk hP hD hS (show gX6_count M f a1 = (gX6_free f ) from (Eq.trans (if_pos c_9) (Eq.trans (if_pos c_31) (Eq.trans (if_pos c_57) (Eq.trans (if_neg c_73_0) (Eq.trans (if_neg c_73_1) (Eq.trans (if_neg c_73_2) (Eq.trans (if_neg c_73_3) (Eq.trans (if_neg c_73_4) (Eq.trans (if_neg c_73_5) (Eq.trans (if_pos c_73_6) rfl))))))))))).symm rfl dX6_count_176
        by_cases c_73_7 : a1 = 7
        · --7
          refine lv_tableIn (tgt := 192) (off := 119) hx hb dX6_count_73 (by rw [c_73_7]; decide) (by rw [c_73_7]; decide) (by rw [c_73_7]; decide) (by decide) ?_
          refine lv_bipush (v := (-2)) hx hb dX6_count_192 (by decide) ?_
          exact xiret hx hb hr hlk hP hD hS (show gX6_count M f a1 = (-2) from (Eq.trans (if_pos c_9) (Eq.trans (if_pos c_31) (Eq.trans (if_pos c_57) (Eq.trans (if_neg c_73_0) (Eq.trans (if_neg c_73_1) (Eq.trans (if_neg c_73_2) (Eq.trans (if_neg c_73_3) (Eq.trans (if_neg c_73_4) (Eq.trans (if_neg c_73_5) (Eq.trans (if_neg c_73_6) (Eq.trans (if_pos c_73_7) rfl)))))))))))).symm rfl dX6_count_194
        by_cases c_73_8 : a1 = 8
        · --8
          refine lv_tableIn (tgt := 192) (off := 119) hx hb dX6_count_73 (by rw [c_73_8]; decide) (by rw [c_73_8]; decide) (by rw [c_73_8]; decide) (by decide) ?_
          refine lv_bipush (v := (-2)) hx hb dX6_count_192 (by decide) ?_
          exact xiret hx hb hr hlk hP hD hS (show gX6_count M f a1 = (-2) from (Eq.trans (if_pos c_9) (Eq.trans (if_pos c_31) (Eq.trans (if_pos c_57) (Eq.trans (if_neg c_73_0) (Eq.trans (if_neg c_73_1) (Eq.trans (if_neg c_73_2) (Eq.trans (if_neg c_73_3) (Eq.trans (if_neg c_73_4) (Eq.trans (if_neg c_73_5) (Eq.trans (if_neg c_73_6) (Eq.trans (if_neg c_73_7) (Eq.trans (if_pos c_73_8) rfl))))))))))))).symm rfl dX6_count_194
        by_cases c_73_9 : a1 = 9
        · --9
          refine lv_tableIn (tgt := 192) (off := 119) hx hb dX6_count_73 (by rw [c_73_9]; decide) (by rw [c_73_9]; decide) (by rw [c_73_9]; decide) (by decide) ?_
          refine lv_bipush (v := (-2)) hx hb dX6_count_192 (by decide) ?_
          exact xiret hx hb hr hlk hP hD hS (show gX6_count M f a1 = (-2) from (Eq.trans (if_pos c_9) (Eq.trans (if_pos c_31) (Eq.trans (if_pos c_57) (Eq.trans (if_neg c_73_0) (Eq.trans (if_neg c_73_1) (Eq.trans (if_neg c_73_2) (Eq.trans (if_neg c_73_3) (Eq.trans (if_neg c_73_4) (Eq.trans (if_neg c_73_5) (Eq.trans (if_neg c_73_6) (Eq.trans (if_neg c_73_7) (Eq.trans (if_neg c_73_8) (Eq.trans (if_pos c_73_9) rfl)))))))))))))).symm rfl dX6_count_194
        by_cases c_73_10 : a1 = 10
        · --10
          refine lv_tableIn (tgt := 192) (off := 119) hx hb dX6_count_73 (by rw [c_73_10]; decide) (by rw [c_73_10]; decide) (by rw [c_73_10]; decide) (by decide) ?_
          refine lv_bipush (v := (-2)) hx hb dX6_count_192 (by decide) ?_
          exact xiret hx hb hr hlk hP hD hS (show gX6_count M f a1 = (-2) from (Eq.trans (if_pos c_9) (Eq.trans (if_pos c_31) (Eq.trans (if_pos c_57) (Eq.trans (if_neg c_73_0) (Eq.trans (if_neg c_73_1) (Eq.trans (if_neg c_73_2) (Eq.trans (if_neg c_73_3) (Eq.trans (if_neg c_73_4) (Eq.trans (if_neg c_73_5) (Eq.trans (if_neg c_73_6) (Eq.trans (if_neg c_73_7) (Eq.trans (if_neg c_73_8) (Eq.trans (if_neg c_73_9) (Eq.trans (if_pos c_73_10) rfl))))))))))))))).symm rfl dX6_count_194
        by_cases c_73_11 : a1 = 11
        · --11
          refine lv_tableIn (tgt := 177) (off := 104) hx hb dX6_count_73 (by rw [c_73_11]; decide) (by rw [c_73_11]; decide) (by rw [c_73_11]; decide) (by decide) ?_
          refine lv_aload_n hx hb dX6_count_177 rfl (lv_at hl 0 rfl) ?_
          refine xreti (va_runV (As := []) (rest := []) ⟨hx, hb, hml, hown, hts⟩ (mX6_spilling l D ck ma M f  hbi _) (cwV 0 hts gX6_count_X6_spilling rfl rfl rfl (by decide +kernel) ⟨Nat.le_of_ble_eq_true rfl, Nat.le_of_ble_eq_true rfl⟩) (xpreV hN hK hP hD pm_all 0 rfl rfl rfl) rfl rfl hl.1 rfl (lv_room (Nat.le_of_ble_eq_true rfl)) dX6_count_178 ⟨Nat.le_of_ble_eq_true rfl, Nat.le_of_ble_eq_true rfl⟩) hP hD hS hA pm_all pm_all' (fun H locs hP hD hS => ?_)
          exact xiret hx hb hr hlk hP hD hS (show gX6_count M f a1 = (gX6_spilling f ) from (Eq.trans (if_pos c_9) (Eq.trans (if_pos c_31) (Eq.trans (if_pos c_57) (Eq.trans (if_neg c_73_0) (Eq.trans (if_neg c_73_1) (Eq.trans (if_neg c_73_2) (Eq.trans (if_neg c_73_3) (Eq.trans (if_neg c_73_4) (Eq.trans (if_neg c_73_5) (Eq.trans (if_neg c_73_6) (Eq.trans (if_neg c_73_7) (Eq.trans (if_neg c_73_8) (Eq.trans (if_neg c_73_9) (Eq.trans (if_neg c_73_10) (Eq.trans (if_pos c_73_11) rfl)))))))))))))))).symm rfl dX6_count_181
        by_cases c_73_12 : a1 = 12
        · --12
          refine lv_tableIn (tgt := 192) (off := 119) hx hb dX6_count_73 (by rw [c_73_12]; decide) (by rw [c_73_12]; decide) (by rw [c_73_12]; decide) (by decide) ?_
          refine lv_bipush (v := (-2)) hx hb dX6_count_192 (by decide) ?_
          exact xiret hx hb hr hlk hP hD hS (show gX6_count M f a1 = (-2) from (Eq.trans (if_pos c_9) (Eq.trans (if_pos c_31) (Eq.trans (if_pos c_57) (Eq.trans (if_neg c_73_0) (Eq.trans (if_neg c_73_1) (Eq.trans (if_neg c_73_2) (Eq.trans (if_neg c_73_3) (Eq.trans (if_neg c_73_4) (Eq.trans (if_neg c_73_5) (Eq.trans (if_neg c_73_6) (Eq.trans (if_neg c_73_7) (Eq.trans (if_neg c_73_8) (Eq.trans (if_neg c_73_9) (Eq.trans (if_neg c_73_10) (Eq.trans (if_neg c_73_11) (Eq.trans (if_pos c_73_12) rfl))))))))))))))))).symm rfl dX6_count_194
        by_cases c_73_13 : a1 = 13
        · --13
          refine lv_tableIn (tgt := 192) (off := 119) hx hb dX6_count_73 (by rw [c_73_13]; decide) (by rw [c_73_13]; decide) (by rw [c_73_13]; decide) (by decide) ?_
          refine lv_bipush (v := (-2)) hx hb dX6_count_192 (by decide) ?_
          exact xiret hx hb hr hlk hP hD hS (show gX6_count M f a1 = (-2) from (Eq.trans (if_pos c_9) (Eq.trans (if_pos c_31) (Eq.trans (if_pos c_57) (Eq.trans (if_neg c_73_0) (Eq.trans (if_neg c_73_1) (Eq.trans (if_neg c_73_2) (Eq.trans (if_neg c_73_3) (Eq.trans (if_neg c_73_4) (Eq.trans (if_neg c_73_5) (Eq.trans (if_neg c_73_6) (Eq.trans (if_neg c_73_7) (Eq.trans (if_neg c_73_8) (Eq.trans (if_neg c_73_9) (Eq.trans (if_neg c_73_10) (Eq.trans (if_neg c_73_11) (Eq.trans (if_neg c_73_12) (Eq.trans (if_pos c_73_13) rfl)))))))))))))))))).symm rfl dX6_count_194
        by_cases c_73_14 : a1 = 14
        · --14
          refine lv_tableIn (tgt := 192) (off := 119) hx hb dX6_count_73 (by rw [c_73_14]; decide) (by rw [c_73_14]; decide) (by rw [c_73_14]; decide) (by decide) ?_
          refine lv_bipush (v := (-2)) hx hb dX6_count_192 (by decide) ?_
          exact xiret hx hb hr hlk hP hD hS (show gX6_count M f a1 = (-2) from (Eq.trans (if_pos c_9) (Eq.trans (if_pos c_31) (Eq.trans (if_pos c_57) (Eq.trans (if_neg c_73_0) (Eq.trans (if_neg c_73_1) (Eq.trans (if_neg c_73_2) (Eq.trans (if_neg c_73_3) (Eq.trans (if_neg c_73_4) (Eq.trans (if_neg c_73_5) (Eq.trans (if_neg c_73_6) (Eq.trans (if_neg c_73_7) (Eq.trans (if_neg c_73_8) (Eq.trans (if_neg c_73_9) (Eq.trans (if_neg c_73_10) (Eq.trans (if_neg c_73_11) (Eq.trans (if_neg c_73_12) (Eq.trans (if_neg c_73_13) (Eq.trans (if_pos c_73_14) rfl))))))))))))))))))).symm rfl dX6_count_194
        by_cases c_73_15 : a1 = 15
        · --15
          refine lv_tableIn (tgt := 192) (off := 119) hx hb dX6_count_73 (by rw [c_73_15]; decide) (by rw [c_73_15]; decide) (by rw [c_73_15]; decide) (by decide) ?_
          refine lv_bipush (v := (-2)) hx hb dX6_count_192 (by decide) ?_
          exact xiret hx hb hr hlk hP hD hS (show gX6_count M f a1 = (-2) from (Eq.trans (if_pos c_9) (Eq.trans (if_pos c_31) (Eq.trans (if_pos c_57) (Eq.trans (if_neg c_73_0) (Eq.trans (if_neg c_73_1) (Eq.trans (if_neg c_73_2) (Eq.trans (if_neg c_73_3) (Eq.trans (if_neg c_73_4) (Eq.trans (if_neg c_73_5) (Eq.trans (if_neg c_73_6) (Eq.trans (if_neg c_73_7) (Eq.trans (if_neg c_73_8) (Eq.trans (if_neg c_73_9) (Eq.trans (if_neg c_73_10) (Eq.trans (if_neg c_73_11) (Eq.trans (if_neg c_73_12) (Eq.trans (if_neg c_73_13) (Eq.trans (if_neg c_73_14) (Eq.trans (if_pos c_73_15) rfl)))))))))))))))))))).symm rfl dX6_count_194
        by_cases c_73_16 : a1 = 16
        · --16
          refine lv_tableIn (tgt := 182) (off := 109) hx hb dX6_count_73 (by rw [c_73_16]; decide) (by rw [c_73_16]; decide) (by rw [c_73_16]; decide) (by decide) ?_
          refine lv_aload_n hx hb dX6_count_182 rfl (lv_at hl 0 rfl) ?_
          refine va_get (D := D) (ci := 6) (v := .int (M 0)) (C := RX6) (T := TX6) (N := 13) hx hb hts hinX6 hown hK hP 0 rfl rfl 4 (by decide) (hts (.fieldLink RX6 35 "JoinGrantsModel" "historyLong" "I") (List.mem_of_getElem? (i := 7) rfl)) (fun _ h9 => h9) rfl dX6_count_183 ?_
          exact xiret hx hb hr hlk hP hD hS (show gX6_count M f a1 = (M 0) from (Eq.trans (if_pos c_9) (Eq.trans (if_pos c_31) (Eq.trans (if_pos c_57) (Eq.trans (if_neg c_73_0) (Eq.trans (if_neg c_73_1) (Eq.trans (if_neg c_73_2) (Eq.trans (if_neg c_73_3) (Eq.trans (if_neg c_73_4) (Eq.trans (if_neg c_73_5) (Eq.trans (if_neg c_73_6) (Eq.trans (if_neg c_73_7) (Eq.trans (if_neg c_73_8) (Eq.trans (if_neg c_73_9) (Eq.trans (if_neg c_73_10) (Eq.trans (if_neg c_73_11) (Eq.trans (if_neg c_73_12) (Eq.trans (if_neg c_73_13) (Eq.trans (if_neg c_73_14) (Eq.trans (if_neg c_73_15) (Eq.trans (if_pos c_73_16) rfl))))))))))))))))))))).symm rfl dX6_count_186
        by_cases c_73_17 : a1 = 17
        · --17
          refine lv_tableIn (tgt := 187) (off := 114) hx hb dX6_count_73 (by rw [c_73_17]; decide) (by rw [c_73_17]; decide) (by rw [c_73_17]; decide) (by decide) ?_
          refine lv_aload_n hx hb dX6_count_187 rfl (lv_at hl 0 rfl) ?_
          refine va_get (D := D) (ci := 6) (v := .int (M 2)) (C := RX6) (T := TX6) (N := 13) hx hb hts hinX6 hown hK hP 0 rfl rfl 8 (by decide) (hts (.fieldLink RX6 155 "JoinGrantsModel" "textLong" "I") (List.mem_of_getElem? (i := 8) rfl)) (fun _ h9 => h9) rfl dX6_count_188 ?_
          exact xiret hx hb hr hlk hP hD hS (show gX6_count M f a1 = (M 2) from (Eq.trans (if_pos c_9) (Eq.trans (if_pos c_31) (Eq.trans (if_pos c_57) (Eq.trans (if_neg c_73_0) (Eq.trans (if_neg c_73_1) (Eq.trans (if_neg c_73_2) (Eq.trans (if_neg c_73_3) (Eq.trans (if_neg c_73_4) (Eq.trans (if_neg c_73_5) (Eq.trans (if_neg c_73_6) (Eq.trans (if_neg c_73_7) (Eq.trans (if_neg c_73_8) (Eq.trans (if_neg c_73_9) (Eq.trans (if_neg c_73_10) (Eq.trans (if_neg c_73_11) (Eq.trans (if_neg c_73_12) (Eq.trans (if_neg c_73_13) (Eq.trans (if_neg c_73_14) (Eq.trans (if_neg c_73_15) (Eq.trans (if_neg c_73_16) (Eq.trans (if_pos c_73_17) rfl)))))))))))))))))))))).symm rfl dX6_count_191
        have z_c_73_0 : (a1).toInt ≠ 0 := fun e => c_73_0 (Int32.toInt_inj.mp e)
        have z_c_73_1 : (a1).toInt ≠ 1 := fun e => c_73_1 (Int32.toInt_inj.mp e)
        have z_c_73_2 : (a1).toInt ≠ 2 := fun e => c_73_2 (Int32.toInt_inj.mp e)
        have z_c_73_3 : (a1).toInt ≠ 3 := fun e => c_73_3 (Int32.toInt_inj.mp e)
        have z_c_73_4 : (a1).toInt ≠ 4 := fun e => c_73_4 (Int32.toInt_inj.mp e)
        have z_c_73_5 : (a1).toInt ≠ 5 := fun e => c_73_5 (Int32.toInt_inj.mp e)
        have z_c_73_6 : (a1).toInt ≠ 6 := fun e => c_73_6 (Int32.toInt_inj.mp e)
        have z_c_73_7 : (a1).toInt ≠ 7 := fun e => c_73_7 (Int32.toInt_inj.mp e)
        have z_c_73_8 : (a1).toInt ≠ 8 := fun e => c_73_8 (Int32.toInt_inj.mp e)
        have z_c_73_9 : (a1).toInt ≠ 9 := fun e => c_73_9 (Int32.toInt_inj.mp e)
        have z_c_73_10 : (a1).toInt ≠ 10 := fun e => c_73_10 (Int32.toInt_inj.mp e)
        have z_c_73_11 : (a1).toInt ≠ 11 := fun e => c_73_11 (Int32.toInt_inj.mp e)
        have z_c_73_12 : (a1).toInt ≠ 12 := fun e => c_73_12 (Int32.toInt_inj.mp e)
        have z_c_73_13 : (a1).toInt ≠ 13 := fun e => c_73_13 (Int32.toInt_inj.mp e)
        have z_c_73_14 : (a1).toInt ≠ 14 := fun e => c_73_14 (Int32.toInt_inj.mp e)
        have z_c_73_15 : (a1).toInt ≠ 15 := fun e => c_73_15 (Int32.toInt_inj.mp e)
        have z_c_73_16 : (a1).toInt ≠ 16 := fun e => c_73_16 (Int32.toInt_inj.mp e)
        have z_c_73_17 : (a1).toInt ≠ 17 := fun e => c_73_17 (Int32.toInt_inj.mp e)
        refine lv_tableOut (tgt := 192) hx hb dX6_count_73 (by omega) (by decide) ?_
        refine lv_bipush (v := (-2)) hx hb dX6_count_192 (by decide) ?_
        exact xiret hx hb hr hlk hP hD hS (show gX6_count M f a1 = (-2) from (Eq.trans (if_pos c_9) (Eq.trans (if_pos c_31) (Eq.trans (if_pos c_57) (Eq.trans (if_neg c_73_0) (Eq.trans (if_neg c_73_1) (Eq.trans (if_neg c_73_2) (Eq.trans (if_neg c_73_3) (Eq.trans (if_neg c_73_4) (Eq.trans (if_neg c_73_5) (Eq.trans (if_neg c_73_6) (Eq.trans (if_neg c_73_7) (Eq.trans (if_neg c_73_8) (Eq.trans (if_neg c_73_9) (Eq.trans (if_neg c_73_10) (Eq.trans (if_neg c_73_11) (Eq.trans (if_neg c_73_12) (Eq.trans (if_neg c_73_13) (Eq.trans (if_neg c_73_14) (Eq.trans (if_neg c_73_15) (Eq.trans (if_neg c_73_16) (Eq.trans (if_neg c_73_17) rfl)))))))))))))))))))))).symm rfl dX6_count_194
      · --f
        refine lv_aload_n hx hb dX6_count_60 rfl (lv_at hl 0 rfl) ?_
        refine va_get (D := D) (ci := 6) (v := .ref (ma 1)) (C := RX6) (T := TX6) (N := 13) hx hb hts hinX6 hown hK hP 0 rfl rfl 0 (by decide) (hts (.fieldLink RX6 7 "JoinGrantsModel" "all" "[I") (List.mem_of_getElem? (i := 4) rfl)) (fun _ h9 => h9) rfl dX6_count_61 ?_
        refine lv_iconst (v := 0) hx hb dX6_count_64 (by decide) ?_
        refine lv_iload_n hx hb dX6_count_65 rfl (lv_at hl 1 rfl) ?_
        refine lv_iadd hx hb dX6_count_66 ?_
        refine lv_bipush (v := 12) hx hb dX6_count_67 (by decide) ?_
        refine lv_isub hx hb dX6_count_69 ?_
        refine va_iald hx hb hK hP 1 0 rfl rfl (ct_12 c_57) dX6_count_70 ?_
        exact xiret hx hb hr hlk hP hD hS (show gX6_count M f a1 = (f ((0 + a1) - 12).toNatClampNeg) from (Eq.trans (if_pos c_9) (Eq.trans (if_pos c_31) (Eq.trans (if_neg c_57) rfl)))).symm rfl dX6_count_71
    · --f
      refine lv_aload_n hx hb dX6_count_34 rfl (lv_at hl 0 rfl) ?_
      refine va_get (D := D) (ci := 6) (v := .ref (ma 1)) (C := RX6) (T := TX6) (N := 13) hx hb hts hinX6 hown hK hP 0 rfl rfl 0 (by decide) (hts (.fieldLink RX6 7 "JoinGrantsModel" "all" "[I") (List.mem_of_getElem? (i := 4) rfl)) (fun _ h9 => h9) rfl dX6_count_35 ?_
      refine lv_iconst (v := 5) hx hb dX6_count_38 (by decide) ?_
      refine lv_iload_n hx hb dX6_count_39 rfl (lv_at hl 1 rfl) ?_
      refine lv_iadd hx hb dX6_count_40 ?_
      refine lv_bipush (v := 7) hx hb dX6_count_41 (by decide) ?_
      refine lv_isub hx hb dX6_count_43 ?_
      refine va_iald hx hb hK hP 1 0 rfl rfl (ct_7 c_31) dX6_count_44 ?_
      exact xiret hx hb hr hlk hP hD hS (show gX6_count M f a1 = (f ((5 + a1) - 7).toNatClampNeg) from (Eq.trans (if_pos c_9) (Eq.trans (if_neg c_31) rfl))).symm rfl dX6_count_45
  · --f
    refine lv_aload_n hx hb dX6_count_12 rfl (lv_at hl 0 rfl) ?_
    refine lv_iload_n hx hb dX6_count_13 rfl (lv_at hl 1 rfl) ?_
    refine lv_iconst (v := 1) hx hb dX6_count_14 (by decide) ?_
    refine lv_isub hx hb dX6_count_15 ?_
    refine xreti (va_runV (As := [.int (a1 - 1)]) (rest := []) ⟨hx, hb, hml, hown, hts⟩ (mX6_manyWith l D ck ma M f (a1 - 1) hbi _) (cwV 1 hts gX6_count_X6_manyWith rfl rfl rfl (by decide +kernel) ⟨Nat.le_of_ble_eq_true rfl, Nat.le_of_ble_eq_true rfl⟩) (xpreV hN hK hP hD pm_all 0 rfl rfl rfl) rfl rfl hl.1 rfl (lv_room (Nat.le_of_ble_eq_true rfl)) dX6_count_16 ⟨Nat.le_of_ble_eq_true rfl, Nat.le_of_ble_eq_true rfl⟩) hP hD hS hA pm_all pm_all' (fun H locs hP hD hS => ?_)
    exact xiret hx hb hr hlk hP hD hS (show gX6_count M f a1 = (gX6_manyWith f (a1 - 1)) from (Eq.trans (if_neg c_9) rfl)).symm rfl dX6_count_19
