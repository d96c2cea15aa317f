set_option maxHeartbeats 16000000 in
set_option maxRecDepth 100000 in
theorem mL_isStep (l : Launch) (D : va_G) (ck : Nat → ClassId) (tt : Nat → Nat) (ca cb : Nat → Nat → Nat) (C E : CS) (f : FS) (N : Nat) (hC : LR C f) (hE : LR E f) (hW : WI f N) (hT : TX E) (hb6 : N + 150 ≤ 1000000) (x y : Int32) : xMeZ tt l yL_isStep wsL_isStep rmL_isStep D ck [.ref (ca 0 0), .ref (cb 0 0), .int x, .int y] (clW ck ca C ++ clW ck cb E) (fun u : CS × CS × FS => clW ck ca u.1 ++ clW ck cb u.2.1) (fun u : CS × CS × FS => LR u.1 u.2.2 ∧ LR u.2.1 u.2.2 ∧ WI u.2.2 (N + 150) ∧ TX u.2.1) (fun _ => 1) 150 2400 := by
  refine xMetZ (by decide) rfl (Nat.le_of_ble_eq_true rfl) ?_
  intro zp ze s zm zb zt zc hx hb hr hml hown hts hlk hnm hN hK hP hD hZ ls hl
  have hown : s.vm.findClass RL = some zm.cls := hown
  have hm := hC.1.2
  have hn := n_le hm
  have hl : lv_has ls 15 [(0, .ref (ca 0 0)), (1, .ref (cb 0 0)), (2, .int x), (3, .int y)] := hl
  have hS : va_S (va_A (clW ck ca C ++ clW ck cb E) s.heap.size) s.heap s.heap [] := va_S.rf
  have hA : ∀ zq : Nat, s.heap.size ≤ zq → (va_A (clW ck ca C ++ clW ck cb E) s.heap.size) zq := fun zq h => Or.inr h
  refine lv_iload_n hx hb dL_isStep_0 rfl (lv_at hl 2 rfl) ?_
  refine lv_iconst (v := 4) hx hb dL_isStep_1 (by decide) ?_
  refine lv_ishr hx hb dL_isStep_2 ?_
  refine lv_istore (lv' := [(4, .int (x >>> 4)), (0, .ref (ca 0 0)), (1, .ref (cb 0 0)), (2, .int x), (3, .int y)]) hx hb dL_isStep_3 hl (by decide) rfl (fun ls hl => ?_)
  refine lv_aload_n hx hb dL_isStep_5 rfl (lv_at hl 1 rfl) ?_
  refine lv_iconst (v := 0) hx hb dL_isStep_6 (by decide) ?_
  refine xreti (va_runV (As := [.int 0]) (rest := []) ⟨hx, hb, hml, hown, hts⟩ (mX5_count l D ck ca C 0 _) (cwV 1 hts gL_isStep_X5_count rfl rfl rfl (by decide +kernel) ⟨Nat.le_of_ble_eq_true rfl, Nat.le_of_ble_eq_true rfl⟩) (xpreV hN hK hP hD (List.Perm.refl _) 0 rfl rfl rfl) rfl rfl hl.1 rfl (lv_room (Nat.le_of_ble_eq_true rfl)) dL_isStep_7 ⟨Nat.le_of_ble_eq_true rfl, Nat.le_of_ble_eq_true rfl⟩) hP hD hS hA (List.Perm.refl _) (List.Perm.refl _) (fun H locs hP hD hS => ?_)
  have hP : va_P D vwCl (clW ck ca C ++ clW ck cb E) H := hP
  have hD : va_D (va_A (clW ck ca C ++ clW ck cb E) s.heap.size) (clW ck ca C ++ clW ck cb E) := hD
  rw [cnt0 hC]
  refine lv_istore (lv' := [(5, .int (nI (nF f))), (4, .int (x >>> 4)), (0, .ref (ca 0 0)), (1, .ref (cb 0 0)), (2, .int x), (3, .int y)]) hx hb dL_isStep_10 hl (by decide) rfl (fun ls hl => ?_)
  refine lv_iload hx hb dL_isStep_12 (lv_at hl 1 rfl) ?_
  refine lv_iload hx hb dL_isStep_14 (lv_at hl 0 rfl) ?_
  refine lv_iconst (v := 1) hx hb dL_isStep_16 (by decide) ?_
  refine lv_iadd hx hb dL_isStep_17 ?_
  rw [show (((nI (nF f)) + 1) : Int32) = (nI (nF f + 1)) from (nI_1 (nF f))]
  refine xreti (va_runS (As := [.int (x >>> 4), .int (nI (nF f + 1))]) (rest := []) ⟨hx, hb, hml, hown, hts⟩ (mL_up l D ck (x >>> 4) (nI (nF f + 1)) (nI_ne0 (n := (nF f + 1)) (by omega) (by omega)) _) (va_cwS 2 hts gL_isStep_L_up rfl rfl rfl (by decide +kernel) ⟨Nat.le_of_ble_eq_true rfl, Nat.le_of_ble_eq_true rfl⟩) (xpreS hN hK hP hD pm_none) rfl rfl hl.1 rfl (lv_room (Nat.le_of_ble_eq_true rfl)) dL_isStep_18 ⟨Nat.le_of_ble_eq_true rfl, Nat.le_of_ble_eq_true rfl⟩) hP hD hS hA pm_none pm_none (fun H locs hP hD hS => ?_)
  have hP : va_P D vwCl (clW ck ca C ++ clW ck cb E) H := hP
  have hD : va_D (va_A (clW ck ca C ++ clW ck cb E) s.heap.size) (clW ck ca C ++ clW ck cb E) := hD
  obtain ⟨v18, h18, e18⟩ := up_in (v := (x >>> 4)) (n := (nF f + 1)) (by omega) (by omega)
  rw [e18]
  refine lv_istore (lv' := [(6, .int (nI v18)), (5, .int (nI (nF f))), (4, .int (x >>> 4)), (0, .ref (ca 0 0)), (1, .ref (cb 0 0)), (2, .int x), (3, .int y)]) hx hb dL_isStep_21 hl (by decide) rfl (fun ls hl => ?_)
  refine lv_aload_n hx hb dL_isStep_23 rfl (lv_at hl 3 rfl) ?_
  refine lv_iload hx hb dL_isStep_24 (lv_at hl 0 rfl) ?_
  refine lv_iconst (v := 3) hx hb dL_isStep_26 (by decide) ?_
  refine xreti (va_runV (As := [.int (nI v18), .int 3]) (rest := []) ⟨hx, hb, hml, hown, hts⟩ (mX5_join l D ck ca C (nI v18) 3 _) (cwV 2 hts gL_isStep_X5_join rfl rfl rfl (by decide +kernel) ⟨Nat.le_of_ble_eq_true rfl, Nat.le_of_ble_eq_true rfl⟩) (xpreV hN hK hP hD (List.Perm.refl _) 0 rfl rfl rfl) rfl rfl hl.1 rfl (lv_room (Nat.le_of_ble_eq_true rfl)) dL_isStep_27 ⟨Nat.le_of_ble_eq_true rfl, Nat.le_of_ble_eq_true rfl⟩) hP hD hS hA (List.Perm.refl _) (List.Perm.refl _) (fun H locs hP hD hS => ?_)
  have hP : va_P D vwCl (clW ck ca C ++ clW ck cb E) H := hP
  have hD : va_D (va_A (clW ck ca C ++ clW ck cb E) s.heap.size) (clW ck ca C ++ clW ck cb E) := hD
  refine lv_istore (lv' := [(7, .int (gX5_join C (nI v18) 3)), (6, .int (nI v18)), (5, .int (nI (nF f))), (4, .int (x >>> 4)), (0, .ref (ca 0 0)), (1, .ref (cb 0 0)), (2, .int x), (3, .int y)]) hx hb dL_isStep_30 hl (by decide) rfl (fun ls hl => ?_)
  refine lv_aload_n hx hb dL_isStep_32 rfl (lv_at hl 4 rfl) ?_
  refine lv_iconst (v := 5) hx hb dL_isStep_33 (by decide) ?_
  refine xreti (va_runV (As := [.int 5]) (rest := []) ⟨hx, hb, hml, hown, hts⟩ (mX5_count l D ck ca C 5 _) (cwV 1 hts gL_isStep_X5_count rfl rfl rfl (by decide +kernel) ⟨Nat.le_of_ble_eq_true rfl, Nat.le_of_ble_eq_true rfl⟩) (xpreV hN hK hP hD (List.Perm.refl _) 0 rfl rfl rfl) rfl rfl hl.1 rfl (lv_room (Nat.le_of_ble_eq_true rfl)) dL_isStep_34 ⟨Nat.le_of_ble_eq_true rfl, Nat.le_of_ble_eq_true rfl⟩) hP hD hS hA (List.Perm.refl _) (List.Perm.refl _) (fun H locs hP hD hS => ?_)
  have hP : va_P D vwCl (clW ck ca C ++ clW ck cb E) H := hP
  have hD : va_D (va_A (clW ck ca C ++ clW ck cb E) s.heap.size) (clW ck ca C ++ clW ck cb E) := hD
  rw [cnt_5 hC]
  refine lv_istore (lv' := [(8, .int (gX6_granted f)), (7, .int (gX5_join C (nI v18) 3)), (6, .int (nI v18)), (5, .int (nI (nF f))), (4, .int (x >>> 4)), (0, .ref (ca 0 0)), (1, .ref (cb 0 0)), (2, .int x), (3, .int y)]) hx hb dL_isStep_37 hl (by decide) rfl (fun ls hl => ?_)
  refine lv_iload_n hx hb dL_isStep_39 rfl (lv_at hl 7 rfl) ?_
  refine lv_bipush (v := (nI 14)) hx hb dL_isStep_40 (by decide) ?_
  refine xreti (va_runS (As := [.int x, .int (nI 14)]) (rest := []) ⟨hx, hb, hml, hown, hts⟩ (mL_up l D ck x (nI 14) (nI_ne0 (n := 14) (by omega) (by omega)) _) (va_cwS 2 hts gL_isStep_L_up rfl rfl rfl (by decide +kernel) ⟨Nat.le_of_ble_eq_true rfl, Nat.le_of_ble_eq_true rfl⟩) (xpreS hN hK hP hD pm_none) rfl rfl hl.1 rfl (lv_room (Nat.le_of_ble_eq_true rfl)) dL_isStep_42 ⟨Nat.le_of_ble_eq_true rfl, Nat.le_of_ble_eq_true rfl⟩) hP hD hS hA pm_none pm_none (fun H locs hP hD hS => ?_)
  have hP : va_P D vwCl (clW ck ca C ++ clW ck cb E) H := hP
  have hD : va_D (va_A (clW ck ca C ++ clW ck cb E) s.heap.size) (clW ck ca C ++ clW ck cb E) := hD
  obtain ⟨v42, h42, e42⟩ := up_in (v := x) (n := 14) (by omega) (by omega)
  rw [e42]
  by_cases k_45_0 : (nI v42) = 0
  · --0
    refine lv_tableIn (tgt := 108) (off := 63) hx hb dL_isStep_45 (by rw [k_45_0]; decide) (by rw [k_45_0]; decide) (by rw [k_45_0]; decide) (by decide) ?_
    exact s_ask_a hx hb hr hml hown hts hlk hN hK hZ hA hC hE hW hT hb6  H locs ls hP hD hS (lv_sub hl [5, 6, 7, 8, 4, 3, 0] rfl)
  by_cases k_45_1 : (nI v42) = 1
  · --1
    refine lv_tableIn (tgt := 108) (off := 63) hx hb dL_isStep_45 (by rw [k_45_1]; decide) (by rw [k_45_1]; decide) (by rw [k_45_1]; decide) (by decide) ?_
    exact s_ask_a hx hb hr hml hown hts hlk hN hK hZ hA hC hE hW hT hb6  H locs ls hP hD hS (lv_sub hl [5, 6, 7, 8, 4, 3, 0] rfl)
  by_cases k_45_2 : (nI v42) = 2
  · --2
    refine lv_tableIn (tgt := 108) (off := 63) hx hb dL_isStep_45 (by rw [k_45_2]; decide) (by rw [k_45_2]; decide) (by rw [k_45_2]; decide) (by decide) ?_
    exact s_ask_a hx hb hr hml hown hts hlk hN hK hZ hA hC hE hW hT hb6  H locs ls hP hD hS (lv_sub hl [5, 6, 7, 8, 4, 3, 0] rfl)
  by_cases k_45_3 : (nI v42) = 3
  · --3
    refine lv_tableIn (tgt := 108) (off := 63) hx hb dL_isStep_45 (by rw [k_45_3]; decide) (by rw [k_45_3]; decide) (by rw [k_45_3]; decide) (by decide) ?_
    exact s_ask_a hx hb hr hml hown hts hlk hN hK hZ hA hC hE hW hT hb6  H locs ls hP hD hS (lv_sub hl [5, 6, 7, 8, 4, 3, 0] rfl)
  by_cases k_45_4 : (nI v42) = 4
  · --4
    refine lv_tableIn (tgt := 339) (off := 294) hx hb dL_isStep_45 (by rw [k_45_4]; decide) (by rw [k_45_4]; decide) (by rw [k_45_4]; decide) (by decide) ?_
    by_cases hJn : v18 = nF f
    · --none
      rw [hJn, jn_n hC] at hl
      exact s_cancelA hx hb hr hml hown hts hlk hN hK hZ hA hC hE hW hT hb6  H locs ls hP hD hS (lv_sub hl [5, 6, 7, 8, 4, 3, 2, 1] rfl)
    · --some
      have hJ : v18 < nF f := by omega
      rw [jn_3 hC hJ] at hl
      rcases (hm.2 v18 hJ).2.2.2.1 with hs | hs | hs | hs
      · --0
        rw [hs] at hl
        exact s_cancelB0 hx hb hr hml hown hts hlk hN hK hZ hA hC hE hW hT hb6 (J := v18) hJ hs H locs ls hP hD hS (lv_sub hl [5, 6, 7, 8, 4, 3, 2, 1] rfl)
      · --1
        rw [hs] at hl
        exact s_cancelB1 hx hb hr hml hown hts hlk hN hK hZ hA hC hE hW hT hb6 (J := v18) hJ hs H locs ls hP hD hS (lv_sub hl [5, 6, 7, 8, 4, 3, 2, 1] rfl)
      · --2
        rw [hs] at hl
        exact s_cancelB2 hx hb hr hml hown hts hlk hN hK hZ hA hC hE hW hT hb6 (J := v18) hJ hs H locs ls hP hD hS (lv_sub hl [5, 6, 7, 8, 4, 3, 2, 1] rfl)
      · --3
        rw [hs] at hl
        exact s_cancelB3 hx hb hr hml hown hts hlk hN hK hZ hA hC hE hW hT hb6 (J := v18) hJ hs H locs ls hP hD hS (lv_sub hl [5, 6, 7, 8, 4, 3, 2, 1] rfl)
  by_cases k_45_5 : (nI v42) = 5
  · --5
    refine lv_tableIn (tgt := 431) (off := 386) hx hb dL_isStep_45 (by rw [k_45_5]; decide) (by rw [k_45_5]; decide) (by rw [k_45_5]; decide) (by decide) ?_
    by_cases hJn : v18 = nF f
    · --none
      rw [hJn, jn_n hC] at hl
      exact s_changeA hx hb hr hml hown hts hlk hN hK hZ hA hC hE hW hT hb6  H locs ls hP hD hS (lv_sub hl [5, 6, 7, 8, 4, 3, 2, 1] rfl)
    · --some
      have hJ : v18 < nF f := by omega
      rw [jn_3 hC hJ] at hl
      rcases (hm.2 v18 hJ).2.2.2.1 with hs | hs | hs | hs
      · --0
        rw [hs] at hl
        exact s_changeB0 hx hb hr hml hown hts hlk hN hK hZ hA hC hE hW hT hb6 (J := v18) hJ hs H locs ls hP hD hS (lv_sub hl [5, 6, 7, 8, 4, 3, 2, 1] rfl)
      · --1
        rw [hs] at hl
        exact s_changeB1 hx hb hr hml hown hts hlk hN hK hZ hA hC hE hW hT hb6 (J := v18) hJ hs H locs ls hP hD hS (lv_sub hl [5, 6, 7, 8, 4, 3, 2, 1] rfl)
      · --2
        rw [hs] at hl
        exact s_changeB2 hx hb hr hml hown hts hlk hN hK hZ hA hC hE hW hT hb6 (J := v18) hJ hs H locs ls hP hD hS (lv_sub hl [5, 6, 7, 8, 4, 3, 2, 1] rfl)
      · --3
        rw [hs] at hl
        exact s_changeB3 hx hb hr hml hown hts hlk hN hK hZ hA hC hE hW hT hb6 (J := v18) hJ hs H locs ls hP hD hS (lv_sub hl [5, 6, 7, 8, 4, 3, 2, 1] rfl)
  by_cases k_45_6 : (nI v42) = 6
  · --6
    refine lv_tableIn (tgt := 516) (off := 471) hx hb dL_isStep_45 (by rw [k_45_6]; decide) (by rw [k_45_6]; decide) (by rw [k_45_6]; decide) (by decide) ?_
    exact s_step_a hx hb hr hml hown hts hlk hN hK hZ hA hC hE hW hT hb6  H locs ls hP hD hS (lv_sub hl [5, 6, 7, 8, 4, 3] rfl)
  by_cases k_45_7 : (nI v42) = 7
  · --7
    refine lv_tableIn (tgt := 516) (off := 471) hx hb dL_isStep_45 (by rw [k_45_7]; decide) (by rw [k_45_7]; decide) (by rw [k_45_7]; decide) (by decide) ?_
    exact s_step_a hx hb hr hml hown hts hlk hN hK hZ hA hC hE hW hT hb6  H locs ls hP hD hS (lv_sub hl [5, 6, 7, 8, 4, 3] rfl)
  by_cases k_45_8 : (nI v42) = 8
  · --8
    refine lv_tableIn (tgt := 516) (off := 471) hx hb dL_isStep_45 (by rw [k_45_8]; decide) (by rw [k_45_8]; decide) (by rw [k_45_8]; decide) (by decide) ?_
    exact s_step_a hx hb hr hml hown hts hlk hN hK hZ hA hC hE hW hT hb6  H locs ls hP hD hS (lv_sub hl [5, 6, 7, 8, 4, 3] rfl)
  by_cases k_45_9 : (nI v42) = 9
  · --9
    refine lv_tableIn (tgt := 516) (off := 471) hx hb dL_isStep_45 (by rw [k_45_9]; decide) (by rw [k_45_9]; decide) (by rw [k_45_9]; decide) (by decide) ?_
    exact s_step_a hx hb hr hml hown hts hlk hN hK hZ hA hC hE hW hT hb6  H locs ls hP hD hS (lv_sub hl [5, 6, 7, 8, 4, 3] rfl)
  by_cases k_45_10 : (nI v42) = 10
  · --10
    refine lv_tableIn (tgt := 627) (off := 582) hx hb dL_isStep_45 (by rw [k_45_10]; decide) (by rw [k_45_10]; decide) (by rw [k_45_10]; decide) (by decide) ?_
    exact s_set_a hx hb hr hml hown hts hlk hN hK hZ hA hC hE hW hT hb6  H locs ls hP hD hS (lv_sub hl [5, 6, 7, 8, 4, 3] rfl)
  by_cases k_45_11 : (nI v42) = 11
  · --11
    refine lv_tableIn (tgt := 627) (off := 582) hx hb dL_isStep_45 (by rw [k_45_11]; decide) (by rw [k_45_11]; decide) (by rw [k_45_11]; decide) (by decide) ?_
    exact s_set_a hx hb hr hml hown hts hlk hN hK hZ hA hC hE hW hT hb6  H locs ls hP hD hS (lv_sub hl [5, 6, 7, 8, 4, 3] rfl)
  have z_k_45_0 : ((nI v42)).toInt ≠ 0 := fun e => k_45_0 (Int32.toInt_inj.mp e)
  have z_k_45_1 : ((nI v42)).toInt ≠ 1 := fun e => k_45_1 (Int32.toInt_inj.mp e)
  have z_k_45_2 : ((nI v42)).toInt ≠ 2 := fun e => k_45_2 (Int32.toInt_inj.mp e)
  have z_k_45_3 : ((nI v42)).toInt ≠ 3 := fun e => k_45_3 (Int32.toInt_inj.mp e)
  have z_k_45_4 : ((nI v42)).toInt ≠ 4 := fun e => k_45_4 (Int32.toInt_inj.mp e)
  have z_k_45_5 : ((nI v42)).toInt ≠ 5 := fun e => k_45_5 (Int32.toInt_inj.mp e)
  have z_k_45_6 : ((nI v42)).toInt ≠ 6 := fun e => k_45_6 (Int32.toInt_inj.mp e)
  have z_k_45_7 : ((nI v42)).toInt ≠ 7 := fun e => k_45_7 (Int32.toInt_inj.mp e)
  have z_k_45_8 : ((nI v42)).toInt ≠ 8 := fun e => k_45_8 (Int32.toInt_inj.mp e)
  have z_k_45_9 : ((nI v42)).toInt ≠ 9 := fun e => k_45_9 (Int32.toInt_inj.mp e)
  have z_k_45_10 : ((nI v42)).toInt ≠ 10 := fun e => k_45_10 (Int32.toInt_inj.mp e)
  have z_k_45_11 : ((nI v42)).toInt ≠ 11 := fun e => k_45_11 (Int32.toInt_inj.mp e)
  refine lv_tableOut (tgt := 772) hx hb dL_isStep_45 (by omega) (by decide) ?_
  exact s_def_a hx hb hr hml hown hts hlk hN hK hZ hA hC hE hW hT hb6 (J := v18) H locs ls hP hD hS (lv_sub hl [5, 6, 7, 8, 4, 3, 2] rfl)
