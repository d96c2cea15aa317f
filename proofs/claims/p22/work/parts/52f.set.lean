set_option maxHeartbeats 16000000 in
set_option maxRecDepth 100000 in
theorem s_set_b {zp : Program} {l : Launch} {ze : Env} {s : State} {zm : MethodId} {zb : List Frame} {zt : Method} {zc : Code} {D : va_G} {ck : Nat → ClassId} {tt : Nat → Nat} {ca cb : Nat → Nat → Nat} {C E : CS} {f : FS} {N : Nat} {x y : Int32} (hx : zp.tables.exec = Jvm.exec) (hb : zc.code = cL_isStep) (hr : zt.sig.returnType = some .boolean) (hml : zc.maxLocals = 15) (hown : s.vm.findClass RL = some zm.cls) (hts : ∀ w ∈ wsL_isStep, w.before ([.ref (ca 0 0), .ref (cb 0 0), .int x, .int y] : List Value).toArray s = true) (hlk : zt.locks = false) (hN : xN s) (hK : va_K D vwCl (xT ck) s) (hZ : xStat tt (va_A (clW ck ca C ++ clW ck cb E) s.heap.size) s s.heap) (hA : ∀ zq : Nat, s.heap.size ≤ zq → (va_A (clW ck ca C ++ clW ck cb E) s.heap.size) zq) (hC : LR C f) (hE : LR E f) (hW : WI f N) (hT : TX E) (hb6 : N + 150 ≤ 1000000) {q v : Nat} (hq : q < 4) (hok : ¬ gX6_isSetting (nI q) (nI v) = 0) : ∀ (H : Heap) (locs : List Loc) (ls : Array Slot), va_P D vwCl (clW ck ca C ++ clW ck cb E) H → va_D (va_A (clW ck ca C ++ clW ck cb E) s.heap.size) (clW ck ca C ++ clW ck cb E) → va_S (va_A (clW ck ca C ++ clW ck cb E) s.heap.size) s.heap H locs → lv_has ls 15 [(0, .ref (ca 0 0)), (1, .ref (cb 0 0)), (2, .int x), (3, .int y), (4, .int (x >>> 4)), (5, .int (nI (nF f))), (9, .int (nI q)), (10, .int (nI v))] → W zp l ze rmL_isStep s zm ([.ref (ca 0 0), .ref (cb 0 0), .int x, .int y] : List Value).toArray zb zt zc H locs 0 0 (MQ zb (xQe D (clW ck ca C ++ clW ck cb E) (fun u : CS × CS × FS => clW ck ca u.1 ++ clW ck cb u.2.1) (fun u : CS × CS × FS => LR u.1 u.2.2 ∧ LR u.2.1 u.2.2 ∧ WI u.2.2 (N + 150) ∧ TX u.2.1) (fun _ => 1) s.heap.size) ([.ref (ca 0 0), .ref (cb 0 0), .int x, .int y] : List Value).toArray s 150 2400 (va_A (clW ck ca C ++ clW ck cb E) s.heap.size)) (F0 zm 691 ls []) := by
  intro H locs ls hP hD hS hl
  have hm := hC.1.2
  have hn := n_le hm
  refine lv_aload_n hx hb dL_isStep_691 rfl (lv_at hl 0 rfl) ?_
  refine lv_bipush (v := 12) hx hb dL_isStep_692 (by decide) ?_
  refine lv_iload hx hb dL_isStep_694 (lv_at hl 6 rfl) ?_
  refine lv_iadd hx hb dL_isStep_696 ?_
  refine xreti (va_runV (As := [.int (12 + (nI q))]) (rest := []) ⟨hx, hb, hml, hown, hts⟩ (mX5_count l D ck ca C (12 + nI q) _) (cwV 1 hts gL_isStep_X5_count rfl rfl rfl (by decide +kernel) ⟨Nat.le_of_ble_eq_true rfl, Nat.le_of_ble_eq_true rfl⟩) (xpreV hN hK hP hD (List.Perm.refl _) 0 rfl rfl rfl) rfl rfl hl.1 rfl (lv_room (Nat.le_of_ble_eq_true rfl)) dL_isStep_697 ⟨Nat.le_of_ble_eq_true rfl, Nat.le_of_ble_eq_true rfl⟩) hP hD hS hA (List.Perm.refl _) (List.Perm.refl _) (fun H locs hP hD hS => ?_)
  have hP : va_P D vwCl (clW ck ca C ++ clW ck cb E) H := hP
  have hD : va_D (va_A (clW ck ca C ++ clW ck cb E) s.heap.size) (clW ck ca C ++ clW ck cb E) := hD
  rw [cnt_set hC hq]
  by_cases hsame : f q = nI v
  · --same
    refine lv_istore (lv' := [(11, .int (f q)), (0, .ref (ca 0 0)), (1, .ref (cb 0 0)), (2, .int x), (3, .int y), (4, .int (x >>> 4)), (5, .int (nI (nF f))), (9, .int (nI q)), (10, .int (nI v))]) hx hb dL_isStep_700 hl (by decide) rfl (fun ls hl => ?_)
    refine lv_aload_n hx hb dL_isStep_702 rfl (lv_at hl 1 rfl) ?_
    refine lv_iload hx hb dL_isStep_703 (lv_at hl 7 rfl) ?_
    refine lv_iload hx hb dL_isStep_705 (lv_at hl 8 rfl) ?_
    refine xreti (va_runV (As := [.int (nI q), .int (nI v)]) (rest := []) ⟨hx, hb, hml, hown, hts⟩ (mX5_set l D ck tt ca C (nI q) (nI v) (LR_hz hC) _) (cwV 2 hts gL_isStep_X5_set rfl rfl rfl (by decide +kernel) ⟨Nat.le_of_ble_eq_true rfl, Nat.le_of_ble_eq_true rfl⟩) (xpreVZ hZ hS hA hN hK hP hD (List.Perm.refl _) 0 rfl rfl rfl) rfl rfl hl.1 rfl (lv_room (Nat.le_of_ble_eq_true rfl)) dL_isStep_707 ⟨Nat.le_of_ble_eq_true rfl, Nat.le_of_ble_eq_true rfl⟩) hP hD hS hA (List.Perm.refl _) (List.Perm.refl _) (fun H locs hP hD hS => ?_)
    have hP : va_P D vwCl (clW ck ca ((gX5_set C (nI q) (nI v)).2) ++ clW ck cb E) H := hP
    have hD : va_D (va_A (clW ck ca C ++ clW ck cb E) s.heap.size) (clW ck ca ((gX5_set C (nI q) (nI v)).2) ++ clW ck cb E) := hD
    have eaC707 : (gX5_set C (nI q) (nI v)) = ((-5), C) := ((l_setN hC hq hok).1 hsame)
    have ebC707 : (gX5_set C (nI q) (nI v)).1 = (-5) := by rw [eaC707]
    have ecC707 : (gX5_set C (nI q) (nI v)).2 = C := by rw [eaC707]
    rw [ebC707]
    rw [ecC707] at hP hD
    refine lv_iload hx hb dL_isStep_710 (lv_at hl 0 rfl) ?_
    refine lv_iload hx hb dL_isStep_712 (lv_at hl 8 rfl) ?_
    refine lv_icmp_ne (tgt := 722) hx hb dL_isStep_714 (by decide) (fun c_714 => ?_) (fun c_714 => ?_)
    · --t
      exact absurd hsame c_714
    · --f
      refine lv_bipush (v := (-5)) hx hb dL_isStep_717 (by decide) ?_
      refine lv_goto (tgt := 724) hx hb dL_isStep_719 (by decide) ?_
      refine lv_icmp_ne (tgt := 770) hx hb dL_isStep_724 (by decide) (fun c_724 => ?_) (fun c_724 => ?_)
      · --t
        exact absurd (by decide) c_724
      · --f
        refine lv_aload_n hx hb dL_isStep_727 rfl (lv_at hl 2 rfl) ?_
        refine lv_iload hx hb dL_isStep_728 (lv_at hl 7 rfl) ?_
        refine lv_iload hx hb dL_isStep_730 (lv_at hl 8 rfl) ?_
        refine xreti (va_runV (As := [.int (nI q), .int (nI v)]) (rest := []) ⟨hx, hb, hml, hown, hts⟩ (mX5_set l D ck tt cb E (nI q) (nI v) (LR_hz hE) _) (cwV 2 hts gL_isStep_X5_set rfl rfl rfl (by decide +kernel) ⟨Nat.le_of_ble_eq_true rfl, Nat.le_of_ble_eq_true rfl⟩) (xpreVZ hZ hS hA hN hK hP hD List.perm_append_comm 0 rfl rfl rfl) rfl rfl hl.1 rfl (lv_room (Nat.le_of_ble_eq_true rfl)) dL_isStep_732 ⟨Nat.le_of_ble_eq_true rfl, Nat.le_of_ble_eq_true rfl⟩) hP hD hS hA List.perm_append_comm List.perm_append_comm (fun H locs hP hD hS => ?_)
        have hP : va_P D vwCl (clW ck ca C ++ clW ck cb ((gX5_set E (nI q) (nI v)).2)) H := hP
        have hD : va_D (va_A (clW ck ca C ++ clW ck cb E) s.heap.size) (clW ck ca C ++ clW ck cb ((gX5_set E (nI q) (nI v)).2)) := hD
        have eaE732 : (gX5_set E (nI q) (nI v)) = ((-5), E) := ((l_setN hE hq hok).1 hsame)
        have ebE732 : (gX5_set E (nI q) (nI v)).1 = (-5) := by rw [eaE732]
        have ecE732 : (gX5_set E (nI q) (nI v)).2 = E := by rw [eaE732]
        rw [ebE732]
        rw [ecE732] at hP hD
        refine lv_iload hx hb dL_isStep_735 (lv_at hl 0 rfl) ?_
        refine lv_iload hx hb dL_isStep_737 (lv_at hl 8 rfl) ?_
        refine lv_icmp_ne (tgt := 747) hx hb dL_isStep_739 (by decide) (fun c_739 => ?_) (fun c_739 => ?_)
        · --t
          exact absurd hsame c_739
        · --f
          refine lv_bipush (v := (-5)) hx hb dL_isStep_742 (by decide) ?_
          refine lv_goto (tgt := 749) hx hb dL_isStep_744 (by decide) ?_
          refine lv_icmp_ne (tgt := 770) hx hb dL_isStep_749 (by decide) (fun c_749 => ?_) (fun c_749 => ?_)
          · --t
            exact absurd (by decide) c_749
          · --f
            refine lv_aload_n hx hb dL_isStep_752 rfl (lv_at hl 1 rfl) ?_
            refine lv_bipush (v := 12) hx hb dL_isStep_753 (by decide) ?_
            refine lv_iload hx hb dL_isStep_755 (lv_at hl 7 rfl) ?_
            refine lv_iadd hx hb dL_isStep_757 ?_
            refine xreti (va_runV (As := [.int (12 + (nI q))]) (rest := []) ⟨hx, hb, hml, hown, hts⟩ (mX5_count l D ck ca C (12 + nI q) _) (cwV 1 hts gL_isStep_X5_count rfl rfl rfl (by decide +kernel) ⟨Nat.le_of_ble_eq_true rfl, Nat.le_of_ble_eq_true rfl⟩) (xpreV hN hK hP hD (List.Perm.refl _) 0 rfl rfl rfl) rfl rfl hl.1 rfl (lv_room (Nat.le_of_ble_eq_true rfl)) dL_isStep_758 ⟨Nat.le_of_ble_eq_true rfl, Nat.le_of_ble_eq_true rfl⟩) hP hD hS hA (List.Perm.refl _) (List.Perm.refl _) (fun H locs hP hD hS => ?_)
            have hP : va_P D vwCl (clW ck ca C ++ clW ck cb E) H := hP
            have hD : va_D (va_A (clW ck ca C ++ clW ck cb E) s.heap.size) (clW ck ca C ++ clW ck cb E) := hD
            rw [cnt_set hC hq]
            rw [show ((f q) : Int32) = (nI v) from hsame]
            refine lv_iload hx hb dL_isStep_761 (lv_at hl 8 rfl) ?_
            refine lv_icmp_ne (tgt := 770) hx hb dL_isStep_763 (by decide) (fun c_763 => ?_) (fun c_763 => ?_)
            · --t
              exact absurd rfl c_763
            · --f
              refine lv_iconst (v := 1) hx hb dL_isStep_766 (by decide) ?_
              refine lv_goto (tgt := 771) hx hb dL_isStep_767 (by decide) ?_
              refine W.widen (k := 150) (n := 2400) (by omega) (by omega) ?_
              exact xezret (C, E, f) ⟨hC, hE, (WI_le hW (by omega)), hT⟩ hx hb hr hlk hP hD hS (Or.inr rfl) rfl rfl dL_isStep_771
  · --new
    refine lv_istore (lv' := [(11, .int (f q)), (0, .ref (ca 0 0)), (1, .ref (cb 0 0)), (2, .int x), (3, .int y), (4, .int (x >>> 4)), (5, .int (nI (nF f))), (9, .int (nI q)), (10, .int (nI v))]) hx hb dL_isStep_700 hl (by decide) rfl (fun ls hl => ?_)
    refine lv_aload_n hx hb dL_isStep_702 rfl (lv_at hl 1 rfl) ?_
    refine lv_iload hx hb dL_isStep_703 (lv_at hl 7 rfl) ?_
    refine lv_iload hx hb dL_isStep_705 (lv_at hl 8 rfl) ?_
    refine xreti (va_runV (As := [.int (nI q), .int (nI v)]) (rest := []) ⟨hx, hb, hml, hown, hts⟩ (mX5_set l D ck tt ca C (nI q) (nI v) (LR_hz hC) _) (cwV 2 hts gL_isStep_X5_set rfl rfl rfl (by decide +kernel) ⟨Nat.le_of_ble_eq_true rfl, Nat.le_of_ble_eq_true rfl⟩) (xpreVZ hZ hS hA hN hK hP hD (List.Perm.refl _) 0 rfl rfl rfl) rfl rfl hl.1 rfl (lv_room (Nat.le_of_ble_eq_true rfl)) dL_isStep_707 ⟨Nat.le_of_ble_eq_true rfl, Nat.le_of_ble_eq_true rfl⟩) hP hD hS hA (List.Perm.refl _) (List.Perm.refl _) (fun H locs hP hD hS => ?_)
    have hP : va_P D vwCl (clW ck ca ((gX5_set C (nI q) (nI v)).2) ++ clW ck cb E) H := hP
    have hD : va_D (va_A (clW ck ca C ++ clW ck cb E) s.heap.size) (clW ck ca ((gX5_set C (nI q) (nI v)).2) ++ clW ck cb E) := hD
    obtain ⟨ebC707, hC707⟩ := ((l_setN hC hq hok).2 hsame)
    rw [ebC707]
    have tkC707 : (gX5_set C (nI q) (nI v)).2.2.2.1 = C.2.2.1 := tx_set
    generalize (gX5_set C (nI q) (nI v)).2 = C707 at hP hD hC707 tkC707
    have hP : va_P D vwCl (clW ck ca C707 ++ clW ck cb E) H := hP
    have hD : va_D (va_A (clW ck ca C ++ clW ck cb E) s.heap.size) (clW ck ca C707 ++ clW ck cb E) := hD
    refine lv_iload hx hb dL_isStep_710 (lv_at hl 0 rfl) ?_
    refine lv_iload hx hb dL_isStep_712 (lv_at hl 8 rfl) ?_
    refine lv_icmp_ne (tgt := 722) hx hb dL_isStep_714 (by decide) (fun c_714 => ?_) (fun c_714 => ?_)
    · --t
      refine lv_iload hx hb dL_isStep_722 (lv_at hl 0 rfl) ?_
      refine lv_icmp_ne (tgt := 770) hx hb dL_isStep_724 (by decide) (fun c_724 => ?_) (fun c_724 => ?_)
      · --t
        exact absurd rfl c_724
      · --f
        refine lv_aload_n hx hb dL_isStep_727 rfl (lv_at hl 2 rfl) ?_
        refine lv_iload hx hb dL_isStep_728 (lv_at hl 7 rfl) ?_
        refine lv_iload hx hb dL_isStep_730 (lv_at hl 8 rfl) ?_
        refine xreti (va_runV (As := [.int (nI q), .int (nI v)]) (rest := []) ⟨hx, hb, hml, hown, hts⟩ (mX5_set l D ck tt cb E (nI q) (nI v) (LR_hz hE) _) (cwV 2 hts gL_isStep_X5_set rfl rfl rfl (by decide +kernel) ⟨Nat.le_of_ble_eq_true rfl, Nat.le_of_ble_eq_true rfl⟩) (xpreVZ hZ hS hA hN hK hP hD List.perm_append_comm 0 rfl rfl rfl) rfl rfl hl.1 rfl (lv_room (Nat.le_of_ble_eq_true rfl)) dL_isStep_732 ⟨Nat.le_of_ble_eq_true rfl, Nat.le_of_ble_eq_true rfl⟩) hP hD hS hA List.perm_append_comm List.perm_append_comm (fun H locs hP hD hS => ?_)
        have hP : va_P D vwCl (clW ck ca C707 ++ clW ck cb ((gX5_set E (nI q) (nI v)).2)) H := hP
        have hD : va_D (va_A (clW ck ca C ++ clW ck cb E) s.heap.size) (clW ck ca C707 ++ clW ck cb ((gX5_set E (nI q) (nI v)).2)) := hD
        obtain ⟨ebE732, hE732⟩ := ((l_setN hE hq hok).2 hsame)
        rw [ebE732]
        have tkE732 : (gX5_set E (nI q) (nI v)).2.2.2.1 = E.2.2.1 := tx_set
        generalize (gX5_set E (nI q) (nI v)).2 = E732 at hP hD hE732 tkE732
        have hP : va_P D vwCl (clW ck ca C707 ++ clW ck cb E732) H := hP
        have hD : va_D (va_A (clW ck ca C ++ clW ck cb E) s.heap.size) (clW ck ca C707 ++ clW ck cb E732) := hD
        refine lv_iload hx hb dL_isStep_735 (lv_at hl 0 rfl) ?_
        refine lv_iload hx hb dL_isStep_737 (lv_at hl 8 rfl) ?_
        refine lv_icmp_ne (tgt := 747) hx hb dL_isStep_739 (by decide) (fun c_739 => ?_) (fun c_739 => ?_)
        · --t
          refine lv_iload hx hb dL_isStep_747 (lv_at hl 0 rfl) ?_
          refine lv_icmp_ne (tgt := 770) hx hb dL_isStep_749 (by decide) (fun c_749 => ?_) (fun c_749 => ?_)
          · --t
            exact absurd rfl c_749
          · --f
            refine lv_aload_n hx hb dL_isStep_752 rfl (lv_at hl 1 rfl) ?_
            refine lv_bipush (v := 12) hx hb dL_isStep_753 (by decide) ?_
            refine lv_iload hx hb dL_isStep_755 (lv_at hl 7 rfl) ?_
            refine lv_iadd hx hb dL_isStep_757 ?_
            refine xreti (va_runV (As := [.int (12 + (nI q))]) (rest := []) ⟨hx, hb, hml, hown, hts⟩ (mX5_count l D ck ca C707 (12 + nI q) _) (cwV 1 hts gL_isStep_X5_count rfl rfl rfl (by decide +kernel) ⟨Nat.le_of_ble_eq_true rfl, Nat.le_of_ble_eq_true rfl⟩) (xpreV hN hK hP hD (List.Perm.refl _) 0 rfl rfl rfl) rfl rfl hl.1 rfl (lv_room (Nat.le_of_ble_eq_true rfl)) dL_isStep_758 ⟨Nat.le_of_ble_eq_true rfl, Nat.le_of_ble_eq_true rfl⟩) hP hD hS hA (List.Perm.refl _) (List.Perm.refl _) (fun H locs hP hD hS => ?_)
            have hP : va_P D vwCl (clW ck ca C707 ++ clW ck cb E732) H := hP
            have hD : va_D (va_A (clW ck ca C ++ clW ck cb E) s.heap.size) (clW ck ca C707 ++ clW ck cb E732) := hD
            rw [cnt_set hC707 hq]
            rw [show (((gX6_goesThrough (upd f q (nI v))) q) : Int32) = (nI v) from (se_q hm hq hok)]
            refine lv_iload hx hb dL_isStep_761 (lv_at hl 8 rfl) ?_
            refine lv_icmp_ne (tgt := 770) hx hb dL_isStep_763 (by decide) (fun c_763 => ?_) (fun c_763 => ?_)
            · --t
              exact absurd rfl c_763
            · --f
              refine lv_iconst (v := 1) hx hb dL_isStep_766 (by decide) ?_
              refine lv_goto (tgt := 771) hx hb dL_isStep_767 (by decide) ?_
              refine W.widen (k := 150) (n := 2400) (by omega) (by omega) ?_
              exact xezret (C707, E732, (gX6_goesThrough (upd f q (nI v)))) ⟨hC707, hE732, (WI_le (se_WIN hW hq hok) (by omega)), (TX_e hT tkE732)⟩ hx hb hr hlk hP hD hS (Or.inr rfl) rfl rfl dL_isStep_771
        · --f
          exact absurd c_739 hsame
    · --f
      exact absurd c_714 hsame
set_option maxHeartbeats 16000000 in
set_option maxRecDepth 100000 in
theorem s_set_a {zp : Program} {l : Launch} {ze : Env} {s : State} {zm : MethodId} {zb : List Frame} {zt : Method} {zc : Code} {D : va_G} {ck : Nat → ClassId} {tt : Nat → Nat} {ca cb : Nat → Nat → Nat} {C E : CS} {f : FS} {N : Nat} {x y : Int32} (hx : zp.tables.exec = Jvm.exec) (hb : zc.code = cL_isStep) (hr : zt.sig.returnType = some .boolean) (hml : zc.maxLocals = 15) (hown : s.vm.findClass RL = some zm.cls) (hts : ∀ w ∈ wsL_isStep, w.before ([.ref (ca 0 0), .ref (cb 0 0), .int x, .int y] : List Value).toArray s = true) (hlk : zt.locks = false) (hN : xN s) (hK : va_K D vwCl (xT ck) s) (hZ : xStat tt (va_A (clW ck ca C ++ clW ck cb E) s.heap.size) s s.heap) (hA : ∀ zq : Nat, s.heap.size ≤ zq → (va_A (clW ck ca C ++ clW ck cb E) s.heap.size) zq) (hC : LR C f) (hE : LR E f) (hW : WI f N) (hT : TX E) (hb6 : N + 150 ≤ 1000000)  : ∀ (H : Heap) (locs : List Loc) (ls : Array Slot), va_P D vwCl (clW ck ca C ++ clW ck cb E) H → va_D (va_A (clW ck ca C ++ clW ck cb E) s.heap.size) (clW ck ca C ++ clW ck cb E) → va_S (va_A (clW ck ca C ++ clW ck cb E) s.heap.size) s.heap H locs → lv_has ls 15 [(0, .ref (ca 0 0)), (1, .ref (cb 0 0)), (2, .int x), (3, .int y), (4, .int (x >>> 4)), (5, .int (nI (nF f)))] → W zp l ze rmL_isStep s zm ([.ref (ca 0 0), .ref (cb 0 0), .int x, .int y] : List Value).toArray zb zt zc H locs 0 0 (MQ zb (xQe D (clW ck ca C ++ clW ck cb E) (fun u : CS × CS × FS => clW ck ca u.1 ++ clW ck cb u.2.1) (fun u : CS × CS × FS => LR u.1 u.2.2 ∧ LR u.2.1 u.2.2 ∧ WI u.2.2 (N + 150) ∧ TX u.2.1) (fun _ => 1) s.heap.size) ([.ref (ca 0 0), .ref (cb 0 0), .int x, .int y] : List Value).toArray s 150 2400 (va_A (clW ck ca C ++ clW ck cb E) s.heap.size)) (F0 zm 627 ls []) := by
  intro H locs ls hP hD hS hl
  have hm := hC.1.2
  have hn := n_le hm
  refine lv_iload hx hb dL_isStep_627 (lv_at hl 4 rfl) ?_
  refine lv_iconst (v := (nI 4)) hx hb dL_isStep_629 (by decide) ?_
  refine xreti (va_runS (As := [.int (x >>> 4), .int (nI 4)]) (rest := []) ⟨hx, hb, hml, hown, hts⟩ (mL_up l D ck (x >>> 4) (nI 4) (nI_ne0 (n := 4) (by omega) (by omega)) _) (va_cwS 2 hts gL_isStep_L_up rfl rfl rfl (by decide +kernel) ⟨Nat.le_of_ble_eq_true rfl, Nat.le_of_ble_eq_true rfl⟩) (xpreS hN hK hP hD pm_none) rfl rfl hl.1 rfl (lv_room (Nat.le_of_ble_eq_true rfl)) dL_isStep_630 ⟨Nat.le_of_ble_eq_true rfl, Nat.le_of_ble_eq_true rfl⟩) hP hD hS hA pm_none pm_none (fun H locs hP hD hS => ?_)
  have hP : va_P D vwCl (clW ck ca C ++ clW ck cb E) H := hP
  have hD : va_D (va_A (clW ck ca C ++ clW ck cb E) s.heap.size) (clW ck ca C ++ clW ck cb E) := hD
  obtain ⟨v630, h630, e630⟩ := up_in (v := (x >>> 4)) (n := 4) (by omega) (by omega)
  rw [e630]
  refine lv_istore (lv' := [(9, .int (nI v630)), (0, .ref (ca 0 0)), (1, .ref (cb 0 0)), (2, .int x), (3, .int y), (4, .int (x >>> 4)), (5, .int (nI (nF f)))]) hx hb dL_isStep_633 hl (by decide) rfl (fun ls hl => ?_)
  refine lv_iload hx hb dL_isStep_635 (lv_at hl 0 rfl) ?_
  refine lv_if_ne (tgt := 667) hx hb dL_isStep_637 (by decide) (fun c_637 => ?_) (fun c_637 => ?_)
  · --t
    refine lv_iload hx hb dL_isStep_667 (lv_at hl 0 rfl) ?_
    refine lv_iconst (v := (nI 3)) hx hb dL_isStep_669 (by decide) ?_
    refine lv_icmp_ne (tgt := 684) hx hb dL_isStep_670 (by decide) (fun c_670 => ?_) (fun c_670 => ?_)
    · --t
      refine lv_iload_n hx hb dL_isStep_684 rfl (lv_at hl 4 rfl) ?_
      refine lv_iconst (v := (nI 2)) hx hb dL_isStep_685 (by decide) ?_
      refine xreti (va_runS (As := [.int y, .int (nI 2)]) (rest := []) ⟨hx, hb, hml, hown, hts⟩ (mL_up l D ck y (nI 2) (nI_ne0 (n := 2) (by omega) (by omega)) _) (va_cwS 2 hts gL_isStep_L_up rfl rfl rfl (by decide +kernel) ⟨Nat.le_of_ble_eq_true rfl, Nat.le_of_ble_eq_true rfl⟩) (xpreS hN hK hP hD pm_none) rfl rfl hl.1 rfl (lv_room (Nat.le_of_ble_eq_true rfl)) dL_isStep_686 ⟨Nat.le_of_ble_eq_true rfl, Nat.le_of_ble_eq_true rfl⟩) hP hD hS hA pm_none pm_none (fun H locs hP hD hS => ?_)
      have hP : va_P D vwCl (clW ck ca C ++ clW ck cb E) H := hP
      have hD : va_D (va_A (clW ck ca C ++ clW ck cb E) s.heap.size) (clW ck ca C ++ clW ck cb E) := hD
      obtain ⟨v686, h686, e686⟩ := up_in (v := y) (n := 2) (by omega) (by omega)
      rw [e686]
      refine lv_istore (lv' := [(10, .int (nI v686)), (9, .int (nI v630)), (0, .ref (ca 0 0)), (1, .ref (cb 0 0)), (2, .int x), (3, .int y), (4, .int (x >>> 4)), (5, .int (nI (nF f)))]) hx hb dL_isStep_689 hl (by decide) rfl (fun ls hl => ?_)
      exact s_set_b hx hb hr hml hown hts hlk hN hK hZ hA hC hE hW hT hb6 (q := v630) (v := v686) h630 (se_12 (by have := q_ne0 h630 c_637; have : ¬ v630 = 3 := fun z => c_670 (by rw [z]); omega) (by omega)) H locs ls hP hD hS (lv_sub hl [2, 3, 4, 5, 6, 7, 1, 0] rfl)
    · --f
      refine lv_iconst (v := (nI 1)) hx hb dL_isStep_673 (by decide) ?_
      refine lv_iload_n hx hb dL_isStep_674 rfl (lv_at hl 4 rfl) ?_
      refine lv_bipush (v := (nI 50)) hx hb dL_isStep_675 (by decide) ?_
      refine xreti (va_runS (As := [.int y, .int (nI 50)]) (rest := [.int (nI 1)]) ⟨hx, hb, hml, hown, hts⟩ (mL_up l D ck y (nI 50) (nI_ne0 (n := 50) (by omega) (by omega)) _) (va_cwS 2 hts gL_isStep_L_up rfl rfl rfl (by decide +kernel) ⟨Nat.le_of_ble_eq_true rfl, Nat.le_of_ble_eq_true rfl⟩) (xpreS hN hK hP hD pm_none) rfl rfl hl.1 rfl (lv_room (Nat.le_of_ble_eq_true rfl)) dL_isStep_677 ⟨Nat.le_of_ble_eq_true rfl, Nat.le_of_ble_eq_true rfl⟩) hP hD hS hA pm_none pm_none (fun H locs hP hD hS => ?_)
      have hP : va_P D vwCl (clW ck ca C ++ clW ck cb E) H := hP
      have hD : va_D (va_A (clW ck ca C ++ clW ck cb E) s.heap.size) (clW ck ca C ++ clW ck cb E) := hD
      obtain ⟨v677, h677, e677⟩ := up_in (v := y) (n := 50) (by omega) (by omega)
      rw [e677]
      refine lv_iadd hx hb dL_isStep_680 ?_
      refine lv_goto (tgt := 689) hx hb dL_isStep_681 (by decide) ?_
      rw [show (((nI 1) + (nI v677)) : Int32) = (nI (1 + v677)) from (nI_add 1 v677)]
      refine lv_istore (lv' := [(10, .int (nI (1 + v677))), (9, .int (nI v630)), (0, .ref (ca 0 0)), (1, .ref (cb 0 0)), (2, .int x), (3, .int y), (4, .int (x >>> 4)), (5, .int (nI (nF f)))]) hx hb dL_isStep_689 hl (by decide) rfl (fun ls hl => ?_)
      exact s_set_b hx hb hr hml hown hts hlk hN hK hZ hA hC hE hW hT hb6 (q := v630) (v := (1 + v677)) h630 (by have e3 : v630 = 3 := (nI_eq (by omega) (by decide)).mp c_670; subst e3; exact se_3 (by omega)) H locs ls hP hD hS (lv_sub hl [2, 3, 4, 5, 6, 7, 1, 0] rfl)
  · --f
    refine lv_bipush (v := (nI 20)) hx hb dL_isStep_640 (by decide) ?_
    refine lv_iload_n hx hb dL_isStep_642 rfl (lv_at hl 4 rfl) ?_
    refine lv_iload hx hb dL_isStep_643 (lv_at hl 5 rfl) ?_
    refine lv_iconst (v := (nI 3)) hx hb dL_isStep_645 (by decide) ?_
    refine xreti (va_runS (As := [.int (x >>> 4), .int (nI 3)]) (rest := [.int y, .int (nI 20)]) ⟨hx, hb, hml, hown, hts⟩ (mL_up l D ck (x >>> 4) (nI 3) (nI_ne0 (n := 3) (by omega) (by omega)) _) (va_cwS 2 hts gL_isStep_L_up rfl rfl rfl (by decide +kernel) ⟨Nat.le_of_ble_eq_true rfl, Nat.le_of_ble_eq_true rfl⟩) (xpreS hN hK hP hD pm_none) rfl rfl hl.1 rfl (lv_room (Nat.le_of_ble_eq_true rfl)) dL_isStep_646 ⟨Nat.le_of_ble_eq_true rfl, Nat.le_of_ble_eq_true rfl⟩) hP hD hS hA pm_none pm_none (fun H locs hP hD hS => ?_)
    have hP : va_P D vwCl (clW ck ca C ++ clW ck cb E) H := hP
    have hD : va_D (va_A (clW ck ca C ++ clW ck cb E) s.heap.size) (clW ck ca C ++ clW ck cb E) := hD
    obtain ⟨v646, h646, e646⟩ := up_in (v := (x >>> 4)) (n := 3) (by omega) (by omega)
    rw [e646]
    refine lv_if_ne (tgt := 658) hx hb dL_isStep_649 (by decide) (fun c_649 => ?_) (fun c_649 => ?_)
    · --t
      refine lv_bipush (v := (nI 60)) hx hb dL_isStep_658 (by decide) ?_
      refine xreti (va_runS (As := [.int y, .int (nI 60)]) (rest := [.int (nI 20)]) ⟨hx, hb, hml, hown, hts⟩ (mL_up l D ck y (nI 60) (nI_ne0 (n := 60) (by omega) (by omega)) _) (va_cwS 2 hts gL_isStep_L_up rfl rfl rfl (by decide +kernel) ⟨Nat.le_of_ble_eq_true rfl, Nat.le_of_ble_eq_true rfl⟩) (xpreS hN hK hP hD pm_none) rfl rfl hl.1 rfl (lv_room (Nat.le_of_ble_eq_true rfl)) dL_isStep_660 ⟨Nat.le_of_ble_eq_true rfl, Nat.le_of_ble_eq_true rfl⟩) hP hD hS hA pm_none pm_none (fun H locs hP hD hS => ?_)
      have hP : va_P D vwCl (clW ck ca C ++ clW ck cb E) H := hP
      have hD : va_D (va_A (clW ck ca C ++ clW ck cb E) s.heap.size) (clW ck ca C ++ clW ck cb E) := hD
      obtain ⟨v660, h660, e660⟩ := up_in (v := y) (n := 60) (by omega) (by omega)
      rw [e660]
      refine lv_iadd hx hb dL_isStep_663 ?_
      refine lv_goto (tgt := 689) hx hb dL_isStep_664 (by decide) ?_
      rw [show (((nI 20) + (nI v660)) : Int32) = (nI (20 + v660)) from (nI_add 20 v660)]
      refine lv_istore (lv' := [(10, .int (nI (20 + v660))), (9, .int (nI v630)), (0, .ref (ca 0 0)), (1, .ref (cb 0 0)), (2, .int x), (3, .int y), (4, .int (x >>> 4)), (5, .int (nI (nF f)))]) hx hb dL_isStep_689 hl (by decide) rfl (fun ls hl => ?_)
      exact s_set_b hx hb hr hml hown hts hlk hN hK hZ hA hC hE hW hT hb6 (q := v630) (v := (20 + v660)) h630 (by obtain rfl := q_eq0 h630 c_637; exact se_0 (by omega)) H locs ls hP hD hS (lv_sub hl [2, 3, 4, 5, 6, 7, 1, 0] rfl)
    · --f
      refine lv_sipush (v := (nI 481)) hx hb dL_isStep_652 (by decide) ?_
      refine lv_goto (tgt := 660) hx hb dL_isStep_655 (by decide) ?_
      refine xreti (va_runS (As := [.int y, .int (nI 481)]) (rest := [.int (nI 20)]) ⟨hx, hb, hml, hown, hts⟩ (mL_up l D ck y (nI 481) (nI_ne0 (n := 481) (by omega) (by omega)) _) (va_cwS 2 hts gL_isStep_L_up rfl rfl rfl (by decide +kernel) ⟨Nat.le_of_ble_eq_true rfl, Nat.le_of_ble_eq_true rfl⟩) (xpreS hN hK hP hD pm_none) rfl rfl hl.1 rfl (lv_room (Nat.le_of_ble_eq_true rfl)) dL_isStep_660 ⟨Nat.le_of_ble_eq_true rfl, Nat.le_of_ble_eq_true rfl⟩) hP hD hS hA pm_none pm_none (fun H locs hP hD hS => ?_)
      have hP : va_P D vwCl (clW ck ca C ++ clW ck cb E) H := hP
      have hD : va_D (va_A (clW ck ca C ++ clW ck cb E) s.heap.size) (clW ck ca C ++ clW ck cb E) := hD
      obtain ⟨v660, h660, e660⟩ := up_in (v := y) (n := 481) (by omega) (by omega)
      rw [e660]
      refine lv_iadd hx hb dL_isStep_663 ?_
      refine lv_goto (tgt := 689) hx hb dL_isStep_664 (by decide) ?_
      rw [show (((nI 20) + (nI v660)) : Int32) = (nI (20 + v660)) from (nI_add 20 v660)]
      refine lv_istore (lv' := [(10, .int (nI (20 + v660))), (9, .int (nI v630)), (0, .ref (ca 0 0)), (1, .ref (cb 0 0)), (2, .int x), (3, .int y), (4, .int (x >>> 4)), (5, .int (nI (nF f)))]) hx hb dL_isStep_689 hl (by decide) rfl (fun ls hl => ?_)
      exact s_set_b hx hb hr hml hown hts hlk hN hK hZ hA hC hE hW hT hb6 (q := v630) (v := (20 + v660)) h630 (by obtain rfl := q_eq0 h630 c_637; exact se_0 (by omega)) H locs ls hP hD hS (lv_sub hl [2, 3, 4, 5, 6, 7, 1, 0] rfl)
