set_option maxHeartbeats 16000000 in
set_option maxRecDepth 100000 in
theorem s_def_b {zp : Program} {l : Launch} {ze : Env} {s : State} {zm : MethodId} {zb : List Frame} {zt : Method} {zc : Code} {D : va_G} {ck : Nat → ClassId} {tt : Nat → Nat} {ca cb : Nat → Nat → Nat} {C E : CS} {f : FS} {N : Nat} {x y : Int32} (hx : zp.tables.exec = Jvm.exec) (hb : zc.code = cL_isStep) (hr : zt.sig.returnType = some .boolean) (hml : zc.maxLocals = 15) (hown : s.vm.findClass RL = some zm.cls) (hts : ∀ w ∈ wsL_isStep, w.before ([.ref (ca 0 0), .ref (cb 0 0), .int x, .int y] : List Value).toArray s = true) (hlk : zt.locks = false) (hN : xN s) (hK : va_K D vwCl (xT ck) s) (hZ : xStat tt (va_A (clW ck ca C ++ clW ck cb E) s.heap.size) s s.heap) (hA : ∀ zq : Nat, s.heap.size ≤ zq → (va_A (clW ck ca C ++ clW ck cb E) s.heap.size) zq) (hC : LR C f) (hE : LR E f) (hW : WI f N) (hT : TX E) (hb6 : N + 150 ≤ 1000000) {a b g J : Nat} (hq : fOK 0 a b g) : ∀ (H : Heap) (locs : List Loc) (ls : Array Slot), va_P D vwCl (clW ck ca C ++ clW ck cb E) H → va_D (va_A (clW ck ca C ++ clW ck cb E) s.heap.size) (clW ck ca C ++ clW ck cb E) → va_S (va_A (clW ck ca C ++ clW ck cb E) s.heap.size) s.heap H locs → lv_has ls 15 [(0, .ref (ca 0 0)), (1, .ref (cb 0 0)), (2, .int x), (3, .int y), (4, .int (x >>> 4)), (5, .int (nI (nF f))), (6, .int (nI J))] → W zp l ze rmL_isStep s zm ([.ref (ca 0 0), .ref (cb 0 0), .int x, .int y] : List Value).toArray zb zt zc H locs 0 0 (MQ zb (xQe D (clW ck ca C ++ clW ck cb E) (fun u : CS × CS × FS => clW ck ca u.1 ++ clW ck cb u.2.1) (fun u : CS × CS × FS => LR u.1 u.2.2 ∧ LR u.2.1 u.2.2 ∧ WI u.2.2 (N + 150) ∧ TX u.2.1) (fun _ => 1) s.heap.size) ([.ref (ca 0 0), .ref (cb 0 0), .int x, .int y] : List Value).toArray s 150 2400 (va_A (clW ck ca C ++ clW ck cb E) s.heap.size)) (F0 zm 818 ls [.int (nI g), .int (nI b), .int (nI a), .ref (ca 0 0)]) := by
  intro H locs ls hP hD hS hl
  have hm := hC.1.2
  have hn := n_le hm
  refine xrete (va_runS (As := [.ref (ca 0 0), .int (nI a), .int (nI b), .int (nI g)]) (rest := []) ⟨hx, hb, hml, hown, hts⟩ (mL_isFound l D ck ca C f hC a b g hq _) (va_cwS 4 hts gL_isStep_L_isFound rfl rfl rfl (by decide +kernel) ⟨Nat.le_of_ble_eq_true rfl, Nat.le_of_ble_eq_true rfl⟩) (xpreS hN hK hP hD (List.Perm.refl _)) rfl rfl hl.1 rfl (lv_room (Nat.le_of_ble_eq_true rfl)) dL_isStep_818 ⟨Nat.le_of_ble_eq_true rfl, Nat.le_of_ble_eq_true rfl⟩) hP hD hS hA (List.Perm.refl _) (fun _ => (List.Perm.refl _)) (fun C1 hC1 H locs hP hD hS => ?_)
  have hP : va_P D vwCl (clW ck ca C1 ++ clW ck cb E) H := hP
  have hD : va_D (va_A (clW ck ca C ++ clW ck cb E) s.heap.size) (clW ck ca C1 ++ clW ck cb E) := hD
  refine lv_if_eq (tgt := 843) hx hb dL_isStep_821 (by decide) (fun c_821 => ?_) (fun c_821 => ?_)
  · --t
    exact absurd c_821 (by decide)
  · --f
    refine lv_aload_n hx hb dL_isStep_824 rfl (lv_at hl 0 rfl) ?_
    refine lv_iload hx hb dL_isStep_825 (lv_at hl 6 rfl) ?_
    refine xreti (va_runV (As := [.int (nI J)]) (rest := []) ⟨hx, hb, hml, hown, hts⟩ (mX5_doneIn l D ck ca C1 (nI J) _) (cwV 1 hts gL_isStep_X5_doneIn rfl rfl rfl (by decide +kernel) ⟨Nat.le_of_ble_eq_true rfl, Nat.le_of_ble_eq_true rfl⟩) (xpreV hN hK hP hD (List.Perm.refl _) 0 rfl rfl rfl) rfl rfl hl.1 rfl (lv_room (Nat.le_of_ble_eq_true rfl)) dL_isStep_827 ⟨Nat.le_of_ble_eq_true rfl, Nat.le_of_ble_eq_true rfl⟩) hP hD hS hA (List.Perm.refl _) (List.Perm.refl _) (fun H locs hP hD hS => ?_)
    have hP : va_P D vwCl (clW ck ca ((gX5_doneIn C1 (nI J)).2) ++ clW ck cb E) H := hP
    have hD : va_D (va_A (clW ck ca C ++ clW ck cb E) s.heap.size) (clW ck ca ((gX5_doneIn C1 (nI J)).2) ++ clW ck cb E) := hD
    obtain ⟨daC827, hC827⟩ := l_doneIn (a := nI J) hC1
    have tkC827 : (gX5_doneIn C1 (nI J)).2.2.2.1 = C1.2.2.1 := tx_done
    generalize (gX5_doneIn C1 (nI J)).1 = rC827 at daC827 ⊢
    generalize (gX5_doneIn C1 (nI J)).2 = C827 at hP hD hC827 tkC827
    have hP : va_P D vwCl (clW ck ca C827 ++ clW ck cb E) H := hP
    have hD : va_D (va_A (clW ck ca C ++ clW ck cb E) s.heap.size) (clW ck ca C827 ++ clW ck cb E) := hD
    refine lv_aload_n hx hb dL_isStep_830 rfl (lv_at hl 1 rfl) ?_
    refine lv_iload hx hb dL_isStep_831 (lv_at hl 6 rfl) ?_
    refine xreti (va_runV (As := [.int (nI J)]) (rest := [.int rC827]) ⟨hx, hb, hml, hown, hts⟩ (mX5_doneIn l D ck cb E (nI J) _) (cwV 1 hts gL_isStep_X5_doneIn rfl rfl rfl (by decide +kernel) ⟨Nat.le_of_ble_eq_true rfl, Nat.le_of_ble_eq_true rfl⟩) (xpreV hN hK hP hD List.perm_append_comm 0 rfl rfl rfl) rfl rfl hl.1 rfl (lv_room (Nat.le_of_ble_eq_true rfl)) dL_isStep_833 ⟨Nat.le_of_ble_eq_true rfl, Nat.le_of_ble_eq_true rfl⟩) hP hD hS hA List.perm_append_comm List.perm_append_comm (fun H locs hP hD hS => ?_)
    have hP : va_P D vwCl (clW ck ca C827 ++ clW ck cb ((gX5_doneIn E (nI J)).2)) H := hP
    have hD : va_D (va_A (clW ck ca C ++ clW ck cb E) s.heap.size) (clW ck ca C827 ++ clW ck cb ((gX5_doneIn E (nI J)).2)) := hD
    obtain ⟨daE833, hE833⟩ := l_doneIn (a := nI J) hE
    have tkE833 : (gX5_doneIn E (nI J)).2.2.2.1 = E.2.2.1 := tx_done
    generalize (gX5_doneIn E (nI J)).1 = rE833 at daE833 ⊢
    generalize (gX5_doneIn E (nI J)).2 = E833 at hP hD hE833 tkE833
    have hP : va_P D vwCl (clW ck ca C827 ++ clW ck cb E833) H := hP
    have hD : va_D (va_A (clW ck ca C ++ clW ck cb E) s.heap.size) (clW ck ca C827 ++ clW ck cb E833) := hD
    refine lv_icmp_ne (tgt := 843) hx hb dL_isStep_836 (by decide) (fun c_836 => ?_) (fun c_836 => ?_)
    · --t
      exact absurd (dAns_one daC827 daE833) c_836
    · --f
      refine lv_iconst (v := 1) hx hb dL_isStep_839 (by decide) ?_
      refine lv_goto (tgt := 844) hx hb dL_isStep_840 (by decide) ?_
      refine W.widen (k := 150) (n := 2400) (by omega) (by omega) ?_
      exact xezret (C827, E833, f) ⟨hC827, hE833, (WI_le hW (by omega)), (TX_e hT tkE833)⟩ hx hb hr hlk hP hD hS (Or.inr rfl) rfl rfl dL_isStep_844
set_option maxHeartbeats 16000000 in
set_option maxRecDepth 100000 in
theorem s_def_a {zp : Program} {l : Launch} {ze : Env} {s : State} {zm : MethodId} {zb : List Frame} {zt : Method} {zc : Code} {D : va_G} {ck : Nat → ClassId} {tt : Nat → Nat} {ca cb : Nat → Nat → Nat} {C E : CS} {f : FS} {N : Nat} {x y : Int32} (hx : zp.tables.exec = Jvm.exec) (hb : zc.code = cL_isStep) (hr : zt.sig.returnType = some .boolean) (hml : zc.maxLocals = 15) (hown : s.vm.findClass RL = some zm.cls) (hts : ∀ w ∈ wsL_isStep, w.before ([.ref (ca 0 0), .ref (cb 0 0), .int x, .int y] : List Value).toArray s = true) (hlk : zt.locks = false) (hN : xN s) (hK : va_K D vwCl (xT ck) s) (hZ : xStat tt (va_A (clW ck ca C ++ clW ck cb E) s.heap.size) s s.heap) (hA : ∀ zq : Nat, s.heap.size ≤ zq → (va_A (clW ck ca C ++ clW ck cb E) s.heap.size) zq) (hC : LR C f) (hE : LR E f) (hW : WI f N) (hT : TX E) (hb6 : N + 150 ≤ 1000000) {J : Nat} : ∀ (H : Heap) (locs : List Loc) (ls : Array Slot), va_P D vwCl (clW ck ca C ++ clW ck cb E) H → va_D (va_A (clW ck ca C ++ clW ck cb E) s.heap.size) (clW ck ca C ++ clW ck cb E) → va_S (va_A (clW ck ca C ++ clW ck cb E) s.heap.size) s.heap H locs → lv_has ls 15 [(0, .ref (ca 0 0)), (1, .ref (cb 0 0)), (2, .int x), (3, .int y), (4, .int (x >>> 4)), (5, .int (nI (nF f))), (6, .int (nI J))] → W zp l ze rmL_isStep s zm ([.ref (ca 0 0), .ref (cb 0 0), .int x, .int y] : List Value).toArray zb zt zc H locs 0 0 (MQ zb (xQe D (clW ck ca C ++ clW ck cb E) (fun u : CS × CS × FS => clW ck ca u.1 ++ clW ck cb u.2.1) (fun u : CS × CS × FS => LR u.1 u.2.2 ∧ LR u.2.1 u.2.2 ∧ WI u.2.2 (N + 150) ∧ TX u.2.1) (fun _ => 1) s.heap.size) ([.ref (ca 0 0), .ref (cb 0 0), .int x, .int y] : List Value).toArray s 150 2400 (va_A (clW ck ca C ++ clW ck cb E) s.heap.size)) (F0 zm 772 ls []) := by
  intro H locs ls hP hD hS hl
  have hm := hC.1.2
  have hn := n_le hm
  refine lv_aload_n hx hb dL_isStep_772 rfl (lv_at hl 0 rfl) ?_
  refine lv_iconst (v := (nI 1)) hx hb dL_isStep_773 (by decide) ?_
  refine lv_iload_n hx hb dL_isStep_774 rfl (lv_at hl 3 rfl) ?_
  refine lv_sipush (v := (nI 200)) hx hb dL_isStep_775 (by decide) ?_
  refine xreti (va_runS (As := [.int y, .int (nI 200)]) (rest := [.int (nI 1), .ref (ca 0 0)]) ⟨hx, hb, hml, hown, hts⟩ (mL_up l D ck y (nI 200) (nI_ne0 (n := 200) (by omega) (by omega)) _) (va_cwS 2 hts gL_isStep_L_up rfl rfl rfl (by decide +kernel) ⟨Nat.le_of_ble_eq_true rfl, Nat.le_of_ble_eq_true rfl⟩) (xpreS hN hK hP hD pm_none) rfl rfl hl.1 rfl (lv_room (Nat.le_of_ble_eq_true rfl)) dL_isStep_778 ⟨Nat.le_of_ble_eq_true rfl, Nat.le_of_ble_eq_true rfl⟩) hP hD hS hA pm_none pm_none (fun H locs hP hD hS => ?_)
  have hP : va_P D vwCl (clW ck ca C ++ clW ck cb E) H := hP
  have hD : va_D (va_A (clW ck ca C ++ clW ck cb E) s.heap.size) (clW ck ca C ++ clW ck cb E) := hD
  obtain ⟨v778, h778, e778⟩ := up_in (v := y) (n := 200) (by omega) (by omega)
  rw [e778]
  refine lv_iadd hx hb dL_isStep_781 ?_
  rw [show (((nI 1) + (nI v778)) : Int32) = (nI (1 + v778)) from (nI_add 1 v778)]
  refine lv_iconst (v := (nI 1)) hx hb dL_isStep_782 (by decide) ?_
  refine lv_iload_n hx hb dL_isStep_783 rfl (lv_at hl 3 rfl) ?_
  refine lv_bipush (v := 7) hx hb dL_isStep_784 (by decide) ?_
  refine lv_ishr hx hb dL_isStep_786 ?_
  refine lv_sipush (v := (nI 200)) hx hb dL_isStep_787 (by decide) ?_
  refine xreti (va_runS (As := [.int (y >>> 7), .int (nI 200)]) (rest := [.int (nI 1), .int (nI (1 + v778)), .ref (ca 0 0)]) ⟨hx, hb, hml, hown, hts⟩ (mL_up l D ck (y >>> 7) (nI 200) (nI_ne0 (n := 200) (by omega) (by omega)) _) (va_cwS 2 hts gL_isStep_L_up rfl rfl rfl (by decide +kernel) ⟨Nat.le_of_ble_eq_true rfl, Nat.le_of_ble_eq_true rfl⟩) (xpreS hN hK hP hD pm_none) rfl rfl hl.1 rfl (lv_room (Nat.le_of_ble_eq_true rfl)) dL_isStep_790 ⟨Nat.le_of_ble_eq_true rfl, Nat.le_of_ble_eq_true rfl⟩) hP hD hS hA pm_none pm_none (fun H locs hP hD hS => ?_)
  have hP : va_P D vwCl (clW ck ca C ++ clW ck cb E) H := hP
  have hD : va_D (va_A (clW ck ca C ++ clW ck cb E) s.heap.size) (clW ck ca C ++ clW ck cb E) := hD
  obtain ⟨v790, h790, e790⟩ := up_in (v := (y >>> 7)) (n := 200) (by omega) (by omega)
  rw [e790]
  refine lv_iadd hx hb dL_isStep_793 ?_
  rw [show (((nI 1) + (nI v790)) : Int32) = (nI (1 + v790)) from (nI_add 1 v790)]
  refine lv_iconst (v := (nI 3)) hx hb dL_isStep_794 (by decide) ?_
  refine lv_iload hx hb dL_isStep_795 (lv_at hl 4 rfl) ?_
  refine lv_iload hx hb dL_isStep_797 (lv_at hl 4 rfl) ?_
  refine lv_iconst (v := (nI 2)) hx hb dL_isStep_799 (by decide) ?_
  refine xreti (va_runS (As := [.int (x >>> 4), .int (nI 2)]) (rest := [.int (x >>> 4), .int (nI 3), .int (nI (1 + v790)), .int (nI (1 + v778)), .ref (ca 0 0)]) ⟨hx, hb, hml, hown, hts⟩ (mL_up l D ck (x >>> 4) (nI 2) (nI_ne0 (n := 2) (by omega) (by omega)) _) (va_cwS 2 hts gL_isStep_L_up rfl rfl rfl (by decide +kernel) ⟨Nat.le_of_ble_eq_true rfl, Nat.le_of_ble_eq_true rfl⟩) (xpreS hN hK hP hD pm_none) rfl rfl hl.1 rfl (lv_room (Nat.le_of_ble_eq_true rfl)) dL_isStep_800 ⟨Nat.le_of_ble_eq_true rfl, Nat.le_of_ble_eq_true rfl⟩) hP hD hS hA pm_none pm_none (fun H locs hP hD hS => ?_)
  have hP : va_P D vwCl (clW ck ca C ++ clW ck cb E) H := hP
  have hD : va_D (va_A (clW ck ca C ++ clW ck cb E) s.heap.size) (clW ck ca C ++ clW ck cb E) := hD
  obtain ⟨v800, h800, e800⟩ := up_in (v := (x >>> 4)) (n := 2) (by omega) (by omega)
  rw [e800]
  refine lv_if_ne (tgt := 812) hx hb dL_isStep_803 (by decide) (fun c_803 => ?_) (fun c_803 => ?_)
  · --t
    refine lv_bipush (v := (nI 25)) hx hb dL_isStep_812 (by decide) ?_
    refine xreti (va_runS (As := [.int (x >>> 4), .int (nI 25)]) (rest := [.int (nI 3), .int (nI (1 + v790)), .int (nI (1 + v778)), .ref (ca 0 0)]) ⟨hx, hb, hml, hown, hts⟩ (mL_up l D ck (x >>> 4) (nI 25) (nI_ne0 (n := 25) (by omega) (by omega)) _) (va_cwS 2 hts gL_isStep_L_up rfl rfl rfl (by decide +kernel) ⟨Nat.le_of_ble_eq_true rfl, Nat.le_of_ble_eq_true rfl⟩) (xpreS hN hK hP hD pm_none) rfl rfl hl.1 rfl (lv_room (Nat.le_of_ble_eq_true rfl)) dL_isStep_814 ⟨Nat.le_of_ble_eq_true rfl, Nat.le_of_ble_eq_true rfl⟩) hP hD hS hA pm_none pm_none (fun H locs hP hD hS => ?_)
    have hP : va_P D vwCl (clW ck ca C ++ clW ck cb E) H := hP
    have hD : va_D (va_A (clW ck ca C ++ clW ck cb E) s.heap.size) (clW ck ca C ++ clW ck cb E) := hD
    obtain ⟨v814, h814, e814⟩ := up_in (v := (x >>> 4)) (n := 25) (by omega) (by omega)
    rw [e814]
    refine lv_iadd hx hb dL_isStep_817 ?_
    rw [show (((nI 3) + (nI v814)) : Int32) = (nI (3 + v814)) from (nI_add 3 v814)]
    exact s_def_b hx hb hr hml hown hts hlk hN hK hZ hA hC hE hW hT hb6 (a := (1 + v778)) (b := (1 + v790)) (g := (3 + v814)) (J := J) ⟨by omega, by omega, by omega, by omega⟩ H locs ls hP hD hS (lv_sub hl [0, 1, 2, 3, 4, 5, 6] rfl)
  · --f
    refine lv_sipush (v := (nI 498)) hx hb dL_isStep_806 (by decide) ?_
    refine lv_goto (tgt := 814) hx hb dL_isStep_809 (by decide) ?_
    refine xreti (va_runS (As := [.int (x >>> 4), .int (nI 498)]) (rest := [.int (nI 3), .int (nI (1 + v790)), .int (nI (1 + v778)), .ref (ca 0 0)]) ⟨hx, hb, hml, hown, hts⟩ (mL_up l D ck (x >>> 4) (nI 498) (nI_ne0 (n := 498) (by omega) (by omega)) _) (va_cwS 2 hts gL_isStep_L_up rfl rfl rfl (by decide +kernel) ⟨Nat.le_of_ble_eq_true rfl, Nat.le_of_ble_eq_true rfl⟩) (xpreS hN hK hP hD pm_none) rfl rfl hl.1 rfl (lv_room (Nat.le_of_ble_eq_true rfl)) dL_isStep_814 ⟨Nat.le_of_ble_eq_true rfl, Nat.le_of_ble_eq_true rfl⟩) hP hD hS hA pm_none pm_none (fun H locs hP hD hS => ?_)
    have hP : va_P D vwCl (clW ck ca C ++ clW ck cb E) H := hP
    have hD : va_D (va_A (clW ck ca C ++ clW ck cb E) s.heap.size) (clW ck ca C ++ clW ck cb E) := hD
    obtain ⟨v814, h814, e814⟩ := up_in (v := (x >>> 4)) (n := 498) (by omega) (by omega)
    rw [e814]
    refine lv_iadd hx hb dL_isStep_817 ?_
    rw [show (((nI 3) + (nI v814)) : Int32) = (nI (3 + v814)) from (nI_add 3 v814)]
    exact s_def_b hx hb hr hml hown hts hlk hN hK hZ hA hC hE hW hT hb6 (a := (1 + v778)) (b := (1 + v790)) (g := (3 + v814)) (J := J) ⟨by omega, by omega, by omega, by omega⟩ H locs ls hP hD hS (lv_sub hl [0, 1, 2, 3, 4, 5, 6] rfl)
