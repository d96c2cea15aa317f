set_option maxHeartbeats 16000000 in
set_option maxRecDepth 100000 in
theorem s_step_b {zp : Program} {l : Launch} {ze : Env} {s : State} {zm : MethodId} {zb : List Frame} {zt : Method} {zc : Code} {D : va_G} {ck : Nat → ClassId} {tt : Nat → Nat} {ca cb : Nat → Nat → Nat} {C E : CS} {f : FS} {N : Nat} {x y : Int32} (hx : zp.tables.exec = Jvm.exec) (hb : zc.code = cL_isStep) (hr : zt.sig.returnType = some .boolean) (hml : zc.maxLocals = 15) (hown : s.vm.findClass RL = some zm.cls) (hts : ∀ w ∈ wsL_isStep, w.before ([.ref (ca 0 0), .ref (cb 0 0), .int x, .int y] : List Value).toArray s = true) (hlk : zt.locks = false) (hN : xN s) (hK : va_K D vwCl (xT ck) s) (hZ : xStat tt (va_A (clW ck ca C ++ clW ck cb E) s.heap.size) s s.heap) (hA : ∀ zq : Nat, s.heap.size ≤ zq → (va_A (clW ck ca C ++ clW ck cb E) s.heap.size) zq) (hC : LR C f) (hE : LR E f) (hW : WI f N) (hT : TX E) (hb6 : N + 150 ≤ 1000000) {S : Nat} (hS1 : 1 ≤ S ∧ S ≤ 150) : ∀ (H : Heap) (locs : List Loc) (ls : Array Slot), va_P D vwCl (clW ck ca C ++ clW ck cb E) H → va_D (va_A (clW ck ca C ++ clW ck cb E) s.heap.size) (clW ck ca C ++ clW ck cb E) → va_S (va_A (clW ck ca C ++ clW ck cb E) s.heap.size) s.heap H locs → lv_has ls 15 [(0, .ref (ca 0 0)), (1, .ref (cb 0 0)), (2, .int x), (3, .int y), (4, .int (x >>> 4)), (5, .int (nI (nF f))), (9, .int (nI S))] → W zp l ze rmL_isStep s zm ([.ref (ca 0 0), .ref (cb 0 0), .int x, .int y] : List Value).toArray zb zt zc H locs 0 0 (MQ zb (xQe D (clW ck ca C ++ clW ck cb E) (fun u : CS × CS × FS => clW ck ca u.1 ++ clW ck cb u.2.1) (fun u : CS × CS × FS => LR u.1 u.2.2 ∧ LR u.2.1 u.2.2 ∧ WI u.2.2 (N + 150) ∧ TX u.2.1) (fun _ => 1) s.heap.size) ([.ref (ca 0 0), .ref (cb 0 0), .int x, .int y] : List Value).toArray s 150 2400 (va_A (clW ck ca C ++ clW ck cb E) s.heap.size)) (F0 zm 541 ls []) := by
  intro H locs ls hP hD hS hl
  have hm := hC.1.2
  have hn := n_le hm
  refine lv_aload_n hx hb dL_isStep_541 rfl (lv_at hl 0 rfl) ?_
  refine lv_iconst (v := 3) hx hb dL_isStep_542 (by decide) ?_
  refine xreti (va_runV (As := [.int 3]) (rest := []) ⟨hx, hb, hml, hown, hts⟩ (mX5_count l D ck ca C 3 _) (cwV 1 hts gL_isStep_X5_count rfl rfl rfl (by decide +kernel) ⟨Nat.le_of_ble_eq_true rfl, Nat.le_of_ble_eq_true rfl⟩) (xpreV hN hK hP hD (List.Perm.refl _) 0 rfl rfl rfl) rfl rfl hl.1 rfl (lv_room (Nat.le_of_ble_eq_true rfl)) dL_isStep_543 ⟨Nat.le_of_ble_eq_true rfl, Nat.le_of_ble_eq_true rfl⟩) hP hD hS hA (List.Perm.refl _) (List.Perm.refl _) (fun H locs hP hD hS => ?_)
  have hP : va_P D vwCl (clW ck ca C ++ clW ck cb E) H := hP
  have hD : va_D (va_A (clW ck ca C ++ clW ck cb E) s.heap.size) (clW ck ca C ++ clW ck cb E) := hD
  rw [cnt_3 hC]
  refine lv_istore (lv' := [(10, .int (gX6_manyWith f 2)), (0, .ref (ca 0 0)), (1, .ref (cb 0 0)), (2, .int x), (3, .int y), (4, .int (x >>> 4)), (5, .int (nI (nF f))), (9, .int (nI S))]) hx hb dL_isStep_546 hl (by decide) rfl (fun ls hl => ?_)
  refine lv_aload_n hx hb dL_isStep_548 rfl (lv_at hl 1 rfl) ?_
  refine lv_iload hx hb dL_isStep_549 (lv_at hl 7 rfl) ?_
  refine xreti (va_runV (As := [.int (nI S)]) (rest := []) ⟨hx, hb, hml, hown, hts⟩ (mX5_step l D ck ca C (nI S) (LR_hz hC) _) (cwV 1 hts gL_isStep_X5_step rfl rfl rfl (by decide +kernel) ⟨Nat.le_of_ble_eq_true rfl, Nat.le_of_ble_eq_true rfl⟩) (xpreV hN hK hP hD (List.Perm.refl _) 0 rfl rfl rfl) rfl rfl hl.1 rfl (lv_room (Nat.le_of_ble_eq_true rfl)) dL_isStep_551 ⟨Nat.le_of_ble_eq_true rfl, Nat.le_of_ble_eq_true rfl⟩) hP hD hS hA (List.Perm.refl _) (List.Perm.refl _) (fun H locs hP hD hS => ?_)
  have hP : va_P D vwCl (clW ck ca ((gX5_step C (nI S)).2) ++ clW ck cb E) H := hP
  have hD : va_D (va_A (clW ck ca C ++ clW ck cb E) s.heap.size) (clW ck ca ((gX5_step C (nI S)).2) ++ clW ck cb E) := hD
  obtain ⟨ebC551, hC551⟩ := (l_step hC hS1.1 (by omega))
  rw [ebC551]
  have tkC551 : (gX5_step C (nI S)).2.2.2.1 = C.2.2.1 := tx_step
  generalize (gX5_step C (nI S)).2 = C551 at hP hD hC551 tkC551
  have hP : va_P D vwCl (clW ck ca C551 ++ clW ck cb E) H := hP
  have hD : va_D (va_A (clW ck ca C ++ clW ck cb E) s.heap.size) (clW ck ca C551 ++ clW ck cb E) := hD
  refine lv_istore (lv' := [(11, .int (gX6_manyWith (stN f S) 2 - gX6_manyWith f 2)), (10, .int (gX6_manyWith f 2)), (0, .ref (ca 0 0)), (1, .ref (cb 0 0)), (2, .int x), (3, .int y), (4, .int (x >>> 4)), (5, .int (nI (nF f))), (9, .int (nI S))]) hx hb dL_isStep_554 hl (by decide) rfl (fun ls hl => ?_)
  refine lv_iload hx hb dL_isStep_556 (lv_at hl 0 rfl) ?_
  refine lv_aload_n hx hb dL_isStep_558 rfl (lv_at hl 2 rfl) ?_
  refine lv_iconst (v := 3) hx hb dL_isStep_559 (by decide) ?_
  refine xreti (va_runV (As := [.int 3]) (rest := [.int (gX6_manyWith (stN f S) 2 - gX6_manyWith f 2)]) ⟨hx, hb, hml, hown, hts⟩ (mX5_count l D ck ca C551 3 _) (cwV 1 hts gL_isStep_X5_count rfl rfl rfl (by decide +kernel) ⟨Nat.le_of_ble_eq_true rfl, Nat.le_of_ble_eq_true rfl⟩) (xpreV hN hK hP hD (List.Perm.refl _) 0 rfl rfl rfl) rfl rfl hl.1 rfl (lv_room (Nat.le_of_ble_eq_true rfl)) dL_isStep_560 ⟨Nat.le_of_ble_eq_true rfl, Nat.le_of_ble_eq_true rfl⟩) hP hD hS hA (List.Perm.refl _) (List.Perm.refl _) (fun H locs hP hD hS => ?_)
  have hP : va_P D vwCl (clW ck ca C551 ++ clW ck cb E) H := hP
  have hD : va_D (va_A (clW ck ca C ++ clW ck cb E) s.heap.size) (clW ck ca C551 ++ clW ck cb E) := hD
  rw [cnt_3 hC551]
  refine lv_iload hx hb dL_isStep_563 (lv_at hl 1 rfl) ?_
  refine lv_isub hx hb dL_isStep_565 ?_
  refine lv_icmp_ne (tgt := 573) hx hb dL_isStep_566 (by decide) (fun c_566 => ?_) (fun c_566 => ?_)
  · --t
    exact absurd rfl c_566
  · --f
    refine lv_iconst (v := 1) hx hb dL_isStep_569 (by decide) ?_
    refine lv_goto (tgt := 574) hx hb dL_isStep_570 (by decide) ?_
    refine lv_istore (lv' := [(12, .int 1), (11, .int (gX6_manyWith (stN f S) 2 - gX6_manyWith f 2)), (10, .int (gX6_manyWith f 2)), (0, .ref (ca 0 0)), (1, .ref (cb 0 0)), (2, .int x), (3, .int y), (4, .int (x >>> 4)), (5, .int (nI (nF f))), (9, .int (nI S))]) hx hb dL_isStep_574 hl (by decide) rfl (fun ls hl => ?_)
    refine lv_iconst (v := (nI 0)) hx hb dL_isStep_576 (by decide) ?_
    refine lv_istore (lv' := [(13, .int (nI 0)), (12, .int 1), (11, .int (gX6_manyWith (stN f S) 2 - gX6_manyWith f 2)), (10, .int (gX6_manyWith f 2)), (0, .ref (ca 0 0)), (1, .ref (cb 0 0)), (2, .int x), (3, .int y), (4, .int (x >>> 4)), (5, .int (nI (nF f))), (9, .int (nI S))]) hx hb dL_isStep_577 hl (by decide) rfl (fun ls hl => ?_)
    have loop579 : ∀ (fu579 : Nat) (k : Nat) (E1 : CS), (k + fu579 = S) → (LR E1 (stN f k)) → (TX E1) → ∀ (H : Heap) (locs : List Loc) (ls : Array Slot), va_P D vwCl (clW ck ca C551 ++ clW ck cb E1) H → va_D (va_A (clW ck ca C ++ clW ck cb E) s.heap.size) (clW ck ca C551 ++ clW ck cb E1) → va_S (va_A (clW ck ca C ++ clW ck cb E) s.heap.size) s.heap H locs → lv_has ls 15 [(0, .ref (ca 0 0)), (1, .ref (cb 0 0)), (9, .int (nI S)), (12, .int 1), (13, .int (nI k))] → W zp l ze rmL_isStep s zm ([.ref (ca 0 0), .ref (cb 0 0), .int x, .int y] : List Value).toArray zb zt zc H locs k (16 * k) (MQ zb (xQe D (clW ck ca C ++ clW ck cb E) (fun u : CS × CS × FS => clW ck ca u.1 ++ clW ck cb u.2.1) (fun u : CS × CS × FS => LR u.1 u.2.2 ∧ LR u.2.1 u.2.2 ∧ WI u.2.2 (N + 150) ∧ TX u.2.1) (fun _ => 1) s.heap.size) ([.ref (ca 0 0), .ref (cb 0 0), .int x, .int y] : List Value).toArray s 150 2400 (va_A (clW ck ca C ++ clW ck cb E) s.heap.size)) (F0 zm 579 ls []) := by
      intro fu579
      induction fu579 with
      | zero =>
          intro k E1 hf579 hE1 hT1 H locs ls hP hD hS hl
          obtain rfl : S = k := by omega
          refine lv_iload hx hb dL_isStep_579 (lv_at hl 4 rfl) ?_
          refine lv_iload hx hb dL_isStep_581 (lv_at hl 2 rfl) ?_
          refine lv_icmp_ge (tgt := 603) hx hb dL_isStep_583 (by decide) (fun c_583 => ?_) (fun c_583 => ?_)
          · --t
            refine lv_iload hx hb dL_isStep_603 (lv_at hl 3 rfl) ?_
            refine lv_if_eq (tgt := 625) hx hb dL_isStep_605 (by decide) (fun c_605 => ?_) (fun c_605 => ?_)
            · --t
              exact absurd c_605 (by decide)
            · --f
              refine lv_aload_n hx hb dL_isStep_608 rfl (lv_at hl 1 rfl) ?_
              refine lv_iconst (v := 3) hx hb dL_isStep_609 (by decide) ?_
              refine xreti (va_runV (As := [.int 3]) (rest := []) ⟨hx, hb, hml, hown, hts⟩ (mX5_count l D ck cb E1 3 _) (cwV 1 hts gL_isStep_X5_count rfl rfl rfl (by decide +kernel) ⟨Nat.le_of_ble_eq_true rfl, Nat.le_of_ble_eq_true rfl⟩) (xpreV hN hK hP hD List.perm_append_comm 0 rfl rfl rfl) rfl rfl hl.1 rfl (lv_room (Nat.le_of_ble_eq_true rfl)) dL_isStep_610 ⟨(show S + 0 ≤ 150 by omega), (show (16 * S) + 0 ≤ 2400 by omega)⟩) hP hD hS hA List.perm_append_comm List.perm_append_comm (fun H locs hP hD hS => ?_)
              have hP : va_P D vwCl (clW ck ca C551 ++ clW ck cb E1) H := hP
              have hD : va_D (va_A (clW ck ca C ++ clW ck cb E) s.heap.size) (clW ck ca C551 ++ clW ck cb E1) := hD
              rw [cnt_3 hE1]
              refine lv_aload_n hx hb dL_isStep_613 rfl (lv_at hl 0 rfl) ?_
              refine lv_iconst (v := 3) hx hb dL_isStep_614 (by decide) ?_
              refine xreti (va_runV (As := [.int 3]) (rest := [.int (gX6_manyWith (stN f S) 2)]) ⟨hx, hb, hml, hown, hts⟩ (mX5_count l D ck ca C551 3 _) (cwV 1 hts gL_isStep_X5_count rfl rfl rfl (by decide +kernel) ⟨Nat.le_of_ble_eq_true rfl, Nat.le_of_ble_eq_true rfl⟩) (xpreV hN hK hP hD (List.Perm.refl _) 0 rfl rfl rfl) rfl rfl hl.1 rfl (lv_room (Nat.le_of_ble_eq_true rfl)) dL_isStep_615 ⟨(show S + 0 ≤ 150 by omega), (show (16 * S) + 0 ≤ 2400 by omega)⟩) hP hD hS hA (List.Perm.refl _) (List.Perm.refl _) (fun H locs hP hD hS => ?_)
              have hP : va_P D vwCl (clW ck ca C551 ++ clW ck cb E1) H := hP
              have hD : va_D (va_A (clW ck ca C ++ clW ck cb E) s.heap.size) (clW ck ca C551 ++ clW ck cb E1) := hD
              rw [cnt_3 hC551]
              refine lv_icmp_ne (tgt := 625) hx hb dL_isStep_618 (by decide) (fun c_618 => ?_) (fun c_618 => ?_)
              · --t
                exact absurd rfl c_618
              · --f
                refine lv_iconst (v := 1) hx hb dL_isStep_621 (by decide) ?_
                refine lv_goto (tgt := 626) hx hb dL_isStep_622 (by decide) ?_
                refine W.widen (k := 150) (n := 2400) (by omega) (by omega) ?_
                exact xezret (C551, E1, (stN f S)) ⟨hC551, hE1, (WI_le (stN_WI hW S (by omega)) (by omega)), hT1⟩ hx hb hr hlk hP hD hS (Or.inr rfl) rfl rfl dL_isStep_626
          · --f
            exact absurd (nI_le (by omega) (by omega)) c_583
      | succ fu579 ih579 =>
          intro k E1 hf579 hE1 hT1 H locs ls hP hD hS hl
          refine lv_iload hx hb dL_isStep_579 (lv_at hl 4 rfl) ?_
          refine lv_iload hx hb dL_isStep_581 (lv_at hl 2 rfl) ?_
          refine lv_icmp_ge (tgt := 603) hx hb dL_isStep_583 (by decide) (fun c_583 => ?_) (fun c_583 => ?_)
          · --t
            exact absurd c_583 (nI_ge (by omega) (by omega))
          · --f
            refine lv_iload hx hb dL_isStep_586 (lv_at hl 3 rfl) ?_
            refine lv_if_eq (tgt := 603) hx hb dL_isStep_588 (by decide) (fun c_588 => ?_) (fun c_588 => ?_)
            · --t
              exact absurd c_588 (by decide)
            · --f
              refine lv_aload_n hx hb dL_isStep_591 rfl (lv_at hl 1 rfl) ?_
              refine xreti (va_runS (As := [.ref (cb 0 0)]) (rest := []) ⟨hx, hb, hml, hown, hts⟩ (mL_isSingle l D ck cb E1 (stN f k) hE1 _) (va_cwS 1 hts gL_isStep_L_isSingle rfl rfl rfl (by decide +kernel) ⟨Nat.le_of_ble_eq_true rfl, Nat.le_of_ble_eq_true rfl⟩) (xpreS hN hK hP hD List.perm_append_comm) rfl rfl hl.1 rfl (lv_room (Nat.le_of_ble_eq_true rfl)) dL_isStep_592 ⟨show k + 1 ≤ 150 by omega, show 16 * k + 16 ≤ 2400 by omega⟩) hP hD hS hA List.perm_append_comm List.perm_append_comm (fun H locs hP hD hS => ?_)
              have hP : va_P D vwCl (clW ck ca C551 ++ clW ck cb ((gX5_step E1 1).2)) H := hP
              have hD : va_D (va_A (clW ck ca C ++ clW ck cb E) s.heap.size) (clW ck ca C551 ++ clW ck cb ((gX5_step E1 1).2)) := hD
              have hE2 : LR (gX5_step E1 1).2 (stN f (k + 1)) := (l_step1 hE1).2
              refine lv_istore (lv' := [(12, .int 1), (0, .ref (ca 0 0)), (1, .ref (cb 0 0)), (9, .int (nI S)), (13, .int (nI k))]) hx hb dL_isStep_595 hl (by decide) rfl (fun ls hl => ?_)
              refine lv_iinc (v := (nI (k + 1))) (lv' := [(13, .int (nI (k + 1))), (12, .int 1), (0, .ref (ca 0 0)), (1, .ref (cb 0 0)), (9, .int (nI S))]) hx hb dL_isStep_597 hl (k := 4) rfl (nI_1 k) (by decide) rfl (fun ls hl => ?_)
              refine lv_goto (tgt := 579) hx hb dL_isStep_600 (by decide) ?_
              refine W.widen (k := k + 1) (n := 16 * (k + 1)) (by omega) (by omega) ?_
              exact ih579 (k + 1) ((gX5_step E1 1).2) (by omega) hE2 (TX_e hT1 tx_step) _ _ _ hP hD hS (lv_sub hl [2, 3, 4, 1, 0] rfl)
    exact loop579 S 0 E (by omega) hE hT _ _ _ hP hD hS (lv_sub hl [4, 5, 10, 1, 0] rfl)
set_option maxHeartbeats 16000000 in
set_option maxRecDepth 100000 in
theorem s_step_a {zp : Program} {l : Launch} {ze : Env} {s : State} {zm : MethodId} {zb : List Frame} {zt : Method} {zc : Code} {D : va_G} {ck : Nat → ClassId} {tt : Nat → Nat} {ca cb : Nat → Nat → Nat} {C E : CS} {f : FS} {N : Nat} {x y : Int32} (hx : zp.tables.exec = Jvm.exec) (hb : zc.code = cL_isStep) (hr : zt.sig.returnType = some .boolean) (hml : zc.maxLocals = 15) (hown : s.vm.findClass RL = some zm.cls) (hts : ∀ w ∈ wsL_isStep, w.before ([.ref (ca 0 0), .ref (cb 0 0), .int x, .int y] : List Value).toArray s = true) (hlk : zt.locks = false) (hN : xN s) (hK : va_K D vwCl (xT ck) s) (hZ : xStat tt (va_A (clW ck ca C ++ clW ck cb E) s.heap.size) s s.heap) (hA : ∀ zq : Nat, s.heap.size ≤ zq → (va_A (clW ck ca C ++ clW ck cb E) s.heap.size) zq) (hC : LR C f) (hE : LR E f) (hW : WI f N) (hT : TX E) (hb6 : N + 150 ≤ 1000000)  : ∀ (H : Heap) (locs : List Loc) (ls : Array Slot), va_P D vwCl (clW ck ca C ++ clW ck cb E) H → va_D (va_A (clW ck ca C ++ clW ck cb E) s.heap.size) (clW ck ca C ++ clW ck cb E) → va_S (va_A (clW ck ca C ++ clW ck cb E) s.heap.size) s.heap H locs → lv_has ls 15 [(0, .ref (ca 0 0)), (1, .ref (cb 0 0)), (2, .int x), (3, .int y), (4, .int (x >>> 4)), (5, .int (nI (nF f)))] → W zp l ze rmL_isStep s zm ([.ref (ca 0 0), .ref (cb 0 0), .int x, .int y] : List Value).toArray zb zt zc H locs 0 0 (MQ zb (xQe D (clW ck ca C ++ clW ck cb E) (fun u : CS × CS × FS => clW ck ca u.1 ++ clW ck cb u.2.1) (fun u : CS × CS × FS => LR u.1 u.2.2 ∧ LR u.2.1 u.2.2 ∧ WI u.2.2 (N + 150) ∧ TX u.2.1) (fun _ => 1) s.heap.size) ([.ref (ca 0 0), .ref (cb 0 0), .int x, .int y] : List Value).toArray s 150 2400 (va_A (clW ck ca C ++ clW ck cb E) s.heap.size)) (F0 zm 516 ls []) := by
  intro H locs ls hP hD hS hl
  have hm := hC.1.2
  have hn := n_le hm
  refine lv_iconst (v := (nI 1)) hx hb dL_isStep_516 (by decide) ?_
  refine lv_iload_n hx hb dL_isStep_517 rfl (lv_at hl 3 rfl) ?_
  refine lv_iload hx hb dL_isStep_518 (lv_at hl 4 rfl) ?_
  refine lv_iconst (v := (nI 4)) hx hb dL_isStep_520 (by decide) ?_
  refine xreti (va_runS (As := [.int (x >>> 4), .int (nI 4)]) (rest := [.int y, .int (nI 1)]) ⟨hx, hb, hml, hown, hts⟩ (mL_up l D ck (x >>> 4) (nI 4) (nI_ne0 (n := 4) (by omega) (by omega)) _) (va_cwS 2 hts gL_isStep_L_up rfl rfl rfl (by decide +kernel) ⟨Nat.le_of_ble_eq_true rfl, Nat.le_of_ble_eq_true rfl⟩) (xpreS hN hK hP hD pm_none) rfl rfl hl.1 rfl (lv_room (Nat.le_of_ble_eq_true rfl)) dL_isStep_521 ⟨Nat.le_of_ble_eq_true rfl, Nat.le_of_ble_eq_true rfl⟩) hP hD hS hA pm_none pm_none (fun H locs hP hD hS => ?_)
  have hP : va_P D vwCl (clW ck ca C ++ clW ck cb E) H := hP
  have hD : va_D (va_A (clW ck ca C ++ clW ck cb E) s.heap.size) (clW ck ca C ++ clW ck cb E) := hD
  obtain ⟨v521, h521, e521⟩ := up_in (v := (x >>> 4)) (n := 4) (by omega) (by omega)
  rw [e521]
  refine lv_if_ne (tgt := 533) hx hb dL_isStep_524 (by decide) (fun c_524 => ?_) (fun c_524 => ?_)
  · --t
    refine lv_bipush (v := (nI 12)) hx hb dL_isStep_533 (by decide) ?_
    refine xreti (va_runS (As := [.int y, .int (nI 12)]) (rest := [.int (nI 1)]) ⟨hx, hb, hml, hown, hts⟩ (mL_up l D ck y (nI 12) (nI_ne0 (n := 12) (by omega) (by omega)) _) (va_cwS 2 hts gL_isStep_L_up rfl rfl rfl (by decide +kernel) ⟨Nat.le_of_ble_eq_true rfl, Nat.le_of_ble_eq_true rfl⟩) (xpreS hN hK hP hD pm_none) rfl rfl hl.1 rfl (lv_room (Nat.le_of_ble_eq_true rfl)) dL_isStep_535 ⟨Nat.le_of_ble_eq_true rfl, Nat.le_of_ble_eq_true rfl⟩) hP hD hS hA pm_none pm_none (fun H locs hP hD hS => ?_)
    have hP : va_P D vwCl (clW ck ca C ++ clW ck cb E) H := hP
    have hD : va_D (va_A (clW ck ca C ++ clW ck cb E) s.heap.size) (clW ck ca C ++ clW ck cb E) := hD
    obtain ⟨v535, h535, e535⟩ := up_in (v := y) (n := 12) (by omega) (by omega)
    rw [e535]
    refine lv_iadd hx hb dL_isStep_538 ?_
    rw [show (((nI 1) + (nI v535)) : Int32) = (nI (1 + v535)) from (nI_add 1 v535)]
    refine lv_istore (lv' := [(9, .int (nI (1 + v535))), (0, .ref (ca 0 0)), (1, .ref (cb 0 0)), (2, .int x), (3, .int y), (4, .int (x >>> 4)), (5, .int (nI (nF f)))]) hx hb dL_isStep_539 hl (by decide) rfl (fun ls hl => ?_)
    exact s_step_b hx hb hr hml hown hts hlk hN hK hZ hA hC hE hW hT hb6 (S := (1 + v535)) (by omega) H locs ls hP hD hS (lv_sub hl [1, 2, 3, 4, 5, 6, 0] rfl)
  · --f
    refine lv_sipush (v := (nI 150)) hx hb dL_isStep_527 (by decide) ?_
    refine lv_goto (tgt := 535) hx hb dL_isStep_530 (by decide) ?_
    refine xreti (va_runS (As := [.int y, .int (nI 150)]) (rest := [.int (nI 1)]) ⟨hx, hb, hml, hown, hts⟩ (mL_up l D ck y (nI 150) (nI_ne0 (n := 150) (by omega) (by omega)) _) (va_cwS 2 hts gL_isStep_L_up rfl rfl rfl (by decide +kernel) ⟨Nat.le_of_ble_eq_true rfl, Nat.le_of_ble_eq_true rfl⟩) (xpreS hN hK hP hD pm_none) rfl rfl hl.1 rfl (lv_room (Nat.le_of_ble_eq_true rfl)) dL_isStep_535 ⟨Nat.le_of_ble_eq_true rfl, Nat.le_of_ble_eq_true rfl⟩) hP hD hS hA pm_none pm_none (fun H locs hP hD hS => ?_)
    have hP : va_P D vwCl (clW ck ca C ++ clW ck cb E) H := hP
    have hD : va_D (va_A (clW ck ca C ++ clW ck cb E) s.heap.size) (clW ck ca C ++ clW ck cb E) := hD
    obtain ⟨v535, h535, e535⟩ := up_in (v := y) (n := 150) (by omega) (by omega)
    rw [e535]
    refine lv_iadd hx hb dL_isStep_538 ?_
    rw [show (((nI 1) + (nI v535)) : Int32) = (nI (1 + v535)) from (nI_add 1 v535)]
    refine lv_istore (lv' := [(9, .int (nI (1 + v535))), (0, .ref (ca 0 0)), (1, .ref (cb 0 0)), (2, .int x), (3, .int y), (4, .int (x >>> 4)), (5, .int (nI (nF f)))]) hx hb dL_isStep_539 hl (by decide) rfl (fun ls hl => ?_)
    exact s_step_b hx hb hr hml hown hts hlk hN hK hZ hA hC hE hW hT hb6 (S := (1 + v535)) (by omega) H locs ls hP hD hS (lv_sub hl [1, 2, 3, 4, 5, 6, 0] rfl)
