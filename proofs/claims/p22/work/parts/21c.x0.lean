def rmX0_dropOldest : Room := { frames := 0, cells := 0, slots := 0, locals := 0 }
set_option maxHeartbeats 4000000 in
set_option maxRecDepth 100000 in
theorem mX0_dropOldest (l : Launch) (D : va_G) (ck : Nat → ClassId) (ha : Nat → Nat) (sz : Int32) (b : Nat → Nat) (vs : Nat → List Value) : xMv l yX0_dropOldest wsX0_dropOldest rmX0_dropOldest D ck [.ref (ha 0)] (hhW ck ha sz (fun i => some (b i)) ++ pcW b vs) (hhW ck ha 3 (fun i => some (rotF b i)) ++ pcW b vs) 0 0 := by
  refine xMet (by decide) rfl (Nat.le_of_ble_eq_true rfl) ?_
  intro zp ze s zm zb zt zc hx hb hr hml hown hts hlk hnm hN hK hP hD ls hl
  have hown : s.vm.findClass RX0 = some zm.cls := hown
  have hl : lv_has ls 3 [(0, .ref (ha 0))] := hl
  have hS : va_S (va_A (hhW ck ha sz (fun i => some (b i)) ++ pcW b vs) s.heap.size) s.heap s.heap [] := va_S.rf
  have hA : ∀ zq : Nat, s.heap.size ≤ zq → va_A (hhW ck ha sz (fun i => some (b i)) ++ pcW b vs) s.heap.size zq := fun zq h => Or.inr h
  have hinX0 : ∀ w ∈ u_ws RX0 TX0 2, w ∈ wsX0_dropOldest := by decide +kernel
  refine lv_aload_n hx hb dX0_dropOldest_0 rfl (lv_at hl 0 rfl) ?_
  refine va_get (D := D) (ci := 0) (v := .ref (ha 1)) (C := RX0) (T := TX0) (N := 2) hx hb hts hinX0 hown hK hP 0 rfl rfl 0 (by decide) (hts (.fieldLink RX0 11 "JoinGrants$History" "states" "[LJoinGrants$Pool;") (List.mem_of_getElem? (i := 1) rfl)) (fun _ h9 => h9) rfl dX0_dropOldest_1 ?_
  refine lv_iconst (v := 0) hx hb dX0_dropOldest_4 (by decide) ?_
  refine xaldq (j := 0) (b := b 0) (by decide) hx hb hK hP 1 3 rfl rfl (by unfold vp_in; decide) rfl dX0_dropOldest_5 ?_
  refine lv_astore_n (lv' := [(1, .ref (b 0)), (0, .ref (ha 0))]) hx hb dX0_dropOldest_6 rfl hl (by decide) rfl (fun ls hl => ?_)
  refine lv_iconst (v := 1) hx hb dX0_dropOldest_7 (by decide) ?_
  refine lv_istore_n (lv' := [(2, .int 1), (1, .ref (b 0)), (0, .ref (ha 0))]) hx hb dX0_dropOldest_8 rfl hl (by decide) rfl (fun ls hl => ?_)
  refine lv_iload_n hx hb dX0_dropOldest_9 rfl (lv_at hl 0 rfl) ?_
  refine lv_aload_n hx hb dX0_dropOldest_10 rfl (lv_at hl 2 rfl) ?_
  refine va_get (D := D) (ci := 0) (v := .ref (ha 1)) (C := RX0) (T := TX0) (N := 2) hx hb hts hinX0 hown hK hP 0 rfl rfl 0 (by decide) (hts (.fieldLink RX0 11 "JoinGrants$History" "states" "[LJoinGrants$Pool;") (List.mem_of_getElem? (i := 1) rfl)) (fun _ h9 => h9) rfl dX0_dropOldest_11 ?_
  refine va_alen hx hb hK hP 1 3 rfl rfl (v := 4) rfl dX0_dropOldest_14 ?_
  refine lv_icmp_ge (tgt := 38) hx hb dX0_dropOldest_15 (by decide) (fun c_15 => ?_) (fun c_15 => ?_)
  · --t
    exact absurd c_15 (by decide)
  · --f
    refine lv_aload_n hx hb dX0_dropOldest_18 rfl (lv_at hl 2 rfl) ?_
    refine va_get (D := D) (ci := 0) (v := .ref (ha 1)) (C := RX0) (T := TX0) (N := 2) hx hb hts hinX0 hown hK hP 0 rfl rfl 0 (by decide) (hts (.fieldLink RX0 11 "JoinGrants$History" "states" "[LJoinGrants$Pool;") (List.mem_of_getElem? (i := 1) rfl)) (fun _ h9 => h9) rfl dX0_dropOldest_19 ?_
    refine lv_iload_n hx hb dX0_dropOldest_22 rfl (lv_at hl 0 rfl) ?_
    refine lv_iconst (v := 1) hx hb dX0_dropOldest_23 (by decide) ?_
    refine lv_isub hx hb dX0_dropOldest_24 ?_
    refine lv_aload_n hx hb dX0_dropOldest_25 rfl (lv_at hl 2 rfl) ?_
    refine va_get (D := D) (ci := 0) (v := .ref (ha 1)) (C := RX0) (T := TX0) (N := 2) hx hb hts hinX0 hown hK hP 0 rfl rfl 0 (by decide) (hts (.fieldLink RX0 11 "JoinGrants$History" "states" "[LJoinGrants$Pool;") (List.mem_of_getElem? (i := 1) rfl)) (fun _ h9 => h9) rfl dX0_dropOldest_26 ?_
    refine lv_iload_n hx hb dX0_dropOldest_29 rfl (lv_at hl 0 rfl) ?_
    refine xaldq (j := 1) (b := b 1) (by decide) hx hb hK hP 1 3 rfl rfl (by unfold vp_in; decide) rfl dX0_dropOldest_30 ?_
    refine xastq (j := 0) (r := (RX4, TX4, 7)) (by decide) hx hb hK hP hD hS 1 3 3 4 rfl rfl rfl rfl (by unfold vp_in; decide) dX0_dropOldest_31 (fun H locs hP hD hS => ?_)
    have hP : va_P D vwCl (hhW ck ha sz (va_up (fun i => some (b i)) 0 (some (b 1))) ++ pcW b vs) H := hP
    have hD : va_D (va_A (hhW ck ha sz (fun i => some (b i)) ++ pcW b vs) s.heap.size) (hhW ck ha sz (va_up (fun i => some (b i)) 0 (some (b 1))) ++ pcW b vs) := hD
    refine lv_iinc (v := 2) (lv' := [(2, .int 2), (1, .ref (b 0)), (0, .ref (ha 0))]) hx hb dX0_dropOldest_32 hl (k := 0) rfl (by decide) (by decide) rfl (fun ls hl => ?_)
    refine lv_goto (tgt := 9) hx hb dX0_dropOldest_35 (by decide) ?_
    refine lv_iload_n hx hb dX0_dropOldest_9 rfl (lv_at hl 0 rfl) ?_
    refine lv_aload_n hx hb dX0_dropOldest_10 rfl (lv_at hl 2 rfl) ?_
    refine va_get (D := D) (ci := 0) (v := .ref (ha 1)) (C := RX0) (T := TX0) (N := 2) hx hb hts hinX0 hown hK hP 0 rfl rfl 0 (by decide) (hts (.fieldLink RX0 11 "JoinGrants$History" "states" "[LJoinGrants$Pool;") (List.mem_of_getElem? (i := 1) rfl)) (fun _ h9 => h9) rfl dX0_dropOldest_11 ?_
    refine va_alen hx hb hK hP 1 3 rfl rfl (v := 4) rfl dX0_dropOldest_14 ?_
    refine lv_icmp_ge (tgt := 38) hx hb dX0_dropOldest_15 (by decide) (fun c_15 => ?_) (fun c_15 => ?_)
    · --t
      exact absurd c_15 (by decide)
    · --f
      refine lv_aload_n hx hb dX0_dropOldest_18 rfl (lv_at hl 2 rfl) ?_
      refine va_get (D := D) (ci := 0) (v := .ref (ha 1)) (C := RX0) (T := TX0) (N := 2) hx hb hts hinX0 hown hK hP 0 rfl rfl 0 (by decide) (hts (.fieldLink RX0 11 "JoinGrants$History" "states" "[LJoinGrants$Pool;") (List.mem_of_getElem? (i := 1) rfl)) (fun _ h9 => h9) rfl dX0_dropOldest_19 ?_
      refine lv_iload_n hx hb dX0_dropOldest_22 rfl (lv_at hl 0 rfl) ?_
      refine lv_iconst (v := 1) hx hb dX0_dropOldest_23 (by decide) ?_
      refine lv_isub hx hb dX0_dropOldest_24 ?_
      refine lv_aload_n hx hb dX0_dropOldest_25 rfl (lv_at hl 2 rfl) ?_
      refine va_get (D := D) (ci := 0) (v := .ref (ha 1)) (C := RX0) (T := TX0) (N := 2) hx hb hts hinX0 hown hK hP 0 rfl rfl 0 (by decide) (hts (.fieldLink RX0 11 "JoinGrants$History" "states" "[LJoinGrants$Pool;") (List.mem_of_getElem? (i := 1) rfl)) (fun _ h9 => h9) rfl dX0_dropOldest_26 ?_
      refine lv_iload_n hx hb dX0_dropOldest_29 rfl (lv_at hl 0 rfl) ?_
      refine xaldq (j := 2) (b := b 2) (by decide) hx hb hK hP 1 3 rfl rfl (by unfold vp_in; decide) rfl dX0_dropOldest_30 ?_
      refine xastq (j := 1) (r := (RX4, TX4, 7)) (by decide) hx hb hK hP hD hS 1 3 4 4 rfl rfl rfl rfl (by unfold vp_in; decide) dX0_dropOldest_31 (fun H locs hP hD hS => ?_)
      have hP : va_P D vwCl (hhW ck ha sz (va_up (va_up (fun i => some (b i)) 0 (some (b 1))) 1 (some (b 2))) ++ pcW b vs) H := hP
      have hD : va_D (va_A (hhW ck ha sz (fun i => some (b i)) ++ pcW b vs) s.heap.size) (hhW ck ha sz (va_up (va_up (fun i => some (b i)) 0 (some (b 1))) 1 (some (b 2))) ++ pcW b vs) := hD
      refine lv_iinc (v := 3) (lv' := [(2, .int 3), (1, .ref (b 0)), (0, .ref (ha 0))]) hx hb dX0_dropOldest_32 hl (k := 0) rfl (by decide) (by decide) rfl (fun ls hl => ?_)
      refine lv_goto (tgt := 9) hx hb dX0_dropOldest_35 (by decide) ?_
      refine lv_iload_n hx hb dX0_dropOldest_9 rfl (lv_at hl 0 rfl) ?_
      refine lv_aload_n hx hb dX0_dropOldest_10 rfl (lv_at hl 2 rfl) ?_
      refine va_get (D := D) (ci := 0) (v := .ref (ha 1)) (C := RX0) (T := TX0) (N := 2) hx hb hts hinX0 hown hK hP 0 rfl rfl 0 (by decide) (hts (.fieldLink RX0 11 "JoinGrants$History" "states" "[LJoinGrants$Pool;") (List.mem_of_getElem? (i := 1) rfl)) (fun _ h9 => h9) rfl dX0_dropOldest_11 ?_
      refine va_alen hx hb hK hP 1 3 rfl rfl (v := 4) rfl dX0_dropOldest_14 ?_
      refine lv_icmp_ge (tgt := 38) hx hb dX0_dropOldest_15 (by decide) (fun c_15 => ?_) (fun c_15 => ?_)
      · --t
        exact absurd c_15 (by decide)
      · --f
        refine lv_aload_n hx hb dX0_dropOldest_18 rfl (lv_at hl 2 rfl) ?_
        refine va_get (D := D) (ci := 0) (v := .ref (ha 1)) (C := RX0) (T := TX0) (N := 2) hx hb hts hinX0 hown hK hP 0 rfl rfl 0 (by decide) (hts (.fieldLink RX0 11 "JoinGrants$History" "states" "[LJoinGrants$Pool;") (List.mem_of_getElem? (i := 1) rfl)) (fun _ h9 => h9) rfl dX0_dropOldest_19 ?_
        refine lv_iload_n hx hb dX0_dropOldest_22 rfl (lv_at hl 0 rfl) ?_
        refine lv_iconst (v := 1) hx hb dX0_dropOldest_23 (by decide) ?_
        refine lv_isub hx hb dX0_dropOldest_24 ?_
        refine lv_aload_n hx hb dX0_dropOldest_25 rfl (lv_at hl 2 rfl) ?_
        refine va_get (D := D) (ci := 0) (v := .ref (ha 1)) (C := RX0) (T := TX0) (N := 2) hx hb hts hinX0 hown hK hP 0 rfl rfl 0 (by decide) (hts (.fieldLink RX0 11 "JoinGrants$History" "states" "[LJoinGrants$Pool;") (List.mem_of_getElem? (i := 1) rfl)) (fun _ h9 => h9) rfl dX0_dropOldest_26 ?_
        refine lv_iload_n hx hb dX0_dropOldest_29 rfl (lv_at hl 0 rfl) ?_
        refine xaldq (j := 3) (b := b 3) (by decide) hx hb hK hP 1 3 rfl rfl (by unfold vp_in; decide) rfl dX0_dropOldest_30 ?_
        refine xastq (j := 2) (r := (RX4, TX4, 7)) (by decide) hx hb hK hP hD hS 1 3 5 4 rfl rfl rfl rfl (by unfold vp_in; decide) dX0_dropOldest_31 (fun H locs hP hD hS => ?_)
        have hP : va_P D vwCl (hhW ck ha sz (va_up (va_up (va_up (fun i => some (b i)) 0 (some (b 1))) 1 (some (b 2))) 2 (some (b 3))) ++ pcW b vs) H := hP
        have hD : va_D (va_A (hhW ck ha sz (fun i => some (b i)) ++ pcW b vs) s.heap.size) (hhW ck ha sz (va_up (va_up (va_up (fun i => some (b i)) 0 (some (b 1))) 1 (some (b 2))) 2 (some (b 3))) ++ pcW b vs) := hD
        refine lv_iinc (v := 4) (lv' := [(2, .int 4), (1, .ref (b 0)), (0, .ref (ha 0))]) hx hb dX0_dropOldest_32 hl (k := 0) rfl (by decide) (by decide) rfl (fun ls hl => ?_)
        refine lv_goto (tgt := 9) hx hb dX0_dropOldest_35 (by decide) ?_
        refine lv_iload_n hx hb dX0_dropOldest_9 rfl (lv_at hl 0 rfl) ?_
        refine lv_aload_n hx hb dX0_dropOldest_10 rfl (lv_at hl 2 rfl) ?_
        refine va_get (D := D) (ci := 0) (v := .ref (ha 1)) (C := RX0) (T := TX0) (N := 2) hx hb hts hinX0 hown hK hP 0 rfl rfl 0 (by decide) (hts (.fieldLink RX0 11 "JoinGrants$History" "states" "[LJoinGrants$Pool;") (List.mem_of_getElem? (i := 1) rfl)) (fun _ h9 => h9) rfl dX0_dropOldest_11 ?_
        refine va_alen hx hb hK hP 1 3 rfl rfl (v := 4) rfl dX0_dropOldest_14 ?_
        refine lv_icmp_ge (tgt := 38) hx hb dX0_dropOldest_15 (by decide) (fun c_15 => ?_) (fun c_15 => ?_)
        · --t
          refine lv_aload_n hx hb dX0_dropOldest_38 rfl (lv_at hl 2 rfl) ?_
          refine va_get (D := D) (ci := 0) (v := .ref (ha 1)) (C := RX0) (T := TX0) (N := 2) hx hb hts hinX0 hown hK hP 0 rfl rfl 0 (by decide) (hts (.fieldLink RX0 11 "JoinGrants$History" "states" "[LJoinGrants$Pool;") (List.mem_of_getElem? (i := 1) rfl)) (fun _ h9 => h9) rfl dX0_dropOldest_39 ?_
          refine lv_aload_n hx hb dX0_dropOldest_42 rfl (lv_at hl 2 rfl) ?_
          refine va_get (D := D) (ci := 0) (v := .ref (ha 1)) (C := RX0) (T := TX0) (N := 2) hx hb hts hinX0 hown hK hP 0 rfl rfl 0 (by decide) (hts (.fieldLink RX0 11 "JoinGrants$History" "states" "[LJoinGrants$Pool;") (List.mem_of_getElem? (i := 1) rfl)) (fun _ h9 => h9) rfl dX0_dropOldest_43 ?_
          refine va_alen hx hb hK hP 1 3 rfl rfl (v := 4) rfl dX0_dropOldest_46 ?_
          refine lv_iconst (v := 1) hx hb dX0_dropOldest_47 (by decide) ?_
          refine lv_isub hx hb dX0_dropOldest_48 ?_
          refine lv_aload_n hx hb dX0_dropOldest_49 rfl (lv_at hl 1 rfl) ?_
          refine xastq (j := 3) (r := (RX4, TX4, 7)) (by decide) hx hb hK hP hD hS 1 3 2 4 rfl rfl rfl rfl (by unfold vp_in; decide) dX0_dropOldest_50 (fun H locs hP hD hS => ?_)
          have hP : va_P D vwCl (hhW ck ha sz (va_up (va_up (va_up (va_up (fun i => some (b i)) 0 (some (b 1))) 1 (some (b 2))) 2 (some (b 3))) 3 (some (b 0))) ++ pcW b vs) H := hP
          have hD : va_D (va_A (hhW ck ha sz (fun i => some (b i)) ++ pcW b vs) s.heap.size) (hhW ck ha sz (va_up (va_up (va_up (va_up (fun i => some (b i)) 0 (some (b 1))) 1 (some (b 2))) 2 (some (b 3))) 3 (some (b 0))) ++ pcW b vs) := hD
          refine lv_aload_n hx hb dX0_dropOldest_51 rfl (lv_at hl 2 rfl) ?_
          refine lv_aload_n hx hb dX0_dropOldest_52 rfl (lv_at hl 2 rfl) ?_
          refine va_get (D := D) (ci := 0) (v := .ref (ha 1)) (C := RX0) (T := TX0) (N := 2) hx hb hts hinX0 hown hK hP 0 rfl rfl 0 (by decide) (hts (.fieldLink RX0 11 "JoinGrants$History" "states" "[LJoinGrants$Pool;") (List.mem_of_getElem? (i := 1) rfl)) (fun _ h9 => h9) rfl dX0_dropOldest_53 ?_
          refine va_alen hx hb hK hP 1 3 rfl rfl (v := 4) rfl dX0_dropOldest_56 ?_
          refine lv_iconst (v := 1) hx hb dX0_dropOldest_57 (by decide) ?_
          refine lv_isub hx hb dX0_dropOldest_58 ?_
          refine va_put (D := D) (ci := 0) (v := .int (4 - 1)) (ty := .int) (C := RX0) (T := TX0) (N := 2) hx hb hts hinX0 tyX0 tyX0_ok nmX0 hown hK hP hD hS 0 rfl rfl 1 (by decide) (hts (.fieldLink RX0 16 "JoinGrants$History" "size" "I") (List.mem_of_getElem? (i := 2) rfl)) (fun _ h9 => h9) rfl (by decide +kernel) rfl rfl (Nat.le_of_ble_eq_true rfl) dX0_dropOldest_59 (fun H locs hP hD hS => ?_)
          have hP : va_P D vwCl (hhW ck ha (4 - 1) (va_up (va_up (va_up (va_up (fun i => some (b i)) 0 (some (b 1))) 1 (some (b 2))) 2 (some (b 3))) 3 (some (b 0))) ++ pcW b vs) H := hP
          have hD : va_D (va_A (hhW ck ha sz (fun i => some (b i)) ++ pcW b vs) s.heap.size) (hhW ck ha (4 - 1) (va_up (va_up (va_up (va_up (fun i => some (b i)) 0 (some (b 1))) 1 (some (b 2))) 2 (some (b 3))) 3 (some (b 0))) ++ pcW b vs) := hD
          exact xvret hx hb hr hlk hP hD hS (by rw [arr_rot, show (4 : Int32) - 1 = 3 by decide]) dX0_dropOldest_62
        · --f
          exact absurd (by decide) c_15

def rmX0_record : Room := { frames := 3, cells := 0, slots := 0, locals := 64 }
set_option maxHeartbeats 4000000 in
set_option maxRecDepth 100000 in
theorem mX0_record (l : Launch) (D : va_G) (ck : Nat → ClassId) (ha pa : Nat → Nat) (S : HS3) (P : PS) (hz : ¬ S.1 < 0) : xMv l yX0_record wsX0_record rmX0_record D ck [.ref (ha 0), .ref (pa 0)] (histW ck ha S ++ poolW ck pa P) (histW ck ha (gX0_record S P) ++ poolW ck pa P) 0 0 := by
  refine xMet (by decide) rfl (Nat.le_of_ble_eq_true rfl) ?_
  intro zp ze s zm zb zt zc hx hb hr hml hown hts hlk hnm hN hK hP hD ls hl
  have hown : s.vm.findClass RX0 = some zm.cls := hown
  have hl : lv_has ls 2 [(0, .ref (ha 0)), (1, .ref (pa 0))] := hl
  have hS : va_S (va_A (histW ck ha S ++ poolW ck pa P) s.heap.size) s.heap s.heap [] := va_S.rf
  have hA : ∀ zq : Nat, s.heap.size ≤ zq → va_A (histW ck ha S ++ poolW ck pa P) s.heap.size zq := fun zq h => Or.inr h
  have hinX0 : ∀ w ∈ u_ws RX0 TX0 2, w ∈ wsX0_record := by decide +kernel
  refine lv_aload_n hx hb dX0_record_0 rfl (lv_at hl 0 rfl) ?_
  refine va_get (D := D) (ci := 0) (v := .int S.1) (C := RX0) (T := TX0) (N := 2) hx hb hts hinX0 hown hK hP 0 rfl rfl 1 (by decide) (hts (.fieldLink RX0 16 "JoinGrants$History" "size" "I") (List.mem_of_getElem? (i := 1) rfl)) (fun _ h9 => h9) rfl dX0_record_1 ?_
  refine lv_aload_n hx hb dX0_record_4 rfl (lv_at hl 0 rfl) ?_
  refine va_get (D := D) (ci := 0) (v := .ref (ha 1)) (C := RX0) (T := TX0) (N := 2) hx hb hts hinX0 hown hK hP 0 rfl rfl 0 (by decide) (hts (.fieldLink RX0 11 "JoinGrants$History" "states" "[LJoinGrants$Pool;") (List.mem_of_getElem? (i := 2) rfl)) (fun _ h9 => h9) rfl dX0_record_5 ?_
  refine va_alen hx hb hK hP 1 3 rfl rfl (v := (nI 4)) rfl dX0_record_8 ?_
  refine lv_icmp_lt (tgt := 16) hx hb dX0_record_9 (by decide) (fun c_9 => ?_) (fun c_9 => ?_)
  · --t
    refine lv_aload_n hx hb dX0_record_16 rfl (lv_at hl 0 rfl) ?_
    refine va_get (D := D) (ci := 0) (v := .ref (ha 1)) (C := RX0) (T := TX0) (N := 2) hx hb hts hinX0 hown hK hP 0 rfl rfl 0 (by decide) (hts (.fieldLink RX0 11 "JoinGrants$History" "states" "[LJoinGrants$Pool;") (List.mem_of_getElem? (i := 2) rfl)) (fun _ h9 => h9) rfl dX0_record_17 ?_
    refine lv_aload_n hx hb dX0_record_20 rfl (lv_at hl 0 rfl) ?_
    refine va_get (D := D) (ci := 0) (v := .int S.1) (C := RX0) (T := TX0) (N := 2) hx hb hts hinX0 hown hK hP 0 rfl rfl 1 (by decide) (hts (.fieldLink RX0 16 "JoinGrants$History" "size" "I") (List.mem_of_getElem? (i := 1) rfl)) (fun _ h9 => h9) rfl dX0_record_21 ?_
    have hj4 : S.1.toNatClampNeg < 4 := (hz_lt hz c_9)
    refine xaldq (j := S.1.toNatClampNeg) (b := (S.2.1 S.1.toNatClampNeg 0)) rfl hx hb hK hP 1 3 rfl rfl (hz_in hz c_9) rfl dX0_record_24 ?_
    refine lv_aload_n hx hb dX0_record_25 rfl (lv_at hl 1 rfl) ?_
    refine xretv (va_runV (As := [.ref (pa 0)]) (rest := []) ⟨hx, hb, hml, hown, hts⟩ (mX4_copyFrom l D ck (S.2.1 S.1.toNatClampNeg) pa (S.2.2 S.1.toNatClampNeg) P _) (cwV 1 hts gX0_record_X4_copyFrom rfl rfl rfl (by decide +kernel) ⟨Nat.le_of_ble_eq_true rfl, Nat.le_of_ble_eq_true rfl⟩) (xpreV hN hK hP hD (pm_hj (S := S) (j := S.1.toNatClampNeg) hj4) 0 rfl rfl rfl) rfl rfl hl.1 rfl (lv_room (Nat.le_of_ble_eq_true rfl)) dX0_record_26 ⟨Nat.le_of_ble_eq_true rfl, Nat.le_of_ble_eq_true rfl⟩) hP hD hS hA (pm_hj (S := S) (j := S.1.toNatClampNeg) hj4) (pm_hj' (S := S) (j := S.1.toNatClampNeg) hj4) (fun H locs hP hD hS => ?_)
    have hP : va_P D vwCl (histW ck ha (S.1, S.2.1, va_up S.2.2 S.1.toNatClampNeg (gX4_copyFrom (S.2.2 S.1.toNatClampNeg) P)) ++ poolW ck pa P) H := hP
    have hD : va_D (va_A (histW ck ha S ++ poolW ck pa P) s.heap.size) (histW ck ha (S.1, S.2.1, va_up S.2.2 S.1.toNatClampNeg (gX4_copyFrom (S.2.2 S.1.toNatClampNeg) P)) ++ poolW ck pa P) := hD
    refine lv_aload_n hx hb dX0_record_29 rfl (lv_at hl 0 rfl) ?_
    refine lv_dup hx hb dX0_record_30 rfl ?_
    refine va_get (D := D) (ci := 0) (v := .int S.1) (C := RX0) (T := TX0) (N := 2) hx hb hts hinX0 hown hK hP 0 rfl rfl 1 (by decide) (hts (.fieldLink RX0 16 "JoinGrants$History" "size" "I") (List.mem_of_getElem? (i := 1) rfl)) (fun _ h9 => h9) rfl dX0_record_31 ?_
    refine lv_iconst (v := 1) hx hb dX0_record_34 (by decide) ?_
    refine lv_iadd hx hb dX0_record_35 ?_
    refine va_put (D := D) (ci := 0) (v := .int (S.1 + 1)) (ty := .int) (C := RX0) (T := TX0) (N := 2) hx hb hts hinX0 tyX0 tyX0_ok nmX0 hown hK hP hD hS 0 rfl rfl 1 (by decide) (hts (.fieldLink RX0 16 "JoinGrants$History" "size" "I") (List.mem_of_getElem? (i := 1) rfl)) (fun _ h9 => h9) rfl (by decide +kernel) rfl rfl (Nat.le_of_ble_eq_true rfl) dX0_record_36 (fun H locs hP hD hS => ?_)
    have hP : va_P D vwCl (histW ck ha ((S.1 + 1), S.2.1, va_up S.2.2 S.1.toNatClampNeg (gX4_copyFrom (S.2.2 S.1.toNatClampNeg) P)) ++ poolW ck pa P) H := hP
    have hD : va_D (va_A (histW ck ha S ++ poolW ck pa P) s.heap.size) (histW ck ha ((S.1 + 1), S.2.1, va_up S.2.2 S.1.toNatClampNeg (gX4_copyFrom (S.2.2 S.1.toNatClampNeg) P)) ++ poolW ck pa P) := hD
    exact xvret hx hb hr hlk hP hD hS (congrArg (fun z => histW ck ha z ++ poolW ck pa P) (show gX0_record S P = ((S.1 + 1), S.2.1, va_up S.2.2 S.1.toNatClampNeg (gX4_copyFrom (S.2.2 S.1.toNatClampNeg) P)) from (Eq.trans (if_pos c_9) rfl))).symm dX0_record_39
  · --f
    refine lv_aload_n hx hb dX0_record_12 rfl (lv_at hl 0 rfl) ?_
    refine xretv (va_runV (As := []) (rest := []) ⟨hx, hb, hml, hown, hts⟩ (mX0_dropOldest l D ck ha S.1 (fun i => S.2.1 i 0) (fun i => plV (S.2.1 i) (S.2.2 i)) _) (cwV 0 hts gX0_record_X0_dropOldest rfl rfl rfl (by decide +kernel) ⟨Nat.le_of_ble_eq_true rfl, Nat.le_of_ble_eq_true rfl⟩) (xpreV hN hK hP hD (pm_hd (S := S)) 0 rfl rfl rfl) rfl rfl hl.1 rfl (lv_room (Nat.le_of_ble_eq_true rfl)) dX0_record_13 ⟨Nat.le_of_ble_eq_true rfl, Nat.le_of_ble_eq_true rfl⟩) hP hD hS hA (pm_hd (S := S)) (pm_hd' (S := S)) (fun H locs hP hD hS => ?_)
    have hP : va_P D vwCl (histW ck ha (3, rotF S.2.1, rotF S.2.2) ++ poolW ck pa P) H := hP
    have hD : va_D (va_A (histW ck ha S ++ poolW ck pa P) s.heap.size) (histW ck ha (3, rotF S.2.1, rotF S.2.2) ++ poolW ck pa P) := hD
    refine lv_aload_n hx hb dX0_record_16 rfl (lv_at hl 0 rfl) ?_
    refine va_get (D := D) (ci := 0) (v := .ref (ha 1)) (C := RX0) (T := TX0) (N := 2) hx hb hts hinX0 hown hK hP 0 rfl rfl 0 (by decide) (hts (.fieldLink RX0 11 "JoinGrants$History" "states" "[LJoinGrants$Pool;") (List.mem_of_getElem? (i := 2) rfl)) (fun _ h9 => h9) rfl dX0_record_17 ?_
    refine lv_aload_n hx hb dX0_record_20 rfl (lv_at hl 0 rfl) ?_
    refine va_get (D := D) (ci := 0) (v := .int 3) (C := RX0) (T := TX0) (N := 2) hx hb hts hinX0 hown hK hP 0 rfl rfl 1 (by decide) (hts (.fieldLink RX0 16 "JoinGrants$History" "size" "I") (List.mem_of_getElem? (i := 1) rfl)) (fun _ h9 => h9) rfl dX0_record_21 ?_
    have hj4 : 3 < 4 := (show 3 < 4 by decide)
    refine xaldq (j := 3) (b := ((rotF S.2.1) 3 0)) (by decide) hx hb hK hP 1 3 rfl rfl (by unfold vp_in; decide) rfl dX0_record_24 ?_
    refine lv_aload_n hx hb dX0_record_25 rfl (lv_at hl 1 rfl) ?_
    refine xretv (va_runV (As := [.ref (pa 0)]) (rest := []) ⟨hx, hb, hml, hown, hts⟩ (mX4_copyFrom l D ck ((rotF S.2.1) 3) pa ((rotF S.2.2) 3) P _) (cwV 1 hts gX0_record_X4_copyFrom rfl rfl rfl (by decide +kernel) ⟨Nat.le_of_ble_eq_true rfl, Nat.le_of_ble_eq_true rfl⟩) (xpreV hN hK hP hD (pm_hj (S := (3, rotF S.2.1, rotF S.2.2)) (j := 3) hj4) 0 rfl rfl rfl) rfl rfl hl.1 rfl (lv_room (Nat.le_of_ble_eq_true rfl)) dX0_record_26 ⟨Nat.le_of_ble_eq_true rfl, Nat.le_of_ble_eq_true rfl⟩) hP hD hS hA (pm_hj (S := (3, rotF S.2.1, rotF S.2.2)) (j := 3) hj4) (pm_hj' (S := (3, rotF S.2.1, rotF S.2.2)) (j := 3) hj4) (fun H locs hP hD hS => ?_)
    have hP : va_P D vwCl (histW ck ha (3, rotF S.2.1, va_up (rotF S.2.2) 3 (gX4_copyFrom ((rotF S.2.2) 3) P)) ++ poolW ck pa P) H := hP
    have hD : va_D (va_A (histW ck ha S ++ poolW ck pa P) s.heap.size) (histW ck ha (3, rotF S.2.1, va_up (rotF S.2.2) 3 (gX4_copyFrom ((rotF S.2.2) 3) P)) ++ poolW ck pa P) := hD
    refine lv_aload_n hx hb dX0_record_29 rfl (lv_at hl 0 rfl) ?_
    refine lv_dup hx hb dX0_record_30 rfl ?_
    refine va_get (D := D) (ci := 0) (v := .int 3) (C := RX0) (T := TX0) (N := 2) hx hb hts hinX0 hown hK hP 0 rfl rfl 1 (by decide) (hts (.fieldLink RX0 16 "JoinGrants$History" "size" "I") (List.mem_of_getElem? (i := 1) rfl)) (fun _ h9 => h9) rfl dX0_record_31 ?_
    refine lv_iconst (v := 1) hx hb dX0_record_34 (by decide) ?_
    refine lv_iadd hx hb dX0_record_35 ?_
    refine va_put (D := D) (ci := 0) (v := .int (3 + 1)) (ty := .int) (C := RX0) (T := TX0) (N := 2) hx hb hts hinX0 tyX0 tyX0_ok nmX0 hown hK hP hD hS 0 rfl rfl 1 (by decide) (hts (.fieldLink RX0 16 "JoinGrants$History" "size" "I") (List.mem_of_getElem? (i := 1) rfl)) (fun _ h9 => h9) rfl (by decide +kernel) rfl rfl (Nat.le_of_ble_eq_true rfl) dX0_record_36 (fun H locs hP hD hS => ?_)
    have hP : va_P D vwCl (histW ck ha ((3 + 1), rotF S.2.1, va_up (rotF S.2.2) 3 (gX4_copyFrom ((rotF S.2.2) 3) P)) ++ poolW ck pa P) H := hP
    have hD : va_D (va_A (histW ck ha S ++ poolW ck pa P) s.heap.size) (histW ck ha ((3 + 1), rotF S.2.1, va_up (rotF S.2.2) 3 (gX4_copyFrom ((rotF S.2.2) 3) P)) ++ poolW ck pa P) := hD
    exact xvret hx hb hr hlk hP hD hS (congrArg (fun z => histW ck ha z ++ poolW ck pa P) (show gX0_record S P = ((3 + 1), rotF S.2.1, va_up (rotF S.2.2) 3 (gX4_copyFrom ((rotF S.2.2) 3) P)) from (Eq.trans (if_neg c_9) rfl))).symm dX0_record_39

def rmX0_size : Room := { frames := 0, cells := 0, slots := 0, locals := 0 }
set_option maxHeartbeats 4000000 in
set_option maxRecDepth 100000 in
theorem mX0_size (l : Launch) (D : va_G) (ck : Nat → ClassId) (ha pa : Nat → Nat) (S : HS3) (P : PS) : xMi l yX0_size wsX0_size rmX0_size D ck [.ref (ha 0)] (histW ck ha S ++ poolW ck pa P) (histW ck ha S ++ poolW ck pa P) (gX0_size S P) 0 0 := by
  refine xMet (by decide) rfl (Nat.le_of_ble_eq_true rfl) ?_
  intro zp ze s zm zb zt zc hx hb hr hml hown hts hlk hnm hN hK hP hD ls hl
  have hown : s.vm.findClass RX0 = some zm.cls := hown
  have hl : lv_has ls 1 [(0, .ref (ha 0))] := hl
  have hS : va_S (va_A (histW ck ha S ++ poolW ck pa P) s.heap.size) s.heap s.heap [] := va_S.rf
  have hA : ∀ zq : Nat, s.heap.size ≤ zq → va_A (histW ck ha S ++ poolW ck pa P) s.heap.size zq := fun zq h => Or.inr h
  have hinX0 : ∀ w ∈ u_ws RX0 TX0 2, w ∈ wsX0_size := by decide +kernel
  refine lv_aload_n hx hb dX0_size_0 rfl (lv_at hl 0 rfl) ?_
  refine va_get (D := D) (ci := 0) (v := .int S.1) (C := RX0) (T := TX0) (N := 2) hx hb hts hinX0 hown hK hP 0 rfl rfl 1 (by decide) (hts (.fieldLink RX0 16 "JoinGrants$History" "size" "I") (List.mem_of_getElem? (i := 1) rfl)) (fun _ h9 => h9) rfl dX0_size_1 ?_
  exact xiret hx hb hr hlk hP hD hS (show gX0_size S P = S.1 from rfl).symm rfl dX0_size_4
