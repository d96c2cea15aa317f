def rmX2_append : Room := { frames := 0, cells := 0, slots := 0, locals := 0 }
def gX2_append (T : TS) (a1 : Int32) : Int32 × TS := (if (T.1 0) < (nI 60) then (1, (upd T.1 0 ((T.1 0) + 1), upd T.2.1 ((T.1 0).toNatClampNeg) (vp_nar .char a1), T.2.2.1, T.2.2.2.1, T.2.2.2.2)) else (0, T))
set_option maxHeartbeats 4000000 in
set_option maxRecDepth 100000 in
theorem mX2_append (l : Launch) (D : va_G) (ck : Nat → ClassId) (ta : Nat → Nat) (T : TS) (a1 : Int32) (hl0 : ¬ T.1 0 < 0) : xMi l yX2_append wsX2_append rmX2_append D ck [.ref (ta 0), .int a1] (textW ck ta T) (textW ck ta ((gX2_append T a1).2)) ((gX2_append T a1).1) 0 0 := by
  refine xMet (by decide) rfl (Nat.le_of_ble_eq_true rfl) ?_
  intro zp ze s zm zb zt zc hx hb hr hml hown hts hlk hnm hN hK hP hD ls hl
  have hown : s.vm.findClass RX2 = some zm.cls := hown
  have hl : lv_has ls 2 [(0, .ref (ta 0)), (1, .int a1)] := hl
  have hS : va_S (va_A (textW ck ta T) s.heap.size) s.heap s.heap [] := va_S.rf
  have hA : ∀ zq : Nat, s.heap.size ≤ zq → va_A (textW ck ta T) s.heap.size zq := fun zq h => Or.inr h
  have hinX2 : ∀ w ∈ u_ws RX2 TX2 10, w ∈ wsX2_append := by decide +kernel
  refine lv_aload_n hx hb dX2_append_0 rfl (lv_at hl 0 rfl) ?_
  refine va_get (D := D) (ci := 2) (v := .int (T.1 0)) (C := RX2) (T := TX2) (N := 10) hx hb hts hinX2 hown hK hP 0 rfl rfl 1 (by decide) (hts (.fieldLink RX2 23 "JoinGrants$JoinText" "length" "I") (List.mem_of_getElem? (i := 1) rfl)) (fun _ h9 => h9) rfl dX2_append_1 ?_
  refine lv_aload_n hx hb dX2_append_4 rfl (lv_at hl 0 rfl) ?_
  refine va_get (D := D) (ci := 2) (v := .ref (ta 1)) (C := RX2) (T := TX2) (N := 10) hx hb hts hinX2 hown hK hP 0 rfl rfl 0 (by decide) (hts (.fieldLink RX2 9 "JoinGrants$JoinText" "characters" "[C") (List.mem_of_getElem? (i := 2) rfl)) (fun _ h9 => h9) rfl dX2_append_5 ?_
  refine va_alen hx hb hK hP 1 1 rfl rfl (v := (nI 60)) rfl dX2_append_8 ?_
  refine lv_icmp_lt (tgt := 14) hx hb dX2_append_9 (by decide) (fun c_9 => ?_) (fun c_9 => ?_)
  · --t
    refine lv_aload_n hx hb dX2_append_14 rfl (lv_at hl 0 rfl) ?_
    refine va_get (D := D) (ci := 2) (v := .ref (ta 1)) (C := RX2) (T := TX2) (N := 10) hx hb hts hinX2 hown hK hP 0 rfl rfl 0 (by decide) (hts (.fieldLink RX2 9 "JoinGrants$JoinText" "characters" "[C") (List.mem_of_getElem? (i := 2) rfl)) (fun _ h9 => h9) rfl dX2_append_15 ?_
    refine lv_aload_n hx hb dX2_append_18 rfl (lv_at hl 0 rfl) ?_
    refine va_get (D := D) (ci := 2) (v := .int (T.1 0)) (C := RX2) (T := TX2) (N := 10) hx hb hts hinX2 hown hK hP 0 rfl rfl 1 (by decide) (hts (.fieldLink RX2 23 "JoinGrants$JoinText" "length" "I") (List.mem_of_getElem? (i := 1) rfl)) (fun _ h9 => h9) rfl dX2_append_19 ?_
    refine lv_iload_n hx hb dX2_append_22 rfl (lv_at hl 1 rfl) ?_
    refine va_cast hx hb hK hP hD hS 1 1 rfl rfl (xin_g' (by decide) hl0 c_9) dX2_append_23 (fun H locs hP hD hS => ?_)
    have hP : va_P D vwCl (textW ck ta (T.1, upd T.2.1 ((T.1 0).toNatClampNeg) (vp_nar .char a1), T.2.2.1, T.2.2.2.1, T.2.2.2.2)) H := hP
    have hD : va_D (va_A (textW ck ta T) s.heap.size) (textW ck ta (T.1, upd T.2.1 ((T.1 0).toNatClampNeg) (vp_nar .char a1), T.2.2.1, T.2.2.2.1, T.2.2.2.2)) := hD
    refine lv_aload_n hx hb dX2_append_24 rfl (lv_at hl 0 rfl) ?_
    refine lv_dup hx hb dX2_append_25 rfl ?_
    refine va_get (D := D) (ci := 2) (v := .int (T.1 0)) (C := RX2) (T := TX2) (N := 10) hx hb hts hinX2 hown hK hP 0 rfl rfl 1 (by decide) (hts (.fieldLink RX2 23 "JoinGrants$JoinText" "length" "I") (List.mem_of_getElem? (i := 1) rfl)) (fun _ h9 => h9) rfl dX2_append_26 ?_
    refine lv_iconst (v := 1) hx hb dX2_append_29 (by decide) ?_
    refine lv_iadd hx hb dX2_append_30 ?_
    refine va_put (D := D) (ci := 2) (v := .int ((T.1 0) + 1)) (ty := .int) (C := RX2) (T := TX2) (N := 10) hx hb hts hinX2 tyX2 tyX2_ok nmX2 hown hK hP hD hS 0 rfl rfl 1 (by decide) (hts (.fieldLink RX2 23 "JoinGrants$JoinText" "length" "I") (List.mem_of_getElem? (i := 1) rfl)) (fun _ h9 => h9) rfl (by decide +kernel) rfl rfl (Nat.le_of_ble_eq_true rfl) dX2_append_31 (fun H locs hP hD hS => ?_)
    have hP : va_P D vwCl (textW ck ta (upd T.1 0 ((T.1 0) + 1), upd T.2.1 ((T.1 0).toNatClampNeg) (vp_nar .char a1), T.2.2.1, T.2.2.2.1, T.2.2.2.2)) H := hP
    have hD : va_D (va_A (textW ck ta T) s.heap.size) (textW ck ta (upd T.1 0 ((T.1 0) + 1), upd T.2.1 ((T.1 0).toNatClampNeg) (vp_nar .char a1), T.2.2.1, T.2.2.2.1, T.2.2.2.2)) := hD
    refine lv_iconst (v := 1) hx hb dX2_append_34 (by decide) ?_
    exact xzret hx hb hr hlk hP hD hS (Or.inr rfl) (congrArg (fun z => z.1) (show gX2_append T a1 = (1, (upd T.1 0 ((T.1 0) + 1), upd T.2.1 ((T.1 0).toNatClampNeg) (vp_nar .char a1), T.2.2.1, T.2.2.2.1, T.2.2.2.2)) from (Eq.trans (if_pos c_9) rfl))).symm (congrArg (fun z => textW ck ta z.2) (show gX2_append T a1 = (1, (upd T.1 0 ((T.1 0) + 1), upd T.2.1 ((T.1 0).toNatClampNeg) (vp_nar .char a1), T.2.2.1, T.2.2.2.1, T.2.2.2.2)) from (Eq.trans (if_pos c_9) rfl))).symm dX2_append_35
  · --f
    refine lv_iconst (v := 0) hx hb dX2_append_12 (by decide) ?_
    exact xzret hx hb hr hlk hP hD hS (Or.inl rfl) (congrArg (fun z => z.1) (show gX2_append T a1 = (0, T) from (Eq.trans (if_neg c_9) rfl))).symm (congrArg (fun z => textW ck ta z.2) (show gX2_append T a1 = (0, T) from (Eq.trans (if_neg c_9) rfl))).symm dX2_append_13

def rmX2_clear : Room := { frames := 0, cells := 0, slots := 0, locals := 0 }
def gX2_clear (T : TS) : TS := (upd T.1 0 0, T.2.1, T.2.2.1, T.2.2.2.1, T.2.2.2.2)
set_option maxHeartbeats 4000000 in
set_option maxRecDepth 100000 in
theorem mX2_clear (l : Launch) (D : va_G) (ck : Nat → ClassId) (ta : Nat → Nat) (T : TS) : xMv l yX2_clear wsX2_clear rmX2_clear D ck [.ref (ta 0)] (textW ck ta T) (textW ck ta (gX2_clear T)) 0 0 := by
  refine xMet (by decide) rfl (Nat.le_of_ble_eq_true rfl) ?_
  intro zp ze s zm zb zt zc hx hb hr hml hown hts hlk hnm hN hK hP hD ls hl
  have hown : s.vm.findClass RX2 = some zm.cls := hown
  have hl : lv_has ls 1 [(0, .ref (ta 0))] := hl
  have hS : va_S (va_A (textW ck ta T) s.heap.size) s.heap s.heap [] := va_S.rf
  have hA : ∀ zq : Nat, s.heap.size ≤ zq → va_A (textW ck ta T) s.heap.size zq := fun zq h => Or.inr h
  have hinX2 : ∀ w ∈ u_ws RX2 TX2 10, w ∈ wsX2_clear := by decide +kernel
  refine lv_aload_n hx hb dX2_clear_0 rfl (lv_at hl 0 rfl) ?_
  refine lv_iconst (v := 0) hx hb dX2_clear_1 (by decide) ?_
  refine va_put (D := D) (ci := 2) (v := .int 0) (ty := .int) (C := RX2) (T := TX2) (N := 10) hx hb hts hinX2 tyX2 tyX2_ok nmX2 hown hK hP hD hS 0 rfl rfl 1 (by decide) (hts (.fieldLink RX2 23 "JoinGrants$JoinText" "length" "I") (List.mem_of_getElem? (i := 1) rfl)) (fun _ h9 => h9) rfl (by decide +kernel) rfl rfl (Nat.le_of_ble_eq_true rfl) dX2_clear_2 (fun H locs hP hD hS => ?_)
  have hP : va_P D vwCl (textW ck ta (upd T.1 0 0, T.2.1, T.2.2.1, T.2.2.2.1, T.2.2.2.2)) H := hP
  have hD : va_D (va_A (textW ck ta T) s.heap.size) (textW ck ta (upd T.1 0 0, T.2.1, T.2.2.1, T.2.2.2.1, T.2.2.2.2)) := hD
  exact xvret hx hb hr hlk hP hD hS (congrArg (fun z => textW ck ta z) (show gX2_clear T = (upd T.1 0 0, T.2.1, T.2.2.1, T.2.2.2.1, T.2.2.2.2) from rfl)).symm dX2_clear_5

def rmX2_length : Room := { frames := 0, cells := 0, slots := 0, locals := 0 }
def gX2_length (T : TS) : Int32 := (T.1 0)
set_option maxHeartbeats 4000000 in
set_option maxRecDepth 100000 in
theorem mX2_length (l : Launch) (D : va_G) (ck : Nat → ClassId) (ta : Nat → Nat) (T : TS) : xMi l yX2_length wsX2_length rmX2_length D ck [.ref (ta 0)] (textW ck ta T) (textW ck ta T) (gX2_length T) 0 0 := by
  refine xMet (by decide) rfl (Nat.le_of_ble_eq_true rfl) ?_
  intro zp ze s zm zb zt zc hx hb hr hml hown hts hlk hnm hN hK hP hD ls hl
  have hown : s.vm.findClass RX2 = some zm.cls := hown
  have hl : lv_has ls 1 [(0, .ref (ta 0))] := hl
  have hS : va_S (va_A (textW ck ta T) s.heap.size) s.heap s.heap [] := va_S.rf
  have hA : ∀ zq : Nat, s.heap.size ≤ zq → va_A (textW ck ta T) s.heap.size zq := fun zq h => Or.inr h
  have hinX2 : ∀ w ∈ u_ws RX2 TX2 10, w ∈ wsX2_length := by decide +kernel
  refine lv_aload_n hx hb dX2_length_0 rfl (lv_at hl 0 rfl) ?_
  refine va_get (D := D) (ci := 2) (v := .int (T.1 0)) (C := RX2) (T := TX2) (N := 10) hx hb hts hinX2 hown hK hP 0 rfl rfl 1 (by decide) (hts (.fieldLink RX2 23 "JoinGrants$JoinText" "length" "I") (List.mem_of_getElem? (i := 1) rfl)) (fun _ h9 => h9) rfl dX2_length_1 ?_
  exact xiret hx hb hr hlk hP hD hS (show gX2_length T = (T.1 0) from rfl).symm rfl dX2_length_4

def rmX2_joins : Room := { frames := 0, cells := 0, slots := 0, locals := 0 }
def gX2_joins (T : TS) : Int32 := (T.1 1)
set_option maxHeartbeats 4000000 in
set_option maxRecDepth 100000 in
theorem mX2_joins (l : Launch) (D : va_G) (ck : Nat → ClassId) (ta : Nat → Nat) (T : TS) : xMi l yX2_joins wsX2_joins rmX2_joins D ck [.ref (ta 0)] (textW ck ta T) (textW ck ta T) (gX2_joins T) 0 0 := by
  refine xMet (by decide) rfl (Nat.le_of_ble_eq_true rfl) ?_
  intro zp ze s zm zb zt zc hx hb hr hml hown hts hlk hnm hN hK hP hD ls hl
  have hown : s.vm.findClass RX2 = some zm.cls := hown
  have hl : lv_has ls 1 [(0, .ref (ta 0))] := hl
  have hS : va_S (va_A (textW ck ta T) s.heap.size) s.heap s.heap [] := va_S.rf
  have hA : ∀ zq : Nat, s.heap.size ≤ zq → va_A (textW ck ta T) s.heap.size zq := fun zq h => Or.inr h
  have hinX2 : ∀ w ∈ u_ws RX2 TX2 10, w ∈ wsX2_joins := by decide +kernel
  refine lv_aload_n hx hb dX2_joins_0 rfl (lv_at hl 0 rfl) ?_
  refine va_get (D := D) (ci := 2) (v := .int (T.1 1)) (C := RX2) (T := TX2) (N := 10) hx hb hts hinX2 hown hK hP 0 rfl rfl 5 (by decide) (hts (.fieldLink RX2 27 "JoinGrants$JoinText" "joins" "I") (List.mem_of_getElem? (i := 1) rfl)) (fun _ h9 => h9) rfl dX2_joins_1 ?_
  exact xiret hx hb hr hlk hP hD hS (show gX2_joins T = (T.1 1) from rfl).symm rfl dX2_joins_4

def rmX2_wayOf : Room := { frames := 0, cells := 0, slots := 0, locals := 0 }
def gX2_wayOf (T : TS) (a1 : Int32) : Int32 := (if a1 < 0 then 0 else (if (nI 12) ≤ a1 then 0 else (T.2.2.1 a1.toNatClampNeg)))
set_option maxHeartbeats 4000000 in
set_option maxRecDepth 100000 in
theorem mX2_wayOf (l : Launch) (D : va_G) (ck : Nat → ClassId) (ta : Nat → Nat) (T : TS) (a1 : Int32) : xMi l yX2_wayOf wsX2_wayOf rmX2_wayOf D ck [.ref (ta 0), .int a1] (textW ck ta T) (textW ck ta T) (gX2_wayOf T a1) 0 0 := by
  refine xMet (by decide) rfl (Nat.le_of_ble_eq_true rfl) ?_
  intro zp ze s zm zb zt zc hx hb hr hml hown hts hlk hnm hN hK hP hD ls hl
  have hown : s.vm.findClass RX2 = some zm.cls := hown
  have hl : lv_has ls 2 [(0, .ref (ta 0)), (1, .int a1)] := hl
  have hS : va_S (va_A (textW ck ta T) s.heap.size) s.heap s.heap [] := va_S.rf
  have hA : ∀ zq : Nat, s.heap.size ≤ zq → va_A (textW ck ta T) s.heap.size zq := fun zq h => Or.inr h
  have hinX2 : ∀ w ∈ u_ws RX2 TX2 10, w ∈ wsX2_wayOf := by decide +kernel
  refine lv_iload_n hx hb dX2_wayOf_0 rfl (lv_at hl 1 rfl) ?_
  refine lv_if_lt (tgt := 22) hx hb dX2_wayOf_1 (by decide) (fun c_1 => ?_) (fun c_1 => ?_)
  · --t
    refine lv_iconst (v := 0) hx hb dX2_wayOf_22 (by decide) ?_
    exact xiret hx hb hr hlk hP hD hS (show gX2_wayOf T a1 = 0 from (Eq.trans (if_pos c_1) rfl)).symm rfl dX2_wayOf_23
  · --f
    refine lv_iload_n hx hb dX2_wayOf_4 rfl (lv_at hl 1 rfl) ?_
    refine lv_aload_n hx hb dX2_wayOf_5 rfl (lv_at hl 0 rfl) ?_
    refine va_get (D := D) (ci := 2) (v := .ref (ta 2)) (C := RX2) (T := TX2) (N := 10) hx hb hts hinX2 hown hK hP 0 rfl rfl 2 (by decide) (hts (.fieldLink RX2 13 "JoinGrants$JoinText" "ways" "[I") (List.mem_of_getElem? (i := 1) rfl)) (fun _ h9 => h9) rfl dX2_wayOf_6 ?_
    refine va_alen hx hb hK hP 2 0 rfl rfl (v := (nI 12)) rfl dX2_wayOf_9 ?_
    refine lv_icmp_ge (tgt := 22) hx hb dX2_wayOf_10 (by decide) (fun c_10 => ?_) (fun c_10 => ?_)
    · --t
      refine lv_iconst (v := 0) hx hb dX2_wayOf_22 (by decide) ?_
      exact xiret hx hb hr hlk hP hD hS (show gX2_wayOf T a1 = 0 from (Eq.trans (if_neg c_1) (Eq.trans (if_pos c_10) rfl))).symm rfl dX2_wayOf_23
    · --f
      refine lv_aload_n hx hb dX2_wayOf_13 rfl (lv_at hl 0 rfl) ?_
      refine va_get (D := D) (ci := 2) (v := .ref (ta 2)) (C := RX2) (T := TX2) (N := 10) hx hb hts hinX2 hown hK hP 0 rfl rfl 2 (by decide) (hts (.fieldLink RX2 13 "JoinGrants$JoinText" "ways" "[I") (List.mem_of_getElem? (i := 1) rfl)) (fun _ h9 => h9) rfl dX2_wayOf_14 ?_
      refine lv_iload_n hx hb dX2_wayOf_17 rfl (lv_at hl 1 rfl) ?_
      refine va_iald hx hb hK hP 2 0 rfl rfl (xin_g (by decide) c_1 c_10) dX2_wayOf_18 ?_
      refine lv_goto (tgt := 23) hx hb dX2_wayOf_19 (by decide) ?_
      exact xiret hx hb hr hlk hP hD hS (show gX2_wayOf T a1 = (T.2.2.1 a1.toNatClampNeg) from (Eq.trans (if_neg c_1) (Eq.trans (if_neg c_10) rfl))).symm rfl dX2_wayOf_23

def rmX2_leftOf : Room := { frames := 0, cells := 0, slots := 0, locals := 0 }
def gX2_leftOf (T : TS) (a1 : Int32) : Int32 := (if a1 < 0 then 0 else (if (nI 12) ≤ a1 then 0 else (T.2.2.2.1 a1.toNatClampNeg)))
set_option maxHeartbeats 4000000 in
set_option maxRecDepth 100000 in
theorem mX2_leftOf (l : Launch) (D : va_G) (ck : Nat → ClassId) (ta : Nat → Nat) (T : TS) (a1 : Int32) : xMi l yX2_leftOf wsX2_leftOf rmX2_leftOf D ck [.ref (ta 0), .int a1] (textW ck ta T) (textW ck ta T) (gX2_leftOf T a1) 0 0 := by
  refine xMet (by decide) rfl (Nat.le_of_ble_eq_true rfl) ?_
  intro zp ze s zm zb zt zc hx hb hr hml hown hts hlk hnm hN hK hP hD ls hl
  have hown : s.vm.findClass RX2 = some zm.cls := hown
  have hl : lv_has ls 2 [(0, .ref (ta 0)), (1, .int a1)] := hl
  have hS : va_S (va_A (textW ck ta T) s.heap.size) s.heap s.heap [] := va_S.rf
  have hA : ∀ zq : Nat, s.heap.size ≤ zq → va_A (textW ck ta T) s.heap.size zq := fun zq h => Or.inr h
  have hinX2 : ∀ w ∈ u_ws RX2 TX2 10, w ∈ wsX2_leftOf := by decide +kernel
  refine lv_iload_n hx hb dX2_leftOf_0 rfl (lv_at hl 1 rfl) ?_
  refine lv_if_lt (tgt := 22) hx hb dX2_leftOf_1 (by decide) (fun c_1 => ?_) (fun c_1 => ?_)
  · --t
    refine lv_iconst (v := 0) hx hb dX2_leftOf_22 (by decide) ?_
    exact xiret hx hb hr hlk hP hD hS (show gX2_leftOf T a1 = 0 from (Eq.trans (if_pos c_1) rfl)).symm rfl dX2_leftOf_23
  · --f
    refine lv_iload_n hx hb dX2_leftOf_4 rfl (lv_at hl 1 rfl) ?_
    refine lv_aload_n hx hb dX2_leftOf_5 rfl (lv_at hl 0 rfl) ?_
    refine va_get (D := D) (ci := 2) (v := .ref (ta 3)) (C := RX2) (T := TX2) (N := 10) hx hb hts hinX2 hown hK hP 0 rfl rfl 3 (by decide) (hts (.fieldLink RX2 17 "JoinGrants$JoinText" "lefts" "[I") (List.mem_of_getElem? (i := 1) rfl)) (fun _ h9 => h9) rfl dX2_leftOf_6 ?_
    refine va_alen hx hb hK hP 3 0 rfl rfl (v := (nI 12)) rfl dX2_leftOf_9 ?_
    refine lv_icmp_ge (tgt := 22) hx hb dX2_leftOf_10 (by decide) (fun c_10 => ?_) (fun c_10 => ?_)
    · --t
      refine lv_iconst (v := 0) hx hb dX2_leftOf_22 (by decide) ?_
      exact xiret hx hb hr hlk hP hD hS (show gX2_leftOf T a1 = 0 from (Eq.trans (if_neg c_1) (Eq.trans (if_pos c_10) rfl))).symm rfl dX2_leftOf_23
    · --f
      refine lv_aload_n hx hb dX2_leftOf_13 rfl (lv_at hl 0 rfl) ?_
      refine va_get (D := D) (ci := 2) (v := .ref (ta 3)) (C := RX2) (T := TX2) (N := 10) hx hb hts hinX2 hown hK hP 0 rfl rfl 3 (by decide) (hts (.fieldLink RX2 17 "JoinGrants$JoinText" "lefts" "[I") (List.mem_of_getElem? (i := 1) rfl)) (fun _ h9 => h9) rfl dX2_leftOf_14 ?_
      refine lv_iload_n hx hb dX2_leftOf_17 rfl (lv_at hl 1 rfl) ?_
      refine va_iald hx hb hK hP 3 0 rfl rfl (xin_g (by decide) c_1 c_10) dX2_leftOf_18 ?_
      refine lv_goto (tgt := 23) hx hb dX2_leftOf_19 (by decide) ?_
      exact xiret hx hb hr hlk hP hD hS (show gX2_leftOf T a1 = (T.2.2.2.1 a1.toNatClampNeg) from (Eq.trans (if_neg c_1) (Eq.trans (if_neg c_10) rfl))).symm rfl dX2_leftOf_23

def rmX2_rightOf : Room := { frames := 0, cells := 0, slots := 0, locals := 0 }
def gX2_rightOf (T : TS) (a1 : Int32) : Int32 := (if a1 < 0 then 0 else (if (nI 12) ≤ a1 then 0 else (T.2.2.2.2 a1.toNatClampNeg)))
set_option maxHeartbeats 4000000 in
set_option maxRecDepth 100000 in
theorem mX2_rightOf (l : Launch) (D : va_G) (ck : Nat → ClassId) (ta : Nat → Nat) (T : TS) (a1 : Int32) : xMi l yX2_rightOf wsX2_rightOf rmX2_rightOf D ck [.ref (ta 0), .int a1] (textW ck ta T) (textW ck ta T) (gX2_rightOf T a1) 0 0 := by
  refine xMet (by decide) rfl (Nat.le_of_ble_eq_true rfl) ?_
  intro zp ze s zm zb zt zc hx hb hr hml hown hts hlk hnm hN hK hP hD ls hl
  have hown : s.vm.findClass RX2 = some zm.cls := hown
  have hl : lv_has ls 2 [(0, .ref (ta 0)), (1, .int a1)] := hl
  have hS : va_S (va_A (textW ck ta T) s.heap.size) s.heap s.heap [] := va_S.rf
  have hA : ∀ zq : Nat, s.heap.size ≤ zq → va_A (textW ck ta T) s.heap.size zq := fun zq h => Or.inr h
  have hinX2 : ∀ w ∈ u_ws RX2 TX2 10, w ∈ wsX2_rightOf := by decide +kernel
  refine lv_iload_n hx hb dX2_rightOf_0 rfl (lv_at hl 1 rfl) ?_
  refine lv_if_lt (tgt := 22) hx hb dX2_rightOf_1 (by decide) (fun c_1 => ?_) (fun c_1 => ?_)
  · --t
    refine lv_iconst (v := 0) hx hb dX2_rightOf_22 (by decide) ?_
    exact xiret hx hb hr hlk hP hD hS (show gX2_rightOf T a1 = 0 from (Eq.trans (if_pos c_1) rfl)).symm rfl dX2_rightOf_23
  · --f
    refine lv_iload_n hx hb dX2_rightOf_4 rfl (lv_at hl 1 rfl) ?_
    refine lv_aload_n hx hb dX2_rightOf_5 rfl (lv_at hl 0 rfl) ?_
    refine va_get (D := D) (ci := 2) (v := .ref (ta 4)) (C := RX2) (T := TX2) (N := 10) hx hb hts hinX2 hown hK hP 0 rfl rfl 4 (by decide) (hts (.fieldLink RX2 20 "JoinGrants$JoinText" "rights" "[I") (List.mem_of_getElem? (i := 1) rfl)) (fun _ h9 => h9) rfl dX2_rightOf_6 ?_
    refine va_alen hx hb hK hP 4 0 rfl rfl (v := (nI 12)) rfl dX2_rightOf_9 ?_
    refine lv_icmp_ge (tgt := 22) hx hb dX2_rightOf_10 (by decide) (fun c_10 => ?_) (fun c_10 => ?_)
    · --t
      refine lv_iconst (v := 0) hx hb dX2_rightOf_22 (by decide) ?_
      exact xiret hx hb hr hlk hP hD hS (show gX2_rightOf T a1 = 0 from (Eq.trans (if_neg c_1) (Eq.trans (if_pos c_10) rfl))).symm rfl dX2_rightOf_23
    · --f
      refine lv_aload_n hx hb dX2_rightOf_13 rfl (lv_at hl 0 rfl) ?_
      refine va_get (D := D) (ci := 2) (v := .ref (ta 4)) (C := RX2) (T := TX2) (N := 10) hx hb hts hinX2 hown hK hP 0 rfl rfl 4 (by decide) (hts (.fieldLink RX2 20 "JoinGrants$JoinText" "rights" "[I") (List.mem_of_getElem? (i := 1) rfl)) (fun _ h9 => h9) rfl dX2_rightOf_14 ?_
      refine lv_iload_n hx hb dX2_rightOf_17 rfl (lv_at hl 1 rfl) ?_
      refine va_iald hx hb hK hP 4 0 rfl rfl (xin_g (by decide) c_1 c_10) dX2_rightOf_18 ?_
      refine lv_goto (tgt := 23) hx hb dX2_rightOf_19 (by decide) ?_
      exact xiret hx hb hr hlk hP hD hS (show gX2_rightOf T a1 = (T.2.2.2.2 a1.toNatClampNeg) from (Eq.trans (if_neg c_1) (Eq.trans (if_neg c_10) rfl))).symm rfl dX2_rightOf_23

def rmX2_takesWay : Room := { frames := 0, cells := 0, slots := 0, locals := 0 }
def gX2_takesWay (T : TS) (a1 : Int32) : Int32 × TS := (if a1 = 108 then (1, (upd (upd T.1 3 0) 2 1, T.2.1, T.2.2.1, T.2.2.2.1, T.2.2.2.2)) else (if a1 = 98 then (1, (upd (upd T.1 3 1) 2 1, T.2.1, T.2.2.1, T.2.2.2.1, T.2.2.2.2)) else (if a1 = 109 then (1, (upd (upd T.1 3 2) 2 1, T.2.1, T.2.2.1, T.2.2.2.1, T.2.2.2.2)) else (0, T))))
set_option maxHeartbeats 4000000 in
set_option maxRecDepth 100000 in
theorem mX2_takesWay (l : Launch) (D : va_G) (ck : Nat → ClassId) (ta : Nat → Nat) (T : TS) (a1 : Int32) : xMi l yX2_takesWay wsX2_takesWay rmX2_takesWay D ck [.ref (ta 0), .int a1] (textW ck ta T) (textW ck ta ((gX2_takesWay T a1).2)) ((gX2_takesWay T a1).1) 0 0 := by
  refine xMet (by decide) rfl (Nat.le_of_ble_eq_true rfl) ?_
  intro zp ze s zm zb zt zc hx hb hr hml hown hts hlk hnm hN hK hP hD ls hl
  have hown : s.vm.findClass RX2 = some zm.cls := hown
  have hl : lv_has ls 2 [(0, .ref (ta 0)), (1, .int a1)] := hl
  have hS : va_S (va_A (textW ck ta T) s.heap.size) s.heap s.heap [] := va_S.rf
  have hA : ∀ zq : Nat, s.heap.size ≤ zq → va_A (textW ck ta T) s.heap.size zq := fun zq h => Or.inr h
  have hinX2 : ∀ w ∈ u_ws RX2 TX2 10, w ∈ wsX2_takesWay := by decide +kernel
  refine lv_iload_n hx hb dX2_takesWay_0 rfl (lv_at hl 1 rfl) ?_
  refine lv_bipush (v := 108) hx hb dX2_takesWay_1 (by decide) ?_
  refine lv_icmp_ne (tgt := 14) hx hb dX2_takesWay_3 (by decide) (fun c_3 => ?_) (fun c_3 => ?_)
  · --t
    refine lv_iload_n hx hb dX2_takesWay_14 rfl (lv_at hl 1 rfl) ?_
    refine lv_bipush (v := 98) hx hb dX2_takesWay_15 (by decide) ?_
    refine lv_icmp_ne (tgt := 28) hx hb dX2_takesWay_17 (by decide) (fun c_17 => ?_) (fun c_17 => ?_)
    · --t
      refine lv_iload_n hx hb dX2_takesWay_28 rfl (lv_at hl 1 rfl) ?_
      refine lv_bipush (v := 109) hx hb dX2_takesWay_29 (by decide) ?_
      refine lv_icmp_ne (tgt := 42) hx hb dX2_takesWay_31 (by decide) (fun c_31 => ?_) (fun c_31 => ?_)
      · --t
        refine lv_iconst (v := 0) hx hb dX2_takesWay_42 (by decide) ?_
        exact xzret hx hb hr hlk hP hD hS (Or.inl rfl) (congrArg (fun z => z.1) (show gX2_takesWay T a1 = (0, T) from (Eq.trans (if_neg c_3) (Eq.trans (if_neg c_17) (Eq.trans (if_neg c_31) rfl))))).symm (congrArg (fun z => textW ck ta z.2) (show gX2_takesWay T a1 = (0, T) from (Eq.trans (if_neg c_3) (Eq.trans (if_neg c_17) (Eq.trans (if_neg c_31) rfl))))).symm dX2_takesWay_43
      · --f
        refine lv_aload_n hx hb dX2_takesWay_34 rfl (lv_at hl 0 rfl) ?_
        refine lv_iconst (v := 2) hx hb dX2_takesWay_35 (by decide) ?_
        refine va_put (D := D) (ci := 2) (v := .int 2) (ty := .int) (C := RX2) (T := TX2) (N := 10) hx hb hts hinX2 tyX2 tyX2_ok nmX2 hown hK hP hD hS 0 rfl rfl 7 (by decide) (hts (.fieldLink RX2 55 "JoinGrants$JoinText" "way" "I") (List.mem_of_getElem? (i := 1) rfl)) (fun _ h9 => h9) rfl (by decide +kernel) rfl rfl (Nat.le_of_ble_eq_true rfl) dX2_takesWay_36 (fun H locs hP hD hS => ?_)
        have hP : va_P D vwCl (textW ck ta (upd T.1 3 2, T.2.1, T.2.2.1, T.2.2.2.1, T.2.2.2.2)) H := hP
        have hD : va_D (va_A (textW ck ta T) s.heap.size) (textW ck ta (upd T.1 3 2, T.2.1, T.2.2.1, T.2.2.2.1, T.2.2.2.2)) := hD
        refine lv_goto (tgt := 44) hx hb dX2_takesWay_39 (by decide) ?_
        refine lv_aload_n hx hb dX2_takesWay_44 rfl (lv_at hl 0 rfl) ?_
        refine lv_iconst (v := 1) hx hb dX2_takesWay_45 (by decide) ?_
        refine va_put (D := D) (ci := 2) (v := .int 1) (ty := .int) (C := RX2) (T := TX2) (N := 10) hx hb hts hinX2 tyX2 tyX2_ok nmX2 hown hK hP hD hS 0 rfl rfl 6 (by decide) (hts (.fieldLink RX2 30 "JoinGrants$JoinText" "place" "I") (List.mem_of_getElem? (i := 2) rfl)) (fun _ h9 => h9) rfl (by decide +kernel) rfl rfl (Nat.le_of_ble_eq_true rfl) dX2_takesWay_46 (fun H locs hP hD hS => ?_)
        have hP : va_P D vwCl (textW ck ta (upd (upd T.1 3 2) 2 1, T.2.1, T.2.2.1, T.2.2.2.1, T.2.2.2.2)) H := hP
        have hD : va_D (va_A (textW ck ta T) s.heap.size) (textW ck ta (upd (upd T.1 3 2) 2 1, T.2.1, T.2.2.1, T.2.2.2.1, T.2.2.2.2)) := hD
        refine lv_iconst (v := 1) hx hb dX2_takesWay_49 (by decide) ?_
        exact xzret hx hb hr hlk hP hD hS (Or.inr rfl) (congrArg (fun z => z.1) (show gX2_takesWay T a1 = (1, (upd (upd T.1 3 2) 2 1, T.2.1, T.2.2.1, T.2.2.2.1, T.2.2.2.2)) from (Eq.trans (if_neg c_3) (Eq.trans (if_neg c_17) (Eq.trans (if_pos c_31) rfl))))).symm (congrArg (fun z => textW ck ta z.2) (show gX2_takesWay T a1 = (1, (upd (upd T.1 3 2) 2 1, T.2.1, T.2.2.1, T.2.2.2.1, T.2.2.2.2)) from (Eq.trans (if_neg c_3) (Eq.trans (if_neg c_17) (Eq.trans (if_pos c_31) rfl))))).symm dX2_takesWay_50
    · --f
      refine lv_aload_n hx hb dX2_takesWay_20 rfl (lv_at hl 0 rfl) ?_
      refine lv_iconst (v := 1) hx hb dX2_takesWay_21 (by decide) ?_
      refine va_put (D := D) (ci := 2) (v := .int 1) (ty := .int) (C := RX2) (T := TX2) (N := 10) hx hb hts hinX2 tyX2 tyX2_ok nmX2 hown hK hP hD hS 0 rfl rfl 7 (by decide) (hts (.fieldLink RX2 55 "JoinGrants$JoinText" "way" "I") (List.mem_of_getElem? (i := 1) rfl)) (fun _ h9 => h9) rfl (by decide +kernel) rfl rfl (Nat.le_of_ble_eq_true rfl) dX2_takesWay_22 (fun H locs hP hD hS => ?_)
      have hP : va_P D vwCl (textW ck ta (upd T.1 3 1, T.2.1, T.2.2.1, T.2.2.2.1, T.2.2.2.2)) H := hP
      have hD : va_D (va_A (textW ck ta T) s.heap.size) (textW ck ta (upd T.1 3 1, T.2.1, T.2.2.1, T.2.2.2.1, T.2.2.2.2)) := hD
      refine lv_goto (tgt := 44) hx hb dX2_takesWay_25 (by decide) ?_
      refine lv_aload_n hx hb dX2_takesWay_44 rfl (lv_at hl 0 rfl) ?_
      refine lv_iconst (v := 1) hx hb dX2_takesWay_45 (by decide) ?_
      refine va_put (D := D) (ci := 2) (v := .int 1) (ty := .int) (C := RX2) (T := TX2) (N := 10) hx hb hts hinX2 tyX2 tyX2_ok nmX2 hown hK hP hD hS 0 rfl rfl 6 (by decide) (hts (.fieldLink RX2 30 "JoinGrants$JoinText" "place" "I") (List.mem_of_getElem? (i := 2) rfl)) (fun _ h9 => h9) rfl (by decide +kernel) rfl rfl (Nat.le_of_ble_eq_true rfl) dX2_takesWay_46 (fun H locs hP hD hS => ?_)
      have hP : va_P D vwCl (textW ck ta (upd (upd T.1 3 1) 2 1, T.2.1, T.2.2.1, T.2.2.2.1, T.2.2.2.2)) H := hP
      have hD : va_D (va_A (textW ck ta T) s.heap.size) (textW ck ta (upd (upd T.1 3 1) 2 1, T.2.1, T.2.2.1, T.2.2.2.1, T.2.2.2.2)) := hD
      refine lv_iconst (v := 1) hx hb dX2_takesWay_49 (by decide) ?_
      exact xzret hx hb hr hlk hP hD hS (Or.inr rfl) (congrArg (fun z => z.1) (show gX2_takesWay T a1 = (1, (upd (upd T.1 3 1) 2 1, T.2.1, T.2.2.1, T.2.2.2.1, T.2.2.2.2)) from (Eq.trans (if_neg c_3) (Eq.trans (if_pos c_17) rfl)))).symm (congrArg (fun z => textW ck ta z.2) (show gX2_takesWay T a1 = (1, (upd (upd T.1 3 1) 2 1, T.2.1, T.2.2.1, T.2.2.2.1, T.2.2.2.2)) from (Eq.trans (if_neg c_3) (Eq.trans (if_pos c_17) rfl)))).symm dX2_takesWay_50
  · --f
    refine lv_aload_n hx hb dX2_takesWay_6 rfl (lv_at hl 0 rfl) ?_
    refine lv_iconst (v := 0) hx hb dX2_takesWay_7 (by decide) ?_
    refine va_put (D := D) (ci := 2) (v := .int 0) (ty := .int) (C := RX2) (T := TX2) (N := 10) hx hb hts hinX2 tyX2 tyX2_ok nmX2 hown hK hP hD hS 0 rfl rfl 7 (by decide) (hts (.fieldLink RX2 55 "JoinGrants$JoinText" "way" "I") (List.mem_of_getElem? (i := 1) rfl)) (fun _ h9 => h9) rfl (by decide +kernel) rfl rfl (Nat.le_of_ble_eq_true rfl) dX2_takesWay_8 (fun H locs hP hD hS => ?_)
    have hP : va_P D vwCl (textW ck ta (upd T.1 3 0, T.2.1, T.2.2.1, T.2.2.2.1, T.2.2.2.2)) H := hP
    have hD : va_D (va_A (textW ck ta T) s.heap.size) (textW ck ta (upd T.1 3 0, T.2.1, T.2.2.1, T.2.2.2.1, T.2.2.2.2)) := hD
    refine lv_goto (tgt := 44) hx hb dX2_takesWay_11 (by decide) ?_
    refine lv_aload_n hx hb dX2_takesWay_44 rfl (lv_at hl 0 rfl) ?_
    refine lv_iconst (v := 1) hx hb dX2_takesWay_45 (by decide) ?_
    refine va_put (D := D) (ci := 2) (v := .int 1) (ty := .int) (C := RX2) (T := TX2) (N := 10) hx hb hts hinX2 tyX2 tyX2_ok nmX2 hown hK hP hD hS 0 rfl rfl 6 (by decide) (hts (.fieldLink RX2 30 "JoinGrants$JoinText" "place" "I") (List.mem_of_getElem? (i := 2) rfl)) (fun _ h9 => h9) rfl (by decide +kernel) rfl rfl (Nat.le_of_ble_eq_true rfl) dX2_takesWay_46 (fun H locs hP hD hS => ?_)
    have hP : va_P D vwCl (textW ck ta (upd (upd T.1 3 0) 2 1, T.2.1, T.2.2.1, T.2.2.2.1, T.2.2.2.2)) H := hP
    have hD : va_D (va_A (textW ck ta T) s.heap.size) (textW ck ta (upd (upd T.1 3 0) 2 1, T.2.1, T.2.2.1, T.2.2.2.1, T.2.2.2.2)) := hD
    refine lv_iconst (v := 1) hx hb dX2_takesWay_49 (by decide) ?_
    exact xzret hx hb hr hlk hP hD hS (Or.inr rfl) (congrArg (fun z => z.1) (show gX2_takesWay T a1 = (1, (upd (upd T.1 3 0) 2 1, T.2.1, T.2.2.1, T.2.2.2.1, T.2.2.2.2)) from (Eq.trans (if_pos c_3) rfl))).symm (congrArg (fun z => textW ck ta z.2) (show gX2_takesWay T a1 = (1, (upd (upd T.1 3 0) 2 1, T.2.1, T.2.2.1, T.2.2.2.1, T.2.2.2.2)) from (Eq.trans (if_pos c_3) rfl))).symm dX2_takesWay_50

theorem z_X2_takesWay {T : TS} {a1 : Int32} : (gX2_takesWay T a1).1 = 0 ∨ (gX2_takesWay T a1).1 = 1 := by
  unfold gX2_takesWay
  (repeat' split) <;> first | exact Or.inl rfl | exact Or.inr rfl

def rmX2_takesDigit : Room := { frames := 0, cells := 0, slots := 0, locals := 0 }
def gX2_takesDigit (T : TS) (a1 : Int32) : Int32 × TS := (if (((T.1 5) * 10) + a1) = 0 then (0, T) else (if (((T.1 5) * 10) + a1) ≤ 200 then (1, (upd T.1 5 (((T.1 5) * 10) + a1), T.2.1, T.2.2.1, T.2.2.2.1, T.2.2.2.2)) else (0, T)))
set_option maxHeartbeats 4000000 in
set_option maxRecDepth 100000 in
theorem mX2_takesDigit (l : Launch) (D : va_G) (ck : Nat → ClassId) (ta : Nat → Nat) (T : TS) (a1 : Int32) : xMi l yX2_takesDigit wsX2_takesDigit rmX2_takesDigit D ck [.ref (ta 0), .int a1] (textW ck ta T) (textW ck ta ((gX2_takesDigit T a1).2)) ((gX2_takesDigit T a1).1) 0 0 := by
  refine xMet (by decide) rfl (Nat.le_of_ble_eq_true rfl) ?_
  intro zp ze s zm zb zt zc hx hb hr hml hown hts hlk hnm hN hK hP hD ls hl
  have hown : s.vm.findClass RX2 = some zm.cls := hown
  have hl : lv_has ls 3 [(0, .ref (ta 0)), (1, .int a1)] := hl
  have hS : va_S (va_A (textW ck ta T) s.heap.size) s.heap s.heap [] := va_S.rf
  have hA : ∀ zq : Nat, s.heap.size ≤ zq → va_A (textW ck ta T) s.heap.size zq := fun zq h => Or.inr h
  have hinX2 : ∀ w ∈ u_ws RX2 TX2 10, w ∈ wsX2_takesDigit := by decide +kernel
  refine lv_aload_n hx hb dX2_takesDigit_0 rfl (lv_at hl 0 rfl) ?_
  refine va_get (D := D) (ci := 2) (v := .int (T.1 5)) (C := RX2) (T := TX2) (N := 10) hx hb hts hinX2 hown hK hP 0 rfl rfl 9 (by decide) (hts (.fieldLink RX2 33 "JoinGrants$JoinText" "number" "I") (List.mem_of_getElem? (i := 1) rfl)) (fun _ h9 => h9) rfl dX2_takesDigit_1 ?_
  refine lv_bipush (v := 10) hx hb dX2_takesDigit_4 (by decide) ?_
  refine lv_imul hx hb dX2_takesDigit_6 ?_
  refine lv_iload_n hx hb dX2_takesDigit_7 rfl (lv_at hl 1 rfl) ?_
  refine lv_iadd hx hb dX2_takesDigit_8 ?_
  refine lv_istore_n (lv' := [(2, .int (((T.1 5) * 10) + a1)), (0, .ref (ta 0)), (1, .int a1)]) hx hb dX2_takesDigit_9 rfl hl (by decide) rfl (fun ls hl => ?_)
  refine lv_iload_n hx hb dX2_takesDigit_10 rfl (lv_at hl 0 rfl) ?_
  refine lv_if_eq (tgt := 21) hx hb dX2_takesDigit_11 (by decide) (fun c_11 => ?_) (fun c_11 => ?_)
  · --t
    refine lv_iconst (v := 0) hx hb dX2_takesDigit_21 (by decide) ?_
    exact xzret hx hb hr hlk hP hD hS (Or.inl rfl) (congrArg (fun z => z.1) (show gX2_takesDigit T a1 = (0, T) from (Eq.trans (if_pos c_11) rfl))).symm (congrArg (fun z => textW ck ta z.2) (show gX2_takesDigit T a1 = (0, T) from (Eq.trans (if_pos c_11) rfl))).symm dX2_takesDigit_22
  · --f
    refine lv_iload_n hx hb dX2_takesDigit_14 rfl (lv_at hl 0 rfl) ?_
    refine lv_sipush (v := 200) hx hb dX2_takesDigit_15 (by decide) ?_
    refine lv_icmp_le (tgt := 23) hx hb dX2_takesDigit_18 (by decide) (fun c_18 => ?_) (fun c_18 => ?_)
    · --t
      refine lv_aload_n hx hb dX2_takesDigit_23 rfl (lv_at hl 1 rfl) ?_
      refine lv_iload_n hx hb dX2_takesDigit_24 rfl (lv_at hl 0 rfl) ?_
      refine va_put (D := D) (ci := 2) (v := .int (((T.1 5) * 10) + a1)) (ty := .int) (C := RX2) (T := TX2) (N := 10) hx hb hts hinX2 tyX2 tyX2_ok nmX2 hown hK hP hD hS 0 rfl rfl 9 (by decide) (hts (.fieldLink RX2 33 "JoinGrants$JoinText" "number" "I") (List.mem_of_getElem? (i := 1) rfl)) (fun _ h9 => h9) rfl (by decide +kernel) rfl rfl (Nat.le_of_ble_eq_true rfl) dX2_takesDigit_25 (fun H locs hP hD hS => ?_)
      have hP : va_P D vwCl (textW ck ta (upd T.1 5 (((T.1 5) * 10) + a1), T.2.1, T.2.2.1, T.2.2.2.1, T.2.2.2.2)) H := hP
      have hD : va_D (va_A (textW ck ta T) s.heap.size) (textW ck ta (upd T.1 5 (((T.1 5) * 10) + a1), T.2.1, T.2.2.1, T.2.2.2.1, T.2.2.2.2)) := hD
      refine lv_iconst (v := 1) hx hb dX2_takesDigit_28 (by decide) ?_
      exact xzret hx hb hr hlk hP hD hS (Or.inr rfl) (congrArg (fun z => z.1) (show gX2_takesDigit T a1 = (1, (upd T.1 5 (((T.1 5) * 10) + a1), T.2.1, T.2.2.1, T.2.2.2.1, T.2.2.2.2)) from (Eq.trans (if_neg c_11) (Eq.trans (if_pos c_18) rfl)))).symm (congrArg (fun z => textW ck ta z.2) (show gX2_takesDigit T a1 = (1, (upd T.1 5 (((T.1 5) * 10) + a1), T.2.1, T.2.2.1, T.2.2.2.1, T.2.2.2.2)) from (Eq.trans (if_neg c_11) (Eq.trans (if_pos c_18) rfl)))).symm dX2_takesDigit_29
    · --f
      refine lv_iconst (v := 0) hx hb dX2_takesDigit_21 (by decide) ?_
      exact xzret hx hb hr hlk hP hD hS (Or.inl rfl) (congrArg (fun z => z.1) (show gX2_takesDigit T a1 = (0, T) from (Eq.trans (if_neg c_11) (Eq.trans (if_neg c_18) rfl)))).symm (congrArg (fun z => textW ck ta z.2) (show gX2_takesDigit T a1 = (0, T) from (Eq.trans (if_neg c_11) (Eq.trans (if_neg c_18) rfl)))).symm dX2_takesDigit_22

theorem z_X2_takesDigit {T : TS} {a1 : Int32} : (gX2_takesDigit T a1).1 = 0 ∨ (gX2_takesDigit T a1).1 = 1 := by
  unfold gX2_takesDigit
  (repeat' split) <;> first | exact Or.inl rfl | exact Or.inr rfl

def rmX2_endJoin : Room := { frames := 0, cells := 0, slots := 0, locals := 0 }
def gX2_endJoin (T : TS) : TS := (if (nI 12) ≤ (T.1 1) then (upd (upd T.1 5 0) 2 0, T.2.1, T.2.2.1, T.2.2.2.1, T.2.2.2.2) else (if (nI 12) ≤ (T.1 1) then (upd (upd T.1 5 0) 2 0, T.2.1, T.2.2.1, T.2.2.2.1, T.2.2.2.2) else (if (nI 12) ≤ (T.1 1) then (upd (upd T.1 5 0) 2 0, T.2.1, T.2.2.1, T.2.2.2.1, T.2.2.2.2) else (upd (upd (upd T.1 1 ((T.1 1) + 1)) 5 0) 2 0, T.2.1, upd T.2.2.1 ((T.1 1).toNatClampNeg) (T.1 3), upd T.2.2.2.1 ((T.1 1).toNatClampNeg) (T.1 4), upd T.2.2.2.2 ((T.1 1).toNatClampNeg) (T.1 5)))))
set_option maxHeartbeats 4000000 in
set_option maxRecDepth 100000 in
theorem mX2_endJoin (l : Launch) (D : va_G) (ck : Nat → ClassId) (ta : Nat → Nat) (T : TS) (hj : ¬ T.1 1 < 0) : xMv l yX2_endJoin wsX2_endJoin rmX2_endJoin D ck [.ref (ta 0)] (textW ck ta T) (textW ck ta (gX2_endJoin T)) 0 0 := by
  refine xMet (by decide) rfl (Nat.le_of_ble_eq_true rfl) ?_
  intro zp ze s zm zb zt zc hx hb hr hml hown hts hlk hnm hN hK hP hD ls hl
  have hown : s.vm.findClass RX2 = some zm.cls := hown
  have hl : lv_has ls 1 [(0, .ref (ta 0))] := hl
  have hS : va_S (va_A (textW ck ta T) s.heap.size) s.heap s.heap [] := va_S.rf
  have hA : ∀ zq : Nat, s.heap.size ≤ zq → va_A (textW ck ta T) s.heap.size zq := fun zq h => Or.inr h
  have hinX2 : ∀ w ∈ u_ws RX2 TX2 10, w ∈ wsX2_endJoin := by decide +kernel
  refine lv_aload_n hx hb dX2_endJoin_0 rfl (lv_at hl 0 rfl) ?_
  refine va_get (D := D) (ci := 2) (v := .int (T.1 1)) (C := RX2) (T := TX2) (N := 10) hx hb hts hinX2 hown hK hP 0 rfl rfl 5 (by decide) (hts (.fieldLink RX2 27 "JoinGrants$JoinText" "joins" "I") (List.mem_of_getElem? (i := 1) rfl)) (fun _ h9 => h9) rfl dX2_endJoin_1 ?_
  refine lv_aload_n hx hb dX2_endJoin_4 rfl (lv_at hl 0 rfl) ?_
  refine va_get (D := D) (ci := 2) (v := .ref (ta 2)) (C := RX2) (T := TX2) (N := 10) hx hb hts hinX2 hown hK hP 0 rfl rfl 2 (by decide) (hts (.fieldLink RX2 13 "JoinGrants$JoinText" "ways" "[I") (List.mem_of_getElem? (i := 2) rfl)) (fun _ h9 => h9) rfl dX2_endJoin_5 ?_
  refine va_alen hx hb hK hP 2 0 rfl rfl (v := (nI 12)) rfl dX2_endJoin_8 ?_
  refine lv_icmp_ge (tgt := 85) hx hb dX2_endJoin_9 (by decide) (fun c_9 => ?_) (fun c_9 => ?_)
  · --t
    refine lv_aload_n hx hb dX2_endJoin_85 rfl (lv_at hl 0 rfl) ?_
    refine lv_iconst (v := 0) hx hb dX2_endJoin_86 (by decide) ?_
    refine va_put (D := D) (ci := 2) (v := .int 0) (ty := .int) (C := RX2) (T := TX2) (N := 10) hx hb hts hinX2 tyX2 tyX2_ok nmX2 hown hK hP hD hS 0 rfl rfl 9 (by decide) (hts (.fieldLink RX2 33 "JoinGrants$JoinText" "number" "I") (List.mem_of_getElem? (i := 7) rfl)) (fun _ h9 => h9) rfl (by decide +kernel) rfl rfl (Nat.le_of_ble_eq_true rfl) dX2_endJoin_87 (fun H locs hP hD hS => ?_)
    have hP : va_P D vwCl (textW ck ta (upd T.1 5 0, T.2.1, T.2.2.1, T.2.2.2.1, T.2.2.2.2)) H := hP
    have hD : va_D (va_A (textW ck ta T) s.heap.size) (textW ck ta (upd T.1 5 0, T.2.1, T.2.2.1, T.2.2.2.1, T.2.2.2.2)) := hD
    refine lv_aload_n hx hb dX2_endJoin_90 rfl (lv_at hl 0 rfl) ?_
    refine lv_iconst (v := 0) hx hb dX2_endJoin_91 (by decide) ?_
    refine va_put (D := D) (ci := 2) (v := .int 0) (ty := .int) (C := RX2) (T := TX2) (N := 10) hx hb hts hinX2 tyX2 tyX2_ok nmX2 hown hK hP hD hS 0 rfl rfl 6 (by decide) (hts (.fieldLink RX2 30 "JoinGrants$JoinText" "place" "I") (List.mem_of_getElem? (i := 8) rfl)) (fun _ h9 => h9) rfl (by decide +kernel) rfl rfl (Nat.le_of_ble_eq_true rfl) dX2_endJoin_92 (fun H locs hP hD hS => ?_)
    have hP : va_P D vwCl (textW ck ta (upd (upd T.1 5 0) 2 0, T.2.1, T.2.2.1, T.2.2.2.1, T.2.2.2.2)) H := hP
    have hD : va_D (va_A (textW ck ta T) s.heap.size) (textW ck ta (upd (upd T.1 5 0) 2 0, T.2.1, T.2.2.1, T.2.2.2.1, T.2.2.2.2)) := hD
    exact xvret hx hb hr hlk hP hD hS (congrArg (fun z => textW ck ta z) (show gX2_endJoin T = (upd (upd T.1 5 0) 2 0, T.2.1, T.2.2.1, T.2.2.2.1, T.2.2.2.2) from (Eq.trans (if_pos c_9) rfl))).symm dX2_endJoin_95
  · --f
    refine lv_aload_n hx hb dX2_endJoin_12 rfl (lv_at hl 0 rfl) ?_
    refine va_get (D := D) (ci := 2) (v := .int (T.1 1)) (C := RX2) (T := TX2) (N := 10) hx hb hts hinX2 hown hK hP 0 rfl rfl 5 (by decide) (hts (.fieldLink RX2 27 "JoinGrants$JoinText" "joins" "I") (List.mem_of_getElem? (i := 1) rfl)) (fun _ h9 => h9) rfl dX2_endJoin_13 ?_
    refine lv_aload_n hx hb dX2_endJoin_16 rfl (lv_at hl 0 rfl) ?_
    refine va_get (D := D) (ci := 2) (v := .ref (ta 3)) (C := RX2) (T := TX2) (N := 10) hx hb hts hinX2 hown hK hP 0 rfl rfl 3 (by decide) (hts (.fieldLink RX2 17 "JoinGrants$JoinText" "lefts" "[I") (List.mem_of_getElem? (i := 3) rfl)) (fun _ h9 => h9) rfl dX2_endJoin_17 ?_
    refine va_alen hx hb hK hP 3 0 rfl rfl (v := (nI 12)) rfl dX2_endJoin_20 ?_
    refine lv_icmp_ge (tgt := 85) hx hb dX2_endJoin_21 (by decide) (fun c_21 => ?_) (fun c_21 => ?_)
    · --t
      refine lv_aload_n hx hb dX2_endJoin_85 rfl (lv_at hl 0 rfl) ?_
      refine lv_iconst (v := 0) hx hb dX2_endJoin_86 (by decide) ?_
      refine va_put (D := D) (ci := 2) (v := .int 0) (ty := .int) (C := RX2) (T := TX2) (N := 10) hx hb hts hinX2 tyX2 tyX2_ok nmX2 hown hK hP hD hS 0 rfl rfl 9 (by decide) (hts (.fieldLink RX2 33 "JoinGrants$JoinText" "number" "I") (List.mem_of_getElem? (i := 7) rfl)) (fun _ h9 => h9) rfl (by decide +kernel) rfl rfl (Nat.le_of_ble_eq_true rfl) dX2_endJoin_87 (fun H locs hP hD hS => ?_)
      have hP : va_P D vwCl (textW ck ta (upd T.1 5 0, T.2.1, T.2.2.1, T.2.2.2.1, T.2.2.2.2)) H := hP
      have hD : va_D (va_A (textW ck ta T) s.heap.size) (textW ck ta (upd T.1 5 0, T.2.1, T.2.2.1, T.2.2.2.1, T.2.2.2.2)) := hD
      refine lv_aload_n hx hb dX2_endJoin_90 rfl (lv_at hl 0 rfl) ?_
      refine lv_iconst (v := 0) hx hb dX2_endJoin_91 (by decide) ?_
      refine va_put (D := D) (ci := 2) (v := .int 0) (ty := .int) (C := RX2) (T := TX2) (N := 10) hx hb hts hinX2 tyX2 tyX2_ok nmX2 hown hK hP hD hS 0 rfl rfl 6 (by decide) (hts (.fieldLink RX2 30 "JoinGrants$JoinText" "place" "I") (List.mem_of_getElem? (i := 8) rfl)) (fun _ h9 => h9) rfl (by decide +kernel) rfl rfl (Nat.le_of_ble_eq_true rfl) dX2_endJoin_92 (fun H locs hP hD hS => ?_)
      have hP : va_P D vwCl (textW ck ta (upd (upd T.1 5 0) 2 0, T.2.1, T.2.2.1, T.2.2.2.1, T.2.2.2.2)) H := hP
      have hD : va_D (va_A (textW ck ta T) s.heap.size) (textW ck ta (upd (upd T.1 5 0) 2 0, T.2.1, T.2.2.1, T.2.2.2.1, T.2.2.2.2)) := hD
      exact xvret hx hb hr hlk hP hD hS (congrArg (fun z => textW ck ta z) (show gX2_endJoin T = (upd (upd T.1 5 0) 2 0, T.2.1, T.2.2.1, T.2.2.2.1, T.2.2.2.2) from (Eq.trans (if_neg c_9) (Eq.trans (if_pos c_21) rfl)))).symm dX2_endJoin_95
    · --f
      refine lv_aload_n hx hb dX2_endJoin_24 rfl (lv_at hl 0 rfl) ?_
      refine va_get (D := D) (ci := 2) (v := .int (T.1 1)) (C := RX2) (T := TX2) (N := 10) hx hb hts hinX2 hown hK hP 0 rfl rfl 5 (by decide) (hts (.fieldLink RX2 27 "JoinGrants$JoinText" "joins" "I") (List.mem_of_getElem? (i := 1) rfl)) (fun _ h9 => h9) rfl dX2_endJoin_25 ?_
      refine lv_aload_n hx hb dX2_endJoin_28 rfl (lv_at hl 0 rfl) ?_
      refine va_get (D := D) (ci := 2) (v := .ref (ta 4)) (C := RX2) (T := TX2) (N := 10) hx hb hts hinX2 hown hK hP 0 rfl rfl 4 (by decide) (hts (.fieldLink RX2 20 "JoinGrants$JoinText" "rights" "[I") (List.mem_of_getElem? (i := 4) rfl)) (fun _ h9 => h9) rfl dX2_endJoin_29 ?_
      refine va_alen hx hb hK hP 4 0 rfl rfl (v := (nI 12)) rfl dX2_endJoin_32 ?_
      refine lv_icmp_ge (tgt := 85) hx hb dX2_endJoin_33 (by decide) (fun c_33 => ?_) (fun c_33 => ?_)
      · --t
        refine lv_aload_n hx hb dX2_endJoin_85 rfl (lv_at hl 0 rfl) ?_
        refine lv_iconst (v := 0) hx hb dX2_endJoin_86 (by decide) ?_
        refine va_put (D := D) (ci := 2) (v := .int 0) (ty := .int) (C := RX2) (T := TX2) (N := 10) hx hb hts hinX2 tyX2 tyX2_ok nmX2 hown hK hP hD hS 0 rfl rfl 9 (by decide) (hts (.fieldLink RX2 33 "JoinGrants$JoinText" "number" "I") (List.mem_of_getElem? (i := 7) rfl)) (fun _ h9 => h9) rfl (by decide +kernel) rfl rfl (Nat.le_of_ble_eq_true rfl) dX2_endJoin_87 (fun H locs hP hD hS => ?_)
        have hP : va_P D vwCl (textW ck ta (upd T.1 5 0, T.2.1, T.2.2.1, T.2.2.2.1, T.2.2.2.2)) H := hP
        have hD : va_D (va_A (textW ck ta T) s.heap.size) (textW ck ta (upd T.1 5 0, T.2.1, T.2.2.1, T.2.2.2.1, T.2.2.2.2)) := hD
        refine lv_aload_n hx hb dX2_endJoin_90 rfl (lv_at hl 0 rfl) ?_
        refine lv_iconst (v := 0) hx hb dX2_endJoin_91 (by decide) ?_
        refine va_put (D := D) (ci := 2) (v := .int 0) (ty := .int) (C := RX2) (T := TX2) (N := 10) hx hb hts hinX2 tyX2 tyX2_ok nmX2 hown hK hP hD hS 0 rfl rfl 6 (by decide) (hts (.fieldLink RX2 30 "JoinGrants$JoinText" "place" "I") (List.mem_of_getElem? (i := 8) rfl)) (fun _ h9 => h9) rfl (by decide +kernel) rfl rfl (Nat.le_of_ble_eq_true rfl) dX2_endJoin_92 (fun H locs hP hD hS => ?_)
        have hP : va_P D vwCl (textW ck ta (upd (upd T.1 5 0) 2 0, T.2.1, T.2.2.1, T.2.2.2.1, T.2.2.2.2)) H := hP
        have hD : va_D (va_A (textW ck ta T) s.heap.size) (textW ck ta (upd (upd T.1 5 0) 2 0, T.2.1, T.2.2.1, T.2.2.2.1, T.2.2.2.2)) := hD
        exact xvret hx hb hr hlk hP hD hS (congrArg (fun z => textW ck ta z) (show gX2_endJoin T = (upd (upd T.1 5 0) 2 0, T.2.1, T.2.2.1, T.2.2.2.1, T.2.2.2.2) from (Eq.trans (if_neg c_9) (Eq.trans (if_neg c_21) (Eq.trans (if_pos c_33) rfl))))).symm dX2_endJoin_95
      · --f
        refine lv_aload_n hx hb dX2_endJoin_36 rfl (lv_at hl 0 rfl) ?_
        refine va_get (D := D) (ci := 2) (v := .ref (ta 2)) (C := RX2) (T := TX2) (N := 10) hx hb hts hinX2 hown hK hP 0 rfl rfl 2 (by decide) (hts (.fieldLink RX2 13 "JoinGrants$JoinText" "ways" "[I") (List.mem_of_getElem? (i := 2) rfl)) (fun _ h9 => h9) rfl dX2_endJoin_37 ?_
        refine lv_aload_n hx hb dX2_endJoin_40 rfl (lv_at hl 0 rfl) ?_
        refine va_get (D := D) (ci := 2) (v := .int (T.1 1)) (C := RX2) (T := TX2) (N := 10) hx hb hts hinX2 hown hK hP 0 rfl rfl 5 (by decide) (hts (.fieldLink RX2 27 "JoinGrants$JoinText" "joins" "I") (List.mem_of_getElem? (i := 1) rfl)) (fun _ h9 => h9) rfl dX2_endJoin_41 ?_
        refine lv_aload_n hx hb dX2_endJoin_44 rfl (lv_at hl 0 rfl) ?_
        refine va_get (D := D) (ci := 2) (v := .int (T.1 3)) (C := RX2) (T := TX2) (N := 10) hx hb hts hinX2 hown hK hP 0 rfl rfl 7 (by decide) (hts (.fieldLink RX2 55 "JoinGrants$JoinText" "way" "I") (List.mem_of_getElem? (i := 5) rfl)) (fun _ h9 => h9) rfl dX2_endJoin_45 ?_
        refine va_iast hx hb hK hP hD hS 2 0 rfl rfl (xin_g' (by decide) hj (by exact Int32.not_le.mp c_9)) dX2_endJoin_48 (fun H locs hP hD hS => ?_)
        have hP : va_P D vwCl (textW ck ta (T.1, T.2.1, upd T.2.2.1 ((T.1 1).toNatClampNeg) (T.1 3), T.2.2.2.1, T.2.2.2.2)) H := hP
        have hD : va_D (va_A (textW ck ta T) s.heap.size) (textW ck ta (T.1, T.2.1, upd T.2.2.1 ((T.1 1).toNatClampNeg) (T.1 3), T.2.2.2.1, T.2.2.2.2)) := hD
        refine lv_aload_n hx hb dX2_endJoin_49 rfl (lv_at hl 0 rfl) ?_
        refine va_get (D := D) (ci := 2) (v := .ref (ta 3)) (C := RX2) (T := TX2) (N := 10) hx hb hts hinX2 hown hK hP 0 rfl rfl 3 (by decide) (hts (.fieldLink RX2 17 "JoinGrants$JoinText" "lefts" "[I") (List.mem_of_getElem? (i := 3) rfl)) (fun _ h9 => h9) rfl dX2_endJoin_50 ?_
        refine lv_aload_n hx hb dX2_endJoin_53 rfl (lv_at hl 0 rfl) ?_
        refine va_get (D := D) (ci := 2) (v := .int (T.1 1)) (C := RX2) (T := TX2) (N := 10) hx hb hts hinX2 hown hK hP 0 rfl rfl 5 (by decide) (hts (.fieldLink RX2 27 "JoinGrants$JoinText" "joins" "I") (List.mem_of_getElem? (i := 1) rfl)) (fun _ h9 => h9) rfl dX2_endJoin_54 ?_
        refine lv_aload_n hx hb dX2_endJoin_57 rfl (lv_at hl 0 rfl) ?_
        refine va_get (D := D) (ci := 2) (v := .int (T.1 4)) (C := RX2) (T := TX2) (N := 10) hx hb hts hinX2 hown hK hP 0 rfl rfl 8 (by decide) (hts (.fieldLink RX2 50 "JoinGrants$JoinText" "left" "I") (List.mem_of_getElem? (i := 6) rfl)) (fun _ h9 => h9) rfl dX2_endJoin_58 ?_
        refine va_iast hx hb hK hP hD hS 3 0 rfl rfl (xin_g' (by decide) hj (by exact Int32.not_le.mp c_9)) dX2_endJoin_61 (fun H locs hP hD hS => ?_)
        have hP : va_P D vwCl (textW ck ta (T.1, T.2.1, upd T.2.2.1 ((T.1 1).toNatClampNeg) (T.1 3), upd T.2.2.2.1 ((T.1 1).toNatClampNeg) (T.1 4), T.2.2.2.2)) H := hP
        have hD : va_D (va_A (textW ck ta T) s.heap.size) (textW ck ta (T.1, T.2.1, upd T.2.2.1 ((T.1 1).toNatClampNeg) (T.1 3), upd T.2.2.2.1 ((T.1 1).toNatClampNeg) (T.1 4), T.2.2.2.2)) := hD
        refine lv_aload_n hx hb dX2_endJoin_62 rfl (lv_at hl 0 rfl) ?_
        refine va_get (D := D) (ci := 2) (v := .ref (ta 4)) (C := RX2) (T := TX2) (N := 10) hx hb hts hinX2 hown hK hP 0 rfl rfl 4 (by decide) (hts (.fieldLink RX2 20 "JoinGrants$JoinText" "rights" "[I") (List.mem_of_getElem? (i := 4) rfl)) (fun _ h9 => h9) rfl dX2_endJoin_63 ?_
        refine lv_aload_n hx hb dX2_endJoin_66 rfl (lv_at hl 0 rfl) ?_
        refine va_get (D := D) (ci := 2) (v := .int (T.1 1)) (C := RX2) (T := TX2) (N := 10) hx hb hts hinX2 hown hK hP 0 rfl rfl 5 (by decide) (hts (.fieldLink RX2 27 "JoinGrants$JoinText" "joins" "I") (List.mem_of_getElem? (i := 1) rfl)) (fun _ h9 => h9) rfl dX2_endJoin_67 ?_
        refine lv_aload_n hx hb dX2_endJoin_70 rfl (lv_at hl 0 rfl) ?_
        refine va_get (D := D) (ci := 2) (v := .int (T.1 5)) (C := RX2) (T := TX2) (N := 10) hx hb hts hinX2 hown hK hP 0 rfl rfl 9 (by decide) (hts (.fieldLink RX2 33 "JoinGrants$JoinText" "number" "I") (List.mem_of_getElem? (i := 7) rfl)) (fun _ h9 => h9) rfl dX2_endJoin_71 ?_
        refine va_iast hx hb hK hP hD hS 4 0 rfl rfl (xin_g' (by decide) hj (by exact Int32.not_le.mp c_9)) dX2_endJoin_74 (fun H locs hP hD hS => ?_)
        have hP : va_P D vwCl (textW ck ta (T.1, T.2.1, upd T.2.2.1 ((T.1 1).toNatClampNeg) (T.1 3), upd T.2.2.2.1 ((T.1 1).toNatClampNeg) (T.1 4), upd T.2.2.2.2 ((T.1 1).toNatClampNeg) (T.1 5))) H := hP
        have hD : va_D (va_A (textW ck ta T) s.heap.size) (textW ck ta (T.1, T.2.1, upd T.2.2.1 ((T.1 1).toNatClampNeg) (T.1 3), upd T.2.2.2.1 ((T.1 1).toNatClampNeg) (T.1 4), upd T.2.2.2.2 ((T.1 1).toNatClampNeg) (T.1 5))) := hD
        refine lv_aload_n hx hb dX2_endJoin_75 rfl (lv_at hl 0 rfl) ?_
        refine lv_dup hx hb dX2_endJoin_76 rfl ?_
        refine va_get (D := D) (ci := 2) (v := .int (T.1 1)) (C := RX2) (T := TX2) (N := 10) hx hb hts hinX2 hown hK hP 0 rfl rfl 5 (by decide) (hts (.fieldLink RX2 27 "JoinGrants$JoinText" "joins" "I") (List.mem_of_getElem? (i := 1) rfl)) (fun _ h9 => h9) rfl dX2_endJoin_77 ?_
        refine lv_iconst (v := 1) hx hb dX2_endJoin_80 (by decide) ?_
        refine lv_iadd hx hb dX2_endJoin_81 ?_
        refine va_put (D := D) (ci := 2) (v := .int ((T.1 1) + 1)) (ty := .int) (C := RX2) (T := TX2) (N := 10) hx hb hts hinX2 tyX2 tyX2_ok nmX2 hown hK hP hD hS 0 rfl rfl 5 (by decide) (hts (.fieldLink RX2 27 "JoinGrants$JoinText" "joins" "I") (List.mem_of_getElem? (i := 1) rfl)) (fun _ h9 => h9) rfl (by decide +kernel) rfl rfl (Nat.le_of_ble_eq_true rfl) dX2_endJoin_82 (fun H locs hP hD hS => ?_)
        have hP : va_P D vwCl (textW ck ta (upd T.1 1 ((T.1 1) + 1), T.2.1, upd T.2.2.1 ((T.1 1).toNatClampNeg) (T.1 3), upd T.2.2.2.1 ((T.1 1).toNatClampNeg) (T.1 4), upd T.2.2.2.2 ((T.1 1).toNatClampNeg) (T.1 5))) H := hP
        have hD : va_D (va_A (textW ck ta T) s.heap.size) (textW ck ta (upd T.1 1 ((T.1 1) + 1), T.2.1, upd T.2.2.1 ((T.1 1).toNatClampNeg) (T.1 3), upd T.2.2.2.1 ((T.1 1).toNatClampNeg) (T.1 4), upd T.2.2.2.2 ((T.1 1).toNatClampNeg) (T.1 5))) := hD
        refine lv_aload_n hx hb dX2_endJoin_85 rfl (lv_at hl 0 rfl) ?_
        refine lv_iconst (v := 0) hx hb dX2_endJoin_86 (by decide) ?_
        refine va_put (D := D) (ci := 2) (v := .int 0) (ty := .int) (C := RX2) (T := TX2) (N := 10) hx hb hts hinX2 tyX2 tyX2_ok nmX2 hown hK hP hD hS 0 rfl rfl 9 (by decide) (hts (.fieldLink RX2 33 "JoinGrants$JoinText" "number" "I") (List.mem_of_getElem? (i := 7) rfl)) (fun _ h9 => h9) rfl (by decide +kernel) rfl rfl (Nat.le_of_ble_eq_true rfl) dX2_endJoin_87 (fun H locs hP hD hS => ?_)
        have hP : va_P D vwCl (textW ck ta (upd (upd T.1 1 ((T.1 1) + 1)) 5 0, T.2.1, upd T.2.2.1 ((T.1 1).toNatClampNeg) (T.1 3), upd T.2.2.2.1 ((T.1 1).toNatClampNeg) (T.1 4), upd T.2.2.2.2 ((T.1 1).toNatClampNeg) (T.1 5))) H := hP
        have hD : va_D (va_A (textW ck ta T) s.heap.size) (textW ck ta (upd (upd T.1 1 ((T.1 1) + 1)) 5 0, T.2.1, upd T.2.2.1 ((T.1 1).toNatClampNeg) (T.1 3), upd T.2.2.2.1 ((T.1 1).toNatClampNeg) (T.1 4), upd T.2.2.2.2 ((T.1 1).toNatClampNeg) (T.1 5))) := hD
        refine lv_aload_n hx hb dX2_endJoin_90 rfl (lv_at hl 0 rfl) ?_
        refine lv_iconst (v := 0) hx hb dX2_endJoin_91 (by decide) ?_
        refine va_put (D := D) (ci := 2) (v := .int 0) (ty := .int) (C := RX2) (T := TX2) (N := 10) hx hb hts hinX2 tyX2 tyX2_ok nmX2 hown hK hP hD hS 0 rfl rfl 6 (by decide) (hts (.fieldLink RX2 30 "JoinGrants$JoinText" "place" "I") (List.mem_of_getElem? (i := 8) rfl)) (fun _ h9 => h9) rfl (by decide +kernel) rfl rfl (Nat.le_of_ble_eq_true rfl) dX2_endJoin_92 (fun H locs hP hD hS => ?_)
        have hP : va_P D vwCl (textW ck ta (upd (upd (upd T.1 1 ((T.1 1) + 1)) 5 0) 2 0, T.2.1, upd T.2.2.1 ((T.1 1).toNatClampNeg) (T.1 3), upd T.2.2.2.1 ((T.1 1).toNatClampNeg) (T.1 4), upd T.2.2.2.2 ((T.1 1).toNatClampNeg) (T.1 5))) H := hP
        have hD : va_D (va_A (textW ck ta T) s.heap.size) (textW ck ta (upd (upd (upd T.1 1 ((T.1 1) + 1)) 5 0) 2 0, T.2.1, upd T.2.2.1 ((T.1 1).toNatClampNeg) (T.1 3), upd T.2.2.2.1 ((T.1 1).toNatClampNeg) (T.1 4), upd T.2.2.2.2 ((T.1 1).toNatClampNeg) (T.1 5))) := hD
        exact xvret hx hb hr hlk hP hD hS (congrArg (fun z => textW ck ta z) (show gX2_endJoin T = (upd (upd (upd T.1 1 ((T.1 1) + 1)) 5 0) 2 0, T.2.1, upd T.2.2.1 ((T.1 1).toNatClampNeg) (T.1 3), upd T.2.2.2.1 ((T.1 1).toNatClampNeg) (T.1 4), upd T.2.2.2.2 ((T.1 1).toNatClampNeg) (T.1 5)) from (Eq.trans (if_neg c_9) (Eq.trans (if_neg c_21) (Eq.trans (if_neg c_33) rfl))))).symm dX2_endJoin_95

def rmX2_takes : Room := { frames := 1, cells := 0, slots := 0, locals := 22 }
def gX2_takes (T : TS) (a1 : Int32) : Int32 × TS := (if (T.1 2) = 0 then ((gX2_takesWay T a1).1, (gX2_takesWay T a1).2) else (if a1 < 48 then (if (T.1 5) = 0 then (0, T) else (if (T.1 2) = 1 then (if a1 = 120 then (1, (upd (upd (upd T.1 4 (T.1 5)) 5 0) 2 2, T.2.1, T.2.2.1, T.2.2.2.1, T.2.2.2.2)) else (if (T.1 2) = 2 then (if a1 = 44 then (1, (gX2_endJoin T )) else (0, T)) else (0, T))) else (if (T.1 2) = 2 then (if a1 = 44 then (1, (gX2_endJoin T )) else (0, T)) else (0, T)))) else (if 57 < a1 then (if (T.1 5) = 0 then (0, T) else (if (T.1 2) = 1 then (if a1 = 120 then (1, (upd (upd (upd T.1 4 (T.1 5)) 5 0) 2 2, T.2.1, T.2.2.1, T.2.2.2.1, T.2.2.2.2)) else (if (T.1 2) = 2 then (if a1 = 44 then (1, (gX2_endJoin T )) else (0, T)) else (0, T))) else (if (T.1 2) = 2 then (if a1 = 44 then (1, (gX2_endJoin T )) else (0, T)) else (0, T)))) else ((gX2_takesDigit T (a1 - 48)).1, (gX2_takesDigit T (a1 - 48)).2))))
set_option maxHeartbeats 4000000 in
set_option maxRecDepth 100000 in
theorem mX2_takes (l : Launch) (D : va_G) (ck : Nat → ClassId) (ta : Nat → Nat) (T : TS) (a1 : Int32) (hj : ¬ T.1 1 < 0) : xMi l yX2_takes wsX2_takes rmX2_takes D ck [.ref (ta 0), .int a1] (textW ck ta T) (textW ck ta ((gX2_takes T a1).2)) ((gX2_takes T a1).1) 0 0 := by
  refine xMet (by decide) rfl (Nat.le_of_ble_eq_true rfl) ?_
  intro zp ze s zm zb zt zc hx hb hr hml hown hts hlk hnm hN hK hP hD ls hl
  have hown : s.vm.findClass RX2 = some zm.cls := hown
  have hl : lv_has ls 2 [(0, .ref (ta 0)), (1, .int a1)] := hl
  have hS : va_S (va_A (textW ck ta T) s.heap.size) s.heap s.heap [] := va_S.rf
  have hA : ∀ zq : Nat, s.heap.size ≤ zq → va_A (textW ck ta T) s.heap.size zq := fun zq h => Or.inr h
  have hinX2 : ∀ w ∈ u_ws RX2 TX2 10, w ∈ wsX2_takes := by decide +kernel
  refine lv_aload_n hx hb dX2_takes_0 rfl (lv_at hl 0 rfl) ?_
  refine va_get (D := D) (ci := 2) (v := .int (T.1 2)) (C := RX2) (T := TX2) (N := 10) hx hb hts hinX2 hown hK hP 0 rfl rfl 6 (by decide) (hts (.fieldLink RX2 30 "JoinGrants$JoinText" "place" "I") (List.mem_of_getElem? (i := 1) rfl)) (fun _ h9 => h9) rfl dX2_takes_1 ?_
  refine lv_if_ne (tgt := 13) hx hb dX2_takes_4 (by decide) (fun c_4 => ?_) (fun c_4 => ?_)
  · --t
    refine lv_iload_n hx hb dX2_takes_13 rfl (lv_at hl 1 rfl) ?_
    refine lv_bipush (v := 48) hx hb dX2_takes_14 (by decide) ?_
    refine lv_icmp_lt (tgt := 34) hx hb dX2_takes_16 (by decide) (fun c_16 => ?_) (fun c_16 => ?_)
    · --t
      refine lv_aload_n hx hb dX2_takes_34 rfl (lv_at hl 0 rfl) ?_
      refine va_get (D := D) (ci := 2) (v := .int (T.1 5)) (C := RX2) (T := TX2) (N := 10) hx hb hts hinX2 hown hK hP 0 rfl rfl 9 (by decide) (hts (.fieldLink RX2 33 "JoinGrants$JoinText" "number" "I") (List.mem_of_getElem? (i := 2) rfl)) (fun _ h9 => h9) rfl dX2_takes_35 ?_
      refine lv_if_ne (tgt := 43) hx hb dX2_takes_38 (by decide) (fun c_38 => ?_) (fun c_38 => ?_)
      · --t
        refine lv_aload_n hx hb dX2_takes_43 rfl (lv_at hl 0 rfl) ?_
        refine va_get (D := D) (ci := 2) (v := .int (T.1 2)) (C := RX2) (T := TX2) (N := 10) hx hb hts hinX2 hown hK hP 0 rfl rfl 6 (by decide) (hts (.fieldLink RX2 30 "JoinGrants$JoinText" "place" "I") (List.mem_of_getElem? (i := 1) rfl)) (fun _ h9 => h9) rfl dX2_takes_44 ?_
        refine lv_iconst (v := 1) hx hb dX2_takes_47 (by decide) ?_
        refine lv_icmp_ne (tgt := 77) hx hb dX2_takes_48 (by decide) (fun c_48 => ?_) (fun c_48 => ?_)
        · --t
          refine lv_aload_n hx hb dX2_takes_77 rfl (lv_at hl 0 rfl) ?_
          refine va_get (D := D) (ci := 2) (v := .int (T.1 2)) (C := RX2) (T := TX2) (N := 10) hx hb hts hinX2 hown hK hP 0 rfl rfl 6 (by decide) (hts (.fieldLink RX2 30 "JoinGrants$JoinText" "place" "I") (List.mem_of_getElem? (i := 1) rfl)) (fun _ h9 => h9) rfl dX2_takes_78 ?_
          refine lv_iconst (v := 2) hx hb dX2_takes_81 (by decide) ?_
          refine lv_icmp_ne (tgt := 97) hx hb dX2_takes_82 (by decide) (fun c_82 => ?_) (fun c_82 => ?_)
          · --t
            refine lv_iconst (v := 0) hx hb dX2_takes_97 (by decide) ?_
            exact xzret hx hb hr hlk hP hD hS (Or.inl rfl) (congrArg (fun z => z.1) (show gX2_takes T a1 = (0, T) from (Eq.trans (if_neg c_4) (Eq.trans (if_pos c_16) (Eq.trans (if_neg c_38) (Eq.trans (if_neg c_48) (Eq.trans (if_neg c_82) rfl))))))).symm (congrArg (fun z => textW ck ta z.2) (show gX2_takes T a1 = (0, T) from (Eq.trans (if_neg c_4) (Eq.trans (if_pos c_16) (Eq.trans (if_neg c_38) (Eq.trans (if_neg c_48) (Eq.trans (if_neg c_82) rfl))))))).symm dX2_takes_98
          · --f
            refine lv_iload_n hx hb dX2_takes_85 rfl (lv_at hl 1 rfl) ?_
            refine lv_bipush (v := 44) hx hb dX2_takes_86 (by decide) ?_
            refine lv_icmp_ne (tgt := 97) hx hb dX2_takes_88 (by decide) (fun c_88 => ?_) (fun c_88 => ?_)
            · --t
              refine lv_iconst (v := 0) hx hb dX2_takes_97 (by decide) ?_
              exact xzret hx hb hr hlk hP hD hS (Or.inl rfl) (congrArg (fun z => z.1) (show gX2_takes T a1 = (0, T) from (Eq.trans (if_neg c_4) (Eq.trans (if_pos c_16) (Eq.trans (if_neg c_38) (Eq.trans (if_neg c_48) (Eq.trans (if_pos c_82) (Eq.trans (if_neg c_88) rfl)))))))).symm (congrArg (fun z => textW ck ta z.2) (show gX2_takes T a1 = (0, T) from (Eq.trans (if_neg c_4) (Eq.trans (if_pos c_16) (Eq.trans (if_neg c_38) (Eq.trans (if_neg c_48) (Eq.trans (if_pos c_82) (Eq.trans (if_neg c_88) rfl)))))))).symm dX2_takes_98
            · --f
              refine lv_aload_n hx hb dX2_takes_91 rfl (lv_at hl 0 rfl) ?_
              refine xretv (va_runV (As := []) (rest := []) ⟨hx, hb, hml, hown, hts⟩ (mX2_endJoin l D ck ta T  hj _) (cwV 0 hts gX2_takes_X2_endJoin rfl rfl rfl (by decide +kernel) ⟨Nat.le_of_ble_eq_true rfl, Nat.le_of_ble_eq_true rfl⟩) (xpreV hN hK hP hD pm_all 0 rfl rfl rfl) rfl rfl hl.1 rfl (lv_room (Nat.le_of_ble_eq_true rfl)) dX2_takes_92 ⟨Nat.le_of_ble_eq_true rfl, Nat.le_of_ble_eq_true rfl⟩) hP hD hS hA pm_all pm_all' (fun H locs hP hD hS => ?_)
              have hP : va_P D vwCl (textW ck ta (gX2_endJoin T )) H := hP
              have hD : va_D (va_A (textW ck ta T) s.heap.size) (textW ck ta (gX2_endJoin T )) := hD
              refine lv_iconst (v := 1) hx hb dX2_takes_95 (by decide) ?_
              exact xzret hx hb hr hlk hP hD hS (Or.inr rfl) (congrArg (fun z => z.1) (show gX2_takes T a1 = (1, (gX2_endJoin T )) from (Eq.trans (if_neg c_4) (Eq.trans (if_pos c_16) (Eq.trans (if_neg c_38) (Eq.trans (if_neg c_48) (Eq.trans (if_pos c_82) (Eq.trans (if_pos c_88) rfl)))))))).symm (congrArg (fun z => textW ck ta z.2) (show gX2_takes T a1 = (1, (gX2_endJoin T )) from (Eq.trans (if_neg c_4) (Eq.trans (if_pos c_16) (Eq.trans (if_neg c_38) (Eq.trans (if_neg c_48) (Eq.trans (if_pos c_82) (Eq.trans (if_pos c_88) rfl)))))))).symm dX2_takes_96
        · --f
          refine lv_iload_n hx hb dX2_takes_51 rfl (lv_at hl 1 rfl) ?_
          refine lv_bipush (v := 120) hx hb dX2_takes_52 (by decide) ?_
          refine lv_icmp_ne (tgt := 77) hx hb dX2_takes_54 (by decide) (fun c_54 => ?_) (fun c_54 => ?_)
          · --t
            refine lv_aload_n hx hb dX2_takes_77 rfl (lv_at hl 0 rfl) ?_
            refine va_get (D := D) (ci := 2) (v := .int (T.1 2)) (C := RX2) (T := TX2) (N := 10) hx hb hts hinX2 hown hK hP 0 rfl rfl 6 (by decide) (hts (.fieldLink RX2 30 "JoinGrants$JoinText" "place" "I") (List.mem_of_getElem? (i := 1) rfl)) (fun _ h9 => h9) rfl dX2_takes_78 ?_
            refine lv_iconst (v := 2) hx hb dX2_takes_81 (by decide) ?_
            refine lv_icmp_ne (tgt := 97) hx hb dX2_takes_82 (by decide) (fun c_82 => ?_) (fun c_82 => ?_)
            · --t
              refine lv_iconst (v := 0) hx hb dX2_takes_97 (by decide) ?_
              exact xzret hx hb hr hlk hP hD hS (Or.inl rfl) (congrArg (fun z => z.1) (show gX2_takes T a1 = (0, T) from (Eq.trans (if_neg c_4) (Eq.trans (if_pos c_16) (Eq.trans (if_neg c_38) (Eq.trans (if_pos c_48) (Eq.trans (if_neg c_54) (Eq.trans (if_neg c_82) rfl)))))))).symm (congrArg (fun z => textW ck ta z.2) (show gX2_takes T a1 = (0, T) from (Eq.trans (if_neg c_4) (Eq.trans (if_pos c_16) (Eq.trans (if_neg c_38) (Eq.trans (if_pos c_48) (Eq.trans (if_neg c_54) (Eq.trans (if_neg c_82) rfl)))))))).symm dX2_takes_98
            · --f
              refine lv_iload_n hx hb dX2_takes_85 rfl (lv_at hl 1 rfl) ?_
              refine lv_bipush (v := 44) hx hb dX2_takes_86 (by decide) ?_
              refine lv_icmp_ne (tgt := 97) hx hb dX2_takes_88 (by decide) (fun c_88 => ?_) (fun c_88 => ?_)
              · --t
                refine lv_iconst (v := 0) hx hb dX2_takes_97 (by decide) ?_
                exact xzret hx hb hr hlk hP hD hS (Or.inl rfl) (congrArg (fun z => z.1) (show gX2_takes T a1 = (0, T) from (Eq.trans (if_neg c_4) (Eq.trans (if_pos c_16) (Eq.trans (if_neg c_38) (Eq.trans (if_pos c_48) (Eq.trans (if_neg c_54) (Eq.trans (if_pos c_82) (Eq.trans (if_neg c_88) rfl))))))))).symm (congrArg (fun z => textW ck ta z.2) (show gX2_takes T a1 = (0, T) from (Eq.trans (if_neg c_4) (Eq.trans (if_pos c_16) (Eq.trans (if_neg c_38) (Eq.trans (if_pos c_48) (Eq.trans (if_neg c_54) (Eq.trans (if_pos c_82) (Eq.trans (if_neg c_88) rfl))))))))).symm dX2_takes_98
              · --f
                refine lv_aload_n hx hb dX2_takes_91 rfl (lv_at hl 0 rfl) ?_
                refine xretv (va_runV (As := []) (rest := []) ⟨hx, hb, hml, hown, hts⟩ (mX2_endJoin l D ck ta T  hj _) (cwV 0 hts gX2_takes_X2_endJoin rfl rfl rfl (by decide +kernel) ⟨Nat.le_of_ble_eq_true rfl, Nat.le_of_ble_eq_true rfl⟩) (xpreV hN hK hP hD pm_all 0 rfl rfl rfl) rfl rfl hl.1 rfl (lv_room (Nat.le_of_ble_eq_true rfl)) dX2_takes_92 ⟨Nat.le_of_ble_eq_true rfl, Nat.le_of_ble_eq_true rfl⟩) hP hD hS hA pm_all pm_all' (fun H locs hP hD hS => ?_)
                have hP : va_P D vwCl (textW ck ta (gX2_endJoin T )) H := hP
                have hD : va_D (va_A (textW ck ta T) s.heap.size) (textW ck ta (gX2_endJoin T )) := hD
                refine lv_iconst (v := 1) hx hb dX2_takes_95 (by decide) ?_
                exact xzret hx hb hr hlk hP hD hS (Or.inr rfl) (congrArg (fun z => z.1) (show gX2_takes T a1 = (1, (gX2_endJoin T )) from (Eq.trans (if_neg c_4) (Eq.trans (if_pos c_16) (Eq.trans (if_neg c_38) (Eq.trans (if_pos c_48) (Eq.trans (if_neg c_54) (Eq.trans (if_pos c_82) (Eq.trans (if_pos c_88) rfl))))))))).symm (congrArg (fun z => textW ck ta z.2) (show gX2_takes T a1 = (1, (gX2_endJoin T )) from (Eq.trans (if_neg c_4) (Eq.trans (if_pos c_16) (Eq.trans (if_neg c_38) (Eq.trans (if_pos c_48) (Eq.trans (if_neg c_54) (Eq.trans (if_pos c_82) (Eq.trans (if_pos c_88) rfl))))))))).symm dX2_takes_96
          · --f
            refine lv_aload_n hx hb dX2_takes_57 rfl (lv_at hl 0 rfl) ?_
            refine lv_aload_n hx hb dX2_takes_58 rfl (lv_at hl 0 rfl) ?_
            refine va_get (D := D) (ci := 2) (v := .int (T.1 5)) (C := RX2) (T := TX2) (N := 10) hx hb hts hinX2 hown hK hP 0 rfl rfl 9 (by decide) (hts (.fieldLink RX2 33 "JoinGrants$JoinText" "number" "I") (List.mem_of_getElem? (i := 2) rfl)) (fun _ h9 => h9) rfl dX2_takes_59 ?_
            refine va_put (D := D) (ci := 2) (v := .int (T.1 5)) (ty := .int) (C := RX2) (T := TX2) (N := 10) hx hb hts hinX2 tyX2 tyX2_ok nmX2 hown hK hP hD hS 0 rfl rfl 8 (by decide) (hts (.fieldLink RX2 50 "JoinGrants$JoinText" "left" "I") (List.mem_of_getElem? (i := 3) rfl)) (fun _ h9 => h9) rfl (by decide +kernel) rfl rfl (Nat.le_of_ble_eq_true rfl) dX2_takes_62 (fun H locs hP hD hS => ?_)
            have hP : va_P D vwCl (textW ck ta (upd T.1 4 (T.1 5), T.2.1, T.2.2.1, T.2.2.2.1, T.2.2.2.2)) H := hP
            have hD : va_D (va_A (textW ck ta T) s.heap.size) (textW ck ta (upd T.1 4 (T.1 5), T.2.1, T.2.2.1, T.2.2.2.1, T.2.2.2.2)) := hD
            refine lv_aload_n hx hb dX2_takes_65 rfl (lv_at hl 0 rfl) ?_
            refine lv_iconst (v := 0) hx hb dX2_takes_66 (by decide) ?_
            refine va_put (D := D) (ci := 2) (v := .int 0) (ty := .int) (C := RX2) (T := TX2) (N := 10) hx hb hts hinX2 tyX2 tyX2_ok nmX2 hown hK hP hD hS 0 rfl rfl 9 (by decide) (hts (.fieldLink RX2 33 "JoinGrants$JoinText" "number" "I") (List.mem_of_getElem? (i := 2) rfl)) (fun _ h9 => h9) rfl (by decide +kernel) rfl rfl (Nat.le_of_ble_eq_true rfl) dX2_takes_67 (fun H locs hP hD hS => ?_)
            have hP : va_P D vwCl (textW ck ta (upd (upd T.1 4 (T.1 5)) 5 0, T.2.1, T.2.2.1, T.2.2.2.1, T.2.2.2.2)) H := hP
            have hD : va_D (va_A (textW ck ta T) s.heap.size) (textW ck ta (upd (upd T.1 4 (T.1 5)) 5 0, T.2.1, T.2.2.1, T.2.2.2.1, T.2.2.2.2)) := hD
            refine lv_aload_n hx hb dX2_takes_70 rfl (lv_at hl 0 rfl) ?_
            refine lv_iconst (v := 2) hx hb dX2_takes_71 (by decide) ?_
            refine va_put (D := D) (ci := 2) (v := .int 2) (ty := .int) (C := RX2) (T := TX2) (N := 10) hx hb hts hinX2 tyX2 tyX2_ok nmX2 hown hK hP hD hS 0 rfl rfl 6 (by decide) (hts (.fieldLink RX2 30 "JoinGrants$JoinText" "place" "I") (List.mem_of_getElem? (i := 1) rfl)) (fun _ h9 => h9) rfl (by decide +kernel) rfl rfl (Nat.le_of_ble_eq_true rfl) dX2_takes_72 (fun H locs hP hD hS => ?_)
            have hP : va_P D vwCl (textW ck ta (upd (upd (upd T.1 4 (T.1 5)) 5 0) 2 2, T.2.1, T.2.2.1, T.2.2.2.1, T.2.2.2.2)) H := hP
            have hD : va_D (va_A (textW ck ta T) s.heap.size) (textW ck ta (upd (upd (upd T.1 4 (T.1 5)) 5 0) 2 2, T.2.1, T.2.2.1, T.2.2.2.1, T.2.2.2.2)) := hD
            refine lv_iconst (v := 1) hx hb dX2_takes_75 (by decide) ?_
            exact xzret hx hb hr hlk hP hD hS (Or.inr rfl) (congrArg (fun z => z.1) (show gX2_takes T a1 = (1, (upd (upd (upd T.1 4 (T.1 5)) 5 0) 2 2, T.2.1, T.2.2.1, T.2.2.2.1, T.2.2.2.2)) from (Eq.trans (if_neg c_4) (Eq.trans (if_pos c_16) (Eq.trans (if_neg c_38) (Eq.trans (if_pos c_48) (Eq.trans (if_pos c_54) rfl))))))).symm (congrArg (fun z => textW ck ta z.2) (show gX2_takes T a1 = (1, (upd (upd (upd T.1 4 (T.1 5)) 5 0) 2 2, T.2.1, T.2.2.1, T.2.2.2.1, T.2.2.2.2)) from (Eq.trans (if_neg c_4) (Eq.trans (if_pos c_16) (Eq.trans (if_neg c_38) (Eq.trans (if_pos c_48) (Eq.trans (if_pos c_54) rfl))))))).symm dX2_takes_76
      · --f
        refine lv_iconst (v := 0) hx hb dX2_takes_41 (by decide) ?_
        exact xzret hx hb hr hlk hP hD hS (Or.inl rfl) (congrArg (fun z => z.1) (show gX2_takes T a1 = (0, T) from (Eq.trans (if_neg c_4) (Eq.trans (if_pos c_16) (Eq.trans (if_pos c_38) rfl))))).symm (congrArg (fun z => textW ck ta z.2) (show gX2_takes T a1 = (0, T) from (Eq.trans (if_neg c_4) (Eq.trans (if_pos c_16) (Eq.trans (if_pos c_38) rfl))))).symm dX2_takes_42
    · --f
      refine lv_iload_n hx hb dX2_takes_19 rfl (lv_at hl 1 rfl) ?_
      refine lv_bipush (v := 57) hx hb dX2_takes_20 (by decide) ?_
      refine lv_icmp_gt (tgt := 34) hx hb dX2_takes_22 (by decide) (fun c_22 => ?_) (fun c_22 => ?_)
      · --t
        refine lv_aload_n hx hb dX2_takes_34 rfl (lv_at hl 0 rfl) ?_
        refine va_get (D := D) (ci := 2) (v := .int (T.1 5)) (C := RX2) (T := TX2) (N := 10) hx hb hts hinX2 hown hK hP 0 rfl rfl 9 (by decide) (hts (.fieldLink RX2 33 "JoinGrants$JoinText" "number" "I") (List.mem_of_getElem? (i := 2) rfl)) (fun _ h9 => h9) rfl dX2_takes_35 ?_
        refine lv_if_ne (tgt := 43) hx hb dX2_takes_38 (by decide) (fun c_38 => ?_) (fun c_38 => ?_)
        · --t
          refine lv_aload_n hx hb dX2_takes_43 rfl (lv_at hl 0 rfl) ?_
          refine va_get (D := D) (ci := 2) (v := .int (T.1 2)) (C := RX2) (T := TX2) (N := 10) hx hb hts hinX2 hown hK hP 0 rfl rfl 6 (by decide) (hts (.fieldLink RX2 30 "JoinGrants$JoinText" "place" "I") (List.mem_of_getElem? (i := 1) rfl)) (fun _ h9 => h9) rfl dX2_takes_44 ?_
          refine lv_iconst (v := 1) hx hb dX2_takes_47 (by decide) ?_
          refine lv_icmp_ne (tgt := 77) hx hb dX2_takes_48 (by decide) (fun c_48 => ?_) (fun c_48 => ?_)
          · --t
            refine lv_aload_n hx hb dX2_takes_77 rfl (lv_at hl 0 rfl) ?_
            refine va_get (D := D) (ci := 2) (v := .int (T.1 2)) (C := RX2) (T := TX2) (N := 10) hx hb hts hinX2 hown hK hP 0 rfl rfl 6 (by decide) (hts (.fieldLink RX2 30 "JoinGrants$JoinText" "place" "I") (List.mem_of_getElem? (i := 1) rfl)) (fun _ h9 => h9) rfl dX2_takes_78 ?_
            refine lv_iconst (v := 2) hx hb dX2_takes_81 (by decide) ?_
            refine lv_icmp_ne (tgt := 97) hx hb dX2_takes_82 (by decide) (fun c_82 => ?_) (fun c_82 => ?_)
            · --t
              refine lv_iconst (v := 0) hx hb dX2_takes_97 (by decide) ?_
              exact xzret hx hb hr hlk hP hD hS (Or.inl rfl) (congrArg (fun z => z.1) (show gX2_takes T a1 = (0, T) from (Eq.trans (if_neg c_4) (Eq.trans (if_neg c_16) (Eq.trans (if_pos c_22) (Eq.trans (if_neg c_38) (Eq.trans (if_neg c_48) (Eq.trans (if_neg c_82) rfl)))))))).symm (congrArg (fun z => textW ck ta z.2) (show gX2_takes T a1 = (0, T) from (Eq.trans (if_neg c_4) (Eq.trans (if_neg c_16) (Eq.trans (if_pos c_22) (Eq.trans (if_neg c_38) (Eq.trans (if_neg c_48) (Eq.trans (if_neg c_82) rfl)))))))).symm dX2_takes_98
            · --f
              refine lv_iload_n hx hb dX2_takes_85 rfl (lv_at hl 1 rfl) ?_
              refine lv_bipush (v := 44) hx hb dX2_takes_86 (by decide) ?_
              refine lv_icmp_ne (tgt := 97) hx hb dX2_takes_88 (by decide) (fun c_88 => ?_) (fun c_88 => ?_)
              · --t
                refine lv_iconst (v := 0) hx hb dX2_takes_97 (by decide) ?_
                exact xzret hx hb hr hlk hP hD hS (Or.inl rfl) (congrArg (fun z => z.1) (show gX2_takes T a1 = (0, T) from (Eq.trans (if_neg c_4) (Eq.trans (if_neg c_16) (Eq.trans (if_pos c_22) (Eq.trans (if_neg c_38) (Eq.trans (if_neg c_48) (Eq.trans (if_pos c_82) (Eq.trans (if_neg c_88) rfl))))))))).symm (congrArg (fun z => textW ck ta z.2) (show gX2_takes T a1 = (0, T) from (Eq.trans (if_neg c_4) (Eq.trans (if_neg c_16) (Eq.trans (if_pos c_22) (Eq.trans (if_neg c_38) (Eq.trans (if_neg c_48) (Eq.trans (if_pos c_82) (Eq.trans (if_neg c_88) rfl))))))))).symm dX2_takes_98
              · --f
                refine lv_aload_n hx hb dX2_takes_91 rfl (lv_at hl 0 rfl) ?_
                refine xretv (va_runV (As := []) (rest := []) ⟨hx, hb, hml, hown, hts⟩ (mX2_endJoin l D ck ta T  hj _) (cwV 0 hts gX2_takes_X2_endJoin rfl rfl rfl (by decide +kernel) ⟨Nat.le_of_ble_eq_true rfl, Nat.le_of_ble_eq_true rfl⟩) (xpreV hN hK hP hD pm_all 0 rfl rfl rfl) rfl rfl hl.1 rfl (lv_room (Nat.le_of_ble_eq_true rfl)) dX2_takes_92 ⟨Nat.le_of_ble_eq_true rfl, Nat.le_of_ble_eq_true rfl⟩) hP hD hS hA pm_all pm_all' (fun H locs hP hD hS => ?_)
                have hP : va_P D vwCl (textW ck ta (gX2_endJoin T )) H := hP
                have hD : va_D (va_A (textW ck ta T) s.heap.size) (textW ck ta (gX2_endJoin T )) := hD
                refine lv_iconst (v := 1) hx hb dX2_takes_95 (by decide) ?_
                exact xzret hx hb hr hlk hP hD hS (Or.inr rfl) (congrArg (fun z => z.1) (show gX2_takes T a1 = (1, (gX2_endJoin T )) from (Eq.trans (if_neg c_4) (Eq.trans (if_neg c_16) (Eq.trans (if_pos c_22) (Eq.trans (if_neg c_38) (Eq.trans (if_neg c_48) (Eq.trans (if_pos c_82) (Eq.trans (if_pos c_88) rfl))))))))).symm (congrArg (fun z => textW ck ta z.2) (show gX2_takes T a1 = (1, (gX2_endJoin T )) from (Eq.trans (if_neg c_4) (Eq.trans (if_neg c_16) (Eq.trans (if_pos c_22) (Eq.trans (if_neg c_38) (Eq.trans (if_neg c_48) (Eq.trans (if_pos c_82) (Eq.trans (if_pos c_88) rfl))))))))).symm dX2_takes_96
          · --f
            refine lv_iload_n hx hb dX2_takes_51 rfl (lv_at hl 1 rfl) ?_
            refine lv_bipush (v := 120) hx hb dX2_takes_52 (by decide) ?_
            refine lv_icmp_ne (tgt := 77) hx hb dX2_takes_54 (by decide) (fun c_54 => ?_) (fun c_54 => ?_)
            · --t
              refine lv_aload_n hx hb dX2_takes_77 rfl (lv_at hl 0 rfl) ?_
              refine va_get (D := D) (ci := 2) (v := .int (T.1 2)) (C := RX2) (T := TX2) (N := 10) hx hb hts hinX2 hown hK hP 0 rfl rfl 6 (by decide) (hts (.fieldLink RX2 30 "JoinGrants$JoinText" "place" "I") (List.mem_of_getElem? (i := 1) rfl)) (fun _ h9 => h9) rfl dX2_takes_78 ?_
              refine lv_iconst (v := 2) hx hb dX2_takes_81 (by decide) ?_
              refine lv_icmp_ne (tgt := 97) hx hb dX2_takes_82 (by decide) (fun c_82 => ?_) (fun c_82 => ?_)
              · --t
                refine lv_iconst (v := 0) hx hb dX2_takes_97 (by decide) ?_
                exact xzret hx hb hr hlk hP hD hS (Or.inl rfl) (congrArg (fun z => z.1) (show gX2_takes T a1 = (0, T) from (Eq.trans (if_neg c_4) (Eq.trans (if_neg c_16) (Eq.trans (if_pos c_22) (Eq.trans (if_neg c_38) (Eq.trans (if_pos c_48) (Eq.trans (if_neg c_54) (Eq.trans (if_neg c_82) rfl))))))))).symm (congrArg (fun z => textW ck ta z.2) (show gX2_takes T a1 = (0, T) from (Eq.trans (if_neg c_4) (Eq.trans (if_neg c_16) (Eq.trans (if_pos c_22) (Eq.trans (if_neg c_38) (Eq.trans (if_pos c_48) (Eq.trans (if_neg c_54) (Eq.trans (if_neg c_82) rfl))))))))).symm dX2_takes_98
              · --f
                refine lv_iload_n hx hb dX2_takes_85 rfl (lv_at hl 1 rfl) ?_
                refine lv_bipush (v := 44) hx hb dX2_takes_86 (by decide) ?_
                refine lv_icmp_ne (tgt := 97) hx hb dX2_takes_88 (by decide) (fun c_88 => ?_) (fun c_88 => ?_)
                · --t
                  refine lv_iconst (v := 0) hx hb dX2_takes_97 (by decide) ?_
                  exact xzret hx hb hr hlk hP hD hS (Or.inl rfl) (congrArg (fun z => z.1) (show gX2_takes T a1 = (0, T) from (Eq.trans (if_neg c_4) (Eq.trans (if_neg c_16) (Eq.trans (if_pos c_22) (Eq.trans (if_neg c_38) (Eq.trans (if_pos c_48) (Eq.trans (if_neg c_54) (Eq.trans (if_pos c_82) (Eq.trans (if_neg c_88) rfl)))))))))).symm (congrArg (fun z => textW ck ta z.2) (show gX2_takes T a1 = (0, T) from (Eq.trans (if_neg c_4) (Eq.trans (if_neg c_16) (Eq.trans (if_pos c_22) (Eq.trans (if_neg c_38) (Eq.trans (if_pos c_48) (Eq.trans (if_neg c_54) (Eq.trans (if_pos c_82) (Eq.trans (if_neg c_88) rfl)))))))))).symm dX2_takes_98
                · --f
                  refine lv_aload_n hx hb dX2_takes_91 rfl (lv_at hl 0 rfl) ?_
                  refine xretv (va_runV (As := []) (rest := []) ⟨hx, hb, hml, hown, hts⟩ (mX2_endJoin l D ck ta T  hj _) (cwV 0 hts gX2_takes_X2_endJoin rfl rfl rfl (by decide +kernel) ⟨Nat.le_of_ble_eq_true rfl, Nat.le_of_ble_eq_true rfl⟩) (xpreV hN hK hP hD pm_all 0 rfl rfl rfl) rfl rfl hl.1 rfl (lv_room (Nat.le_of_ble_eq_true rfl)) dX2_takes_92 ⟨Nat.le_of_ble_eq_true rfl, Nat.le_of_ble_eq_true rfl⟩) hP hD hS hA pm_all pm_all' (fun H locs hP hD hS => ?_)
                  have hP : va_P D vwCl (textW ck ta (gX2_endJoin T )) H := hP
                  have hD : va_D (va_A (textW ck ta T) s.heap.size) (textW ck ta (gX2_endJoin T )) := hD
                  refine lv_iconst (v := 1) hx hb dX2_takes_95 (by decide) ?_
                  exact xzret hx hb hr hlk hP hD hS (Or.inr rfl) (congrArg (fun z => z.1) (show gX2_takes T a1 = (1, (gX2_endJoin T )) from (Eq.trans (if_neg c_4) (Eq.trans (if_neg c_16) (Eq.trans (if_pos c_22) (Eq.trans (if_neg c_38) (Eq.trans (if_pos c_48) (Eq.trans (if_neg c_54) (Eq.trans (if_pos c_82) (Eq.trans (if_pos c_88) rfl)))))))))).symm (congrArg (fun z => textW ck ta z.2) (show gX2_takes T a1 = (1, (gX2_endJoin T )) from (Eq.trans (if_neg c_4) (Eq.trans (if_neg c_16) (Eq.trans (if_pos c_22) (Eq.trans (if_neg c_38) (Eq.trans (if_pos c_48) (Eq.trans (if_neg c_54) (Eq.trans (if_pos c_82) (Eq.trans (if_pos c_88) rfl)))))))))).symm dX2_takes_96
            · --f
              refine lv_aload_n hx hb dX2_takes_57 rfl (lv_at hl 0 rfl) ?_
              refine lv_aload_n hx hb dX2_takes_58 rfl (lv_at hl 0 rfl) ?_
              refine va_get (D := D) (ci := 2) (v := .int (T.1 5)) (C := RX2) (T := TX2) (N := 10) hx hb hts hinX2 hown hK hP 0 rfl rfl 9 (by decide) (hts (.fieldLink RX2 33 "JoinGrants$JoinText" "number" "I") (List.mem_of_getElem? (i := 2) rfl)) (fun _ h9 => h9) rfl dX2_takes_59 ?_
              refine va_put (D := D) (ci := 2) (v := .int (T.1 5)) (ty := .int) (C := RX2) (T := TX2) (N := 10) hx hb hts hinX2 tyX2 tyX2_ok nmX2 hown hK hP hD hS 0 rfl rfl 8 (by decide) (hts (.fieldLink RX2 50 "JoinGrants$JoinText" "left" "I") (List.mem_of_getElem? (i := 3) rfl)) (fun _ h9 => h9) rfl (by decide +kernel) rfl rfl (Nat.le_of_ble_eq_true rfl) dX2_takes_62 (fun H locs hP hD hS => ?_)
              have hP : va_P D vwCl (textW ck ta (upd T.1 4 (T.1 5), T.2.1, T.2.2.1, T.2.2.2.1, T.2.2.2.2)) H := hP
              have hD : va_D (va_A (textW ck ta T) s.heap.size) (textW ck ta (upd T.1 4 (T.1 5), T.2.1, T.2.2.1, T.2.2.2.1, T.2.2.2.2)) := hD
              refine lv_aload_n hx hb dX2_takes_65 rfl (lv_at hl 0 rfl) ?_
              refine lv_iconst (v := 0) hx hb dX2_takes_66 (by decide) ?_
              refine va_put (D := D) (ci := 2) (v := .int 0) (ty := .int) (C := RX2) (T := TX2) (N := 10) hx hb hts hinX2 tyX2 tyX2_ok nmX2 hown hK hP hD hS 0 rfl rfl 9 (by decide) (hts (.fieldLink RX2 33 "JoinGrants$JoinText" "number" "I") (List.mem_of_getElem? (i := 2) rfl)) (fun _ h9 => h9) rfl (by decide +kernel) rfl rfl (Nat.le_of_ble_eq_true rfl) dX2_takes_67 (fun H locs hP hD hS => ?_)
              have hP : va_P D vwCl (textW ck ta (upd (upd T.1 4 (T.1 5)) 5 0, T.2.1, T.2.2.1, T.2.2.2.1, T.2.2.2.2)) H := hP
              have hD : va_D (va_A (textW ck ta T) s.heap.size) (textW ck ta (upd (upd T.1 4 (T.1 5)) 5 0, T.2.1, T.2.2.1, T.2.2.2.1, T.2.2.2.2)) := hD
              refine lv_aload_n hx hb dX2_takes_70 rfl (lv_at hl 0 rfl) ?_
              refine lv_iconst (v := 2) hx hb dX2_takes_71 (by decide) ?_
              refine va_put (D := D) (ci := 2) (v := .int 2) (ty := .int) (C := RX2) (T := TX2) (N := 10) hx hb hts hinX2 tyX2 tyX2_ok nmX2 hown hK hP hD hS 0 rfl rfl 6 (by decide) (hts (.fieldLink RX2 30 "JoinGrants$JoinText" "place" "I") (List.mem_of_getElem? (i := 1) rfl)) (fun _ h9 => h9) rfl (by decide +kernel) rfl rfl (Nat.le_of_ble_eq_true rfl) dX2_takes_72 (fun H locs hP hD hS => ?_)
              have hP : va_P D vwCl (textW ck ta (upd (upd (upd T.1 4 (T.1 5)) 5 0) 2 2, T.2.1, T.2.2.1, T.2.2.2.1, T.2.2.2.2)) H := hP
              have hD : va_D (va_A (textW ck ta T) s.heap.size) (textW ck ta (upd (upd (upd T.1 4 (T.1 5)) 5 0) 2 2, T.2.1, T.2.2.1, T.2.2.2.1, T.2.2.2.2)) := hD
              refine lv_iconst (v := 1) hx hb dX2_takes_75 (by decide) ?_
              exact xzret hx hb hr hlk hP hD hS (Or.inr rfl) (congrArg (fun z => z.1) (show gX2_takes T a1 = (1, (upd (upd (upd T.1 4 (T.1 5)) 5 0) 2 2, T.2.1, T.2.2.1, T.2.2.2.1, T.2.2.2.2)) from (Eq.trans (if_neg c_4) (Eq.trans (if_neg c_16) (Eq.trans (if_pos c_22) (Eq.trans (if_neg c_38) (Eq.trans (if_pos c_48) (Eq.trans (if_pos c_54) rfl)))))))).symm (congrArg (fun z => textW ck ta z.2) (show gX2_takes T a1 = (1, (upd (upd (upd T.1 4 (T.1 5)) 5 0) 2 2, T.2.1, T.2.2.1, T.2.2.2.1, T.2.2.2.2)) from (Eq.trans (if_neg c_4) (Eq.trans (if_neg c_16) (Eq.trans (if_pos c_22) (Eq.trans (if_neg c_38) (Eq.trans (if_pos c_48) (Eq.trans (if_pos c_54) rfl)))))))).symm dX2_takes_76
        · --f
          refine lv_iconst (v := 0) hx hb dX2_takes_41 (by decide) ?_
          exact xzret hx hb hr hlk hP hD hS (Or.inl rfl) (congrArg (fun z => z.1) (show gX2_takes T a1 = (0, T) from (Eq.trans (if_neg c_4) (Eq.trans (if_neg c_16) (Eq.trans (if_pos c_22) (Eq.trans (if_pos c_38) rfl)))))).symm (congrArg (fun z => textW ck ta z.2) (show gX2_takes T a1 = (0, T) from (Eq.trans (if_neg c_4) (Eq.trans (if_neg c_16) (Eq.trans (if_pos c_22) (Eq.trans (if_pos c_38) rfl)))))).symm dX2_takes_42
      · --f
        refine lv_aload_n hx hb dX2_takes_25 rfl (lv_at hl 0 rfl) ?_
        refine lv_iload_n hx hb dX2_takes_26 rfl (lv_at hl 1 rfl) ?_
        refine lv_bipush (v := 48) hx hb dX2_takes_27 (by decide) ?_
        refine lv_isub hx hb dX2_takes_29 ?_
        refine xreti (va_runV (As := [.int (a1 - 48)]) (rest := []) ⟨hx, hb, hml, hown, hts⟩ (mX2_takesDigit l D ck ta T (a1 - 48)  _) (cwV 1 hts gX2_takes_X2_takesDigit rfl rfl rfl (by decide +kernel) ⟨Nat.le_of_ble_eq_true rfl, Nat.le_of_ble_eq_true rfl⟩) (xpreV hN hK hP hD pm_all 0 rfl rfl rfl) rfl rfl hl.1 rfl (lv_room (Nat.le_of_ble_eq_true rfl)) dX2_takes_30 ⟨Nat.le_of_ble_eq_true rfl, Nat.le_of_ble_eq_true rfl⟩) hP hD hS hA pm_all pm_all' (fun H locs hP hD hS => ?_)
        have hP : va_P D vwCl (textW ck ta ((gX2_takesDigit T (a1 - 48)).2)) H := hP
        have hD : va_D (va_A (textW ck ta T) s.heap.size) (textW ck ta ((gX2_takesDigit T (a1 - 48)).2)) := hD
        exact xzret hx hb hr hlk hP hD hS z_X2_takesDigit (congrArg (fun z => z.1) (show gX2_takes T a1 = ((gX2_takesDigit T (a1 - 48)).1, (gX2_takesDigit T (a1 - 48)).2) from (Eq.trans (if_neg c_4) (Eq.trans (if_neg c_16) (Eq.trans (if_neg c_22) rfl))))).symm (congrArg (fun z => textW ck ta z.2) (show gX2_takes T a1 = ((gX2_takesDigit T (a1 - 48)).1, (gX2_takesDigit T (a1 - 48)).2) from (Eq.trans (if_neg c_4) (Eq.trans (if_neg c_16) (Eq.trans (if_neg c_22) rfl))))).symm dX2_takes_33
  · --f
    refine lv_aload_n hx hb dX2_takes_7 rfl (lv_at hl 0 rfl) ?_
    refine lv_iload_n hx hb dX2_takes_8 rfl (lv_at hl 1 rfl) ?_
    refine xreti (va_runV (As := [.int a1]) (rest := []) ⟨hx, hb, hml, hown, hts⟩ (mX2_takesWay l D ck ta T a1  _) (cwV 1 hts gX2_takes_X2_takesWay rfl rfl rfl (by decide +kernel) ⟨Nat.le_of_ble_eq_true rfl, Nat.le_of_ble_eq_true rfl⟩) (xpreV hN hK hP hD pm_all 0 rfl rfl rfl) rfl rfl hl.1 rfl (lv_room (Nat.le_of_ble_eq_true rfl)) dX2_takes_9 ⟨Nat.le_of_ble_eq_true rfl, Nat.le_of_ble_eq_true rfl⟩) hP hD hS hA pm_all pm_all' (fun H locs hP hD hS => ?_)
    have hP : va_P D vwCl (textW ck ta ((gX2_takesWay T a1).2)) H := hP
    have hD : va_D (va_A (textW ck ta T) s.heap.size) (textW ck ta ((gX2_takesWay T a1).2)) := hD
    exact xzret hx hb hr hlk hP hD hS z_X2_takesWay (congrArg (fun z => z.1) (show gX2_takes T a1 = ((gX2_takesWay T a1).1, (gX2_takesWay T a1).2) from (Eq.trans (if_pos c_4) rfl))).symm (congrArg (fun z => textW ck ta z.2) (show gX2_takes T a1 = ((gX2_takesWay T a1).1, (gX2_takesWay T a1).2) from (Eq.trans (if_pos c_4) rfl))).symm dX2_takes_12

theorem nn_X2_endJoin {T : TS} (hj : ¬ T.1 1 < 0) : ¬ (gX2_endJoin T).1 1 < 0 := by
  have key : ∀ x : Int32, ¬ x < 0 → ¬ nI 12 ≤ x → ¬ (x + 1) < 0 := by
    intro x h0 h1
    obtain ⟨j, hj, rfl⟩ := nI_of h0
    have : j < 12 := Nat.lt_of_not_le fun h => h1 (nI_le h hj)
    rw [nI_1]
    exact nI_pos (by omega)
  unfold gX2_endJoin
  (repeat' split) <;> first | (apply key _ hj; assumption) | exact hj
theorem nn_X2_takesWay {T : TS} {a1 : Int32} (hj : ¬ T.1 1 < 0) : ¬ (gX2_takesWay T a1).2.1 1 < 0 := by
  unfold gX2_takesWay
  (repeat' split) <;> exact hj
theorem nn_X2_takesDigit {T : TS} {a1 : Int32} (hj : ¬ T.1 1 < 0) : ¬ (gX2_takesDigit T a1).2.1 1 < 0 := by
  unfold gX2_takesDigit
  (repeat' split) <;> exact hj
theorem nn_X2_takes {T : TS} {a1 : Int32} (hj : ¬ T.1 1 < 0) : ¬ (gX2_takes T a1).2.1 1 < 0 := by
  unfold gX2_takes
  (repeat' split) <;> first | with_reducible exact nn_X2_takesWay hj | with_reducible exact nn_X2_takesDigit hj | with_reducible exact nn_X2_endJoin hj | exact hj

def rmX2_read : Room := { frames := 2, cells := 0, slots := 0, locals := 43 }
def gX2_read_L17 (T : TS) : Nat → Nat → TS → Int32 × TS
  | 0, i, T1 => (if (T1.1 0) ≤ (nI i) then (if (T1.1 2) = 2 then (if (T1.1 5) = 0 then (T1.1 0, T1) else ((-1), (gX2_endJoin T1 ))) else (T1.1 0, T1)) else (if (T1.1 2) = 2 then (if (T1.1 5) = 0 then (T1.1 0, T1) else ((-1), (gX2_endJoin T1 ))) else (T1.1 0, T1)))
  | fu + 1, i, T1 => (if (T1.1 0) ≤ (nI i) then (if (T1.1 2) = 2 then (if (T1.1 5) = 0 then (T1.1 0, T1) else ((-1), (gX2_endJoin T1 ))) else (T1.1 0, T1)) else (if ((gX2_takes T1 (T1.2.1 i)).1) = 0 then ((nI i), (gX2_takes T1 (T1.2.1 i)).2) else (gX2_read_L17 T fu (i + 1) ((gX2_takes T1 (T1.2.1 i)).2))))
def gX2_read (T : TS) : Int32 × TS := (gX2_read_L17 T 60 0 (upd (upd (upd T.1 1 0) 2 0) 5 0, T.2.1, T.2.2.1, T.2.2.2.1, T.2.2.2.2))
set_option maxHeartbeats 4000000 in
set_option maxRecDepth 100000 in
theorem mX2_read (l : Launch) (D : va_G) (ck : Nat → ClassId) (ta : Nat → Nat) (T : TS) : xMi l yX2_read wsX2_read rmX2_read D ck [.ref (ta 0)] (textW ck ta T) (textW ck ta ((gX2_read T).2)) ((gX2_read T).1) 0 0 := by
  refine xMet (by decide) rfl (Nat.le_of_ble_eq_true rfl) ?_
  intro zp ze s zm zb zt zc hx hb hr hml hown hts hlk hnm hN hK hP hD ls hl
  have hown : s.vm.findClass RX2 = some zm.cls := hown
  have hl : lv_has ls 2 [(0, .ref (ta 0))] := hl
  have hS : va_S (va_A (textW ck ta T) s.heap.size) s.heap s.heap [] := va_S.rf
  have hA : ∀ zq : Nat, s.heap.size ≤ zq → va_A (textW ck ta T) s.heap.size zq := fun zq h => Or.inr h
  have hinX2 : ∀ w ∈ u_ws RX2 TX2 10, w ∈ wsX2_read := by decide +kernel
  refine lv_aload_n hx hb dX2_read_0 rfl (lv_at hl 0 rfl) ?_
  refine lv_iconst (v := 0) hx hb dX2_read_1 (by decide) ?_
  refine va_put (D := D) (ci := 2) (v := .int 0) (ty := .int) (C := RX2) (T := TX2) (N := 10) hx hb hts hinX2 tyX2 tyX2_ok nmX2 hown hK hP hD hS 0 rfl rfl 5 (by decide) (hts (.fieldLink RX2 27 "JoinGrants$JoinText" "joins" "I") (List.mem_of_getElem? (i := 1) rfl)) (fun _ h9 => h9) rfl (by decide +kernel) rfl rfl (Nat.le_of_ble_eq_true rfl) dX2_read_2 (fun H locs hP hD hS => ?_)
  have hP : va_P D vwCl (textW ck ta (upd T.1 1 0, T.2.1, T.2.2.1, T.2.2.2.1, T.2.2.2.2)) H := hP
  have hD : va_D (va_A (textW ck ta T) s.heap.size) (textW ck ta (upd T.1 1 0, T.2.1, T.2.2.1, T.2.2.2.1, T.2.2.2.2)) := hD
  refine lv_aload_n hx hb dX2_read_5 rfl (lv_at hl 0 rfl) ?_
  refine lv_iconst (v := 0) hx hb dX2_read_6 (by decide) ?_
  refine va_put (D := D) (ci := 2) (v := .int 0) (ty := .int) (C := RX2) (T := TX2) (N := 10) hx hb hts hinX2 tyX2 tyX2_ok nmX2 hown hK hP hD hS 0 rfl rfl 6 (by decide) (hts (.fieldLink RX2 30 "JoinGrants$JoinText" "place" "I") (List.mem_of_getElem? (i := 2) rfl)) (fun _ h9 => h9) rfl (by decide +kernel) rfl rfl (Nat.le_of_ble_eq_true rfl) dX2_read_7 (fun H locs hP hD hS => ?_)
  have hP : va_P D vwCl (textW ck ta (upd (upd T.1 1 0) 2 0, T.2.1, T.2.2.1, T.2.2.2.1, T.2.2.2.2)) H := hP
  have hD : va_D (va_A (textW ck ta T) s.heap.size) (textW ck ta (upd (upd T.1 1 0) 2 0, T.2.1, T.2.2.1, T.2.2.2.1, T.2.2.2.2)) := hD
  refine lv_aload_n hx hb dX2_read_10 rfl (lv_at hl 0 rfl) ?_
  refine lv_iconst (v := 0) hx hb dX2_read_11 (by decide) ?_
  refine va_put (D := D) (ci := 2) (v := .int 0) (ty := .int) (C := RX2) (T := TX2) (N := 10) hx hb hts hinX2 tyX2 tyX2_ok nmX2 hown hK hP hD hS 0 rfl rfl 9 (by decide) (hts (.fieldLink RX2 33 "JoinGrants$JoinText" "number" "I") (List.mem_of_getElem? (i := 3) rfl)) (fun _ h9 => h9) rfl (by decide +kernel) rfl rfl (Nat.le_of_ble_eq_true rfl) dX2_read_12 (fun H locs hP hD hS => ?_)
  have hP : va_P D vwCl (textW ck ta (upd (upd (upd T.1 1 0) 2 0) 5 0, T.2.1, T.2.2.1, T.2.2.2.1, T.2.2.2.2)) H := hP
  have hD : va_D (va_A (textW ck ta T) s.heap.size) (textW ck ta (upd (upd (upd T.1 1 0) 2 0) 5 0, T.2.1, T.2.2.1, T.2.2.2.1, T.2.2.2.2)) := hD
  refine lv_iconst (v := (nI 0)) hx hb dX2_read_15 (by decide) ?_
  refine lv_istore_n (lv' := [(1, .int (nI 0)), (0, .ref (ta 0))]) hx hb dX2_read_16 rfl hl (by decide) rfl (fun ls hl => ?_)
  have loop17 : ∀ (fu : Nat) (i : Nat) (T1 : TS), (i + fu = 60) → (¬ T1.1 1 < 0) → gX2_read T = gX2_read_L17 T fu i T1 → ∀ (H : Heap) (locs : List Loc) (ls : Array Slot), va_P D vwCl (textW ck ta T1) H → va_D (va_A (textW ck ta T) s.heap.size) (textW ck ta T1) → va_S (va_A (textW ck ta T) s.heap.size) s.heap H locs → lv_has ls 2 [(0, .ref (ta 0)), (1, .int (nI i))] → W zp l ze rmX2_read s zm ([.ref (ta 0)] : List Value).toArray zb zt zc H locs 0 0 (MQ zb (xQi D (textW ck ta T) (textW ck ta ((gX2_read T).2)) ((gX2_read T).1) s.heap.size) ([.ref (ta 0)] : List Value).toArray s 0 0 (va_A (textW ck ta T) s.heap.size)) (F0 zm 17 ls []) := by
    intro fu
    induction fu with
    | zero =>
      intro i T1 hif hj hg H locs ls hP hD hS hl
      refine lv_iload_n hx hb dX2_read_17 rfl (lv_at hl 1 rfl) ?_
      refine lv_aload_n hx hb dX2_read_18 rfl (lv_at hl 0 rfl) ?_
      refine va_get (D := D) (ci := 2) (v := .int (T1.1 0)) (C := RX2) (T := TX2) (N := 10) hx hb hts hinX2 hown hK hP 0 rfl rfl 1 (by decide) (hts (.fieldLink RX2 23 "JoinGrants$JoinText" "length" "I") (List.mem_of_getElem? (i := 4) rfl)) (fun _ h9 => h9) rfl dX2_read_19 ?_
      refine lv_icmp_ge (tgt := 55) hx hb dX2_read_22 (by decide) (fun c_22 => ?_) (fun c_22 => ?_)
      · --t
        refine lv_aload_n hx hb dX2_read_55 rfl (lv_at hl 0 rfl) ?_
        refine va_get (D := D) (ci := 2) (v := .int (T1.1 2)) (C := RX2) (T := TX2) (N := 10) hx hb hts hinX2 hown hK hP 0 rfl rfl 6 (by decide) (hts (.fieldLink RX2 30 "JoinGrants$JoinText" "place" "I") (List.mem_of_getElem? (i := 2) rfl)) (fun _ h9 => h9) rfl dX2_read_56 ?_
        refine lv_iconst (v := 2) hx hb dX2_read_59 (by decide) ?_
        refine lv_icmp_ne (tgt := 70) hx hb dX2_read_60 (by decide) (fun c_60 => ?_) (fun c_60 => ?_)
        · --t
          refine lv_aload_n hx hb dX2_read_70 rfl (lv_at hl 0 rfl) ?_
          refine va_get (D := D) (ci := 2) (v := .int (T1.1 0)) (C := RX2) (T := TX2) (N := 10) hx hb hts hinX2 hown hK hP 0 rfl rfl 1 (by decide) (hts (.fieldLink RX2 23 "JoinGrants$JoinText" "length" "I") (List.mem_of_getElem? (i := 4) rfl)) (fun _ h9 => h9) rfl dX2_read_71 ?_
          exact xiret hx hb hr hlk hP hD hS (congrArg (fun z => z.1) (hg.trans (show gX2_read_L17 T 0 i T1 = (T1.1 0, T1) from (Eq.trans (if_pos c_22) (Eq.trans (if_neg c_60) rfl))))).symm (congrArg (fun z => textW ck ta z.2) (hg.trans (show gX2_read_L17 T 0 i T1 = (T1.1 0, T1) from (Eq.trans (if_pos c_22) (Eq.trans (if_neg c_60) rfl))))).symm dX2_read_74
        · --f
          refine lv_aload_n hx hb dX2_read_63 rfl (lv_at hl 0 rfl) ?_
          refine va_get (D := D) (ci := 2) (v := .int (T1.1 5)) (C := RX2) (T := TX2) (N := 10) hx hb hts hinX2 hown hK hP 0 rfl rfl 9 (by decide) (hts (.fieldLink RX2 33 "JoinGrants$JoinText" "number" "I") (List.mem_of_getElem? (i := 3) rfl)) (fun _ h9 => h9) rfl dX2_read_64 ?_
          refine lv_if_ne (tgt := 75) hx hb dX2_read_67 (by decide) (fun c_67 => ?_) (fun c_67 => ?_)
          · --t
            refine lv_aload_n hx hb dX2_read_75 rfl (lv_at hl 0 rfl) ?_
            refine xretv (va_runV (As := []) (rest := []) ⟨hx, hb, hml, hown, hts⟩ (mX2_endJoin l D ck ta T1  hj _) (cwV 0 hts gX2_read_X2_endJoin rfl rfl rfl (by decide +kernel) ⟨Nat.le_of_ble_eq_true rfl, Nat.le_of_ble_eq_true rfl⟩) (xpreV hN hK hP hD pm_all 0 rfl rfl rfl) rfl rfl hl.1 rfl (lv_room (Nat.le_of_ble_eq_true rfl)) dX2_read_76 ⟨Nat.le_of_ble_eq_true rfl, Nat.le_of_ble_eq_true rfl⟩) hP hD hS hA pm_all pm_all' (fun H locs hP hD hS => ?_)
            have hP : va_P D vwCl (textW ck ta (gX2_endJoin T1 )) H := hP
            have hD : va_D (va_A (textW ck ta T) s.heap.size) (textW ck ta (gX2_endJoin T1 )) := hD
            refine lv_iconst (v := (-1)) hx hb dX2_read_79 (by decide) ?_
            exact xiret hx hb hr hlk hP hD hS (congrArg (fun z => z.1) (hg.trans (show gX2_read_L17 T 0 i T1 = ((-1), (gX2_endJoin T1 )) from (Eq.trans (if_pos c_22) (Eq.trans (if_pos c_60) (Eq.trans (if_neg c_67) rfl)))))).symm (congrArg (fun z => textW ck ta z.2) (hg.trans (show gX2_read_L17 T 0 i T1 = ((-1), (gX2_endJoin T1 )) from (Eq.trans (if_pos c_22) (Eq.trans (if_pos c_60) (Eq.trans (if_neg c_67) rfl)))))).symm dX2_read_80
          · --f
            refine lv_aload_n hx hb dX2_read_70 rfl (lv_at hl 0 rfl) ?_
            refine va_get (D := D) (ci := 2) (v := .int (T1.1 0)) (C := RX2) (T := TX2) (N := 10) hx hb hts hinX2 hown hK hP 0 rfl rfl 1 (by decide) (hts (.fieldLink RX2 23 "JoinGrants$JoinText" "length" "I") (List.mem_of_getElem? (i := 4) rfl)) (fun _ h9 => h9) rfl dX2_read_71 ?_
            exact xiret hx hb hr hlk hP hD hS (congrArg (fun z => z.1) (hg.trans (show gX2_read_L17 T 0 i T1 = (T1.1 0, T1) from (Eq.trans (if_pos c_22) (Eq.trans (if_pos c_60) (Eq.trans (if_pos c_67) rfl)))))).symm (congrArg (fun z => textW ck ta z.2) (hg.trans (show gX2_read_L17 T 0 i T1 = (T1.1 0, T1) from (Eq.trans (if_pos c_22) (Eq.trans (if_pos c_60) (Eq.trans (if_pos c_67) rfl)))))).symm dX2_read_74
      · --f
        refine lv_iload_n hx hb dX2_read_25 rfl (lv_at hl 1 rfl) ?_
        refine lv_aload_n hx hb dX2_read_26 rfl (lv_at hl 0 rfl) ?_
        refine va_get (D := D) (ci := 2) (v := .ref (ta 1)) (C := RX2) (T := TX2) (N := 10) hx hb hts hinX2 hown hK hP 0 rfl rfl 0 (by decide) (hts (.fieldLink RX2 9 "JoinGrants$JoinText" "characters" "[C") (List.mem_of_getElem? (i := 5) rfl)) (fun _ h9 => h9) rfl dX2_read_27 ?_
        refine va_alen hx hb hK hP 1 1 rfl rfl (v := (nI 60)) rfl dX2_read_30 ?_
        refine lv_icmp_ge (tgt := 55) hx hb dX2_read_31 (by decide) (fun c_31 => ?_) (fun c_31 => ?_)
        · --t
          refine lv_aload_n hx hb dX2_read_55 rfl (lv_at hl 0 rfl) ?_
          refine va_get (D := D) (ci := 2) (v := .int (T1.1 2)) (C := RX2) (T := TX2) (N := 10) hx hb hts hinX2 hown hK hP 0 rfl rfl 6 (by decide) (hts (.fieldLink RX2 30 "JoinGrants$JoinText" "place" "I") (List.mem_of_getElem? (i := 2) rfl)) (fun _ h9 => h9) rfl dX2_read_56 ?_
          refine lv_iconst (v := 2) hx hb dX2_read_59 (by decide) ?_
          refine lv_icmp_ne (tgt := 70) hx hb dX2_read_60 (by decide) (fun c_60 => ?_) (fun c_60 => ?_)
          · --t
            refine lv_aload_n hx hb dX2_read_70 rfl (lv_at hl 0 rfl) ?_
            refine va_get (D := D) (ci := 2) (v := .int (T1.1 0)) (C := RX2) (T := TX2) (N := 10) hx hb hts hinX2 hown hK hP 0 rfl rfl 1 (by decide) (hts (.fieldLink RX2 23 "JoinGrants$JoinText" "length" "I") (List.mem_of_getElem? (i := 4) rfl)) (fun _ h9 => h9) rfl dX2_read_71 ?_
            exact xiret hx hb hr hlk hP hD hS (congrArg (fun z => z.1) (hg.trans (show gX2_read_L17 T 0 i T1 = (T1.1 0, T1) from (Eq.trans (if_neg c_22) (Eq.trans (if_neg c_60) rfl))))).symm (congrArg (fun z => textW ck ta z.2) (hg.trans (show gX2_read_L17 T 0 i T1 = (T1.1 0, T1) from (Eq.trans (if_neg c_22) (Eq.trans (if_neg c_60) rfl))))).symm dX2_read_74
          · --f
            refine lv_aload_n hx hb dX2_read_63 rfl (lv_at hl 0 rfl) ?_
            refine va_get (D := D) (ci := 2) (v := .int (T1.1 5)) (C := RX2) (T := TX2) (N := 10) hx hb hts hinX2 hown hK hP 0 rfl rfl 9 (by decide) (hts (.fieldLink RX2 33 "JoinGrants$JoinText" "number" "I") (List.mem_of_getElem? (i := 3) rfl)) (fun _ h9 => h9) rfl dX2_read_64 ?_
            refine lv_if_ne (tgt := 75) hx hb dX2_read_67 (by decide) (fun c_67 => ?_) (fun c_67 => ?_)
            · --t
              refine lv_aload_n hx hb dX2_read_75 rfl (lv_at hl 0 rfl) ?_
              refine xretv (va_runV (As := []) (rest := []) ⟨hx, hb, hml, hown, hts⟩ (mX2_endJoin l D ck ta T1  hj _) (cwV 0 hts gX2_read_X2_endJoin rfl rfl rfl (by decide +kernel) ⟨Nat.le_of_ble_eq_true rfl, Nat.le_of_ble_eq_true rfl⟩) (xpreV hN hK hP hD pm_all 0 rfl rfl rfl) rfl rfl hl.1 rfl (lv_room (Nat.le_of_ble_eq_true rfl)) dX2_read_76 ⟨Nat.le_of_ble_eq_true rfl, Nat.le_of_ble_eq_true rfl⟩) hP hD hS hA pm_all pm_all' (fun H locs hP hD hS => ?_)
              have hP : va_P D vwCl (textW ck ta (gX2_endJoin T1 )) H := hP
              have hD : va_D (va_A (textW ck ta T) s.heap.size) (textW ck ta (gX2_endJoin T1 )) := hD
              refine lv_iconst (v := (-1)) hx hb dX2_read_79 (by decide) ?_
              exact xiret hx hb hr hlk hP hD hS (congrArg (fun z => z.1) (hg.trans (show gX2_read_L17 T 0 i T1 = ((-1), (gX2_endJoin T1 )) from (Eq.trans (if_neg c_22) (Eq.trans (if_pos c_60) (Eq.trans (if_neg c_67) rfl)))))).symm (congrArg (fun z => textW ck ta z.2) (hg.trans (show gX2_read_L17 T 0 i T1 = ((-1), (gX2_endJoin T1 )) from (Eq.trans (if_neg c_22) (Eq.trans (if_pos c_60) (Eq.trans (if_neg c_67) rfl)))))).symm dX2_read_80
            · --f
              refine lv_aload_n hx hb dX2_read_70 rfl (lv_at hl 0 rfl) ?_
              refine va_get (D := D) (ci := 2) (v := .int (T1.1 0)) (C := RX2) (T := TX2) (N := 10) hx hb hts hinX2 hown hK hP 0 rfl rfl 1 (by decide) (hts (.fieldLink RX2 23 "JoinGrants$JoinText" "length" "I") (List.mem_of_getElem? (i := 4) rfl)) (fun _ h9 => h9) rfl dX2_read_71 ?_
              exact xiret hx hb hr hlk hP hD hS (congrArg (fun z => z.1) (hg.trans (show gX2_read_L17 T 0 i T1 = (T1.1 0, T1) from (Eq.trans (if_neg c_22) (Eq.trans (if_pos c_60) (Eq.trans (if_pos c_67) rfl)))))).symm (congrArg (fun z => textW ck ta z.2) (hg.trans (show gX2_read_L17 T 0 i T1 = (T1.1 0, T1) from (Eq.trans (if_neg c_22) (Eq.trans (if_pos c_60) (Eq.trans (if_pos c_67) rfl)))))).symm dX2_read_74
        · --f
          exact absurd (nI_le (by omega) (by omega)) c_31
    | succ fu ih17 =>
      intro i T1 hif hj hg H locs ls hP hD hS hl
      refine lv_iload_n hx hb dX2_read_17 rfl (lv_at hl 1 rfl) ?_
      refine lv_aload_n hx hb dX2_read_18 rfl (lv_at hl 0 rfl) ?_
      refine va_get (D := D) (ci := 2) (v := .int (T1.1 0)) (C := RX2) (T := TX2) (N := 10) hx hb hts hinX2 hown hK hP 0 rfl rfl 1 (by decide) (hts (.fieldLink RX2 23 "JoinGrants$JoinText" "length" "I") (List.mem_of_getElem? (i := 4) rfl)) (fun _ h9 => h9) rfl dX2_read_19 ?_
      refine lv_icmp_ge (tgt := 55) hx hb dX2_read_22 (by decide) (fun c_22 => ?_) (fun c_22 => ?_)
      · --t
        refine lv_aload_n hx hb dX2_read_55 rfl (lv_at hl 0 rfl) ?_
        refine va_get (D := D) (ci := 2) (v := .int (T1.1 2)) (C := RX2) (T := TX2) (N := 10) hx hb hts hinX2 hown hK hP 0 rfl rfl 6 (by decide) (hts (.fieldLink RX2 30 "JoinGrants$JoinText" "place" "I") (List.mem_of_getElem? (i := 2) rfl)) (fun _ h9 => h9) rfl dX2_read_56 ?_
        refine lv_iconst (v := 2) hx hb dX2_read_59 (by decide) ?_
        refine lv_icmp_ne (tgt := 70) hx hb dX2_read_60 (by decide) (fun c_60 => ?_) (fun c_60 => ?_)
        · --t
          refine lv_aload_n hx hb dX2_read_70 rfl (lv_at hl 0 rfl) ?_
          refine va_get (D := D) (ci := 2) (v := .int (T1.1 0)) (C := RX2) (T := TX2) (N := 10) hx hb hts hinX2 hown hK hP 0 rfl rfl 1 (by decide) (hts (.fieldLink RX2 23 "JoinGrants$JoinText" "length" "I") (List.mem_of_getElem? (i := 4) rfl)) (fun _ h9 => h9) rfl dX2_read_71 ?_
          exact xiret hx hb hr hlk hP hD hS (congrArg (fun z => z.1) (hg.trans (show gX2_read_L17 T (fu + 1) i T1 = (T1.1 0, T1) from (Eq.trans (if_pos c_22) (Eq.trans (if_neg c_60) rfl))))).symm (congrArg (fun z => textW ck ta z.2) (hg.trans (show gX2_read_L17 T (fu + 1) i T1 = (T1.1 0, T1) from (Eq.trans (if_pos c_22) (Eq.trans (if_neg c_60) rfl))))).symm dX2_read_74
        · --f
          refine lv_aload_n hx hb dX2_read_63 rfl (lv_at hl 0 rfl) ?_
          refine va_get (D := D) (ci := 2) (v := .int (T1.1 5)) (C := RX2) (T := TX2) (N := 10) hx hb hts hinX2 hown hK hP 0 rfl rfl 9 (by decide) (hts (.fieldLink RX2 33 "JoinGrants$JoinText" "number" "I") (List.mem_of_getElem? (i := 3) rfl)) (fun _ h9 => h9) rfl dX2_read_64 ?_
          refine lv_if_ne (tgt := 75) hx hb dX2_read_67 (by decide) (fun c_67 => ?_) (fun c_67 => ?_)
          · --t
            refine lv_aload_n hx hb dX2_read_75 rfl (lv_at hl 0 rfl) ?_
            refine xretv (va_runV (As := []) (rest := []) ⟨hx, hb, hml, hown, hts⟩ (mX2_endJoin l D ck ta T1  hj _) (cwV 0 hts gX2_read_X2_endJoin rfl rfl rfl (by decide +kernel) ⟨Nat.le_of_ble_eq_true rfl, Nat.le_of_ble_eq_true rfl⟩) (xpreV hN hK hP hD pm_all 0 rfl rfl rfl) rfl rfl hl.1 rfl (lv_room (Nat.le_of_ble_eq_true rfl)) dX2_read_76 ⟨Nat.le_of_ble_eq_true rfl, Nat.le_of_ble_eq_true rfl⟩) hP hD hS hA pm_all pm_all' (fun H locs hP hD hS => ?_)
            have hP : va_P D vwCl (textW ck ta (gX2_endJoin T1 )) H := hP
            have hD : va_D (va_A (textW ck ta T) s.heap.size) (textW ck ta (gX2_endJoin T1 )) := hD
            refine lv_iconst (v := (-1)) hx hb dX2_read_79 (by decide) ?_
            exact xiret hx hb hr hlk hP hD hS (congrArg (fun z => z.1) (hg.trans (show gX2_read_L17 T (fu + 1) i T1 = ((-1), (gX2_endJoin T1 )) from (Eq.trans (if_pos c_22) (Eq.trans (if_pos c_60) (Eq.trans (if_neg c_67) rfl)))))).symm (congrArg (fun z => textW ck ta z.2) (hg.trans (show gX2_read_L17 T (fu + 1) i T1 = ((-1), (gX2_endJoin T1 )) from (Eq.trans (if_pos c_22) (Eq.trans (if_pos c_60) (Eq.trans (if_neg c_67) rfl)))))).symm dX2_read_80
          · --f
            refine lv_aload_n hx hb dX2_read_70 rfl (lv_at hl 0 rfl) ?_
            refine va_get (D := D) (ci := 2) (v := .int (T1.1 0)) (C := RX2) (T := TX2) (N := 10) hx hb hts hinX2 hown hK hP 0 rfl rfl 1 (by decide) (hts (.fieldLink RX2 23 "JoinGrants$JoinText" "length" "I") (List.mem_of_getElem? (i := 4) rfl)) (fun _ h9 => h9) rfl dX2_read_71 ?_
            exact xiret hx hb hr hlk hP hD hS (congrArg (fun z => z.1) (hg.trans (show gX2_read_L17 T (fu + 1) i T1 = (T1.1 0, T1) from (Eq.trans (if_pos c_22) (Eq.trans (if_pos c_60) (Eq.trans (if_pos c_67) rfl)))))).symm (congrArg (fun z => textW ck ta z.2) (hg.trans (show gX2_read_L17 T (fu + 1) i T1 = (T1.1 0, T1) from (Eq.trans (if_pos c_22) (Eq.trans (if_pos c_60) (Eq.trans (if_pos c_67) rfl)))))).symm dX2_read_74
      · --f
        refine lv_iload_n hx hb dX2_read_25 rfl (lv_at hl 1 rfl) ?_
        refine lv_aload_n hx hb dX2_read_26 rfl (lv_at hl 0 rfl) ?_
        refine va_get (D := D) (ci := 2) (v := .ref (ta 1)) (C := RX2) (T := TX2) (N := 10) hx hb hts hinX2 hown hK hP 0 rfl rfl 0 (by decide) (hts (.fieldLink RX2 9 "JoinGrants$JoinText" "characters" "[C") (List.mem_of_getElem? (i := 5) rfl)) (fun _ h9 => h9) rfl dX2_read_27 ?_
        refine va_alen hx hb hK hP 1 1 rfl rfl (v := (nI 60)) rfl dX2_read_30 ?_
        refine lv_icmp_ge (tgt := 55) hx hb dX2_read_31 (by decide) (fun c_31 => ?_) (fun c_31 => ?_)
        · --t
          exact absurd c_31 (nI_ge (by omega) (by omega))
        · --f
          refine lv_aload_n hx hb dX2_read_34 rfl (lv_at hl 0 rfl) ?_
          refine lv_aload_n hx hb dX2_read_35 rfl (lv_at hl 0 rfl) ?_
          refine va_get (D := D) (ci := 2) (v := .ref (ta 1)) (C := RX2) (T := TX2) (N := 10) hx hb hts hinX2 hown hK hP 0 rfl rfl 0 (by decide) (hts (.fieldLink RX2 9 "JoinGrants$JoinText" "characters" "[C") (List.mem_of_getElem? (i := 5) rfl)) (fun _ h9 => h9) rfl dX2_read_36 ?_
          refine lv_iload_n hx hb dX2_read_39 rfl (lv_at hl 1 rfl) ?_
          refine xcald (j := i) (nI_clamp (by omega)) hx hb hK hP 1 1 rfl rfl (vp_in_nI (by omega) (by omega)) dX2_read_40 ?_
          refine xreti (va_runV (As := [.int (T1.2.1 i)]) (rest := []) ⟨hx, hb, hml, hown, hts⟩ (mX2_takes l D ck ta T1 (T1.2.1 i) hj _) (cwV 1 hts gX2_read_X2_takes rfl rfl rfl (by decide +kernel) ⟨Nat.le_of_ble_eq_true rfl, Nat.le_of_ble_eq_true rfl⟩) (xpreV hN hK hP hD pm_all 0 rfl rfl rfl) rfl rfl hl.1 rfl (lv_room (Nat.le_of_ble_eq_true rfl)) dX2_read_41 ⟨Nat.le_of_ble_eq_true rfl, Nat.le_of_ble_eq_true rfl⟩) hP hD hS hA pm_all pm_all' (fun H locs hP hD hS => ?_)
          have hP : va_P D vwCl (textW ck ta ((gX2_takes T1 (T1.2.1 i)).2)) H := hP
          have hD : va_D (va_A (textW ck ta T) s.heap.size) (textW ck ta ((gX2_takes T1 (T1.2.1 i)).2)) := hD
          refine lv_if_ne (tgt := 49) hx hb dX2_read_44 (by decide) (fun c_44 => ?_) (fun c_44 => ?_)
          · --t
            refine lv_iinc (v := (nI (i + 1))) (lv' := [(1, .int (nI (i + 1))), (0, .ref (ta 0))]) hx hb dX2_read_49 hl (k := 1) rfl (nI_1 i) (by decide) rfl (fun ls hl => ?_)
            refine lv_goto (tgt := 17) hx hb dX2_read_52 (by decide) ?_
            exact ih17 (i + 1) ((gX2_takes T1 (T1.2.1 i)).2) (by omega) (nn_X2_takes hj) (hg.trans (show gX2_read_L17 T (fu + 1) i T1 = (gX2_read_L17 T fu (i + 1) ((gX2_takes T1 (T1.2.1 i)).2)) from (Eq.trans (if_neg c_22) (Eq.trans (if_neg c_44) rfl)))) _ _ _ hP hD hS (lv_sub hl [1, 0] rfl)
          · --f
            refine lv_iload_n hx hb dX2_read_47 rfl (lv_at hl 1 rfl) ?_
            exact xiret hx hb hr hlk hP hD hS (congrArg (fun z => z.1) (hg.trans (show gX2_read_L17 T (fu + 1) i T1 = ((nI i), (gX2_takes T1 (T1.2.1 i)).2) from (Eq.trans (if_neg c_22) (Eq.trans (if_pos c_44) rfl))))).symm (congrArg (fun z => textW ck ta z.2) (hg.trans (show gX2_read_L17 T (fu + 1) i T1 = ((nI i), (gX2_takes T1 (T1.2.1 i)).2) from (Eq.trans (if_neg c_22) (Eq.trans (if_pos c_44) rfl))))).symm dX2_read_48
  exact loop17 60 0 (upd (upd (upd T.1 1 0) 2 0) 5 0, T.2.1, T.2.2.1, T.2.2.2.1, T.2.2.2.2) (by omega) (show ¬ (0 : Int32) < 0 by decide) (show gX2_read T = (gX2_read_L17 T 60 0 (upd (upd (upd T.1 1 0) 2 0) 5 0, T.2.1, T.2.2.1, T.2.2.2.1, T.2.2.2.2)) from rfl) _ _ _ hP hD hS (lv_sub hl [1, 0] rfl)
