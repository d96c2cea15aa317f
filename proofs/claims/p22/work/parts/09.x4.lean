def rmX4_setting : Room := { frames := 0, cells := 0, slots := 0, locals := 0 }
def gX4_setting (P : PS) (a1 : Int32) : Int32 := (if a1 < 0 then 0 else (if (nI 4) ≤ a1 then 0 else (P.1 a1.toNatClampNeg)))
set_option maxHeartbeats 4000000 in
set_option maxRecDepth 100000 in
theorem mX4_setting (l : Launch) (D : va_G) (ck : Nat → ClassId) (pa : Nat → Nat) (P : PS) (a1 : Int32) : xMi l yX4_setting wsX4_setting rmX4_setting D ck [.ref (pa 0), .int a1] (poolW ck pa P) (poolW ck pa P) (gX4_setting P a1) 0 0 := by
  refine xMet (by decide) rfl (Nat.le_of_ble_eq_true rfl) ?_
  intro zp ze s zm zb zt zc hx hb hr hml hown hts hlk hnm hN hK hP hD ls hl
  have hown : s.vm.findClass RX4 = some zm.cls := hown
  have hl : lv_has ls 2 [(0, .ref (pa 0)), (1, .int a1)] := hl
  have hS : va_S (va_A (poolW ck pa P) s.heap.size) s.heap s.heap [] := va_S.rf
  have hA : ∀ zq : Nat, s.heap.size ≤ zq → va_A (poolW ck pa P) s.heap.size zq := fun zq h => Or.inr h
  have hinX4 : ∀ w ∈ u_ws RX4 TX4 7, w ∈ wsX4_setting := by decide +kernel
  refine lv_iload_n hx hb dX4_setting_0 rfl (lv_at hl 1 rfl) ?_
  refine lv_if_lt (tgt := 22) hx hb dX4_setting_1 (by decide) (fun c_1 => ?_) (fun c_1 => ?_)
  · --t
    refine lv_iconst (v := 0) hx hb dX4_setting_22 (by decide) ?_
    exact xiret hx hb hr hlk hP hD hS (show gX4_setting P a1 = 0 from (Eq.trans (if_pos c_1) rfl)).symm rfl dX4_setting_23
  · --f
    refine lv_iload_n hx hb dX4_setting_4 rfl (lv_at hl 1 rfl) ?_
    refine lv_aload_n hx hb dX4_setting_5 rfl (lv_at hl 0 rfl) ?_
    refine va_get (D := D) (ci := 4) (v := .ref (pa 1)) (C := RX4) (T := TX4) (N := 7) hx hb hts hinX4 hown hK hP 0 rfl rfl 0 (by decide) (hts (.fieldLink RX4 20 "JoinGrants$Pool" "settings" "[I") (List.mem_of_getElem? (i := 1) rfl)) (fun _ h9 => h9) rfl dX4_setting_6 ?_
    refine va_alen hx hb hK hP 1 0 rfl rfl (v := (nI 4)) rfl dX4_setting_9 ?_
    refine lv_icmp_ge (tgt := 22) hx hb dX4_setting_10 (by decide) (fun c_10 => ?_) (fun c_10 => ?_)
    · --t
      refine lv_iconst (v := 0) hx hb dX4_setting_22 (by decide) ?_
      exact xiret hx hb hr hlk hP hD hS (show gX4_setting P a1 = 0 from (Eq.trans (if_neg c_1) (Eq.trans (if_pos c_10) rfl))).symm rfl dX4_setting_23
    · --f
      refine lv_aload_n hx hb dX4_setting_13 rfl (lv_at hl 0 rfl) ?_
      refine va_get (D := D) (ci := 4) (v := .ref (pa 1)) (C := RX4) (T := TX4) (N := 7) hx hb hts hinX4 hown hK hP 0 rfl rfl 0 (by decide) (hts (.fieldLink RX4 20 "JoinGrants$Pool" "settings" "[I") (List.mem_of_getElem? (i := 1) rfl)) (fun _ h9 => h9) rfl dX4_setting_14 ?_
      refine lv_iload_n hx hb dX4_setting_17 rfl (lv_at hl 1 rfl) ?_
      refine va_iald hx hb hK hP 1 0 rfl rfl (xin_g (by decide) c_1 c_10) dX4_setting_18 ?_
      refine lv_goto (tgt := 23) hx hb dX4_setting_19 (by decide) ?_
      exact xiret hx hb hr hlk hP hD hS (show gX4_setting P a1 = (P.1 a1.toNatClampNeg) from (Eq.trans (if_neg c_1) (Eq.trans (if_neg c_10) rfl))).symm rfl dX4_setting_23

def rmX4_room : Room := { frames := 0, cells := 0, slots := 0, locals := 0 }
def gX4_room (P : PS) : Int32 := ((nI 16) - (P.2.1 0))
set_option maxHeartbeats 4000000 in
set_option maxRecDepth 100000 in
theorem mX4_room (l : Launch) (D : va_G) (ck : Nat → ClassId) (pa : Nat → Nat) (P : PS) : xMi l yX4_room wsX4_room rmX4_room D ck [.ref (pa 0)] (poolW ck pa P) (poolW ck pa P) (gX4_room P) 0 0 := by
  refine xMet (by decide) rfl (Nat.le_of_ble_eq_true rfl) ?_
  intro zp ze s zm zb zt zc hx hb hr hml hown hts hlk hnm hN hK hP hD ls hl
  have hown : s.vm.findClass RX4 = some zm.cls := hown
  have hl : lv_has ls 1 [(0, .ref (pa 0))] := hl
  have hS : va_S (va_A (poolW ck pa P) s.heap.size) s.heap s.heap [] := va_S.rf
  have hA : ∀ zq : Nat, s.heap.size ≤ zq → va_A (poolW ck pa P) s.heap.size zq := fun zq h => Or.inr h
  have hinX4 : ∀ w ∈ u_ws RX4 TX4 7, w ∈ wsX4_room := by decide +kernel
  refine lv_aload_n hx hb dX4_room_0 rfl (lv_at hl 0 rfl) ?_
  refine va_get (D := D) (ci := 4) (v := .ref (pa 2)) (C := RX4) (T := TX4) (N := 7) hx hb hts hinX4 hown hK hP 0 rfl rfl 1 (by decide) (hts (.fieldLink RX4 25 "JoinGrants$Pool" "joins" "[LJoinGrants$Join;") (List.mem_of_getElem? (i := 1) rfl)) (fun _ h9 => h9) rfl dX4_room_1 ?_
  refine va_alen hx hb hK hP 2 2 rfl rfl (v := (nI 16)) rfl dX4_room_4 ?_
  refine lv_aload_n hx hb dX4_room_5 rfl (lv_at hl 0 rfl) ?_
  refine va_get (D := D) (ci := 4) (v := .int (P.2.1 0)) (C := RX4) (T := TX4) (N := 7) hx hb hts hinX4 hown hK hP 0 rfl rfl 2 (by decide) (hts (.fieldLink RX4 41 "JoinGrants$Pool" "joinsSoFar" "I") (List.mem_of_getElem? (i := 2) rfl)) (fun _ h9 => h9) rfl dX4_room_6 ?_
  refine lv_isub hx hb dX4_room_9 ?_
  exact xiret hx hb hr hlk hP hD hS (show gX4_room P = ((nI 16) - (P.2.1 0)) from rfl).symm rfl dX4_room_10

def rmX4_canTell : Room := { frames := 0, cells := 0, slots := 0, locals := 0 }
def gX4_canTell (a1 : Int32) : Int32 := (if a1 < 0 then 0 else (if 15 < a1 then 0 else 1))
set_option maxHeartbeats 4000000 in
set_option maxRecDepth 100000 in
theorem mX4_canTell (l : Launch) (D : va_G) (ck : Nat → ClassId) (a1 : Int32) : xMi l yX4_canTell wsX4_canTell rmX4_canTell D ck [.int a1] ([]) ([]) (gX4_canTell a1) 0 0 := by
  refine xMet (by decide) rfl (Nat.le_of_ble_eq_true rfl) ?_
  intro zp ze s zm zb zt zc hx hb hr hml hown hts hlk hnm hN hK hP hD ls hl
  have hown : s.vm.findClass RX4 = some zm.cls := hown
  have hl : lv_has ls 1 [(0, .int a1)] := hl
  have hS : va_S (va_A ([]) s.heap.size) s.heap s.heap [] := va_S.rf
  have hA : ∀ zq : Nat, s.heap.size ≤ zq → va_A ([]) s.heap.size zq := fun zq h => Or.inr h
  refine lv_iload_n hx hb dX4_canTell_0 rfl (lv_at hl 0 rfl) ?_
  refine lv_if_lt (tgt := 14) hx hb dX4_canTell_1 (by decide) (fun c_1 => ?_) (fun c_1 => ?_)
  · --t
    refine lv_iconst (v := 0) hx hb dX4_canTell_14 (by decide) ?_
    exact xzret hx hb hr hlk hP hD hS (Or.inl rfl) (show gX4_canTell a1 = 0 from (Eq.trans (if_pos c_1) rfl)).symm rfl dX4_canTell_15
  · --f
    refine lv_iload_n hx hb dX4_canTell_4 rfl (lv_at hl 0 rfl) ?_
    refine lv_bipush (v := 15) hx hb dX4_canTell_5 (by decide) ?_
    refine lv_icmp_gt (tgt := 14) hx hb dX4_canTell_7 (by decide) (fun c_7 => ?_) (fun c_7 => ?_)
    · --t
      refine lv_iconst (v := 0) hx hb dX4_canTell_14 (by decide) ?_
      exact xzret hx hb hr hlk hP hD hS (Or.inl rfl) (show gX4_canTell a1 = 0 from (Eq.trans (if_neg c_1) (Eq.trans (if_pos c_7) rfl))).symm rfl dX4_canTell_15
    · --f
      refine lv_iconst (v := 1) hx hb dX4_canTell_10 (by decide) ?_
      refine lv_goto (tgt := 15) hx hb dX4_canTell_11 (by decide) ?_
      exact xzret hx hb hr hlk hP hD hS (Or.inr rfl) (show gX4_canTell a1 = 1 from (Eq.trans (if_neg c_1) (Eq.trans (if_neg c_7) rfl))).symm rfl dX4_canTell_15

def rmX4_find : Room := { frames := 0, cells := 0, slots := 0, locals := 0 }
def gX4_find (P : PS) (a1 : Int32) : Option Nat := (if a1 < 0 then none else (if (P.2.1 0) ≤ a1 then none else (if (nI 16) ≤ a1 then none else (some a1.toNatClampNeg))))
set_option maxHeartbeats 4000000 in
set_option maxRecDepth 100000 in
theorem mX4_find (l : Launch) (D : va_G) (ck : Nat → ClassId) (pa : Nat → Nat) (P : PS) (a1 : Int32) : xMq l yX4_find wsX4_find rmX4_find D ck [.ref (pa 0), .int a1] (poolW ck pa P) (poolW ck pa P) (Option.map (jA pa) (gX4_find P a1)) 0 0 := by
  refine xMet (by decide) rfl (Nat.le_of_ble_eq_true rfl) ?_
  intro zp ze s zm zb zt zc hx hb hr hml hown hts hlk hnm hN hK hP hD ls hl
  have hown : s.vm.findClass RX4 = some zm.cls := hown
  have hl : lv_has ls 2 [(0, .ref (pa 0)), (1, .int a1)] := hl
  have hS : va_S (va_A (poolW ck pa P) s.heap.size) s.heap s.heap [] := va_S.rf
  have hA : ∀ zq : Nat, s.heap.size ≤ zq → va_A (poolW ck pa P) s.heap.size zq := fun zq h => Or.inr h
  have hinX4 : ∀ w ∈ u_ws RX4 TX4 7, w ∈ wsX4_find := by decide +kernel
  refine lv_iload_n hx hb dX4_find_0 rfl (lv_at hl 1 rfl) ?_
  refine lv_if_lt (tgt := 30) hx hb dX4_find_1 (by decide) (fun c_1 => ?_) (fun c_1 => ?_)
  · --t
    refine lv_null hx hb dX4_find_30 ?_
    exact xqret (v := none) hx hb hr hlk hP hD hS (congrArg (fun z => Option.map (jA pa) z) (show gX4_find P a1 = none from (Eq.trans (if_pos c_1) rfl))).symm rfl dX4_find_31
  · --f
    refine lv_iload_n hx hb dX4_find_4 rfl (lv_at hl 1 rfl) ?_
    refine lv_aload_n hx hb dX4_find_5 rfl (lv_at hl 0 rfl) ?_
    refine va_get (D := D) (ci := 4) (v := .int (P.2.1 0)) (C := RX4) (T := TX4) (N := 7) hx hb hts hinX4 hown hK hP 0 rfl rfl 2 (by decide) (hts (.fieldLink RX4 41 "JoinGrants$Pool" "joinsSoFar" "I") (List.mem_of_getElem? (i := 1) rfl)) (fun _ h9 => h9) rfl dX4_find_6 ?_
    refine lv_icmp_ge (tgt := 30) hx hb dX4_find_9 (by decide) (fun c_9 => ?_) (fun c_9 => ?_)
    · --t
      refine lv_null hx hb dX4_find_30 ?_
      exact xqret (v := none) hx hb hr hlk hP hD hS (congrArg (fun z => Option.map (jA pa) z) (show gX4_find P a1 = none from (Eq.trans (if_neg c_1) (Eq.trans (if_pos c_9) rfl)))).symm rfl dX4_find_31
    · --f
      refine lv_iload_n hx hb dX4_find_12 rfl (lv_at hl 1 rfl) ?_
      refine lv_aload_n hx hb dX4_find_13 rfl (lv_at hl 0 rfl) ?_
      refine va_get (D := D) (ci := 4) (v := .ref (pa 2)) (C := RX4) (T := TX4) (N := 7) hx hb hts hinX4 hown hK hP 0 rfl rfl 1 (by decide) (hts (.fieldLink RX4 25 "JoinGrants$Pool" "joins" "[LJoinGrants$Join;") (List.mem_of_getElem? (i := 2) rfl)) (fun _ h9 => h9) rfl dX4_find_14 ?_
      refine va_alen hx hb hK hP 2 2 rfl rfl (v := (nI 16)) rfl dX4_find_17 ?_
      refine lv_icmp_ge (tgt := 30) hx hb dX4_find_18 (by decide) (fun c_18 => ?_) (fun c_18 => ?_)
      · --t
        refine lv_null hx hb dX4_find_30 ?_
        exact xqret (v := none) hx hb hr hlk hP hD hS (congrArg (fun z => Option.map (jA pa) z) (show gX4_find P a1 = none from (Eq.trans (if_neg c_1) (Eq.trans (if_neg c_9) (Eq.trans (if_pos c_18) rfl))))).symm rfl dX4_find_31
      · --f
        refine lv_aload_n hx hb dX4_find_21 rfl (lv_at hl 0 rfl) ?_
        refine va_get (D := D) (ci := 4) (v := .ref (pa 2)) (C := RX4) (T := TX4) (N := 7) hx hb hts hinX4 hown hK hP 0 rfl rfl 1 (by decide) (hts (.fieldLink RX4 25 "JoinGrants$Pool" "joins" "[LJoinGrants$Join;") (List.mem_of_getElem? (i := 2) rfl)) (fun _ h9 => h9) rfl dX4_find_22 ?_
        refine lv_iload_n hx hb dX4_find_25 rfl (lv_at hl 1 rfl) ?_
        refine xaldq (j := a1.toNatClampNeg) (b := jA pa a1.toNatClampNeg) rfl hx hb hK hP 2 2 rfl rfl (xin_g (by decide) c_1 c_18) rfl dX4_find_26 ?_
        refine lv_goto (tgt := 31) hx hb dX4_find_27 (by decide) ?_
        exact xqret (v := (some (jA pa a1.toNatClampNeg))) hx hb hr hlk hP hD hS (congrArg (fun z => Option.map (jA pa) z) (show gX4_find P a1 = (some a1.toNatClampNeg) from (Eq.trans (if_neg c_1) (Eq.trans (if_neg c_9) (Eq.trans (if_neg c_18) rfl))))).symm rfl dX4_find_31

theorem lt_X4_find {P : PS} {a1 : Int32} (h : ¬ gX4_find P a1 = none) : (gX4_find P a1).getD 0 < 16 := by
  unfold gX4_find at h ⊢
  split
  · rename_i c; rw [if_pos c] at h; exact absurd rfl h
  · rename_i c1
    split
    · rename_i c; rw [if_neg c1, if_pos c] at h; exact absurd rfl h
    · split
      · rename_i c2 c; rw [if_neg c1, if_neg c2, if_pos c] at h; exact absurd rfl h
      · rename_i c2 c3
        exact xin_lt (xin_g (by decide) c1 c3)

def rmX4_granted : Room := { frames := 1, cells := 0, slots := 0, locals := 20 }
def gX4_granted_L13 (P : PS) : Nat → Nat → Int32 → Int32
  | 0, i, x1 => x1
  | fu + 1, i, x1 => (gX4_granted_L13 P fu (i + 1) (x1 + (gX1_pages (nI i) (P.2.2 i) )))
def gX4_granted (P : PS) : Int32 := (gX4_granted_L13 P 16 0 0)
set_option maxHeartbeats 4000000 in
set_option maxRecDepth 100000 in
theorem mX4_granted (l : Launch) (D : va_G) (ck : Nat → ClassId) (pa : Nat → Nat) (P : PS) : xMi l yX4_granted wsX4_granted rmX4_granted D ck [.ref (pa 0)] (poolW ck pa P) (poolW ck pa P) (gX4_granted P) 0 0 := by
  refine xMet (by decide) rfl (Nat.le_of_ble_eq_true rfl) ?_
  intro zp ze s zm zb zt zc hx hb hr hml hown hts hlk hnm hN hK hP hD ls hl
  have hown : s.vm.findClass RX4 = some zm.cls := hown
  have hl : lv_has ls 6 [(0, .ref (pa 0))] := hl
  have hS : va_S (va_A (poolW ck pa P) s.heap.size) s.heap s.heap [] := va_S.rf
  have hA : ∀ zq : Nat, s.heap.size ≤ zq → va_A (poolW ck pa P) s.heap.size zq := fun zq h => Or.inr h
  have hinX4 : ∀ w ∈ u_ws RX4 TX4 7, w ∈ wsX4_granted := by decide +kernel
  refine lv_iconst (v := 0) hx hb dX4_granted_0 (by decide) ?_
  refine lv_istore_n (lv' := [(1, .int 0), (0, .ref (pa 0))]) hx hb dX4_granted_1 rfl hl (by decide) rfl (fun ls hl => ?_)
  refine lv_aload_n hx hb dX4_granted_2 rfl (lv_at hl 1 rfl) ?_
  refine va_get (D := D) (ci := 4) (v := .ref (pa 2)) (C := RX4) (T := TX4) (N := 7) hx hb hts hinX4 hown hK hP 0 rfl rfl 1 (by decide) (hts (.fieldLink RX4 25 "JoinGrants$Pool" "joins" "[LJoinGrants$Join;") (List.mem_of_getElem? (i := 1) rfl)) (fun _ h9 => h9) rfl dX4_granted_3 ?_
  refine lv_astore_n (lv' := [(2, .ref (pa 2)), (1, .int 0), (0, .ref (pa 0))]) hx hb dX4_granted_6 rfl hl (by decide) rfl (fun ls hl => ?_)
  refine lv_aload_n hx hb dX4_granted_7 rfl (lv_at hl 0 rfl) ?_
  refine va_alen hx hb hK hP 2 2 rfl rfl (v := (nI 16)) rfl dX4_granted_8 ?_
  refine lv_istore_n (lv' := [(3, .int (nI 16)), (2, .ref (pa 2)), (1, .int 0), (0, .ref (pa 0))]) hx hb dX4_granted_9 rfl hl (by decide) rfl (fun ls hl => ?_)
  refine lv_iconst (v := (nI 0)) hx hb dX4_granted_10 (by decide) ?_
  refine lv_istore (lv' := [(4, .int (nI 0)), (3, .int (nI 16)), (2, .ref (pa 2)), (1, .int 0), (0, .ref (pa 0))]) hx hb dX4_granted_11 hl (by decide) rfl (fun ls hl => ?_)
  have loop13 : ∀ (fu : Nat) (i : Nat) (x1 : Int32), (i + fu = 16) → gX4_granted P = gX4_granted_L13 P fu i x1 → ∀ (H : Heap) (locs : List Loc) (ls : Array Slot), va_P D vwCl (poolW ck pa P) H → va_D (va_A (poolW ck pa P) s.heap.size) (poolW ck pa P) → va_S (va_A (poolW ck pa P) s.heap.size) s.heap H locs → lv_has ls 6 [(0, .ref (pa 0)), (1, .int x1), (2, .ref (pa 2)), (3, .int (nI 16)), (4, .int (nI i))] → W zp l ze rmX4_granted s zm ([.ref (pa 0)] : List Value).toArray zb zt zc H locs 0 0 (MQ zb (xQi D (poolW ck pa P) (poolW ck pa P) (gX4_granted P) s.heap.size) ([.ref (pa 0)] : List Value).toArray s 0 0 (va_A (poolW ck pa P) s.heap.size)) (F0 zm 13 ls []) := by
    intro fu
    induction fu with
    | zero =>
      intro i x1 hif hg H locs ls hP hD hS hl
      refine lv_iload hx hb dX4_granted_13 (lv_at hl 4 rfl) ?_
      refine lv_iload_n hx hb dX4_granted_15 rfl (lv_at hl 3 rfl) ?_
      refine lv_icmp_ge (tgt := 39) hx hb dX4_granted_16 (by decide) (fun c_16 => ?_) (fun c_16 => ?_)
      · --t
        refine lv_iload_n hx hb dX4_granted_39 rfl (lv_at hl 1 rfl) ?_
        exact xiret hx hb hr hlk hP hD hS (hg.trans (show gX4_granted_L13 P 0 i x1 = x1 from rfl)).symm rfl dX4_granted_40
      · --f
        exact absurd (nI_le (by omega) (by omega)) c_16
    | succ fu ih13 =>
      intro i x1 hif hg H locs ls hP hD hS hl
      refine lv_iload hx hb dX4_granted_13 (lv_at hl 4 rfl) ?_
      refine lv_iload_n hx hb dX4_granted_15 rfl (lv_at hl 3 rfl) ?_
      refine lv_icmp_ge (tgt := 39) hx hb dX4_granted_16 (by decide) (fun c_16 => ?_) (fun c_16 => ?_)
      · --t
        exact absurd c_16 (nI_ge (by omega) (by omega))
      · --f
        refine lv_aload_n hx hb dX4_granted_19 rfl (lv_at hl 2 rfl) ?_
        refine lv_iload hx hb dX4_granted_20 (lv_at hl 4 rfl) ?_
        refine xaldq (j := i) (b := jA pa i) (nI_clamp (by omega)) hx hb hK hP 2 2 rfl rfl (vp_in_nI (by omega) (by omega)) rfl dX4_granted_22 ?_
        refine lv_astore (lv' := [(5, .ref (jA pa i)), (0, .ref (pa 0)), (1, .int x1), (2, .ref (pa 2)), (3, .int (nI 16)), (4, .int (nI i))]) hx hb dX4_granted_23 hl (by decide) rfl (fun ls hl => ?_)
        refine lv_iload_n hx hb dX4_granted_25 rfl (lv_at hl 2 rfl) ?_
        refine lv_aload hx hb dX4_granted_26 (lv_at hl 0 rfl) ?_
        refine xreti (va_runV (As := []) (rest := [.int x1]) ⟨hx, hb, hml, hown, hts⟩ (mX1_pages l D ck (jA pa i) (qA pa i) (nI i) (P.2.2 i)  _) (cwV 0 hts gX4_granted_X1_pages rfl rfl rfl (by decide +kernel) ⟨Nat.le_of_ble_eq_true rfl, Nat.le_of_ble_eq_true rfl⟩) (xpreV hN hK hP hD (pm_pj (P := P) (by omega)) 0 rfl rfl rfl) rfl rfl hl.1 rfl (lv_room (Nat.le_of_ble_eq_true rfl)) dX4_granted_28 ⟨Nat.le_of_ble_eq_true rfl, Nat.le_of_ble_eq_true rfl⟩) hP hD hS hA (pm_pj (P := P) (by omega)) (pm_pj (P := P) (by omega)).symm (fun H locs hP hD hS => ?_)
        refine lv_iadd hx hb dX4_granted_31 ?_
        refine lv_istore_n (lv' := [(1, .int (x1 + (gX1_pages (nI i) (P.2.2 i) ))), (5, .ref (jA pa i)), (0, .ref (pa 0)), (2, .ref (pa 2)), (3, .int (nI 16)), (4, .int (nI i))]) hx hb dX4_granted_32 rfl hl (by decide) rfl (fun ls hl => ?_)
        refine lv_iinc (v := (nI (i + 1))) (lv' := [(4, .int (nI (i + 1))), (1, .int (x1 + (gX1_pages (nI i) (P.2.2 i) ))), (5, .ref (jA pa i)), (0, .ref (pa 0)), (2, .ref (pa 2)), (3, .int (nI 16))]) hx hb dX4_granted_33 hl (k := 5) rfl (nI_1 i) (by decide) rfl (fun ls hl => ?_)
        refine lv_goto (tgt := 13) hx hb dX4_granted_36 (by decide) ?_
        exact ih13 (i + 1) (x1 + (gX1_pages (nI i) (P.2.2 i) )) (by omega) (hg.trans (show gX4_granted_L13 P (fu + 1) i x1 = (gX4_granted_L13 P fu (i + 1) (x1 + (gX1_pages (nI i) (P.2.2 i) ))) from rfl)) _ _ _ hP hD hS (lv_sub hl [3, 1, 4, 5, 0] rfl)
  exact loop13 16 0 0 (by omega) (show gX4_granted P = (gX4_granted_L13 P 16 0 0) from rfl) _ _ _ hP hD hS (lv_sub hl [4, 3, 2, 1, 0] rfl)

def rmX4_surplus : Room := { frames := 1, cells := 0, slots := 0, locals := 20 }
def gX4_surplus_L13 (P : PS) : Nat → Nat → Int32 → Int32
  | 0, i, x1 => x1
  | fu + 1, i, x1 => (gX4_surplus_L13 P fu (i + 1) (x1 + (gX1_surplus (nI i) (P.2.2 i) )))
def gX4_surplus (P : PS) : Int32 := (gX4_surplus_L13 P 16 0 0)
set_option maxHeartbeats 4000000 in
set_option maxRecDepth 100000 in
theorem mX4_surplus (l : Launch) (D : va_G) (ck : Nat → ClassId) (pa : Nat → Nat) (P : PS) : xMi l yX4_surplus wsX4_surplus rmX4_surplus D ck [.ref (pa 0)] (poolW ck pa P) (poolW ck pa P) (gX4_surplus P) 0 0 := by
  refine xMet (by decide) rfl (Nat.le_of_ble_eq_true rfl) ?_
  intro zp ze s zm zb zt zc hx hb hr hml hown hts hlk hnm hN hK hP hD ls hl
  have hown : s.vm.findClass RX4 = some zm.cls := hown
  have hl : lv_has ls 6 [(0, .ref (pa 0))] := hl
  have hS : va_S (va_A (poolW ck pa P) s.heap.size) s.heap s.heap [] := va_S.rf
  have hA : ∀ zq : Nat, s.heap.size ≤ zq → va_A (poolW ck pa P) s.heap.size zq := fun zq h => Or.inr h
  have hinX4 : ∀ w ∈ u_ws RX4 TX4 7, w ∈ wsX4_surplus := by decide +kernel
  refine lv_iconst (v := 0) hx hb dX4_surplus_0 (by decide) ?_
  refine lv_istore_n (lv' := [(1, .int 0), (0, .ref (pa 0))]) hx hb dX4_surplus_1 rfl hl (by decide) rfl (fun ls hl => ?_)
  refine lv_aload_n hx hb dX4_surplus_2 rfl (lv_at hl 1 rfl) ?_
  refine va_get (D := D) (ci := 4) (v := .ref (pa 2)) (C := RX4) (T := TX4) (N := 7) hx hb hts hinX4 hown hK hP 0 rfl rfl 1 (by decide) (hts (.fieldLink RX4 25 "JoinGrants$Pool" "joins" "[LJoinGrants$Join;") (List.mem_of_getElem? (i := 1) rfl)) (fun _ h9 => h9) rfl dX4_surplus_3 ?_
  refine lv_astore_n (lv' := [(2, .ref (pa 2)), (1, .int 0), (0, .ref (pa 0))]) hx hb dX4_surplus_6 rfl hl (by decide) rfl (fun ls hl => ?_)
  refine lv_aload_n hx hb dX4_surplus_7 rfl (lv_at hl 0 rfl) ?_
  refine va_alen hx hb hK hP 2 2 rfl rfl (v := (nI 16)) rfl dX4_surplus_8 ?_
  refine lv_istore_n (lv' := [(3, .int (nI 16)), (2, .ref (pa 2)), (1, .int 0), (0, .ref (pa 0))]) hx hb dX4_surplus_9 rfl hl (by decide) rfl (fun ls hl => ?_)
  refine lv_iconst (v := (nI 0)) hx hb dX4_surplus_10 (by decide) ?_
  refine lv_istore (lv' := [(4, .int (nI 0)), (3, .int (nI 16)), (2, .ref (pa 2)), (1, .int 0), (0, .ref (pa 0))]) hx hb dX4_surplus_11 hl (by decide) rfl (fun ls hl => ?_)
  have loop13 : ∀ (fu : Nat) (i : Nat) (x1 : Int32), (i + fu = 16) → gX4_surplus P = gX4_surplus_L13 P fu i x1 → ∀ (H : Heap) (locs : List Loc) (ls : Array Slot), va_P D vwCl (poolW ck pa P) H → va_D (va_A (poolW ck pa P) s.heap.size) (poolW ck pa P) → va_S (va_A (poolW ck pa P) s.heap.size) s.heap H locs → lv_has ls 6 [(0, .ref (pa 0)), (1, .int x1), (2, .ref (pa 2)), (3, .int (nI 16)), (4, .int (nI i))] → W zp l ze rmX4_surplus s zm ([.ref (pa 0)] : List Value).toArray zb zt zc H locs 0 0 (MQ zb (xQi D (poolW ck pa P) (poolW ck pa P) (gX4_surplus P) s.heap.size) ([.ref (pa 0)] : List Value).toArray s 0 0 (va_A (poolW ck pa P) s.heap.size)) (F0 zm 13 ls []) := by
    intro fu
    induction fu with
    | zero =>
      intro i x1 hif hg H locs ls hP hD hS hl
      refine lv_iload hx hb dX4_surplus_13 (lv_at hl 4 rfl) ?_
      refine lv_iload_n hx hb dX4_surplus_15 rfl (lv_at hl 3 rfl) ?_
      refine lv_icmp_ge (tgt := 39) hx hb dX4_surplus_16 (by decide) (fun c_16 => ?_) (fun c_16 => ?_)
      · --t
        refine lv_iload_n hx hb dX4_surplus_39 rfl (lv_at hl 1 rfl) ?_
        exact xiret hx hb hr hlk hP hD hS (hg.trans (show gX4_surplus_L13 P 0 i x1 = x1 from rfl)).symm rfl dX4_surplus_40
      · --f
        exact absurd (nI_le (by omega) (by omega)) c_16
    | succ fu ih13 =>
      intro i x1 hif hg H locs ls hP hD hS hl
      refine lv_iload hx hb dX4_surplus_13 (lv_at hl 4 rfl) ?_
      refine lv_iload_n hx hb dX4_surplus_15 rfl (lv_at hl 3 rfl) ?_
      refine lv_icmp_ge (tgt := 39) hx hb dX4_surplus_16 (by decide) (fun c_16 => ?_) (fun c_16 => ?_)
      · --t
        exact absurd c_16 (nI_ge (by omega) (by omega))
      · --f
        refine lv_aload_n hx hb dX4_surplus_19 rfl (lv_at hl 2 rfl) ?_
        refine lv_iload hx hb dX4_surplus_20 (lv_at hl 4 rfl) ?_
        refine xaldq (j := i) (b := jA pa i) (nI_clamp (by omega)) hx hb hK hP 2 2 rfl rfl (vp_in_nI (by omega) (by omega)) rfl dX4_surplus_22 ?_
        refine lv_astore (lv' := [(5, .ref (jA pa i)), (0, .ref (pa 0)), (1, .int x1), (2, .ref (pa 2)), (3, .int (nI 16)), (4, .int (nI i))]) hx hb dX4_surplus_23 hl (by decide) rfl (fun ls hl => ?_)
        refine lv_iload_n hx hb dX4_surplus_25 rfl (lv_at hl 2 rfl) ?_
        refine lv_aload hx hb dX4_surplus_26 (lv_at hl 0 rfl) ?_
        refine xreti (va_runV (As := []) (rest := [.int x1]) ⟨hx, hb, hml, hown, hts⟩ (mX1_surplus l D ck (jA pa i) (qA pa i) (nI i) (P.2.2 i)  _) (cwV 0 hts gX4_surplus_X1_surplus rfl rfl rfl (by decide +kernel) ⟨Nat.le_of_ble_eq_true rfl, Nat.le_of_ble_eq_true rfl⟩) (xpreV hN hK hP hD (pm_pj (P := P) (by omega)) 0 rfl rfl rfl) rfl rfl hl.1 rfl (lv_room (Nat.le_of_ble_eq_true rfl)) dX4_surplus_28 ⟨Nat.le_of_ble_eq_true rfl, Nat.le_of_ble_eq_true rfl⟩) hP hD hS hA (pm_pj (P := P) (by omega)) (pm_pj (P := P) (by omega)).symm (fun H locs hP hD hS => ?_)
        refine lv_iadd hx hb dX4_surplus_31 ?_
        refine lv_istore_n (lv' := [(1, .int (x1 + (gX1_surplus (nI i) (P.2.2 i) ))), (5, .ref (jA pa i)), (0, .ref (pa 0)), (2, .ref (pa 2)), (3, .int (nI 16)), (4, .int (nI i))]) hx hb dX4_surplus_32 rfl hl (by decide) rfl (fun ls hl => ?_)
        refine lv_iinc (v := (nI (i + 1))) (lv' := [(4, .int (nI (i + 1))), (1, .int (x1 + (gX1_surplus (nI i) (P.2.2 i) ))), (5, .ref (jA pa i)), (0, .ref (pa 0)), (2, .ref (pa 2)), (3, .int (nI 16))]) hx hb dX4_surplus_33 hl (k := 5) rfl (nI_1 i) (by decide) rfl (fun ls hl => ?_)
        refine lv_goto (tgt := 13) hx hb dX4_surplus_36 (by decide) ?_
        exact ih13 (i + 1) (x1 + (gX1_surplus (nI i) (P.2.2 i) )) (by omega) (hg.trans (show gX4_surplus_L13 P (fu + 1) i x1 = (gX4_surplus_L13 P fu (i + 1) (x1 + (gX1_surplus (nI i) (P.2.2 i) ))) from rfl)) _ _ _ hP hD hS (lv_sub hl [3, 1, 4, 5, 0] rfl)
  exact loop13 16 0 0 (by omega) (show gX4_surplus P = (gX4_surplus_L13 P 16 0 0) from rfl) _ _ _ hP hD hS (lv_sub hl [4, 3, 2, 1, 0] rfl)

def rmX4_spilling : Room := { frames := 2, cells := 0, slots := 0, locals := 41 }
def gX4_spilling_L13 (P : PS) : Nat → Nat → Int32 → Int32
  | 0, i, x1 => x1
  | fu + 1, i, x1 => (if (gX1_spills (nI i) (P.2.2 i) ) = 0 then (gX4_spilling_L13 P fu (i + 1) (x1 + 0)) else (gX4_spilling_L13 P fu (i + 1) (x1 + 1)))
def gX4_spilling (P : PS) : Int32 := (gX4_spilling_L13 P 16 0 0)
set_option maxHeartbeats 4000000 in
set_option maxRecDepth 100000 in
theorem mX4_spilling (l : Launch) (D : va_G) (ck : Nat → ClassId) (pa : Nat → Nat) (P : PS) : xMi l yX4_spilling wsX4_spilling rmX4_spilling D ck [.ref (pa 0)] (poolW ck pa P) (poolW ck pa P) (gX4_spilling P) 0 0 := by
  refine xMet (by decide) rfl (Nat.le_of_ble_eq_true rfl) ?_
  intro zp ze s zm zb zt zc hx hb hr hml hown hts hlk hnm hN hK hP hD ls hl
  have hown : s.vm.findClass RX4 = some zm.cls := hown
  have hl : lv_has ls 6 [(0, .ref (pa 0))] := hl
  have hS : va_S (va_A (poolW ck pa P) s.heap.size) s.heap s.heap [] := va_S.rf
  have hA : ∀ zq : Nat, s.heap.size ≤ zq → va_A (poolW ck pa P) s.heap.size zq := fun zq h => Or.inr h
  have hinX4 : ∀ w ∈ u_ws RX4 TX4 7, w ∈ wsX4_spilling := by decide +kernel
  refine lv_iconst (v := 0) hx hb dX4_spilling_0 (by decide) ?_
  refine lv_istore_n (lv' := [(1, .int 0), (0, .ref (pa 0))]) hx hb dX4_spilling_1 rfl hl (by decide) rfl (fun ls hl => ?_)
  refine lv_aload_n hx hb dX4_spilling_2 rfl (lv_at hl 1 rfl) ?_
  refine va_get (D := D) (ci := 4) (v := .ref (pa 2)) (C := RX4) (T := TX4) (N := 7) hx hb hts hinX4 hown hK hP 0 rfl rfl 1 (by decide) (hts (.fieldLink RX4 25 "JoinGrants$Pool" "joins" "[LJoinGrants$Join;") (List.mem_of_getElem? (i := 1) rfl)) (fun _ h9 => h9) rfl dX4_spilling_3 ?_
  refine lv_astore_n (lv' := [(2, .ref (pa 2)), (1, .int 0), (0, .ref (pa 0))]) hx hb dX4_spilling_6 rfl hl (by decide) rfl (fun ls hl => ?_)
  refine lv_aload_n hx hb dX4_spilling_7 rfl (lv_at hl 0 rfl) ?_
  refine va_alen hx hb hK hP 2 2 rfl rfl (v := (nI 16)) rfl dX4_spilling_8 ?_
  refine lv_istore_n (lv' := [(3, .int (nI 16)), (2, .ref (pa 2)), (1, .int 0), (0, .ref (pa 0))]) hx hb dX4_spilling_9 rfl hl (by decide) rfl (fun ls hl => ?_)
  refine lv_iconst (v := (nI 0)) hx hb dX4_spilling_10 (by decide) ?_
  refine lv_istore (lv' := [(4, .int (nI 0)), (3, .int (nI 16)), (2, .ref (pa 2)), (1, .int 0), (0, .ref (pa 0))]) hx hb dX4_spilling_11 hl (by decide) rfl (fun ls hl => ?_)
  have loop13 : ∀ (fu : Nat) (i : Nat) (x1 : Int32), (i + fu = 16) → gX4_spilling P = gX4_spilling_L13 P fu i x1 → ∀ (H : Heap) (locs : List Loc) (ls : Array Slot), va_P D vwCl (poolW ck pa P) H → va_D (va_A (poolW ck pa P) s.heap.size) (poolW ck pa P) → va_S (va_A (poolW ck pa P) s.heap.size) s.heap H locs → lv_has ls 6 [(0, .ref (pa 0)), (1, .int x1), (2, .ref (pa 2)), (3, .int (nI 16)), (4, .int (nI i))] → W zp l ze rmX4_spilling s zm ([.ref (pa 0)] : List Value).toArray zb zt zc H locs 0 0 (MQ zb (xQi D (poolW ck pa P) (poolW ck pa P) (gX4_spilling P) s.heap.size) ([.ref (pa 0)] : List Value).toArray s 0 0 (va_A (poolW ck pa P) s.heap.size)) (F0 zm 13 ls []) := by
    intro fu
    induction fu with
    | zero =>
      intro i x1 hif hg H locs ls hP hD hS hl
      refine lv_iload hx hb dX4_spilling_13 (lv_at hl 4 rfl) ?_
      refine lv_iload_n hx hb dX4_spilling_15 rfl (lv_at hl 3 rfl) ?_
      refine lv_icmp_ge (tgt := 47) hx hb dX4_spilling_16 (by decide) (fun c_16 => ?_) (fun c_16 => ?_)
      · --t
        refine lv_iload_n hx hb dX4_spilling_47 rfl (lv_at hl 1 rfl) ?_
        exact xiret hx hb hr hlk hP hD hS (hg.trans (show gX4_spilling_L13 P 0 i x1 = x1 from rfl)).symm rfl dX4_spilling_48
      · --f
        exact absurd (nI_le (by omega) (by omega)) c_16
    | succ fu ih13 =>
      intro i x1 hif hg H locs ls hP hD hS hl
      refine lv_iload hx hb dX4_spilling_13 (lv_at hl 4 rfl) ?_
      refine lv_iload_n hx hb dX4_spilling_15 rfl (lv_at hl 3 rfl) ?_
      refine lv_icmp_ge (tgt := 47) hx hb dX4_spilling_16 (by decide) (fun c_16 => ?_) (fun c_16 => ?_)
      · --t
        exact absurd c_16 (nI_ge (by omega) (by omega))
      · --f
        refine lv_aload_n hx hb dX4_spilling_19 rfl (lv_at hl 2 rfl) ?_
        refine lv_iload hx hb dX4_spilling_20 (lv_at hl 4 rfl) ?_
        refine xaldq (j := i) (b := jA pa i) (nI_clamp (by omega)) hx hb hK hP 2 2 rfl rfl (vp_in_nI (by omega) (by omega)) rfl dX4_spilling_22 ?_
        refine lv_astore (lv' := [(5, .ref (jA pa i)), (0, .ref (pa 0)), (1, .int x1), (2, .ref (pa 2)), (3, .int (nI 16)), (4, .int (nI i))]) hx hb dX4_spilling_23 hl (by decide) rfl (fun ls hl => ?_)
        refine lv_iload_n hx hb dX4_spilling_25 rfl (lv_at hl 2 rfl) ?_
        refine lv_aload hx hb dX4_spilling_26 (lv_at hl 0 rfl) ?_
        refine xreti (va_runV (As := []) (rest := [.int x1]) ⟨hx, hb, hml, hown, hts⟩ (mX1_spills l D ck (jA pa i) (qA pa i) (nI i) (P.2.2 i)  _) (cwV 0 hts gX4_spilling_X1_spills rfl rfl rfl (by decide +kernel) ⟨Nat.le_of_ble_eq_true rfl, Nat.le_of_ble_eq_true rfl⟩) (xpreV hN hK hP hD (pm_pj (P := P) (by omega)) 0 rfl rfl rfl) rfl rfl hl.1 rfl (lv_room (Nat.le_of_ble_eq_true rfl)) dX4_spilling_28 ⟨Nat.le_of_ble_eq_true rfl, Nat.le_of_ble_eq_true rfl⟩) hP hD hS hA (pm_pj (P := P) (by omega)) (pm_pj (P := P) (by omega)).symm (fun H locs hP hD hS => ?_)
        refine lv_if_eq (tgt := 38) hx hb dX4_spilling_31 (by decide) (fun c_31 => ?_) (fun c_31 => ?_)
        · --t
          refine lv_iconst (v := 0) hx hb dX4_spilling_38 (by decide) ?_
          refine lv_iadd hx hb dX4_spilling_39 ?_
          refine lv_istore_n (lv' := [(1, .int (x1 + 0)), (5, .ref (jA pa i)), (0, .ref (pa 0)), (2, .ref (pa 2)), (3, .int (nI 16)), (4, .int (nI i))]) hx hb dX4_spilling_40 rfl hl (by decide) rfl (fun ls hl => ?_)
          refine lv_iinc (v := (nI (i + 1))) (lv' := [(4, .int (nI (i + 1))), (1, .int (x1 + 0)), (5, .ref (jA pa i)), (0, .ref (pa 0)), (2, .ref (pa 2)), (3, .int (nI 16))]) hx hb dX4_spilling_41 hl (k := 5) rfl (nI_1 i) (by decide) rfl (fun ls hl => ?_)
          refine lv_goto (tgt := 13) hx hb dX4_spilling_44 (by decide) ?_
          exact ih13 (i + 1) (x1 + 0) (by omega) (hg.trans (show gX4_spilling_L13 P (fu + 1) i x1 = (gX4_spilling_L13 P fu (i + 1) (x1 + 0)) from (Eq.trans (if_pos c_31) rfl))) _ _ _ hP hD hS (lv_sub hl [3, 1, 4, 5, 0] rfl)
        · --f
          refine lv_iconst (v := 1) hx hb dX4_spilling_34 (by decide) ?_
          refine lv_goto (tgt := 39) hx hb dX4_spilling_35 (by decide) ?_
          refine lv_iadd hx hb dX4_spilling_39 ?_
          refine lv_istore_n (lv' := [(1, .int (x1 + 1)), (5, .ref (jA pa i)), (0, .ref (pa 0)), (2, .ref (pa 2)), (3, .int (nI 16)), (4, .int (nI i))]) hx hb dX4_spilling_40 rfl hl (by decide) rfl (fun ls hl => ?_)
          refine lv_iinc (v := (nI (i + 1))) (lv' := [(4, .int (nI (i + 1))), (1, .int (x1 + 1)), (5, .ref (jA pa i)), (0, .ref (pa 0)), (2, .ref (pa 2)), (3, .int (nI 16))]) hx hb dX4_spilling_41 hl (k := 5) rfl (nI_1 i) (by decide) rfl (fun ls hl => ?_)
          refine lv_goto (tgt := 13) hx hb dX4_spilling_44 (by decide) ?_
          exact ih13 (i + 1) (x1 + 1) (by omega) (hg.trans (show gX4_spilling_L13 P (fu + 1) i x1 = (gX4_spilling_L13 P fu (i + 1) (x1 + 1)) from (Eq.trans (if_neg c_31) rfl))) _ _ _ hP hD hS (lv_sub hl [3, 1, 4, 5, 0] rfl)
  exact loop13 16 0 0 (by omega) (show gX4_spilling P = (gX4_spilling_L13 P 16 0 0) from rfl) _ _ _ hP hD hS (lv_sub hl [4, 3, 2, 1, 0] rfl)

def rmX4_joinsIn : Room := { frames := 1, cells := 0, slots := 0, locals := 21 }
def gX4_joinsIn_L14 (P : PS) (a1 : Int32) : Nat → Nat → Int32 → Int32
  | 0, i, x1 => x1
  | fu + 1, i, x1 => (if (gX1_isIn (nI i) (P.2.2 i) a1) = 0 then (gX4_joinsIn_L14 P a1 fu (i + 1) (x1 + 0)) else (gX4_joinsIn_L14 P a1 fu (i + 1) (x1 + 1)))
def gX4_joinsIn (P : PS) (a1 : Int32) : Int32 := (gX4_joinsIn_L14 P a1 16 0 0)
set_option maxHeartbeats 4000000 in
set_option maxRecDepth 100000 in
theorem mX4_joinsIn (l : Launch) (D : va_G) (ck : Nat → ClassId) (pa : Nat → Nat) (P : PS) (a1 : Int32) : xMi l yX4_joinsIn wsX4_joinsIn rmX4_joinsIn D ck [.ref (pa 0), .int a1] (poolW ck pa P) (poolW ck pa P) (gX4_joinsIn P a1) 0 0 := by
  refine xMet (by decide) rfl (Nat.le_of_ble_eq_true rfl) ?_
  intro zp ze s zm zb zt zc hx hb hr hml hown hts hlk hnm hN hK hP hD ls hl
  have hown : s.vm.findClass RX4 = some zm.cls := hown
  have hl : lv_has ls 7 [(0, .ref (pa 0)), (1, .int a1)] := hl
  have hS : va_S (va_A (poolW ck pa P) s.heap.size) s.heap s.heap [] := va_S.rf
  have hA : ∀ zq : Nat, s.heap.size ≤ zq → va_A (poolW ck pa P) s.heap.size zq := fun zq h => Or.inr h
  have hinX4 : ∀ w ∈ u_ws RX4 TX4 7, w ∈ wsX4_joinsIn := by decide +kernel
  refine lv_iconst (v := 0) hx hb dX4_joinsIn_0 (by decide) ?_
  refine lv_istore_n (lv' := [(2, .int 0), (0, .ref (pa 0)), (1, .int a1)]) hx hb dX4_joinsIn_1 rfl hl (by decide) rfl (fun ls hl => ?_)
  refine lv_aload_n hx hb dX4_joinsIn_2 rfl (lv_at hl 1 rfl) ?_
  refine va_get (D := D) (ci := 4) (v := .ref (pa 2)) (C := RX4) (T := TX4) (N := 7) hx hb hts hinX4 hown hK hP 0 rfl rfl 1 (by decide) (hts (.fieldLink RX4 25 "JoinGrants$Pool" "joins" "[LJoinGrants$Join;") (List.mem_of_getElem? (i := 1) rfl)) (fun _ h9 => h9) rfl dX4_joinsIn_3 ?_
  refine lv_astore_n (lv' := [(3, .ref (pa 2)), (2, .int 0), (0, .ref (pa 0)), (1, .int a1)]) hx hb dX4_joinsIn_6 rfl hl (by decide) rfl (fun ls hl => ?_)
  refine lv_aload_n hx hb dX4_joinsIn_7 rfl (lv_at hl 0 rfl) ?_
  refine va_alen hx hb hK hP 2 2 rfl rfl (v := (nI 16)) rfl dX4_joinsIn_8 ?_
  refine lv_istore (lv' := [(4, .int (nI 16)), (3, .ref (pa 2)), (2, .int 0), (0, .ref (pa 0)), (1, .int a1)]) hx hb dX4_joinsIn_9 hl (by decide) rfl (fun ls hl => ?_)
  refine lv_iconst (v := (nI 0)) hx hb dX4_joinsIn_11 (by decide) ?_
  refine lv_istore (lv' := [(5, .int (nI 0)), (4, .int (nI 16)), (3, .ref (pa 2)), (2, .int 0), (0, .ref (pa 0)), (1, .int a1)]) hx hb dX4_joinsIn_12 hl (by decide) rfl (fun ls hl => ?_)
  have loop14 : ∀ (fu : Nat) (i : Nat) (x1 : Int32), (i + fu = 16) → gX4_joinsIn P a1 = gX4_joinsIn_L14 P a1 fu i x1 → ∀ (H : Heap) (locs : List Loc) (ls : Array Slot), va_P D vwCl (poolW ck pa P) H → va_D (va_A (poolW ck pa P) s.heap.size) (poolW ck pa P) → va_S (va_A (poolW ck pa P) s.heap.size) s.heap H locs → lv_has ls 7 [(0, .ref (pa 0)), (1, .int a1), (2, .int x1), (3, .ref (pa 2)), (4, .int (nI 16)), (5, .int (nI i))] → W zp l ze rmX4_joinsIn s zm ([.ref (pa 0), .int a1] : List Value).toArray zb zt zc H locs 0 0 (MQ zb (xQi D (poolW ck pa P) (poolW ck pa P) (gX4_joinsIn P a1) s.heap.size) ([.ref (pa 0), .int a1] : List Value).toArray s 0 0 (va_A (poolW ck pa P) s.heap.size)) (F0 zm 14 ls []) := by
    intro fu
    induction fu with
    | zero =>
      intro i x1 hif hg H locs ls hP hD hS hl
      refine lv_iload hx hb dX4_joinsIn_14 (lv_at hl 5 rfl) ?_
      refine lv_iload hx hb dX4_joinsIn_16 (lv_at hl 4 rfl) ?_
      refine lv_icmp_ge (tgt := 50) hx hb dX4_joinsIn_18 (by decide) (fun c_18 => ?_) (fun c_18 => ?_)
      · --t
        refine lv_iload_n hx hb dX4_joinsIn_50 rfl (lv_at hl 2 rfl) ?_
        exact xiret hx hb hr hlk hP hD hS (hg.trans (show gX4_joinsIn_L14 P a1 0 i x1 = x1 from rfl)).symm rfl dX4_joinsIn_51
      · --f
        exact absurd (nI_le (by omega) (by omega)) c_18
    | succ fu ih14 =>
      intro i x1 hif hg H locs ls hP hD hS hl
      refine lv_iload hx hb dX4_joinsIn_14 (lv_at hl 5 rfl) ?_
      refine lv_iload hx hb dX4_joinsIn_16 (lv_at hl 4 rfl) ?_
      refine lv_icmp_ge (tgt := 50) hx hb dX4_joinsIn_18 (by decide) (fun c_18 => ?_) (fun c_18 => ?_)
      · --t
        exact absurd c_18 (nI_ge (by omega) (by omega))
      · --f
        refine lv_aload_n hx hb dX4_joinsIn_21 rfl (lv_at hl 3 rfl) ?_
        refine lv_iload hx hb dX4_joinsIn_22 (lv_at hl 5 rfl) ?_
        refine xaldq (j := i) (b := jA pa i) (nI_clamp (by omega)) hx hb hK hP 2 2 rfl rfl (vp_in_nI (by omega) (by omega)) rfl dX4_joinsIn_24 ?_
        refine lv_astore (lv' := [(6, .ref (jA pa i)), (0, .ref (pa 0)), (1, .int a1), (2, .int x1), (3, .ref (pa 2)), (4, .int (nI 16)), (5, .int (nI i))]) hx hb dX4_joinsIn_25 hl (by decide) rfl (fun ls hl => ?_)
        refine lv_iload_n hx hb dX4_joinsIn_27 rfl (lv_at hl 3 rfl) ?_
        refine lv_aload hx hb dX4_joinsIn_28 (lv_at hl 0 rfl) ?_
        refine lv_iload_n hx hb dX4_joinsIn_30 rfl (lv_at hl 2 rfl) ?_
        refine xreti (va_runV (As := [.int a1]) (rest := [.int x1]) ⟨hx, hb, hml, hown, hts⟩ (mX1_isIn l D ck (jA pa i) (qA pa i) (nI i) (P.2.2 i) a1 _) (cwV 1 hts gX4_joinsIn_X1_isIn rfl rfl rfl (by decide +kernel) ⟨Nat.le_of_ble_eq_true rfl, Nat.le_of_ble_eq_true rfl⟩) (xpreV hN hK hP hD (pm_pj (P := P) (by omega)) 0 rfl rfl rfl) rfl rfl hl.1 rfl (lv_room (Nat.le_of_ble_eq_true rfl)) dX4_joinsIn_31 ⟨Nat.le_of_ble_eq_true rfl, Nat.le_of_ble_eq_true rfl⟩) hP hD hS hA (pm_pj (P := P) (by omega)) (pm_pj (P := P) (by omega)).symm (fun H locs hP hD hS => ?_)
        refine lv_if_eq (tgt := 41) hx hb dX4_joinsIn_34 (by decide) (fun c_34 => ?_) (fun c_34 => ?_)
        · --t
          refine lv_iconst (v := 0) hx hb dX4_joinsIn_41 (by decide) ?_
          refine lv_iadd hx hb dX4_joinsIn_42 ?_
          refine lv_istore_n (lv' := [(2, .int (x1 + 0)), (6, .ref (jA pa i)), (0, .ref (pa 0)), (1, .int a1), (3, .ref (pa 2)), (4, .int (nI 16)), (5, .int (nI i))]) hx hb dX4_joinsIn_43 rfl hl (by decide) rfl (fun ls hl => ?_)
          refine lv_iinc (v := (nI (i + 1))) (lv' := [(5, .int (nI (i + 1))), (2, .int (x1 + 0)), (6, .ref (jA pa i)), (0, .ref (pa 0)), (1, .int a1), (3, .ref (pa 2)), (4, .int (nI 16))]) hx hb dX4_joinsIn_44 hl (k := 6) rfl (nI_1 i) (by decide) rfl (fun ls hl => ?_)
          refine lv_goto (tgt := 14) hx hb dX4_joinsIn_47 (by decide) ?_
          exact ih14 (i + 1) (x1 + 0) (by omega) (hg.trans (show gX4_joinsIn_L14 P a1 (fu + 1) i x1 = (gX4_joinsIn_L14 P a1 fu (i + 1) (x1 + 0)) from (Eq.trans (if_pos c_34) rfl))) _ _ _ hP hD hS (lv_sub hl [3, 4, 1, 5, 6, 0] rfl)
        · --f
          refine lv_iconst (v := 1) hx hb dX4_joinsIn_37 (by decide) ?_
          refine lv_goto (tgt := 42) hx hb dX4_joinsIn_38 (by decide) ?_
          refine lv_iadd hx hb dX4_joinsIn_42 ?_
          refine lv_istore_n (lv' := [(2, .int (x1 + 1)), (6, .ref (jA pa i)), (0, .ref (pa 0)), (1, .int a1), (3, .ref (pa 2)), (4, .int (nI 16)), (5, .int (nI i))]) hx hb dX4_joinsIn_43 rfl hl (by decide) rfl (fun ls hl => ?_)
          refine lv_iinc (v := (nI (i + 1))) (lv' := [(5, .int (nI (i + 1))), (2, .int (x1 + 1)), (6, .ref (jA pa i)), (0, .ref (pa 0)), (1, .int a1), (3, .ref (pa 2)), (4, .int (nI 16))]) hx hb dX4_joinsIn_44 hl (k := 6) rfl (nI_1 i) (by decide) rfl (fun ls hl => ?_)
          refine lv_goto (tgt := 14) hx hb dX4_joinsIn_47 (by decide) ?_
          exact ih14 (i + 1) (x1 + 1) (by omega) (hg.trans (show gX4_joinsIn_L14 P a1 (fu + 1) i x1 = (gX4_joinsIn_L14 P a1 fu (i + 1) (x1 + 1)) from (Eq.trans (if_neg c_34) rfl))) _ _ _ hP hD hS (lv_sub hl [3, 4, 1, 5, 6, 0] rfl)
  exact loop14 16 0 0 (by omega) (show gX4_joinsIn P a1 = (gX4_joinsIn_L14 P a1 16 0 0) from rfl) _ _ _ hP hD hS (lv_sub hl [4, 5, 3, 2, 1, 0] rfl)

def rmX4_free : Room := { frames := 2, cells := 0, slots := 0, locals := 45 }
def gX4_free (P : PS) : Int32 := (if 0 < ((gX4_setting P 0) - (gX4_granted P )) then ((gX4_setting P 0) - (gX4_granted P )) else 0)
set_option maxHeartbeats 4000000 in
set_option maxRecDepth 100000 in
theorem mX4_free (l : Launch) (D : va_G) (ck : Nat → ClassId) (pa : Nat → Nat) (P : PS) : xMi l yX4_free wsX4_free rmX4_free D ck [.ref (pa 0)] (poolW ck pa P) (poolW ck pa P) (gX4_free P) 0 0 := by
  refine xMet (by decide) rfl (Nat.le_of_ble_eq_true rfl) ?_
  intro zp ze s zm zb zt zc hx hb hr hml hown hts hlk hnm hN hK hP hD ls hl
  have hown : s.vm.findClass RX4 = some zm.cls := hown
  have hl : lv_has ls 1 [(0, .ref (pa 0))] := hl
  have hS : va_S (va_A (poolW ck pa P) s.heap.size) s.heap s.heap [] := va_S.rf
  have hA : ∀ zq : Nat, s.heap.size ≤ zq → va_A (poolW ck pa P) s.heap.size zq := fun zq h => Or.inr h
  refine lv_iconst (v := 0) hx hb dX4_free_0 (by decide) ?_
  refine lv_aload_n hx hb dX4_free_1 rfl (lv_at hl 0 rfl) ?_
  refine lv_iconst (v := 0) hx hb dX4_free_2 (by decide) ?_
  refine xreti (va_runV (As := [.int 0]) (rest := [.int 0]) ⟨hx, hb, hml, hown, hts⟩ (mX4_setting l D ck pa P 0  _) (cwV 1 hts gX4_free_X4_setting rfl rfl rfl (by decide +kernel) ⟨Nat.le_of_ble_eq_true rfl, Nat.le_of_ble_eq_true rfl⟩) (xpreV hN hK hP hD pm_all 0 rfl rfl rfl) rfl rfl hl.1 rfl (lv_room (Nat.le_of_ble_eq_true rfl)) dX4_free_3 ⟨Nat.le_of_ble_eq_true rfl, Nat.le_of_ble_eq_true rfl⟩) hP hD hS hA pm_all pm_all' (fun H locs hP hD hS => ?_)
  refine lv_aload_n hx hb dX4_free_6 rfl (lv_at hl 0 rfl) ?_
  refine xreti (va_runV (As := []) (rest := [.int (gX4_setting P 0), .int 0]) ⟨hx, hb, hml, hown, hts⟩ (mX4_granted l D ck pa P   _) (cwV 0 hts gX4_free_X4_granted rfl rfl rfl (by decide +kernel) ⟨Nat.le_of_ble_eq_true rfl, Nat.le_of_ble_eq_true rfl⟩) (xpreV hN hK hP hD pm_all 0 rfl rfl rfl) rfl rfl hl.1 rfl (lv_room (Nat.le_of_ble_eq_true rfl)) dX4_free_7 ⟨Nat.le_of_ble_eq_true rfl, Nat.le_of_ble_eq_true rfl⟩) hP hD hS hA pm_all pm_all' (fun H locs hP hD hS => ?_)
  refine lv_isub hx hb dX4_free_10 ?_
  refine va_mmax hx hb (hml.trans hl.1.symm) hown (hts (.methodLink RX4 98 Lib.Math.max.name) (List.mem_of_getElem? (i := 1) rfl)) (hts (.static Lib.Math.max.name) (List.mem_of_getElem? (i := 2) rfl)) (hts (.initialized "java/lang/Math") (List.mem_of_getElem? (i := 3) rfl)) (hts (.code Lib.Math.max.name Lib.Math.max.code 2 (some .int)) (List.mem_of_getElem? (i := 4) rfl)) (Nat.le_of_ble_eq_true rfl) (Nat.le_of_ble_eq_true rfl) (Nat.le_of_ble_eq_true rfl) (Nat.le_of_ble_eq_true rfl) dX4_free_11 ?_
  exact xiret hx hb hr hlk hP hD hS (show gX4_free P = (if 0 < ((gX4_setting P 0) - (gX4_granted P )) then ((gX4_setting P 0) - (gX4_granted P )) else 0) from rfl).symm rfl dX4_free_14

def rmX4_isAhead : Room := { frames := 1, cells := 0, slots := 0, locals := 21 }
def gX4_isAhead (P : PS) (a1 : Nat) (a2 : Nat) : Int32 := (if (gX4_setting P 1) = 1 then (if (gX1_need (nI a1) (P.2.2 a1) ) = (gX1_need (nI a2) (P.2.2 a2) ) then (if (gX1_number (nI a2) (P.2.2 a2) ) ≤ (gX1_number (nI a1) (P.2.2 a1) ) then 0 else 1) else (if (gX1_need (nI a2) (P.2.2 a2) ) ≤ (gX1_need (nI a1) (P.2.2 a1) ) then 0 else 1)) else (if (gX1_number (nI a2) (P.2.2 a2) ) ≤ (gX1_number (nI a1) (P.2.2 a1) ) then 0 else 1))
set_option maxHeartbeats 4000000 in
set_option maxRecDepth 100000 in
theorem mX4_isAhead (l : Launch) (D : va_G) (ck : Nat → ClassId) (pa : Nat → Nat) (P : PS) (a1 : Nat) (a2 : Nat) (h1 : a1 < 16) (h2 : a2 < 16) : xMi l yX4_isAhead wsX4_isAhead rmX4_isAhead D ck [.ref (pa 0), .ref (jA pa a1), .ref (jA pa a2)] (poolW ck pa P) (poolW ck pa P) (gX4_isAhead P a1 a2) 0 0 := by
  refine xMet (by decide) rfl (Nat.le_of_ble_eq_true rfl) ?_
  intro zp ze s zm zb zt zc hx hb hr hml hown hts hlk hnm hN hK hP hD ls hl
  have hown : s.vm.findClass RX4 = some zm.cls := hown
  have hl : lv_has ls 5 [(0, .ref (pa 0)), (1, .ref (jA pa a1)), (2, .ref (jA pa a2))] := hl
  have hS : va_S (va_A (poolW ck pa P) s.heap.size) s.heap s.heap [] := va_S.rf
  have hA : ∀ zq : Nat, s.heap.size ≤ zq → va_A (poolW ck pa P) s.heap.size zq := fun zq h => Or.inr h
  refine lv_aload_n hx hb dX4_isAhead_0 rfl (lv_at hl 1 rfl) ?_
  refine xreti (va_runV (As := []) (rest := []) ⟨hx, hb, hml, hown, hts⟩ (mX1_need l D ck (jA pa a1) (qA pa a1) (nI a1) (P.2.2 a1)  _) (cwV 0 hts gX4_isAhead_X1_need rfl rfl rfl (by decide +kernel) ⟨Nat.le_of_ble_eq_true rfl, Nat.le_of_ble_eq_true rfl⟩) (xpreV hN hK hP hD (pm_pj (P := P) (by omega)) 0 rfl rfl rfl) rfl rfl hl.1 rfl (lv_room (Nat.le_of_ble_eq_true rfl)) dX4_isAhead_1 ⟨Nat.le_of_ble_eq_true rfl, Nat.le_of_ble_eq_true rfl⟩) hP hD hS hA (pm_pj (P := P) (by omega)) (pm_pj (P := P) (by omega)).symm (fun H locs hP hD hS => ?_)
  refine lv_istore_n (lv' := [(3, .int (gX1_need (nI a1) (P.2.2 a1) )), (0, .ref (pa 0)), (1, .ref (jA pa a1)), (2, .ref (jA pa a2))]) hx hb dX4_isAhead_4 rfl hl (by decide) rfl (fun ls hl => ?_)
  refine lv_aload_n hx hb dX4_isAhead_5 rfl (lv_at hl 3 rfl) ?_
  refine xreti (va_runV (As := []) (rest := []) ⟨hx, hb, hml, hown, hts⟩ (mX1_need l D ck (jA pa a2) (qA pa a2) (nI a2) (P.2.2 a2)  _) (cwV 0 hts gX4_isAhead_X1_need rfl rfl rfl (by decide +kernel) ⟨Nat.le_of_ble_eq_true rfl, Nat.le_of_ble_eq_true rfl⟩) (xpreV hN hK hP hD (pm_pj (P := P) (by omega)) 0 rfl rfl rfl) rfl rfl hl.1 rfl (lv_room (Nat.le_of_ble_eq_true rfl)) dX4_isAhead_6 ⟨Nat.le_of_ble_eq_true rfl, Nat.le_of_ble_eq_true rfl⟩) hP hD hS hA (pm_pj (P := P) (by omega)) (pm_pj (P := P) (by omega)).symm (fun H locs hP hD hS => ?_)
  refine lv_istore (lv' := [(4, .int (gX1_need (nI a2) (P.2.2 a2) )), (3, .int (gX1_need (nI a1) (P.2.2 a1) )), (0, .ref (pa 0)), (1, .ref (jA pa a1)), (2, .ref (jA pa a2))]) hx hb dX4_isAhead_9 hl (by decide) rfl (fun ls hl => ?_)
  refine lv_aload_n hx hb dX4_isAhead_11 rfl (lv_at hl 2 rfl) ?_
  refine lv_iconst (v := 1) hx hb dX4_isAhead_12 (by decide) ?_
  refine xreti (va_runV (As := [.int 1]) (rest := []) ⟨hx, hb, hml, hown, hts⟩ (mX4_setting l D ck pa P 1  _) (cwV 1 hts gX4_isAhead_X4_setting rfl rfl rfl (by decide +kernel) ⟨Nat.le_of_ble_eq_true rfl, Nat.le_of_ble_eq_true rfl⟩) (xpreV hN hK hP hD pm_all 0 rfl rfl rfl) rfl rfl hl.1 rfl (lv_room (Nat.le_of_ble_eq_true rfl)) dX4_isAhead_13 ⟨Nat.le_of_ble_eq_true rfl, Nat.le_of_ble_eq_true rfl⟩) hP hD hS hA pm_all pm_all' (fun H locs hP hD hS => ?_)
  refine lv_iconst (v := 1) hx hb dX4_isAhead_16 (by decide) ?_
  refine lv_icmp_ne (tgt := 38) hx hb dX4_isAhead_17 (by decide) (fun c_17 => ?_) (fun c_17 => ?_)
  · --t
    refine lv_aload_n hx hb dX4_isAhead_38 rfl (lv_at hl 3 rfl) ?_
    refine xreti (va_runV (As := []) (rest := []) ⟨hx, hb, hml, hown, hts⟩ (mX1_number l D ck (jA pa a1) (qA pa a1) (nI a1) (P.2.2 a1)  _) (cwV 0 hts gX4_isAhead_X1_number rfl rfl rfl (by decide +kernel) ⟨Nat.le_of_ble_eq_true rfl, Nat.le_of_ble_eq_true rfl⟩) (xpreV hN hK hP hD (pm_pj (P := P) (by omega)) 0 rfl rfl rfl) rfl rfl hl.1 rfl (lv_room (Nat.le_of_ble_eq_true rfl)) dX4_isAhead_39 ⟨Nat.le_of_ble_eq_true rfl, Nat.le_of_ble_eq_true rfl⟩) hP hD hS hA (pm_pj (P := P) (by omega)) (pm_pj (P := P) (by omega)).symm (fun H locs hP hD hS => ?_)
    refine lv_aload_n hx hb dX4_isAhead_42 rfl (lv_at hl 4 rfl) ?_
    refine xreti (va_runV (As := []) (rest := [.int (gX1_number (nI a1) (P.2.2 a1) )]) ⟨hx, hb, hml, hown, hts⟩ (mX1_number l D ck (jA pa a2) (qA pa a2) (nI a2) (P.2.2 a2)  _) (cwV 0 hts gX4_isAhead_X1_number rfl rfl rfl (by decide +kernel) ⟨Nat.le_of_ble_eq_true rfl, Nat.le_of_ble_eq_true rfl⟩) (xpreV hN hK hP hD (pm_pj (P := P) (by omega)) 0 rfl rfl rfl) rfl rfl hl.1 rfl (lv_room (Nat.le_of_ble_eq_true rfl)) dX4_isAhead_43 ⟨Nat.le_of_ble_eq_true rfl, Nat.le_of_ble_eq_true rfl⟩) hP hD hS hA (pm_pj (P := P) (by omega)) (pm_pj (P := P) (by omega)).symm (fun H locs hP hD hS => ?_)
    refine lv_icmp_ge (tgt := 53) hx hb dX4_isAhead_46 (by decide) (fun c_46 => ?_) (fun c_46 => ?_)
    · --t
      refine lv_iconst (v := 0) hx hb dX4_isAhead_53 (by decide) ?_
      exact xzret hx hb hr hlk hP hD hS (Or.inl rfl) (show gX4_isAhead P a1 a2 = 0 from (Eq.trans (if_neg c_17) (Eq.trans (if_pos c_46) rfl))).symm rfl dX4_isAhead_54
    · --f
      refine lv_iconst (v := 1) hx hb dX4_isAhead_49 (by decide) ?_
      refine lv_goto (tgt := 54) hx hb dX4_isAhead_50 (by decide) ?_
      exact xzret hx hb hr hlk hP hD hS (Or.inr rfl) (show gX4_isAhead P a1 a2 = 1 from (Eq.trans (if_neg c_17) (Eq.trans (if_neg c_46) rfl))).symm rfl dX4_isAhead_54
  · --f
    refine lv_iload_n hx hb dX4_isAhead_20 rfl (lv_at hl 1 rfl) ?_
    refine lv_iload hx hb dX4_isAhead_21 (lv_at hl 0 rfl) ?_
    refine lv_icmp_eq (tgt := 38) hx hb dX4_isAhead_23 (by decide) (fun c_23 => ?_) (fun c_23 => ?_)
    · --t
      refine lv_aload_n hx hb dX4_isAhead_38 rfl (lv_at hl 3 rfl) ?_
      refine xreti (va_runV (As := []) (rest := []) ⟨hx, hb, hml, hown, hts⟩ (mX1_number l D ck (jA pa a1) (qA pa a1) (nI a1) (P.2.2 a1)  _) (cwV 0 hts gX4_isAhead_X1_number rfl rfl rfl (by decide +kernel) ⟨Nat.le_of_ble_eq_true rfl, Nat.le_of_ble_eq_true rfl⟩) (xpreV hN hK hP hD (pm_pj (P := P) (by omega)) 0 rfl rfl rfl) rfl rfl hl.1 rfl (lv_room (Nat.le_of_ble_eq_true rfl)) dX4_isAhead_39 ⟨Nat.le_of_ble_eq_true rfl, Nat.le_of_ble_eq_true rfl⟩) hP hD hS hA (pm_pj (P := P) (by omega)) (pm_pj (P := P) (by omega)).symm (fun H locs hP hD hS => ?_)
      refine lv_aload_n hx hb dX4_isAhead_42 rfl (lv_at hl 4 rfl) ?_
      refine xreti (va_runV (As := []) (rest := [.int (gX1_number (nI a1) (P.2.2 a1) )]) ⟨hx, hb, hml, hown, hts⟩ (mX1_number l D ck (jA pa a2) (qA pa a2) (nI a2) (P.2.2 a2)  _) (cwV 0 hts gX4_isAhead_X1_number rfl rfl rfl (by decide +kernel) ⟨Nat.le_of_ble_eq_true rfl, Nat.le_of_ble_eq_true rfl⟩) (xpreV hN hK hP hD (pm_pj (P := P) (by omega)) 0 rfl rfl rfl) rfl rfl hl.1 rfl (lv_room (Nat.le_of_ble_eq_true rfl)) dX4_isAhead_43 ⟨Nat.le_of_ble_eq_true rfl, Nat.le_of_ble_eq_true rfl⟩) hP hD hS hA (pm_pj (P := P) (by omega)) (pm_pj (P := P) (by omega)).symm (fun H locs hP hD hS => ?_)
      refine lv_icmp_ge (tgt := 53) hx hb dX4_isAhead_46 (by decide) (fun c_46 => ?_) (fun c_46 => ?_)
      · --t
        refine lv_iconst (v := 0) hx hb dX4_isAhead_53 (by decide) ?_
        exact xzret hx hb hr hlk hP hD hS (Or.inl rfl) (show gX4_isAhead P a1 a2 = 0 from (Eq.trans (if_pos c_17) (Eq.trans (if_pos c_23) (Eq.trans (if_pos c_46) rfl)))).symm rfl dX4_isAhead_54
      · --f
        refine lv_iconst (v := 1) hx hb dX4_isAhead_49 (by decide) ?_
        refine lv_goto (tgt := 54) hx hb dX4_isAhead_50 (by decide) ?_
        exact xzret hx hb hr hlk hP hD hS (Or.inr rfl) (show gX4_isAhead P a1 a2 = 1 from (Eq.trans (if_pos c_17) (Eq.trans (if_pos c_23) (Eq.trans (if_neg c_46) rfl)))).symm rfl dX4_isAhead_54
    · --f
      refine lv_iload_n hx hb dX4_isAhead_26 rfl (lv_at hl 1 rfl) ?_
      refine lv_iload hx hb dX4_isAhead_27 (lv_at hl 0 rfl) ?_
      refine lv_icmp_ge (tgt := 36) hx hb dX4_isAhead_29 (by decide) (fun c_29 => ?_) (fun c_29 => ?_)
      · --t
        refine lv_iconst (v := 0) hx hb dX4_isAhead_36 (by decide) ?_
        exact xzret hx hb hr hlk hP hD hS (Or.inl rfl) (show gX4_isAhead P a1 a2 = 0 from (Eq.trans (if_pos c_17) (Eq.trans (if_neg c_23) (Eq.trans (if_pos c_29) rfl)))).symm rfl dX4_isAhead_37
      · --f
        refine lv_iconst (v := 1) hx hb dX4_isAhead_32 (by decide) ?_
        refine lv_goto (tgt := 37) hx hb dX4_isAhead_33 (by decide) ?_
        exact xzret hx hb hr hlk hP hD hS (Or.inr rfl) (show gX4_isAhead P a1 a2 = 1 from (Eq.trans (if_pos c_17) (Eq.trans (if_neg c_23) (Eq.trans (if_neg c_29) rfl)))).symm rfl dX4_isAhead_37

def rmX4_rankOf : Room := { frames := 2, cells := 0, slots := 0, locals := 45 }
def gX4_rankOf_L14 (P : PS) (a1 : Nat) : Nat → Nat → Int32 → Int32
  | 0, i, x1 => x1
  | fu + 1, i, x1 => (if (gX1_isIn (nI i) (P.2.2 i) 0) = 0 then (gX4_rankOf_L14 P a1 fu (i + 1) x1) else (if (gX4_isAhead P i a1) = 0 then (gX4_rankOf_L14 P a1 fu (i + 1) x1) else (gX4_rankOf_L14 P a1 fu (i + 1) (x1 + 1))))
def gX4_rankOf (P : PS) (a1 : Nat) : Int32 := (gX4_rankOf_L14 P a1 16 0 0)
set_option maxHeartbeats 4000000 in
set_option maxRecDepth 100000 in
theorem mX4_rankOf (l : Launch) (D : va_G) (ck : Nat → ClassId) (pa : Nat → Nat) (P : PS) (a1 : Nat) (h1 : a1 < 16) : xMi l yX4_rankOf wsX4_rankOf rmX4_rankOf D ck [.ref (pa 0), .ref (jA pa a1)] (poolW ck pa P) (poolW ck pa P) (gX4_rankOf P a1) 0 0 := by
  refine xMet (by decide) rfl (Nat.le_of_ble_eq_true rfl) ?_
  intro zp ze s zm zb zt zc hx hb hr hml hown hts hlk hnm hN hK hP hD ls hl
  have hown : s.vm.findClass RX4 = some zm.cls := hown
  have hl : lv_has ls 7 [(0, .ref (pa 0)), (1, .ref (jA pa a1))] := hl
  have hS : va_S (va_A (poolW ck pa P) s.heap.size) s.heap s.heap [] := va_S.rf
  have hA : ∀ zq : Nat, s.heap.size ≤ zq → va_A (poolW ck pa P) s.heap.size zq := fun zq h => Or.inr h
  have hinX4 : ∀ w ∈ u_ws RX4 TX4 7, w ∈ wsX4_rankOf := by decide +kernel
  refine lv_iconst (v := 0) hx hb dX4_rankOf_0 (by decide) ?_
  refine lv_istore_n (lv' := [(2, .int 0), (0, .ref (pa 0)), (1, .ref (jA pa a1))]) hx hb dX4_rankOf_1 rfl hl (by decide) rfl (fun ls hl => ?_)
  refine lv_aload_n hx hb dX4_rankOf_2 rfl (lv_at hl 1 rfl) ?_
  refine va_get (D := D) (ci := 4) (v := .ref (pa 2)) (C := RX4) (T := TX4) (N := 7) hx hb hts hinX4 hown hK hP 0 rfl rfl 1 (by decide) (hts (.fieldLink RX4 25 "JoinGrants$Pool" "joins" "[LJoinGrants$Join;") (List.mem_of_getElem? (i := 1) rfl)) (fun _ h9 => h9) rfl dX4_rankOf_3 ?_
  refine lv_astore_n (lv' := [(3, .ref (pa 2)), (2, .int 0), (0, .ref (pa 0)), (1, .ref (jA pa a1))]) hx hb dX4_rankOf_6 rfl hl (by decide) rfl (fun ls hl => ?_)
  refine lv_aload_n hx hb dX4_rankOf_7 rfl (lv_at hl 0 rfl) ?_
  refine va_alen hx hb hK hP 2 2 rfl rfl (v := (nI 16)) rfl dX4_rankOf_8 ?_
  refine lv_istore (lv' := [(4, .int (nI 16)), (3, .ref (pa 2)), (2, .int 0), (0, .ref (pa 0)), (1, .ref (jA pa a1))]) hx hb dX4_rankOf_9 hl (by decide) rfl (fun ls hl => ?_)
  refine lv_iconst (v := (nI 0)) hx hb dX4_rankOf_11 (by decide) ?_
  refine lv_istore (lv' := [(5, .int (nI 0)), (4, .int (nI 16)), (3, .ref (pa 2)), (2, .int 0), (0, .ref (pa 0)), (1, .ref (jA pa a1))]) hx hb dX4_rankOf_12 hl (by decide) rfl (fun ls hl => ?_)
  have loop14 : ∀ (fu : Nat) (i : Nat) (x1 : Int32), (i + fu = 16) → gX4_rankOf P a1 = gX4_rankOf_L14 P a1 fu i x1 → ∀ (H : Heap) (locs : List Loc) (ls : Array Slot), va_P D vwCl (poolW ck pa P) H → va_D (va_A (poolW ck pa P) s.heap.size) (poolW ck pa P) → va_S (va_A (poolW ck pa P) s.heap.size) s.heap H locs → lv_has ls 7 [(0, .ref (pa 0)), (1, .ref (jA pa a1)), (2, .int x1), (3, .ref (pa 2)), (4, .int (nI 16)), (5, .int (nI i))] → W zp l ze rmX4_rankOf s zm ([.ref (pa 0), .ref (jA pa a1)] : List Value).toArray zb zt zc H locs 0 0 (MQ zb (xQi D (poolW ck pa P) (poolW ck pa P) (gX4_rankOf P a1) s.heap.size) ([.ref (pa 0), .ref (jA pa a1)] : List Value).toArray s 0 0 (va_A (poolW ck pa P) s.heap.size)) (F0 zm 14 ls []) := by
    intro fu
    induction fu with
    | zero =>
      intro i x1 hif hg H locs ls hP hD hS hl
      refine lv_iload hx hb dX4_rankOf_14 (lv_at hl 5 rfl) ?_
      refine lv_iload hx hb dX4_rankOf_16 (lv_at hl 4 rfl) ?_
      refine lv_icmp_ge (tgt := 55) hx hb dX4_rankOf_18 (by decide) (fun c_18 => ?_) (fun c_18 => ?_)
      · --t
        refine lv_iload_n hx hb dX4_rankOf_55 rfl (lv_at hl 2 rfl) ?_
        exact xiret hx hb hr hlk hP hD hS (hg.trans (show gX4_rankOf_L14 P a1 0 i x1 = x1 from rfl)).symm rfl dX4_rankOf_56
      · --f
        exact absurd (nI_le (by omega) (by omega)) c_18
    | succ fu ih14 =>
      intro i x1 hif hg H locs ls hP hD hS hl
      refine lv_iload hx hb dX4_rankOf_14 (lv_at hl 5 rfl) ?_
      refine lv_iload hx hb dX4_rankOf_16 (lv_at hl 4 rfl) ?_
      refine lv_icmp_ge (tgt := 55) hx hb dX4_rankOf_18 (by decide) (fun c_18 => ?_) (fun c_18 => ?_)
      · --t
        exact absurd c_18 (nI_ge (by omega) (by omega))
      · --f
        refine lv_aload_n hx hb dX4_rankOf_21 rfl (lv_at hl 3 rfl) ?_
        refine lv_iload hx hb dX4_rankOf_22 (lv_at hl 5 rfl) ?_
        refine xaldq (j := i) (b := jA pa i) (nI_clamp (by omega)) hx hb hK hP 2 2 rfl rfl (vp_in_nI (by omega) (by omega)) rfl dX4_rankOf_24 ?_
        refine lv_astore (lv' := [(6, .ref (jA pa i)), (0, .ref (pa 0)), (1, .ref (jA pa a1)), (2, .int x1), (3, .ref (pa 2)), (4, .int (nI 16)), (5, .int (nI i))]) hx hb dX4_rankOf_25 hl (by decide) rfl (fun ls hl => ?_)
        refine lv_aload hx hb dX4_rankOf_27 (lv_at hl 0 rfl) ?_
        refine lv_iconst (v := 0) hx hb dX4_rankOf_29 (by decide) ?_
        refine xreti (va_runV (As := [.int 0]) (rest := []) ⟨hx, hb, hml, hown, hts⟩ (mX1_isIn l D ck (jA pa i) (qA pa i) (nI i) (P.2.2 i) 0 _) (cwV 1 hts gX4_rankOf_X1_isIn rfl rfl rfl (by decide +kernel) ⟨Nat.le_of_ble_eq_true rfl, Nat.le_of_ble_eq_true rfl⟩) (xpreV hN hK hP hD (pm_pj (P := P) (by omega)) 0 rfl rfl rfl) rfl rfl hl.1 rfl (lv_room (Nat.le_of_ble_eq_true rfl)) dX4_rankOf_30 ⟨Nat.le_of_ble_eq_true rfl, Nat.le_of_ble_eq_true rfl⟩) hP hD hS hA (pm_pj (P := P) (by omega)) (pm_pj (P := P) (by omega)).symm (fun H locs hP hD hS => ?_)
        refine lv_if_eq (tgt := 49) hx hb dX4_rankOf_33 (by decide) (fun c_33 => ?_) (fun c_33 => ?_)
        · --t
          refine lv_iinc (v := (nI (i + 1))) (lv' := [(5, .int (nI (i + 1))), (6, .ref (jA pa i)), (0, .ref (pa 0)), (1, .ref (jA pa a1)), (2, .int x1), (3, .ref (pa 2)), (4, .int (nI 16))]) hx hb dX4_rankOf_49 hl (k := 6) rfl (nI_1 i) (by decide) rfl (fun ls hl => ?_)
          refine lv_goto (tgt := 14) hx hb dX4_rankOf_52 (by decide) ?_
          exact ih14 (i + 1) x1 (by omega) (hg.trans (show gX4_rankOf_L14 P a1 (fu + 1) i x1 = (gX4_rankOf_L14 P a1 fu (i + 1) x1) from (Eq.trans (if_pos c_33) rfl))) _ _ _ hP hD hS (lv_sub hl [2, 3, 4, 5, 6, 0] rfl)
        · --f
          refine lv_aload_n hx hb dX4_rankOf_36 rfl (lv_at hl 1 rfl) ?_
          refine lv_aload hx hb dX4_rankOf_37 (lv_at hl 0 rfl) ?_
          refine lv_aload_n hx hb dX4_rankOf_39 rfl (lv_at hl 2 rfl) ?_
          refine xreti (va_runV (As := [.ref (jA pa i), .ref (jA pa a1)]) (rest := []) ⟨hx, hb, hml, hown, hts⟩ (mX4_isAhead l D ck pa P i a1 (by omega) (by omega) _) (cwV 2 hts gX4_rankOf_X4_isAhead rfl rfl rfl (by decide +kernel) ⟨Nat.le_of_ble_eq_true rfl, Nat.le_of_ble_eq_true rfl⟩) (xpreV hN hK hP hD pm_all 0 rfl rfl rfl) rfl rfl hl.1 rfl (lv_room (Nat.le_of_ble_eq_true rfl)) dX4_rankOf_40 ⟨Nat.le_of_ble_eq_true rfl, Nat.le_of_ble_eq_true rfl⟩) hP hD hS hA pm_all pm_all' (fun H locs hP hD hS => ?_)
          refine lv_if_eq (tgt := 49) hx hb dX4_rankOf_43 (by decide) (fun c_43 => ?_) (fun c_43 => ?_)
          · --t
            refine lv_iinc (v := (nI (i + 1))) (lv' := [(5, .int (nI (i + 1))), (6, .ref (jA pa i)), (0, .ref (pa 0)), (1, .ref (jA pa a1)), (2, .int x1), (3, .ref (pa 2)), (4, .int (nI 16))]) hx hb dX4_rankOf_49 hl (k := 6) rfl (nI_1 i) (by decide) rfl (fun ls hl => ?_)
            refine lv_goto (tgt := 14) hx hb dX4_rankOf_52 (by decide) ?_
            exact ih14 (i + 1) x1 (by omega) (hg.trans (show gX4_rankOf_L14 P a1 (fu + 1) i x1 = (gX4_rankOf_L14 P a1 fu (i + 1) x1) from (Eq.trans (if_neg c_33) (Eq.trans (if_pos c_43) rfl)))) _ _ _ hP hD hS (lv_sub hl [2, 3, 4, 5, 6, 0] rfl)
          · --f
            refine lv_iinc (v := (x1 + 1)) (lv' := [(2, .int (x1 + 1)), (6, .ref (jA pa i)), (0, .ref (pa 0)), (1, .ref (jA pa a1)), (3, .ref (pa 2)), (4, .int (nI 16)), (5, .int (nI i))]) hx hb dX4_rankOf_46 hl (k := 3) rfl rfl (by decide) rfl (fun ls hl => ?_)
            refine lv_iinc (v := (nI (i + 1))) (lv' := [(5, .int (nI (i + 1))), (2, .int (x1 + 1)), (6, .ref (jA pa i)), (0, .ref (pa 0)), (1, .ref (jA pa a1)), (3, .ref (pa 2)), (4, .int (nI 16))]) hx hb dX4_rankOf_49 hl (k := 6) rfl (nI_1 i) (by decide) rfl (fun ls hl => ?_)
            refine lv_goto (tgt := 14) hx hb dX4_rankOf_52 (by decide) ?_
            exact ih14 (i + 1) (x1 + 1) (by omega) (hg.trans (show gX4_rankOf_L14 P a1 (fu + 1) i x1 = (gX4_rankOf_L14 P a1 fu (i + 1) (x1 + 1)) from (Eq.trans (if_neg c_33) (Eq.trans (if_neg c_43) rfl)))) _ _ _ hP hD hS (lv_sub hl [3, 4, 1, 5, 6, 0] rfl)
  exact loop14 16 0 0 (by omega) (show gX4_rankOf P a1 = (gX4_rankOf_L14 P a1 16 0 0) from rfl) _ _ _ hP hD hS (lv_sub hl [4, 5, 3, 2, 1, 0] rfl)

def rmX4_atRank : Room := { frames := 3, cells := 0, slots := 0, locals := 71 }
def gX4_atRank_L11 (P : PS) (a1 : Int32) : Nat → Nat → Option Nat
  | 0, i => none
  | fu + 1, i => (if (gX1_isIn (nI i) (P.2.2 i) 0) = 0 then (gX4_atRank_L11 P a1 fu (i + 1)) else (if (gX4_rankOf P i) = a1 then (some i) else (gX4_atRank_L11 P a1 fu (i + 1))))
def gX4_atRank (P : PS) (a1 : Int32) : Option Nat := (gX4_atRank_L11 P a1 16 0)
set_option maxHeartbeats 4000000 in
set_option maxRecDepth 100000 in
theorem mX4_atRank (l : Launch) (D : va_G) (ck : Nat → ClassId) (pa : Nat → Nat) (P : PS) (a1 : Int32) : xMq l yX4_atRank wsX4_atRank rmX4_atRank D ck [.ref (pa 0), .int a1] (poolW ck pa P) (poolW ck pa P) (Option.map (jA pa) (gX4_atRank P a1)) 0 0 := by
  refine xMet (by decide) rfl (Nat.le_of_ble_eq_true rfl) ?_
  intro zp ze s zm zb zt zc hx hb hr hml hown hts hlk hnm hN hK hP hD ls hl
  have hown : s.vm.findClass RX4 = some zm.cls := hown
  have hl : lv_has ls 6 [(0, .ref (pa 0)), (1, .int a1)] := hl
  have hS : va_S (va_A (poolW ck pa P) s.heap.size) s.heap s.heap [] := va_S.rf
  have hA : ∀ zq : Nat, s.heap.size ≤ zq → va_A (poolW ck pa P) s.heap.size zq := fun zq h => Or.inr h
  have hinX4 : ∀ w ∈ u_ws RX4 TX4 7, w ∈ wsX4_atRank := by decide +kernel
  refine lv_aload_n hx hb dX4_atRank_0 rfl (lv_at hl 0 rfl) ?_
  refine va_get (D := D) (ci := 4) (v := .ref (pa 2)) (C := RX4) (T := TX4) (N := 7) hx hb hts hinX4 hown hK hP 0 rfl rfl 1 (by decide) (hts (.fieldLink RX4 25 "JoinGrants$Pool" "joins" "[LJoinGrants$Join;") (List.mem_of_getElem? (i := 1) rfl)) (fun _ h9 => h9) rfl dX4_atRank_1 ?_
  refine lv_astore_n (lv' := [(2, .ref (pa 2)), (0, .ref (pa 0)), (1, .int a1)]) hx hb dX4_atRank_4 rfl hl (by decide) rfl (fun ls hl => ?_)
  refine lv_aload_n hx hb dX4_atRank_5 rfl (lv_at hl 0 rfl) ?_
  refine va_alen hx hb hK hP 2 2 rfl rfl (v := (nI 16)) rfl dX4_atRank_6 ?_
  refine lv_istore_n (lv' := [(3, .int (nI 16)), (2, .ref (pa 2)), (0, .ref (pa 0)), (1, .int a1)]) hx hb dX4_atRank_7 rfl hl (by decide) rfl (fun ls hl => ?_)
  refine lv_iconst (v := (nI 0)) hx hb dX4_atRank_8 (by decide) ?_
  refine lv_istore (lv' := [(4, .int (nI 0)), (3, .int (nI 16)), (2, .ref (pa 2)), (0, .ref (pa 0)), (1, .int a1)]) hx hb dX4_atRank_9 hl (by decide) rfl (fun ls hl => ?_)
  have loop11 : ∀ (fu : Nat) (i : Nat), (i + fu = 16) → gX4_atRank P a1 = gX4_atRank_L11 P a1 fu i → ∀ (H : Heap) (locs : List Loc) (ls : Array Slot), va_P D vwCl (poolW ck pa P) H → va_D (va_A (poolW ck pa P) s.heap.size) (poolW ck pa P) → va_S (va_A (poolW ck pa P) s.heap.size) s.heap H locs → lv_has ls 6 [(0, .ref (pa 0)), (1, .int a1), (2, .ref (pa 2)), (3, .int (nI 16)), (4, .int (nI i))] → W zp l ze rmX4_atRank s zm ([.ref (pa 0), .int a1] : List Value).toArray zb zt zc H locs 0 0 (MQ zb (xQq D (poolW ck pa P) (poolW ck pa P) (Option.map (jA pa) (gX4_atRank P a1)) s.heap.size) ([.ref (pa 0), .int a1] : List Value).toArray s 0 0 (va_A (poolW ck pa P) s.heap.size)) (F0 zm 11 ls []) := by
    intro fu
    induction fu with
    | zero =>
      intro i hif hg H locs ls hP hD hS hl
      refine lv_iload hx hb dX4_atRank_11 (lv_at hl 4 rfl) ?_
      refine lv_iload_n hx hb dX4_atRank_13 rfl (lv_at hl 3 rfl) ?_
      refine lv_icmp_ge (tgt := 51) hx hb dX4_atRank_14 (by decide) (fun c_14 => ?_) (fun c_14 => ?_)
      · --t
        refine lv_null hx hb dX4_atRank_51 ?_
        exact xqret (v := none) hx hb hr hlk hP hD hS (congrArg (fun z => Option.map (jA pa) z) (hg.trans (show gX4_atRank_L11 P a1 0 i = none from rfl))).symm rfl dX4_atRank_52
      · --f
        exact absurd (nI_le (by omega) (by omega)) c_14
    | succ fu ih11 =>
      intro i hif hg H locs ls hP hD hS hl
      refine lv_iload hx hb dX4_atRank_11 (lv_at hl 4 rfl) ?_
      refine lv_iload_n hx hb dX4_atRank_13 rfl (lv_at hl 3 rfl) ?_
      refine lv_icmp_ge (tgt := 51) hx hb dX4_atRank_14 (by decide) (fun c_14 => ?_) (fun c_14 => ?_)
      · --t
        exact absurd c_14 (nI_ge (by omega) (by omega))
      · --f
        refine lv_aload_n hx hb dX4_atRank_17 rfl (lv_at hl 2 rfl) ?_
        refine lv_iload hx hb dX4_atRank_18 (lv_at hl 4 rfl) ?_
        refine xaldq (j := i) (b := jA pa i) (nI_clamp (by omega)) hx hb hK hP 2 2 rfl rfl (vp_in_nI (by omega) (by omega)) rfl dX4_atRank_20 ?_
        refine lv_astore (lv' := [(5, .ref (jA pa i)), (0, .ref (pa 0)), (1, .int a1), (2, .ref (pa 2)), (3, .int (nI 16)), (4, .int (nI i))]) hx hb dX4_atRank_21 hl (by decide) rfl (fun ls hl => ?_)
        refine lv_aload hx hb dX4_atRank_23 (lv_at hl 0 rfl) ?_
        refine lv_iconst (v := 0) hx hb dX4_atRank_25 (by decide) ?_
        refine xreti (va_runV (As := [.int 0]) (rest := []) ⟨hx, hb, hml, hown, hts⟩ (mX1_isIn l D ck (jA pa i) (qA pa i) (nI i) (P.2.2 i) 0 _) (cwV 1 hts gX4_atRank_X1_isIn rfl rfl rfl (by decide +kernel) ⟨Nat.le_of_ble_eq_true rfl, Nat.le_of_ble_eq_true rfl⟩) (xpreV hN hK hP hD (pm_pj (P := P) (by omega)) 0 rfl rfl rfl) rfl rfl hl.1 rfl (lv_room (Nat.le_of_ble_eq_true rfl)) dX4_atRank_26 ⟨Nat.le_of_ble_eq_true rfl, Nat.le_of_ble_eq_true rfl⟩) hP hD hS hA (pm_pj (P := P) (by omega)) (pm_pj (P := P) (by omega)).symm (fun H locs hP hD hS => ?_)
        refine lv_if_eq (tgt := 45) hx hb dX4_atRank_29 (by decide) (fun c_29 => ?_) (fun c_29 => ?_)
        · --t
          refine lv_iinc (v := (nI (i + 1))) (lv' := [(4, .int (nI (i + 1))), (5, .ref (jA pa i)), (0, .ref (pa 0)), (1, .int a1), (2, .ref (pa 2)), (3, .int (nI 16))]) hx hb dX4_atRank_45 hl (k := 5) rfl (nI_1 i) (by decide) rfl (fun ls hl => ?_)
          refine lv_goto (tgt := 11) hx hb dX4_atRank_48 (by decide) ?_
          exact ih11 (i + 1) (by omega) (hg.trans (show gX4_atRank_L11 P a1 (fu + 1) i = (gX4_atRank_L11 P a1 fu (i + 1)) from (Eq.trans (if_pos c_29) rfl))) _ _ _ hP hD hS (lv_sub hl [2, 3, 4, 5, 0] rfl)
        · --f
          refine lv_aload_n hx hb dX4_atRank_32 rfl (lv_at hl 1 rfl) ?_
          refine lv_aload hx hb dX4_atRank_33 (lv_at hl 0 rfl) ?_
          refine xreti (va_runV (As := [.ref (jA pa i)]) (rest := []) ⟨hx, hb, hml, hown, hts⟩ (mX4_rankOf l D ck pa P i (by omega) _) (cwV 1 hts gX4_atRank_X4_rankOf rfl rfl rfl (by decide +kernel) ⟨Nat.le_of_ble_eq_true rfl, Nat.le_of_ble_eq_true rfl⟩) (xpreV hN hK hP hD pm_all 0 rfl rfl rfl) rfl rfl hl.1 rfl (lv_room (Nat.le_of_ble_eq_true rfl)) dX4_atRank_35 ⟨Nat.le_of_ble_eq_true rfl, Nat.le_of_ble_eq_true rfl⟩) hP hD hS hA pm_all pm_all' (fun H locs hP hD hS => ?_)
          refine lv_iload_n hx hb dX4_atRank_38 rfl (lv_at hl 2 rfl) ?_
          refine lv_icmp_ne (tgt := 45) hx hb dX4_atRank_39 (by decide) (fun c_39 => ?_) (fun c_39 => ?_)
          · --t
            refine lv_iinc (v := (nI (i + 1))) (lv' := [(4, .int (nI (i + 1))), (5, .ref (jA pa i)), (0, .ref (pa 0)), (1, .int a1), (2, .ref (pa 2)), (3, .int (nI 16))]) hx hb dX4_atRank_45 hl (k := 5) rfl (nI_1 i) (by decide) rfl (fun ls hl => ?_)
            refine lv_goto (tgt := 11) hx hb dX4_atRank_48 (by decide) ?_
            exact ih11 (i + 1) (by omega) (hg.trans (show gX4_atRank_L11 P a1 (fu + 1) i = (gX4_atRank_L11 P a1 fu (i + 1)) from (Eq.trans (if_neg c_29) (Eq.trans (if_neg c_39) rfl)))) _ _ _ hP hD hS (lv_sub hl [2, 3, 4, 5, 0] rfl)
          · --f
            refine lv_aload hx hb dX4_atRank_42 (lv_at hl 0 rfl) ?_
            exact xqret (v := (some (jA pa i))) hx hb hr hlk hP hD hS (congrArg (fun z => Option.map (jA pa) z) (hg.trans (show gX4_atRank_L11 P a1 (fu + 1) i = (some i) from (Eq.trans (if_neg c_29) (Eq.trans (if_pos c_39) rfl))))).symm rfl dX4_atRank_44
  exact loop11 16 0 (by omega) (show gX4_atRank P a1 = (gX4_atRank_L11 P a1 16 0) from rfl) _ _ _ hP hD hS (lv_sub hl [3, 4, 2, 1, 0] rfl)

theorem lt_X4_atRank_L {P : PS} {a1 : Int32} : ∀ (f i : Nat), i + f = 16 → ∀ j, gX4_atRank_L11 P a1 f i = some j → j < 16 := by
  intro f
  induction f with
  | zero => intro i hif j h; cases h
  | succ f ih =>
    intro i hif j h
    simp only [gX4_atRank_L11] at h
    (repeat' split at h) <;> first
      | exact ih _ (by omega) j h
      | (cases h; omega)
theorem lt_X4_atRank {P : PS} {a1 : Int32} (h : ¬ gX4_atRank P a1 = none) : (gX4_atRank P a1).getD 0 < 16 := xgetD (fun j hj => lt_X4_atRank_L 16 0 (by omega) j hj) h

def rmX4_hindrance : Room := { frames := 3, cells := 0, slots := 0, locals := 71 }
def gX4_hindrance (P : PS) (a1 : Nat) : Int32 := (if (gX1_isIn (nI a1) (P.2.2 a1) 0) = 0 then 0 else (if (gX1_need (nI a1) (P.2.2 a1) ) ≤ (gX4_setting P 0) then (if (gX4_rankOf P a1) ≤ 0 then 3 else 2) else 1))
set_option maxHeartbeats 4000000 in
set_option maxRecDepth 100000 in
theorem mX4_hindrance (l : Launch) (D : va_G) (ck : Nat → ClassId) (pa : Nat → Nat) (P : PS) (a1 : Nat) (h1 : a1 < 16) : xMi l yX4_hindrance wsX4_hindrance rmX4_hindrance D ck [.ref (pa 0), .ref (jA pa a1)] (poolW ck pa P) (poolW ck pa P) (gX4_hindrance P a1) 0 0 := by
  refine xMet (by decide) rfl (Nat.le_of_ble_eq_true rfl) ?_
  intro zp ze s zm zb zt zc hx hb hr hml hown hts hlk hnm hN hK hP hD ls hl
  have hown : s.vm.findClass RX4 = some zm.cls := hown
  have hl : lv_has ls 2 [(0, .ref (pa 0)), (1, .ref (jA pa a1))] := hl
  have hS : va_S (va_A (poolW ck pa P) s.heap.size) s.heap s.heap [] := va_S.rf
  have hA : ∀ zq : Nat, s.heap.size ≤ zq → va_A (poolW ck pa P) s.heap.size zq := fun zq h => Or.inr h
  refine lv_aload_n hx hb dX4_hindrance_0 rfl (lv_at hl 1 rfl) ?_
  refine lv_iconst (v := 0) hx hb dX4_hindrance_1 (by decide) ?_
  refine xreti (va_runV (As := [.int 0]) (rest := []) ⟨hx, hb, hml, hown, hts⟩ (mX1_isIn l D ck (jA pa a1) (qA pa a1) (nI a1) (P.2.2 a1) 0 _) (cwV 1 hts gX4_hindrance_X1_isIn rfl rfl rfl (by decide +kernel) ⟨Nat.le_of_ble_eq_true rfl, Nat.le_of_ble_eq_true rfl⟩) (xpreV hN hK hP hD (pm_pj (P := P) (by omega)) 0 rfl rfl rfl) rfl rfl hl.1 rfl (lv_room (Nat.le_of_ble_eq_true rfl)) dX4_hindrance_2 ⟨Nat.le_of_ble_eq_true rfl, Nat.le_of_ble_eq_true rfl⟩) hP hD hS hA (pm_pj (P := P) (by omega)) (pm_pj (P := P) (by omega)).symm (fun H locs hP hD hS => ?_)
  refine lv_if_ne (tgt := 10) hx hb dX4_hindrance_5 (by decide) (fun c_5 => ?_) (fun c_5 => ?_)
  · --t
    refine lv_aload_n hx hb dX4_hindrance_10 rfl (lv_at hl 1 rfl) ?_
    refine xreti (va_runV (As := []) (rest := []) ⟨hx, hb, hml, hown, hts⟩ (mX1_need l D ck (jA pa a1) (qA pa a1) (nI a1) (P.2.2 a1)  _) (cwV 0 hts gX4_hindrance_X1_need rfl rfl rfl (by decide +kernel) ⟨Nat.le_of_ble_eq_true rfl, Nat.le_of_ble_eq_true rfl⟩) (xpreV hN hK hP hD (pm_pj (P := P) (by omega)) 0 rfl rfl rfl) rfl rfl hl.1 rfl (lv_room (Nat.le_of_ble_eq_true rfl)) dX4_hindrance_11 ⟨Nat.le_of_ble_eq_true rfl, Nat.le_of_ble_eq_true rfl⟩) hP hD hS hA (pm_pj (P := P) (by omega)) (pm_pj (P := P) (by omega)).symm (fun H locs hP hD hS => ?_)
    refine lv_aload_n hx hb dX4_hindrance_14 rfl (lv_at hl 0 rfl) ?_
    refine lv_iconst (v := 0) hx hb dX4_hindrance_15 (by decide) ?_
    refine xreti (va_runV (As := [.int 0]) (rest := [.int (gX1_need (nI a1) (P.2.2 a1) )]) ⟨hx, hb, hml, hown, hts⟩ (mX4_setting l D ck pa P 0  _) (cwV 1 hts gX4_hindrance_X4_setting rfl rfl rfl (by decide +kernel) ⟨Nat.le_of_ble_eq_true rfl, Nat.le_of_ble_eq_true rfl⟩) (xpreV hN hK hP hD pm_all 0 rfl rfl rfl) rfl rfl hl.1 rfl (lv_room (Nat.le_of_ble_eq_true rfl)) dX4_hindrance_16 ⟨Nat.le_of_ble_eq_true rfl, Nat.le_of_ble_eq_true rfl⟩) hP hD hS hA pm_all pm_all' (fun H locs hP hD hS => ?_)
    refine lv_icmp_le (tgt := 24) hx hb dX4_hindrance_19 (by decide) (fun c_19 => ?_) (fun c_19 => ?_)
    · --t
      refine lv_aload_n hx hb dX4_hindrance_24 rfl (lv_at hl 0 rfl) ?_
      refine lv_aload_n hx hb dX4_hindrance_25 rfl (lv_at hl 1 rfl) ?_
      refine xreti (va_runV (As := [.ref (jA pa a1)]) (rest := []) ⟨hx, hb, hml, hown, hts⟩ (mX4_rankOf l D ck pa P a1 (by omega) _) (cwV 1 hts gX4_hindrance_X4_rankOf rfl rfl rfl (by decide +kernel) ⟨Nat.le_of_ble_eq_true rfl, Nat.le_of_ble_eq_true rfl⟩) (xpreV hN hK hP hD pm_all 0 rfl rfl rfl) rfl rfl hl.1 rfl (lv_room (Nat.le_of_ble_eq_true rfl)) dX4_hindrance_26 ⟨Nat.le_of_ble_eq_true rfl, Nat.le_of_ble_eq_true rfl⟩) hP hD hS hA pm_all pm_all' (fun H locs hP hD hS => ?_)
      refine lv_if_le (tgt := 36) hx hb dX4_hindrance_29 (by decide) (fun c_29 => ?_) (fun c_29 => ?_)
      · --t
        refine lv_iconst (v := 3) hx hb dX4_hindrance_36 (by decide) ?_
        exact xiret hx hb hr hlk hP hD hS (show gX4_hindrance P a1 = 3 from (Eq.trans (if_neg c_5) (Eq.trans (if_pos c_19) (Eq.trans (if_pos c_29) rfl)))).symm rfl dX4_hindrance_37
      · --f
        refine lv_iconst (v := 2) hx hb dX4_hindrance_32 (by decide) ?_
        refine lv_goto (tgt := 37) hx hb dX4_hindrance_33 (by decide) ?_
        exact xiret hx hb hr hlk hP hD hS (show gX4_hindrance P a1 = 2 from (Eq.trans (if_neg c_5) (Eq.trans (if_pos c_19) (Eq.trans (if_neg c_29) rfl)))).symm rfl dX4_hindrance_37
    · --f
      refine lv_iconst (v := 1) hx hb dX4_hindrance_22 (by decide) ?_
      exact xiret hx hb hr hlk hP hD hS (show gX4_hindrance P a1 = 1 from (Eq.trans (if_neg c_5) (Eq.trans (if_neg c_19) rfl))).symm rfl dX4_hindrance_23
  · --f
    refine lv_iconst (v := 0) hx hb dX4_hindrance_8 (by decide) ?_
    exact xiret hx hb hr hlk hP hD hS (show gX4_hindrance P a1 = 0 from (Eq.trans (if_pos c_5) rfl)).symm rfl dX4_hindrance_9

def rmX4_firstInQueue : Room := { frames := 2, cells := 0, slots := 0, locals := 45 }
def gX4_firstInQueue_L13 (P : PS) : Nat → Nat → Option Nat → Option Nat
  | 0, i, o1 => (if o1 = none then none else (some (o1.getD 0)))
  | fu + 1, i, o1 => (if o1 = none then (if (gX1_isIn (nI i) (P.2.2 i) 0) = 0 then (gX4_firstInQueue_L13 P fu (i + 1) none) else (gX4_firstInQueue_L13 P fu (i + 1) (some i))) else (if (gX1_isIn (nI i) (P.2.2 i) 0) = 0 then (gX4_firstInQueue_L13 P fu (i + 1) (some (o1.getD 0))) else (if (gX4_isAhead P i (o1.getD 0)) = 0 then (gX4_firstInQueue_L13 P fu (i + 1) (some (o1.getD 0))) else (gX4_firstInQueue_L13 P fu (i + 1) (some i)))))
def gX4_firstInQueue (P : PS) : Option Nat := (gX4_firstInQueue_L13 P 16 0 none)
set_option maxHeartbeats 4000000 in
set_option maxRecDepth 100000 in
theorem mX4_firstInQueue (l : Launch) (D : va_G) (ck : Nat → ClassId) (pa : Nat → Nat) (P : PS) : xMq l yX4_firstInQueue wsX4_firstInQueue rmX4_firstInQueue D ck [.ref (pa 0)] (poolW ck pa P) (poolW ck pa P) (Option.map (jA pa) (gX4_firstInQueue P)) 0 0 := by
  refine xMet (by decide) rfl (Nat.le_of_ble_eq_true rfl) ?_
  intro zp ze s zm zb zt zc hx hb hr hml hown hts hlk hnm hN hK hP hD ls hl
  have hown : s.vm.findClass RX4 = some zm.cls := hown
  have hl : lv_has ls 6 [(0, .ref (pa 0))] := hl
  have hS : va_S (va_A (poolW ck pa P) s.heap.size) s.heap s.heap [] := va_S.rf
  have hA : ∀ zq : Nat, s.heap.size ≤ zq → va_A (poolW ck pa P) s.heap.size zq := fun zq h => Or.inr h
  have hinX4 : ∀ w ∈ u_ws RX4 TX4 7, w ∈ wsX4_firstInQueue := by decide +kernel
  refine lv_null hx hb dX4_firstInQueue_0 ?_
  refine lv_astore_nN (lv' := [(1, .null), (0, .ref (pa 0))]) hx hb dX4_firstInQueue_1 rfl hl (by decide) rfl (fun ls hl => ?_)
  refine lv_aload_n hx hb dX4_firstInQueue_2 rfl (lv_at hl 1 rfl) ?_
  refine va_get (D := D) (ci := 4) (v := .ref (pa 2)) (C := RX4) (T := TX4) (N := 7) hx hb hts hinX4 hown hK hP 0 rfl rfl 1 (by decide) (hts (.fieldLink RX4 25 "JoinGrants$Pool" "joins" "[LJoinGrants$Join;") (List.mem_of_getElem? (i := 1) rfl)) (fun _ h9 => h9) rfl dX4_firstInQueue_3 ?_
  refine lv_astore_n (lv' := [(2, .ref (pa 2)), (1, .null), (0, .ref (pa 0))]) hx hb dX4_firstInQueue_6 rfl hl (by decide) rfl (fun ls hl => ?_)
  refine lv_aload_n hx hb dX4_firstInQueue_7 rfl (lv_at hl 0 rfl) ?_
  refine va_alen hx hb hK hP 2 2 rfl rfl (v := (nI 16)) rfl dX4_firstInQueue_8 ?_
  refine lv_istore_n (lv' := [(3, .int (nI 16)), (2, .ref (pa 2)), (1, .null), (0, .ref (pa 0))]) hx hb dX4_firstInQueue_9 rfl hl (by decide) rfl (fun ls hl => ?_)
  refine lv_iconst (v := (nI 0)) hx hb dX4_firstInQueue_10 (by decide) ?_
  refine lv_istore (lv' := [(4, .int (nI 0)), (3, .int (nI 16)), (2, .ref (pa 2)), (1, .null), (0, .ref (pa 0))]) hx hb dX4_firstInQueue_11 hl (by decide) rfl (fun ls hl => ?_)
  have loop13 : ∀ (fu : Nat) (i : Nat) (o1 : Option Nat), (i + fu = 16) → (∀ j, o1 = some j → j < 16) → gX4_firstInQueue P = gX4_firstInQueue_L13 P fu i o1 → ∀ (H : Heap) (locs : List Loc) (ls : Array Slot), va_P D vwCl (poolW ck pa P) H → va_D (va_A (poolW ck pa P) s.heap.size) (poolW ck pa P) → va_S (va_A (poolW ck pa P) s.heap.size) s.heap H locs → lv_has ls 6 [(0, .ref (pa 0)), (1, (va_rf (Option.map (jA pa) o1))), (2, .ref (pa 2)), (3, .int (nI 16)), (4, .int (nI i))] → W zp l ze rmX4_firstInQueue s zm ([.ref (pa 0)] : List Value).toArray zb zt zc H locs 0 0 (MQ zb (xQq D (poolW ck pa P) (poolW ck pa P) (Option.map (jA pa) (gX4_firstInQueue P)) s.heap.size) ([.ref (pa 0)] : List Value).toArray s 0 0 (va_A (poolW ck pa P) s.heap.size)) (F0 zm 13 ls []) := by
    intro fu
    induction fu with
    | zero =>
      intro i o1 hif ho hg H locs ls hP hD hS hl
      by_cases co : o1 = none
      ·
        rw [xrf_none co] at hl
        refine lv_iload hx hb dX4_firstInQueue_13 (lv_at hl 4 rfl) ?_
        refine lv_iload_n hx hb dX4_firstInQueue_15 rfl (lv_at hl 3 rfl) ?_
        refine lv_icmp_ge (tgt := 57) hx hb dX4_firstInQueue_16 (by decide) (fun c_16 => ?_) (fun c_16 => ?_)
        · --t
          refine lv_aload_nN hx hb dX4_firstInQueue_57 rfl (lv_at hl 1 rfl) ?_
          exact xqret (v := none) hx hb hr hlk hP hD hS (congrArg (fun z => Option.map (jA pa) z) (hg.trans (show gX4_firstInQueue_L13 P 0 i o1 = none from (Eq.trans (if_pos co) rfl)))).symm rfl dX4_firstInQueue_58
        · --f
          exact absurd (nI_le (by omega) (by omega)) c_16
      ·
        rw [xrf_some co] at hl
        have hlt : o1.getD 0 < 16 := xgetD ho co
        refine lv_iload hx hb dX4_firstInQueue_13 (lv_at hl 4 rfl) ?_
        refine lv_iload_n hx hb dX4_firstInQueue_15 rfl (lv_at hl 3 rfl) ?_
        refine lv_icmp_ge (tgt := 57) hx hb dX4_firstInQueue_16 (by decide) (fun c_16 => ?_) (fun c_16 => ?_)
        · --t
          refine lv_aload_n hx hb dX4_firstInQueue_57 rfl (lv_at hl 1 rfl) ?_
          exact xqret (v := (some (jA pa (o1.getD 0)))) hx hb hr hlk hP hD hS (congrArg (fun z => Option.map (jA pa) z) (hg.trans (show gX4_firstInQueue_L13 P 0 i o1 = (some (o1.getD 0)) from (Eq.trans (if_neg co) rfl)))).symm rfl dX4_firstInQueue_58
        · --f
          exact absurd (nI_le (by omega) (by omega)) c_16
    | succ fu ih13 =>
      intro i o1 hif ho hg H locs ls hP hD hS hl
      by_cases co : o1 = none
      ·
        rw [xrf_none co] at hl
        refine lv_iload hx hb dX4_firstInQueue_13 (lv_at hl 4 rfl) ?_
        refine lv_iload_n hx hb dX4_firstInQueue_15 rfl (lv_at hl 3 rfl) ?_
        refine lv_icmp_ge (tgt := 57) hx hb dX4_firstInQueue_16 (by decide) (fun c_16 => ?_) (fun c_16 => ?_)
        · --t
          exact absurd c_16 (nI_ge (by omega) (by omega))
        · --f
          refine lv_aload_n hx hb dX4_firstInQueue_19 rfl (lv_at hl 2 rfl) ?_
          refine lv_iload hx hb dX4_firstInQueue_20 (lv_at hl 4 rfl) ?_
          refine xaldq (j := i) (b := jA pa i) (nI_clamp (by omega)) hx hb hK hP 2 2 rfl rfl (vp_in_nI (by omega) (by omega)) rfl dX4_firstInQueue_22 ?_
          refine lv_astore (lv' := [(5, .ref (jA pa i)), (0, .ref (pa 0)), (1, .null), (2, .ref (pa 2)), (3, .int (nI 16)), (4, .int (nI i))]) hx hb dX4_firstInQueue_23 hl (by decide) rfl (fun ls hl => ?_)
          refine lv_aload hx hb dX4_firstInQueue_25 (lv_at hl 0 rfl) ?_
          refine lv_iconst (v := 0) hx hb dX4_firstInQueue_27 (by decide) ?_
          refine xreti (va_runV (As := [.int 0]) (rest := []) ⟨hx, hb, hml, hown, hts⟩ (mX1_isIn l D ck (jA pa i) (qA pa i) (nI i) (P.2.2 i) 0 _) (cwV 1 hts gX4_firstInQueue_X1_isIn rfl rfl rfl (by decide +kernel) ⟨Nat.le_of_ble_eq_true rfl, Nat.le_of_ble_eq_true rfl⟩) (xpreV hN hK hP hD (pm_pj (P := P) (by omega)) 0 rfl rfl rfl) rfl rfl hl.1 rfl (lv_room (Nat.le_of_ble_eq_true rfl)) dX4_firstInQueue_28 ⟨Nat.le_of_ble_eq_true rfl, Nat.le_of_ble_eq_true rfl⟩) hP hD hS hA (pm_pj (P := P) (by omega)) (pm_pj (P := P) (by omega)).symm (fun H locs hP hD hS => ?_)
          refine lv_if_eq (tgt := 51) hx hb dX4_firstInQueue_31 (by decide) (fun c_31 => ?_) (fun c_31 => ?_)
          · --t
            refine lv_iinc (v := (nI (i + 1))) (lv' := [(4, .int (nI (i + 1))), (5, .ref (jA pa i)), (0, .ref (pa 0)), (1, .null), (2, .ref (pa 2)), (3, .int (nI 16))]) hx hb dX4_firstInQueue_51 hl (k := 5) rfl (nI_1 i) (by decide) rfl (fun ls hl => ?_)
            refine lv_goto (tgt := 13) hx hb dX4_firstInQueue_54 (by decide) ?_
            exact ih13 (i + 1) none (by omega) (fun j h => by cases h) (hg.trans (show gX4_firstInQueue_L13 P (fu + 1) i o1 = (gX4_firstInQueue_L13 P fu (i + 1) none) from (Eq.trans (if_pos co) (Eq.trans (if_pos c_31) rfl)))) _ _ _ hP hD hS (lv_sub hl [2, 3, 4, 5, 0] rfl)
          · --f
            refine lv_aload_nN hx hb dX4_firstInQueue_34 rfl (lv_at hl 2 rfl) ?_
            refine lv_ifnullN (tgt := 48) hx hb dX4_firstInQueue_35 (by decide) ?_
            refine lv_aload hx hb dX4_firstInQueue_48 (lv_at hl 0 rfl) ?_
            refine lv_astore_n (lv' := [(1, .ref (jA pa i)), (5, .ref (jA pa i)), (0, .ref (pa 0)), (2, .ref (pa 2)), (3, .int (nI 16)), (4, .int (nI i))]) hx hb dX4_firstInQueue_50 rfl hl (by decide) rfl (fun ls hl => ?_)
            refine lv_iinc (v := (nI (i + 1))) (lv' := [(4, .int (nI (i + 1))), (1, .ref (jA pa i)), (5, .ref (jA pa i)), (0, .ref (pa 0)), (2, .ref (pa 2)), (3, .int (nI 16))]) hx hb dX4_firstInQueue_51 hl (k := 5) rfl (nI_1 i) (by decide) rfl (fun ls hl => ?_)
            refine lv_goto (tgt := 13) hx hb dX4_firstInQueue_54 (by decide) ?_
            exact ih13 (i + 1) (some i) (by omega) (fun j h => by cases h; omega) (hg.trans (show gX4_firstInQueue_L13 P (fu + 1) i o1 = (gX4_firstInQueue_L13 P fu (i + 1) (some i)) from (Eq.trans (if_pos co) (Eq.trans (if_neg c_31) rfl)))) _ _ _ hP hD hS (lv_sub hl [3, 1, 4, 5, 0] rfl)
      ·
        rw [xrf_some co] at hl
        have hlt : o1.getD 0 < 16 := xgetD ho co
        refine lv_iload hx hb dX4_firstInQueue_13 (lv_at hl 4 rfl) ?_
        refine lv_iload_n hx hb dX4_firstInQueue_15 rfl (lv_at hl 3 rfl) ?_
        refine lv_icmp_ge (tgt := 57) hx hb dX4_firstInQueue_16 (by decide) (fun c_16 => ?_) (fun c_16 => ?_)
        · --t
          exact absurd c_16 (nI_ge (by omega) (by omega))
        · --f
          refine lv_aload_n hx hb dX4_firstInQueue_19 rfl (lv_at hl 2 rfl) ?_
          refine lv_iload hx hb dX4_firstInQueue_20 (lv_at hl 4 rfl) ?_
          refine xaldq (j := i) (b := jA pa i) (nI_clamp (by omega)) hx hb hK hP 2 2 rfl rfl (vp_in_nI (by omega) (by omega)) rfl dX4_firstInQueue_22 ?_
          refine lv_astore (lv' := [(5, .ref (jA pa i)), (0, .ref (pa 0)), (1, .ref (jA pa (o1.getD 0))), (2, .ref (pa 2)), (3, .int (nI 16)), (4, .int (nI i))]) hx hb dX4_firstInQueue_23 hl (by decide) rfl (fun ls hl => ?_)
          refine lv_aload hx hb dX4_firstInQueue_25 (lv_at hl 0 rfl) ?_
          refine lv_iconst (v := 0) hx hb dX4_firstInQueue_27 (by decide) ?_
          refine xreti (va_runV (As := [.int 0]) (rest := []) ⟨hx, hb, hml, hown, hts⟩ (mX1_isIn l D ck (jA pa i) (qA pa i) (nI i) (P.2.2 i) 0 _) (cwV 1 hts gX4_firstInQueue_X1_isIn rfl rfl rfl (by decide +kernel) ⟨Nat.le_of_ble_eq_true rfl, Nat.le_of_ble_eq_true rfl⟩) (xpreV hN hK hP hD (pm_pj (P := P) (by omega)) 0 rfl rfl rfl) rfl rfl hl.1 rfl (lv_room (Nat.le_of_ble_eq_true rfl)) dX4_firstInQueue_28 ⟨Nat.le_of_ble_eq_true rfl, Nat.le_of_ble_eq_true rfl⟩) hP hD hS hA (pm_pj (P := P) (by omega)) (pm_pj (P := P) (by omega)).symm (fun H locs hP hD hS => ?_)
          refine lv_if_eq (tgt := 51) hx hb dX4_firstInQueue_31 (by decide) (fun c_31 => ?_) (fun c_31 => ?_)
          · --t
            refine lv_iinc (v := (nI (i + 1))) (lv' := [(4, .int (nI (i + 1))), (5, .ref (jA pa i)), (0, .ref (pa 0)), (1, .ref (jA pa (o1.getD 0))), (2, .ref (pa 2)), (3, .int (nI 16))]) hx hb dX4_firstInQueue_51 hl (k := 5) rfl (nI_1 i) (by decide) rfl (fun ls hl => ?_)
            refine lv_goto (tgt := 13) hx hb dX4_firstInQueue_54 (by decide) ?_
            exact ih13 (i + 1) (some (o1.getD 0)) (by omega) (fun j h => by cases h; omega) (hg.trans (show gX4_firstInQueue_L13 P (fu + 1) i o1 = (gX4_firstInQueue_L13 P fu (i + 1) (some (o1.getD 0))) from (Eq.trans (if_neg co) (Eq.trans (if_pos c_31) rfl)))) _ _ _ hP hD hS (lv_sub hl [2, 3, 4, 5, 0] rfl)
          · --f
            refine lv_aload_n hx hb dX4_firstInQueue_34 rfl (lv_at hl 2 rfl) ?_
            refine lv_ifnull hx hb dX4_firstInQueue_35 ?_
            refine lv_aload_n hx hb dX4_firstInQueue_38 rfl (lv_at hl 1 rfl) ?_
            refine lv_aload hx hb dX4_firstInQueue_39 (lv_at hl 0 rfl) ?_
            refine lv_aload_n hx hb dX4_firstInQueue_41 rfl (lv_at hl 2 rfl) ?_
            refine xreti (va_runV (As := [.ref (jA pa i), .ref (jA pa (o1.getD 0))]) (rest := []) ⟨hx, hb, hml, hown, hts⟩ (mX4_isAhead l D ck pa P i (o1.getD 0) (by omega) (by omega) _) (cwV 2 hts gX4_firstInQueue_X4_isAhead rfl rfl rfl (by decide +kernel) ⟨Nat.le_of_ble_eq_true rfl, Nat.le_of_ble_eq_true rfl⟩) (xpreV hN hK hP hD pm_all 0 rfl rfl rfl) rfl rfl hl.1 rfl (lv_room (Nat.le_of_ble_eq_true rfl)) dX4_firstInQueue_42 ⟨Nat.le_of_ble_eq_true rfl, Nat.le_of_ble_eq_true rfl⟩) hP hD hS hA pm_all pm_all' (fun H locs hP hD hS => ?_)
            refine lv_if_eq (tgt := 51) hx hb dX4_firstInQueue_45 (by decide) (fun c_45 => ?_) (fun c_45 => ?_)
            · --t
              refine lv_iinc (v := (nI (i + 1))) (lv' := [(4, .int (nI (i + 1))), (5, .ref (jA pa i)), (0, .ref (pa 0)), (1, .ref (jA pa (o1.getD 0))), (2, .ref (pa 2)), (3, .int (nI 16))]) hx hb dX4_firstInQueue_51 hl (k := 5) rfl (nI_1 i) (by decide) rfl (fun ls hl => ?_)
              refine lv_goto (tgt := 13) hx hb dX4_firstInQueue_54 (by decide) ?_
              exact ih13 (i + 1) (some (o1.getD 0)) (by omega) (fun j h => by cases h; omega) (hg.trans (show gX4_firstInQueue_L13 P (fu + 1) i o1 = (gX4_firstInQueue_L13 P fu (i + 1) (some (o1.getD 0))) from (Eq.trans (if_neg co) (Eq.trans (if_neg c_31) (Eq.trans (if_pos c_45) rfl))))) _ _ _ hP hD hS (lv_sub hl [2, 3, 4, 5, 0] rfl)
            · --f
              refine lv_aload hx hb dX4_firstInQueue_48 (lv_at hl 0 rfl) ?_
              refine lv_astore_n (lv' := [(1, .ref (jA pa i)), (5, .ref (jA pa i)), (0, .ref (pa 0)), (2, .ref (pa 2)), (3, .int (nI 16)), (4, .int (nI i))]) hx hb dX4_firstInQueue_50 rfl hl (by decide) rfl (fun ls hl => ?_)
              refine lv_iinc (v := (nI (i + 1))) (lv' := [(4, .int (nI (i + 1))), (1, .ref (jA pa i)), (5, .ref (jA pa i)), (0, .ref (pa 0)), (2, .ref (pa 2)), (3, .int (nI 16))]) hx hb dX4_firstInQueue_51 hl (k := 5) rfl (nI_1 i) (by decide) rfl (fun ls hl => ?_)
              refine lv_goto (tgt := 13) hx hb dX4_firstInQueue_54 (by decide) ?_
              exact ih13 (i + 1) (some i) (by omega) (fun j h => by cases h; omega) (hg.trans (show gX4_firstInQueue_L13 P (fu + 1) i o1 = (gX4_firstInQueue_L13 P fu (i + 1) (some i)) from (Eq.trans (if_neg co) (Eq.trans (if_neg c_31) (Eq.trans (if_neg c_45) rfl))))) _ _ _ hP hD hS (lv_sub hl [3, 1, 4, 5, 0] rfl)
  exact loop13 16 0 none (by omega) (fun j h => by cases h) (show gX4_firstInQueue P = (gX4_firstInQueue_L13 P 16 0 none) from rfl) _ _ _ hP hD hS (lv_sub hl [4, 3, 2, 1, 0] rfl)

theorem lt_X4_firstInQueue_L {P : PS} : ∀ (f i : Nat) (o1 : Option Nat), i + f = 16 → (∀ j, o1 = some j → j < 16) → ∀ j, gX4_firstInQueue_L13 P f i o1 = some j → j < 16 := by
  intro f
  induction f with
  | zero =>
    intro i o1 hif ho j h
    by_cases co : o1 = none
    · have e : gX4_firstInQueue_L13 P 0 i o1 = none := if_pos co
      rw [e] at h; cases h
    · have e : gX4_firstInQueue_L13 P 0 i o1 = some (o1.getD 0) := if_neg co
      rw [e] at h; cases h; exact xgetD ho co
  | succ f ih =>
    intro i o1 hif ho j h
    simp only [gX4_firstInQueue_L13] at h
    (repeat' split at h) <;> (refine ih _ _ (by omega) ?_ j h <;> intro k hk <;> cases hk <;> first | omega | (apply xgetD ho; assumption))
theorem lt_X4_firstInQueue {P : PS} (h : ¬ gX4_firstInQueue P = none) : (gX4_firstInQueue P).getD 0 < 16 := xgetD (fun j hj => lt_X4_firstInQueue_L 16 0 none (by omega) (fun _ h => by cases h) j hj) h

def rmX4_richest : Room := { frames := 1, cells := 0, slots := 0, locals := 20 }
def gX4_richest_L13 (P : PS) : Nat → Nat → Option Nat → Option Nat
  | 0, i, o1 => (if o1 = none then none else (some (o1.getD 0)))
  | fu + 1, i, o1 => (if o1 = none then (gX4_richest_L13 P fu (i + 1) (some i)) else (if (gX1_surplus (nI i) (P.2.2 i) ) ≤ (gX1_surplus (nI (o1.getD 0)) (P.2.2 (o1.getD 0)) ) then (gX4_richest_L13 P fu (i + 1) (some (o1.getD 0))) else (gX4_richest_L13 P fu (i + 1) (some i))))
def gX4_richest (P : PS) : Option Nat := (gX4_richest_L13 P 16 0 none)
set_option maxHeartbeats 4000000 in
set_option maxRecDepth 100000 in
theorem mX4_richest (l : Launch) (D : va_G) (ck : Nat → ClassId) (pa : Nat → Nat) (P : PS) : xMq l yX4_richest wsX4_richest rmX4_richest D ck [.ref (pa 0)] (poolW ck pa P) (poolW ck pa P) (Option.map (jA pa) (gX4_richest P)) 0 0 := by
  refine xMet (by decide) rfl (Nat.le_of_ble_eq_true rfl) ?_
  intro zp ze s zm zb zt zc hx hb hr hml hown hts hlk hnm hN hK hP hD ls hl
  have hown : s.vm.findClass RX4 = some zm.cls := hown
  have hl : lv_has ls 6 [(0, .ref (pa 0))] := hl
  have hS : va_S (va_A (poolW ck pa P) s.heap.size) s.heap s.heap [] := va_S.rf
  have hA : ∀ zq : Nat, s.heap.size ≤ zq → va_A (poolW ck pa P) s.heap.size zq := fun zq h => Or.inr h
  have hinX4 : ∀ w ∈ u_ws RX4 TX4 7, w ∈ wsX4_richest := by decide +kernel
  refine lv_null hx hb dX4_richest_0 ?_
  refine lv_astore_nN (lv' := [(1, .null), (0, .ref (pa 0))]) hx hb dX4_richest_1 rfl hl (by decide) rfl (fun ls hl => ?_)
  refine lv_aload_n hx hb dX4_richest_2 rfl (lv_at hl 1 rfl) ?_
  refine va_get (D := D) (ci := 4) (v := .ref (pa 2)) (C := RX4) (T := TX4) (N := 7) hx hb hts hinX4 hown hK hP 0 rfl rfl 1 (by decide) (hts (.fieldLink RX4 25 "JoinGrants$Pool" "joins" "[LJoinGrants$Join;") (List.mem_of_getElem? (i := 1) rfl)) (fun _ h9 => h9) rfl dX4_richest_3 ?_
  refine lv_astore_n (lv' := [(2, .ref (pa 2)), (1, .null), (0, .ref (pa 0))]) hx hb dX4_richest_6 rfl hl (by decide) rfl (fun ls hl => ?_)
  refine lv_aload_n hx hb dX4_richest_7 rfl (lv_at hl 0 rfl) ?_
  refine va_alen hx hb hK hP 2 2 rfl rfl (v := (nI 16)) rfl dX4_richest_8 ?_
  refine lv_istore_n (lv' := [(3, .int (nI 16)), (2, .ref (pa 2)), (1, .null), (0, .ref (pa 0))]) hx hb dX4_richest_9 rfl hl (by decide) rfl (fun ls hl => ?_)
  refine lv_iconst (v := (nI 0)) hx hb dX4_richest_10 (by decide) ?_
  refine lv_istore (lv' := [(4, .int (nI 0)), (3, .int (nI 16)), (2, .ref (pa 2)), (1, .null), (0, .ref (pa 0))]) hx hb dX4_richest_11 hl (by decide) rfl (fun ls hl => ?_)
  have loop13 : ∀ (fu : Nat) (i : Nat) (o1 : Option Nat), (i + fu = 16) → (∀ j, o1 = some j → j < 16) → gX4_richest P = gX4_richest_L13 P fu i o1 → ∀ (H : Heap) (locs : List Loc) (ls : Array Slot), va_P D vwCl (poolW ck pa P) H → va_D (va_A (poolW ck pa P) s.heap.size) (poolW ck pa P) → va_S (va_A (poolW ck pa P) s.heap.size) s.heap H locs → lv_has ls 6 [(0, .ref (pa 0)), (1, (va_rf (Option.map (jA pa) o1))), (2, .ref (pa 2)), (3, .int (nI 16)), (4, .int (nI i))] → W zp l ze rmX4_richest s zm ([.ref (pa 0)] : List Value).toArray zb zt zc H locs 0 0 (MQ zb (xQq D (poolW ck pa P) (poolW ck pa P) (Option.map (jA pa) (gX4_richest P)) s.heap.size) ([.ref (pa 0)] : List Value).toArray s 0 0 (va_A (poolW ck pa P) s.heap.size)) (F0 zm 13 ls []) := by
    intro fu
    induction fu with
    | zero =>
      intro i o1 hif ho hg H locs ls hP hD hS hl
      by_cases co : o1 = none
      ·
        rw [xrf_none co] at hl
        refine lv_iload hx hb dX4_richest_13 (lv_at hl 4 rfl) ?_
        refine lv_iload_n hx hb dX4_richest_15 rfl (lv_at hl 3 rfl) ?_
        refine lv_icmp_ge (tgt := 50) hx hb dX4_richest_16 (by decide) (fun c_16 => ?_) (fun c_16 => ?_)
        · --t
          refine lv_aload_nN hx hb dX4_richest_50 rfl (lv_at hl 1 rfl) ?_
          exact xqret (v := none) hx hb hr hlk hP hD hS (congrArg (fun z => Option.map (jA pa) z) (hg.trans (show gX4_richest_L13 P 0 i o1 = none from (Eq.trans (if_pos co) rfl)))).symm rfl dX4_richest_51
        · --f
          exact absurd (nI_le (by omega) (by omega)) c_16
      ·
        rw [xrf_some co] at hl
        have hlt : o1.getD 0 < 16 := xgetD ho co
        refine lv_iload hx hb dX4_richest_13 (lv_at hl 4 rfl) ?_
        refine lv_iload_n hx hb dX4_richest_15 rfl (lv_at hl 3 rfl) ?_
        refine lv_icmp_ge (tgt := 50) hx hb dX4_richest_16 (by decide) (fun c_16 => ?_) (fun c_16 => ?_)
        · --t
          refine lv_aload_n hx hb dX4_richest_50 rfl (lv_at hl 1 rfl) ?_
          exact xqret (v := (some (jA pa (o1.getD 0)))) hx hb hr hlk hP hD hS (congrArg (fun z => Option.map (jA pa) z) (hg.trans (show gX4_richest_L13 P 0 i o1 = (some (o1.getD 0)) from (Eq.trans (if_neg co) rfl)))).symm rfl dX4_richest_51
        · --f
          exact absurd (nI_le (by omega) (by omega)) c_16
    | succ fu ih13 =>
      intro i o1 hif ho hg H locs ls hP hD hS hl
      by_cases co : o1 = none
      ·
        rw [xrf_none co] at hl
        refine lv_iload hx hb dX4_richest_13 (lv_at hl 4 rfl) ?_
        refine lv_iload_n hx hb dX4_richest_15 rfl (lv_at hl 3 rfl) ?_
        refine lv_icmp_ge (tgt := 50) hx hb dX4_richest_16 (by decide) (fun c_16 => ?_) (fun c_16 => ?_)
        · --t
          exact absurd c_16 (nI_ge (by omega) (by omega))
        · --f
          refine lv_aload_n hx hb dX4_richest_19 rfl (lv_at hl 2 rfl) ?_
          refine lv_iload hx hb dX4_richest_20 (lv_at hl 4 rfl) ?_
          refine xaldq (j := i) (b := jA pa i) (nI_clamp (by omega)) hx hb hK hP 2 2 rfl rfl (vp_in_nI (by omega) (by omega)) rfl dX4_richest_22 ?_
          refine lv_astore (lv' := [(5, .ref (jA pa i)), (0, .ref (pa 0)), (1, .null), (2, .ref (pa 2)), (3, .int (nI 16)), (4, .int (nI i))]) hx hb dX4_richest_23 hl (by decide) rfl (fun ls hl => ?_)
          refine lv_aload_nN hx hb dX4_richest_25 rfl (lv_at hl 2 rfl) ?_
          refine lv_ifnullN (tgt := 41) hx hb dX4_richest_26 (by decide) ?_
          refine lv_aload hx hb dX4_richest_41 (lv_at hl 0 rfl) ?_
          refine lv_astore_n (lv' := [(1, .ref (jA pa i)), (5, .ref (jA pa i)), (0, .ref (pa 0)), (2, .ref (pa 2)), (3, .int (nI 16)), (4, .int (nI i))]) hx hb dX4_richest_43 rfl hl (by decide) rfl (fun ls hl => ?_)
          refine lv_iinc (v := (nI (i + 1))) (lv' := [(4, .int (nI (i + 1))), (1, .ref (jA pa i)), (5, .ref (jA pa i)), (0, .ref (pa 0)), (2, .ref (pa 2)), (3, .int (nI 16))]) hx hb dX4_richest_44 hl (k := 5) rfl (nI_1 i) (by decide) rfl (fun ls hl => ?_)
          refine lv_goto (tgt := 13) hx hb dX4_richest_47 (by decide) ?_
          exact ih13 (i + 1) (some i) (by omega) (fun j h => by cases h; omega) (hg.trans (show gX4_richest_L13 P (fu + 1) i o1 = (gX4_richest_L13 P fu (i + 1) (some i)) from (Eq.trans (if_pos co) rfl))) _ _ _ hP hD hS (lv_sub hl [3, 1, 4, 5, 0] rfl)
      ·
        rw [xrf_some co] at hl
        have hlt : o1.getD 0 < 16 := xgetD ho co
        refine lv_iload hx hb dX4_richest_13 (lv_at hl 4 rfl) ?_
        refine lv_iload_n hx hb dX4_richest_15 rfl (lv_at hl 3 rfl) ?_
        refine lv_icmp_ge (tgt := 50) hx hb dX4_richest_16 (by decide) (fun c_16 => ?_) (fun c_16 => ?_)
        · --t
          exact absurd c_16 (nI_ge (by omega) (by omega))
        · --f
          refine lv_aload_n hx hb dX4_richest_19 rfl (lv_at hl 2 rfl) ?_
          refine lv_iload hx hb dX4_richest_20 (lv_at hl 4 rfl) ?_
          refine xaldq (j := i) (b := jA pa i) (nI_clamp (by omega)) hx hb hK hP 2 2 rfl rfl (vp_in_nI (by omega) (by omega)) rfl dX4_richest_22 ?_
          refine lv_astore (lv' := [(5, .ref (jA pa i)), (0, .ref (pa 0)), (1, .ref (jA pa (o1.getD 0))), (2, .ref (pa 2)), (3, .int (nI 16)), (4, .int (nI i))]) hx hb dX4_richest_23 hl (by decide) rfl (fun ls hl => ?_)
          refine lv_aload_n hx hb dX4_richest_25 rfl (lv_at hl 2 rfl) ?_
          refine lv_ifnull hx hb dX4_richest_26 ?_
          refine lv_aload hx hb dX4_richest_29 (lv_at hl 0 rfl) ?_
          refine xreti (va_runV (As := []) (rest := []) ⟨hx, hb, hml, hown, hts⟩ (mX1_surplus l D ck (jA pa i) (qA pa i) (nI i) (P.2.2 i)  _) (cwV 0 hts gX4_richest_X1_surplus rfl rfl rfl (by decide +kernel) ⟨Nat.le_of_ble_eq_true rfl, Nat.le_of_ble_eq_true rfl⟩) (xpreV hN hK hP hD (pm_pj (P := P) (by omega)) 0 rfl rfl rfl) rfl rfl hl.1 rfl (lv_room (Nat.le_of_ble_eq_true rfl)) dX4_richest_31 ⟨Nat.le_of_ble_eq_true rfl, Nat.le_of_ble_eq_true rfl⟩) hP hD hS hA (pm_pj (P := P) (by omega)) (pm_pj (P := P) (by omega)).symm (fun H locs hP hD hS => ?_)
          refine lv_aload_n hx hb dX4_richest_34 rfl (lv_at hl 2 rfl) ?_
          refine xreti (va_runV (As := []) (rest := [.int (gX1_surplus (nI i) (P.2.2 i) )]) ⟨hx, hb, hml, hown, hts⟩ (mX1_surplus l D ck (jA pa (o1.getD 0)) (qA pa (o1.getD 0)) (nI (o1.getD 0)) (P.2.2 (o1.getD 0))  _) (cwV 0 hts gX4_richest_X1_surplus rfl rfl rfl (by decide +kernel) ⟨Nat.le_of_ble_eq_true rfl, Nat.le_of_ble_eq_true rfl⟩) (xpreV hN hK hP hD (pm_pj (P := P) (by omega)) 0 rfl rfl rfl) rfl rfl hl.1 rfl (lv_room (Nat.le_of_ble_eq_true rfl)) dX4_richest_35 ⟨Nat.le_of_ble_eq_true rfl, Nat.le_of_ble_eq_true rfl⟩) hP hD hS hA (pm_pj (P := P) (by omega)) (pm_pj (P := P) (by omega)).symm (fun H locs hP hD hS => ?_)
          refine lv_icmp_le (tgt := 44) hx hb dX4_richest_38 (by decide) (fun c_38 => ?_) (fun c_38 => ?_)
          · --t
            refine lv_iinc (v := (nI (i + 1))) (lv' := [(4, .int (nI (i + 1))), (5, .ref (jA pa i)), (0, .ref (pa 0)), (1, .ref (jA pa (o1.getD 0))), (2, .ref (pa 2)), (3, .int (nI 16))]) hx hb dX4_richest_44 hl (k := 5) rfl (nI_1 i) (by decide) rfl (fun ls hl => ?_)
            refine lv_goto (tgt := 13) hx hb dX4_richest_47 (by decide) ?_
            exact ih13 (i + 1) (some (o1.getD 0)) (by omega) (fun j h => by cases h; omega) (hg.trans (show gX4_richest_L13 P (fu + 1) i o1 = (gX4_richest_L13 P fu (i + 1) (some (o1.getD 0))) from (Eq.trans (if_neg co) (Eq.trans (if_pos c_38) rfl)))) _ _ _ hP hD hS (lv_sub hl [2, 3, 4, 5, 0] rfl)
          · --f
            refine lv_aload hx hb dX4_richest_41 (lv_at hl 0 rfl) ?_
            refine lv_astore_n (lv' := [(1, .ref (jA pa i)), (5, .ref (jA pa i)), (0, .ref (pa 0)), (2, .ref (pa 2)), (3, .int (nI 16)), (4, .int (nI i))]) hx hb dX4_richest_43 rfl hl (by decide) rfl (fun ls hl => ?_)
            refine lv_iinc (v := (nI (i + 1))) (lv' := [(4, .int (nI (i + 1))), (1, .ref (jA pa i)), (5, .ref (jA pa i)), (0, .ref (pa 0)), (2, .ref (pa 2)), (3, .int (nI 16))]) hx hb dX4_richest_44 hl (k := 5) rfl (nI_1 i) (by decide) rfl (fun ls hl => ?_)
            refine lv_goto (tgt := 13) hx hb dX4_richest_47 (by decide) ?_
            exact ih13 (i + 1) (some i) (by omega) (fun j h => by cases h; omega) (hg.trans (show gX4_richest_L13 P (fu + 1) i o1 = (gX4_richest_L13 P fu (i + 1) (some i)) from (Eq.trans (if_neg co) (Eq.trans (if_neg c_38) rfl)))) _ _ _ hP hD hS (lv_sub hl [3, 1, 4, 5, 0] rfl)
  exact loop13 16 0 none (by omega) (fun j h => by cases h) (show gX4_richest P = (gX4_richest_L13 P 16 0 none) from rfl) _ _ _ hP hD hS (lv_sub hl [4, 3, 2, 1, 0] rfl)

theorem lt_X4_richest_L {P : PS} : ∀ (f i : Nat) (o1 : Option Nat), i + f = 16 → (∀ j, o1 = some j → j < 16) → ∀ j, gX4_richest_L13 P f i o1 = some j → j < 16 := by
  intro f
  induction f with
  | zero =>
    intro i o1 hif ho j h
    by_cases co : o1 = none
    · have e : gX4_richest_L13 P 0 i o1 = none := if_pos co
      rw [e] at h; cases h
    · have e : gX4_richest_L13 P 0 i o1 = some (o1.getD 0) := if_neg co
      rw [e] at h; cases h; exact xgetD ho co
  | succ f ih =>
    intro i o1 hif ho j h
    simp only [gX4_richest_L13] at h
    (repeat' split at h) <;> (refine ih _ _ (by omega) ?_ j h <;> intro k hk <;> cases hk <;> first | omega | (apply xgetD ho; assumption))
theorem lt_X4_richest {P : PS} (h : ¬ gX4_richest P = none) : (gX4_richest P).getD 0 < 16 := xgetD (fun j hj => lt_X4_richest_L 16 0 none (by omega) (fun _ h => by cases h) j hj) h

def rmX4_canAskBack : Room := { frames := 2, cells := 0, slots := 0, locals := 45 }
def gX4_canAskBack (P : PS) (a1 : Int32) : Int32 := (if (gX4_setting P 2) = 1 then (if (gX4_setting P 0) < (gX4_granted P ) then 0 else (if (gX4_surplus P ) < a1 then 0 else 1)) else 0)
set_option maxHeartbeats 4000000 in
set_option maxRecDepth 100000 in
theorem mX4_canAskBack (l : Launch) (D : va_G) (ck : Nat → ClassId) (pa : Nat → Nat) (P : PS) (a1 : Int32) : xMi l yX4_canAskBack wsX4_canAskBack rmX4_canAskBack D ck [.ref (pa 0), .int a1] (poolW ck pa P) (poolW ck pa P) (gX4_canAskBack P a1) 0 0 := by
  refine xMet (by decide) rfl (Nat.le_of_ble_eq_true rfl) ?_
  intro zp ze s zm zb zt zc hx hb hr hml hown hts hlk hnm hN hK hP hD ls hl
  have hown : s.vm.findClass RX4 = some zm.cls := hown
  have hl : lv_has ls 2 [(0, .ref (pa 0)), (1, .int a1)] := hl
  have hS : va_S (va_A (poolW ck pa P) s.heap.size) s.heap s.heap [] := va_S.rf
  have hA : ∀ zq : Nat, s.heap.size ≤ zq → va_A (poolW ck pa P) s.heap.size zq := fun zq h => Or.inr h
  refine lv_aload_n hx hb dX4_canAskBack_0 rfl (lv_at hl 0 rfl) ?_
  refine lv_iconst (v := 2) hx hb dX4_canAskBack_1 (by decide) ?_
  refine xreti (va_runV (As := [.int 2]) (rest := []) ⟨hx, hb, hml, hown, hts⟩ (mX4_setting l D ck pa P 2  _) (cwV 1 hts gX4_canAskBack_X4_setting rfl rfl rfl (by decide +kernel) ⟨Nat.le_of_ble_eq_true rfl, Nat.le_of_ble_eq_true rfl⟩) (xpreV hN hK hP hD pm_all 0 rfl rfl rfl) rfl rfl hl.1 rfl (lv_room (Nat.le_of_ble_eq_true rfl)) dX4_canAskBack_2 ⟨Nat.le_of_ble_eq_true rfl, Nat.le_of_ble_eq_true rfl⟩) hP hD hS hA pm_all pm_all' (fun H locs hP hD hS => ?_)
  refine lv_iconst (v := 1) hx hb dX4_canAskBack_5 (by decide) ?_
  refine lv_icmp_ne (tgt := 33) hx hb dX4_canAskBack_6 (by decide) (fun c_6 => ?_) (fun c_6 => ?_)
  · --t
    refine lv_iconst (v := 0) hx hb dX4_canAskBack_33 (by decide) ?_
    exact xzret hx hb hr hlk hP hD hS (Or.inl rfl) (show gX4_canAskBack P a1 = 0 from (Eq.trans (if_neg c_6) rfl)).symm rfl dX4_canAskBack_34
  · --f
    refine lv_aload_n hx hb dX4_canAskBack_9 rfl (lv_at hl 0 rfl) ?_
    refine xreti (va_runV (As := []) (rest := []) ⟨hx, hb, hml, hown, hts⟩ (mX4_granted l D ck pa P   _) (cwV 0 hts gX4_canAskBack_X4_granted rfl rfl rfl (by decide +kernel) ⟨Nat.le_of_ble_eq_true rfl, Nat.le_of_ble_eq_true rfl⟩) (xpreV hN hK hP hD pm_all 0 rfl rfl rfl) rfl rfl hl.1 rfl (lv_room (Nat.le_of_ble_eq_true rfl)) dX4_canAskBack_10 ⟨Nat.le_of_ble_eq_true rfl, Nat.le_of_ble_eq_true rfl⟩) hP hD hS hA pm_all pm_all' (fun H locs hP hD hS => ?_)
    refine lv_aload_n hx hb dX4_canAskBack_13 rfl (lv_at hl 0 rfl) ?_
    refine lv_iconst (v := 0) hx hb dX4_canAskBack_14 (by decide) ?_
    refine xreti (va_runV (As := [.int 0]) (rest := [.int (gX4_granted P )]) ⟨hx, hb, hml, hown, hts⟩ (mX4_setting l D ck pa P 0  _) (cwV 1 hts gX4_canAskBack_X4_setting rfl rfl rfl (by decide +kernel) ⟨Nat.le_of_ble_eq_true rfl, Nat.le_of_ble_eq_true rfl⟩) (xpreV hN hK hP hD pm_all 0 rfl rfl rfl) rfl rfl hl.1 rfl (lv_room (Nat.le_of_ble_eq_true rfl)) dX4_canAskBack_15 ⟨Nat.le_of_ble_eq_true rfl, Nat.le_of_ble_eq_true rfl⟩) hP hD hS hA pm_all pm_all' (fun H locs hP hD hS => ?_)
    refine lv_icmp_gt (tgt := 33) hx hb dX4_canAskBack_18 (by decide) (fun c_18 => ?_) (fun c_18 => ?_)
    · --t
      refine lv_iconst (v := 0) hx hb dX4_canAskBack_33 (by decide) ?_
      exact xzret hx hb hr hlk hP hD hS (Or.inl rfl) (show gX4_canAskBack P a1 = 0 from (Eq.trans (if_pos c_6) (Eq.trans (if_pos c_18) rfl))).symm rfl dX4_canAskBack_34
    · --f
      refine lv_aload_n hx hb dX4_canAskBack_21 rfl (lv_at hl 0 rfl) ?_
      refine xreti (va_runV (As := []) (rest := []) ⟨hx, hb, hml, hown, hts⟩ (mX4_surplus l D ck pa P   _) (cwV 0 hts gX4_canAskBack_X4_surplus rfl rfl rfl (by decide +kernel) ⟨Nat.le_of_ble_eq_true rfl, Nat.le_of_ble_eq_true rfl⟩) (xpreV hN hK hP hD pm_all 0 rfl rfl rfl) rfl rfl hl.1 rfl (lv_room (Nat.le_of_ble_eq_true rfl)) dX4_canAskBack_22 ⟨Nat.le_of_ble_eq_true rfl, Nat.le_of_ble_eq_true rfl⟩) hP hD hS hA pm_all pm_all' (fun H locs hP hD hS => ?_)
      refine lv_iload_n hx hb dX4_canAskBack_25 rfl (lv_at hl 1 rfl) ?_
      refine lv_icmp_lt (tgt := 33) hx hb dX4_canAskBack_26 (by decide) (fun c_26 => ?_) (fun c_26 => ?_)
      · --t
        refine lv_iconst (v := 0) hx hb dX4_canAskBack_33 (by decide) ?_
        exact xzret hx hb hr hlk hP hD hS (Or.inl rfl) (show gX4_canAskBack P a1 = 0 from (Eq.trans (if_pos c_6) (Eq.trans (if_neg c_18) (Eq.trans (if_pos c_26) rfl)))).symm rfl dX4_canAskBack_34
      · --f
        refine lv_iconst (v := 1) hx hb dX4_canAskBack_29 (by decide) ?_
        refine lv_goto (tgt := 34) hx hb dX4_canAskBack_30 (by decide) ?_
        exact xzret hx hb hr hlk hP hD hS (Or.inr rfl) (show gX4_canAskBack P a1 = 1 from (Eq.trans (if_pos c_6) (Eq.trans (if_neg c_18) (Eq.trans (if_neg c_26) rfl)))).symm rfl dX4_canAskBack_34

def rmX4_askBack : Room := { frames := 2, cells := 0, slots := 0, locals := 49 }
def gX4_askBack_L4 (P : PS) (a1 : Int32) : Nat → Nat → Int32 → PS → PS
  | 0, i, x1, P1 => P1
  | fu + 1, i, x1, P1 => (if x1 ≤ 0 then P1 else (if (gX4_richest P1 ) = none then P1 else (gX4_askBack_L4 P a1 fu (i + 1) (x1 - (if (gX1_surplus (nI ((gX4_richest P1 ).getD 0)) (P1.2.2 ((gX4_richest P1 ).getD 0)) ) < x1 then (gX1_surplus (nI ((gX4_richest P1 ).getD 0)) (P1.2.2 ((gX4_richest P1 ).getD 0)) ) else x1)) (P1.1, upd P1.2.1 4 ((P1.2.1 4) + (if (gX1_surplus (nI ((gX4_richest P1 ).getD 0)) (P1.2.2 ((gX4_richest P1 ).getD 0)) ) < x1 then (gX1_surplus (nI ((gX4_richest P1 ).getD 0)) (P1.2.2 ((gX4_richest P1 ).getD 0)) ) else x1)), va_up P1.2.2 ((gX4_richest P1 ).getD 0) (gX1_giveBack (nI ((gX4_richest P1 ).getD 0)) (P1.2.2 ((gX4_richest P1 ).getD 0)) (if (gX1_surplus (nI ((gX4_richest P1 ).getD 0)) (P1.2.2 ((gX4_richest P1 ).getD 0)) ) < x1 then (gX1_surplus (nI ((gX4_richest P1 ).getD 0)) (P1.2.2 ((gX4_richest P1 ).getD 0)) ) else x1))))))
def gX4_askBack (P : PS) (a1 : Int32) : PS := (gX4_askBack_L4 P a1 16 0 a1 P)
set_option maxHeartbeats 4000000 in
set_option maxRecDepth 100000 in
theorem mX4_askBack (l : Launch) (D : va_G) (ck : Nat → ClassId) (pa : Nat → Nat) (P : PS) (a1 : Int32) : xMv l yX4_askBack wsX4_askBack rmX4_askBack D ck [.ref (pa 0), .int a1] (poolW ck pa P) (poolW ck pa (gX4_askBack P a1)) 0 0 := by
  refine xMet (by decide) rfl (Nat.le_of_ble_eq_true rfl) ?_
  intro zp ze s zm zb zt zc hx hb hr hml hown hts hlk hnm hN hK hP hD ls hl
  have hown : s.vm.findClass RX4 = some zm.cls := hown
  have hl : lv_has ls 6 [(0, .ref (pa 0)), (1, .int a1)] := hl
  have hS : va_S (va_A (poolW ck pa P) s.heap.size) s.heap s.heap [] := va_S.rf
  have hA : ∀ zq : Nat, s.heap.size ≤ zq → va_A (poolW ck pa P) s.heap.size zq := fun zq h => Or.inr h
  have hinX4 : ∀ w ∈ u_ws RX4 TX4 7, w ∈ wsX4_askBack := by decide +kernel
  refine lv_iload_n hx hb dX4_askBack_0 rfl (lv_at hl 1 rfl) ?_
  refine lv_istore_n (lv' := [(2, .int a1), (0, .ref (pa 0)), (1, .int a1)]) hx hb dX4_askBack_1 rfl hl (by decide) rfl (fun ls hl => ?_)
  refine lv_iconst (v := (nI 0)) hx hb dX4_askBack_2 (by decide) ?_
  refine lv_istore_n (lv' := [(3, .int (nI 0)), (2, .int a1), (0, .ref (pa 0)), (1, .int a1)]) hx hb dX4_askBack_3 rfl hl (by decide) rfl (fun ls hl => ?_)
  have loop4 : ∀ (fu : Nat) (i : Nat) (x1 : Int32) (P1 : PS), (i + fu = 16) → gX4_askBack P a1 = gX4_askBack_L4 P a1 fu i x1 P1 → ∀ (H : Heap) (locs : List Loc) (ls : Array Slot), va_P D vwCl (poolW ck pa P1) H → va_D (va_A (poolW ck pa P) s.heap.size) (poolW ck pa P1) → va_S (va_A (poolW ck pa P) s.heap.size) s.heap H locs → lv_has ls 6 [(0, .ref (pa 0)), (1, .int a1), (2, .int x1), (3, .int (nI i))] → W zp l ze rmX4_askBack s zm ([.ref (pa 0), .int a1] : List Value).toArray zb zt zc H locs 0 0 (MQ zb (xQv D (poolW ck pa P) (poolW ck pa (gX4_askBack P a1)) s.heap.size) ([.ref (pa 0), .int a1] : List Value).toArray s 0 0 (va_A (poolW ck pa P) s.heap.size)) (F0 zm 4 ls []) := by
    intro fu
    induction fu with
    | zero =>
      intro i x1 P1 hif hg H locs ls hP hD hS hl
      refine lv_iload_n hx hb dX4_askBack_4 rfl (lv_at hl 3 rfl) ?_
      refine lv_aload_n hx hb dX4_askBack_5 rfl (lv_at hl 0 rfl) ?_
      refine va_get (D := D) (ci := 4) (v := .ref (pa 2)) (C := RX4) (T := TX4) (N := 7) hx hb hts hinX4 hown hK hP 0 rfl rfl 1 (by decide) (hts (.fieldLink RX4 25 "JoinGrants$Pool" "joins" "[LJoinGrants$Join;") (List.mem_of_getElem? (i := 1) rfl)) (fun _ h9 => h9) rfl dX4_askBack_6 ?_
      refine va_alen hx hb hK hP 2 2 rfl rfl (v := (nI 16)) rfl dX4_askBack_9 ?_
      refine lv_icmp_ge (tgt := 69) hx hb dX4_askBack_10 (by decide) (fun c_10 => ?_) (fun c_10 => ?_)
      · --t
        exact xvret hx hb hr hlk hP hD hS (congrArg (fun z => poolW ck pa z) (hg.trans (show gX4_askBack_L4 P a1 0 i x1 P1 = P1 from rfl))).symm dX4_askBack_69
      · --f
        exact absurd (nI_le (by omega) (by omega)) c_10
    | succ fu ih4 =>
      intro i x1 P1 hif hg H locs ls hP hD hS hl
      refine lv_iload_n hx hb dX4_askBack_4 rfl (lv_at hl 3 rfl) ?_
      refine lv_aload_n hx hb dX4_askBack_5 rfl (lv_at hl 0 rfl) ?_
      refine va_get (D := D) (ci := 4) (v := .ref (pa 2)) (C := RX4) (T := TX4) (N := 7) hx hb hts hinX4 hown hK hP 0 rfl rfl 1 (by decide) (hts (.fieldLink RX4 25 "JoinGrants$Pool" "joins" "[LJoinGrants$Join;") (List.mem_of_getElem? (i := 1) rfl)) (fun _ h9 => h9) rfl dX4_askBack_6 ?_
      refine va_alen hx hb hK hP 2 2 rfl rfl (v := (nI 16)) rfl dX4_askBack_9 ?_
      refine lv_icmp_ge (tgt := 69) hx hb dX4_askBack_10 (by decide) (fun c_10 => ?_) (fun c_10 => ?_)
      · --t
        exact absurd c_10 (nI_ge (by omega) (by omega))
      · --f
        refine lv_iload_n hx hb dX4_askBack_13 rfl (lv_at hl 2 rfl) ?_
        refine lv_if_le (tgt := 69) hx hb dX4_askBack_14 (by decide) (fun c_14 => ?_) (fun c_14 => ?_)
        · --t
          exact xvret hx hb hr hlk hP hD hS (congrArg (fun z => poolW ck pa z) (hg.trans (show gX4_askBack_L4 P a1 (fu + 1) i x1 P1 = P1 from (Eq.trans (if_pos c_14) rfl)))).symm dX4_askBack_69
        · --f
          refine lv_aload_n hx hb dX4_askBack_17 rfl (lv_at hl 0 rfl) ?_
          refine xretq (va_runV (As := []) (rest := []) ⟨hx, hb, hml, hown, hts⟩ (mX4_richest l D ck pa P1   _) (cwV 0 hts gX4_askBack_X4_richest rfl rfl rfl (by decide +kernel) ⟨Nat.le_of_ble_eq_true rfl, Nat.le_of_ble_eq_true rfl⟩) (xpreV hN hK hP hD pm_all 0 rfl rfl rfl) rfl rfl hl.1 rfl (lv_room (Nat.le_of_ble_eq_true rfl)) dX4_askBack_18 ⟨Nat.le_of_ble_eq_true rfl, Nat.le_of_ble_eq_true rfl⟩) hP hD hS hA pm_all pm_all' (fun H locs hP hD hS => ?_)
          by_cases cq_18 : (gX4_richest P1 ) = none
          ·
            rw [xrf_none cq_18]
            refine lv_astoreN (lv' := [(4, .null), (0, .ref (pa 0)), (1, .int a1), (2, .int x1), (3, .int (nI i))]) hx hb dX4_askBack_21 hl (by decide) rfl (fun ls hl => ?_)
            refine lv_aloadN hx hb dX4_askBack_23 (lv_at hl 0 rfl) ?_
            refine lv_ifnonnullN hx hb dX4_askBack_25 ?_
            exact xvret hx hb hr hlk hP hD hS (congrArg (fun z => poolW ck pa z) (hg.trans (show gX4_askBack_L4 P a1 (fu + 1) i x1 P1 = P1 from (Eq.trans (if_neg c_14) (Eq.trans (if_pos cq_18) rfl))))).symm dX4_askBack_28
          ·
            rw [xrf_some cq_18]
            have hlt_18 : ((gX4_richest P1 )).getD 0 < 16 := lt_X4_richest cq_18
            refine lv_astore (lv' := [(4, .ref (jA pa ((gX4_richest P1 ).getD 0))), (0, .ref (pa 0)), (1, .int a1), (2, .int x1), (3, .int (nI i))]) hx hb dX4_askBack_21 hl (by decide) rfl (fun ls hl => ?_)
            refine lv_aload hx hb dX4_askBack_23 (lv_at hl 0 rfl) ?_
            refine lv_ifnonnull (tgt := 29) hx hb dX4_askBack_25 (by decide) ?_
            refine lv_iload_n hx hb dX4_askBack_29 rfl (lv_at hl 3 rfl) ?_
            refine lv_aload hx hb dX4_askBack_30 (lv_at hl 0 rfl) ?_
            refine xreti (va_runV (As := []) (rest := [.int x1]) ⟨hx, hb, hml, hown, hts⟩ (mX1_surplus l D ck (jA pa ((gX4_richest P1 ).getD 0)) (qA pa ((gX4_richest P1 ).getD 0)) (nI ((gX4_richest P1 ).getD 0)) (P1.2.2 ((gX4_richest P1 ).getD 0))  _) (cwV 0 hts gX4_askBack_X1_surplus rfl rfl rfl (by decide +kernel) ⟨Nat.le_of_ble_eq_true rfl, Nat.le_of_ble_eq_true rfl⟩) (xpreV hN hK hP hD (pm_pj (P := P1) (by omega)) 0 rfl rfl rfl) rfl rfl hl.1 rfl (lv_room (Nat.le_of_ble_eq_true rfl)) dX4_askBack_32 ⟨Nat.le_of_ble_eq_true rfl, Nat.le_of_ble_eq_true rfl⟩) hP hD hS hA (pm_pj (P := P1) (by omega)) (pm_pj (P := P1) (by omega)).symm (fun H locs hP hD hS => ?_)
            refine va_mmin hx hb (hml.trans hl.1.symm) hown (hts (.methodLink RX4 78 Lib.Math.min.name) (List.mem_of_getElem? (i := 2) rfl)) (hts (.static Lib.Math.min.name) (List.mem_of_getElem? (i := 3) rfl)) (hts (.initialized "java/lang/Math") (List.mem_of_getElem? (i := 4) rfl)) (hts (.code Lib.Math.min.name Lib.Math.min.code 2 (some .int)) (List.mem_of_getElem? (i := 5) rfl)) (Nat.le_of_ble_eq_true rfl) (Nat.le_of_ble_eq_true rfl) (Nat.le_of_ble_eq_true rfl) (Nat.le_of_ble_eq_true rfl) dX4_askBack_35 ?_
            refine lv_istore (lv' := [(5, .int (if (gX1_surplus (nI ((gX4_richest P1 ).getD 0)) (P1.2.2 ((gX4_richest P1 ).getD 0)) ) < x1 then (gX1_surplus (nI ((gX4_richest P1 ).getD 0)) (P1.2.2 ((gX4_richest P1 ).getD 0)) ) else x1)), (4, .ref (jA pa ((gX4_richest P1 ).getD 0))), (0, .ref (pa 0)), (1, .int a1), (2, .int x1), (3, .int (nI i))]) hx hb dX4_askBack_38 hl (by decide) rfl (fun ls hl => ?_)
            refine lv_aload hx hb dX4_askBack_40 (lv_at hl 1 rfl) ?_
            refine lv_iload hx hb dX4_askBack_42 (lv_at hl 0 rfl) ?_
            refine xretv (va_runV (As := [.int (if (gX1_surplus (nI ((gX4_richest P1 ).getD 0)) (P1.2.2 ((gX4_richest P1 ).getD 0)) ) < x1 then (gX1_surplus (nI ((gX4_richest P1 ).getD 0)) (P1.2.2 ((gX4_richest P1 ).getD 0)) ) else x1)]) (rest := []) ⟨hx, hb, hml, hown, hts⟩ (mX1_giveBack l D ck (jA pa ((gX4_richest P1 ).getD 0)) (qA pa ((gX4_richest P1 ).getD 0)) (nI ((gX4_richest P1 ).getD 0)) (P1.2.2 ((gX4_richest P1 ).getD 0)) (if (gX1_surplus (nI ((gX4_richest P1 ).getD 0)) (P1.2.2 ((gX4_richest P1 ).getD 0)) ) < x1 then (gX1_surplus (nI ((gX4_richest P1 ).getD 0)) (P1.2.2 ((gX4_richest P1 ).getD 0)) ) else x1) _) (cwV 1 hts gX4_askBack_X1_giveBack rfl rfl rfl (by decide +kernel) ⟨Nat.le_of_ble_eq_true rfl, Nat.le_of_ble_eq_true rfl⟩) (xpreV hN hK hP hD (pm_pj (P := P1) (by omega)) 0 rfl rfl rfl) rfl rfl hl.1 rfl (lv_room (Nat.le_of_ble_eq_true rfl)) dX4_askBack_44 ⟨Nat.le_of_ble_eq_true rfl, Nat.le_of_ble_eq_true rfl⟩) hP hD hS hA (pm_pj (P := P1) (by omega)) (pm_pj' (P := P1) (by omega)) (fun H locs hP hD hS => ?_)
            have hP : va_P D vwCl (poolW ck pa (P1.1, P1.2.1, va_up P1.2.2 ((gX4_richest P1 ).getD 0) (gX1_giveBack (nI ((gX4_richest P1 ).getD 0)) (P1.2.2 ((gX4_richest P1 ).getD 0)) (if (gX1_surplus (nI ((gX4_richest P1 ).getD 0)) (P1.2.2 ((gX4_richest P1 ).getD 0)) ) < x1 then (gX1_surplus (nI ((gX4_richest P1 ).getD 0)) (P1.2.2 ((gX4_richest P1 ).getD 0)) ) else x1)))) H := hP
            have hD : va_D (va_A (poolW ck pa P) s.heap.size) (poolW ck pa (P1.1, P1.2.1, va_up P1.2.2 ((gX4_richest P1 ).getD 0) (gX1_giveBack (nI ((gX4_richest P1 ).getD 0)) (P1.2.2 ((gX4_richest P1 ).getD 0)) (if (gX1_surplus (nI ((gX4_richest P1 ).getD 0)) (P1.2.2 ((gX4_richest P1 ).getD 0)) ) < x1 then (gX1_surplus (nI ((gX4_richest P1 ).getD 0)) (P1.2.2 ((gX4_richest P1 ).getD 0)) ) else x1)))) := hD
            refine lv_aload_n hx hb dX4_askBack_47 rfl (lv_at hl 2 rfl) ?_
            refine lv_dup hx hb dX4_askBack_48 rfl ?_
            refine va_get (D := D) (ci := 4) (v := .int (P1.2.1 4)) (C := RX4) (T := TX4) (N := 7) hx hb hts hinX4 hown hK hP 0 rfl rfl 6 (by decide) (hts (.fieldLink RX4 115 "JoinGrants$Pool" "askedBack" "I") (List.mem_of_getElem? (i := 6) rfl)) (fun _ h9 => h9) rfl dX4_askBack_49 ?_
            refine lv_iload hx hb dX4_askBack_52 (lv_at hl 0 rfl) ?_
            refine lv_iadd hx hb dX4_askBack_54 ?_
            refine va_put (D := D) (ci := 4) (v := .int ((P1.2.1 4) + (if (gX1_surplus (nI ((gX4_richest P1 ).getD 0)) (P1.2.2 ((gX4_richest P1 ).getD 0)) ) < x1 then (gX1_surplus (nI ((gX4_richest P1 ).getD 0)) (P1.2.2 ((gX4_richest P1 ).getD 0)) ) else x1))) (ty := .int) (C := RX4) (T := TX4) (N := 7) hx hb hts hinX4 tyX4 tyX4_ok nmX4 hown hK hP hD hS 0 rfl rfl 6 (by decide) (hts (.fieldLink RX4 115 "JoinGrants$Pool" "askedBack" "I") (List.mem_of_getElem? (i := 6) rfl)) (fun _ h9 => h9) rfl (by decide +kernel) rfl rfl (Nat.le_of_ble_eq_true rfl) dX4_askBack_55 (fun H locs hP hD hS => ?_)
            have hP : va_P D vwCl (poolW ck pa (P1.1, upd P1.2.1 4 ((P1.2.1 4) + (if (gX1_surplus (nI ((gX4_richest P1 ).getD 0)) (P1.2.2 ((gX4_richest P1 ).getD 0)) ) < x1 then (gX1_surplus (nI ((gX4_richest P1 ).getD 0)) (P1.2.2 ((gX4_richest P1 ).getD 0)) ) else x1)), va_up P1.2.2 ((gX4_richest P1 ).getD 0) (gX1_giveBack (nI ((gX4_richest P1 ).getD 0)) (P1.2.2 ((gX4_richest P1 ).getD 0)) (if (gX1_surplus (nI ((gX4_richest P1 ).getD 0)) (P1.2.2 ((gX4_richest P1 ).getD 0)) ) < x1 then (gX1_surplus (nI ((gX4_richest P1 ).getD 0)) (P1.2.2 ((gX4_richest P1 ).getD 0)) ) else x1)))) H := hP
            have hD : va_D (va_A (poolW ck pa P) s.heap.size) (poolW ck pa (P1.1, upd P1.2.1 4 ((P1.2.1 4) + (if (gX1_surplus (nI ((gX4_richest P1 ).getD 0)) (P1.2.2 ((gX4_richest P1 ).getD 0)) ) < x1 then (gX1_surplus (nI ((gX4_richest P1 ).getD 0)) (P1.2.2 ((gX4_richest P1 ).getD 0)) ) else x1)), va_up P1.2.2 ((gX4_richest P1 ).getD 0) (gX1_giveBack (nI ((gX4_richest P1 ).getD 0)) (P1.2.2 ((gX4_richest P1 ).getD 0)) (if (gX1_surplus (nI ((gX4_richest P1 ).getD 0)) (P1.2.2 ((gX4_richest P1 ).getD 0)) ) < x1 then (gX1_surplus (nI ((gX4_richest P1 ).getD 0)) (P1.2.2 ((gX4_richest P1 ).getD 0)) ) else x1)))) := hD
            refine lv_iload_n hx hb dX4_askBack_58 rfl (lv_at hl 4 rfl) ?_
            refine lv_iload hx hb dX4_askBack_59 (lv_at hl 0 rfl) ?_
            refine lv_isub hx hb dX4_askBack_61 ?_
            refine lv_istore_n (lv' := [(2, .int (x1 - (if (gX1_surplus (nI ((gX4_richest P1 ).getD 0)) (P1.2.2 ((gX4_richest P1 ).getD 0)) ) < x1 then (gX1_surplus (nI ((gX4_richest P1 ).getD 0)) (P1.2.2 ((gX4_richest P1 ).getD 0)) ) else x1))), (5, .int (if (gX1_surplus (nI ((gX4_richest P1 ).getD 0)) (P1.2.2 ((gX4_richest P1 ).getD 0)) ) < x1 then (gX1_surplus (nI ((gX4_richest P1 ).getD 0)) (P1.2.2 ((gX4_richest P1 ).getD 0)) ) else x1)), (4, .ref (jA pa ((gX4_richest P1 ).getD 0))), (0, .ref (pa 0)), (1, .int a1), (3, .int (nI i))]) hx hb dX4_askBack_62 rfl hl (by decide) rfl (fun ls hl => ?_)
            refine lv_iinc (v := (nI (i + 1))) (lv' := [(3, .int (nI (i + 1))), (2, .int (x1 - (if (gX1_surplus (nI ((gX4_richest P1 ).getD 0)) (P1.2.2 ((gX4_richest P1 ).getD 0)) ) < x1 then (gX1_surplus (nI ((gX4_richest P1 ).getD 0)) (P1.2.2 ((gX4_richest P1 ).getD 0)) ) else x1))), (5, .int (if (gX1_surplus (nI ((gX4_richest P1 ).getD 0)) (P1.2.2 ((gX4_richest P1 ).getD 0)) ) < x1 then (gX1_surplus (nI ((gX4_richest P1 ).getD 0)) (P1.2.2 ((gX4_richest P1 ).getD 0)) ) else x1)), (4, .ref (jA pa ((gX4_richest P1 ).getD 0))), (0, .ref (pa 0)), (1, .int a1)]) hx hb dX4_askBack_63 hl (k := 5) rfl (nI_1 i) (by decide) rfl (fun ls hl => ?_)
            refine lv_goto (tgt := 4) hx hb dX4_askBack_66 (by decide) ?_
            exact ih4 (i + 1) (x1 - (if (gX1_surplus (nI ((gX4_richest P1 ).getD 0)) (P1.2.2 ((gX4_richest P1 ).getD 0)) ) < x1 then (gX1_surplus (nI ((gX4_richest P1 ).getD 0)) (P1.2.2 ((gX4_richest P1 ).getD 0)) ) else x1)) (P1.1, upd P1.2.1 4 ((P1.2.1 4) + (if (gX1_surplus (nI ((gX4_richest P1 ).getD 0)) (P1.2.2 ((gX4_richest P1 ).getD 0)) ) < x1 then (gX1_surplus (nI ((gX4_richest P1 ).getD 0)) (P1.2.2 ((gX4_richest P1 ).getD 0)) ) else x1)), va_up P1.2.2 ((gX4_richest P1 ).getD 0) (gX1_giveBack (nI ((gX4_richest P1 ).getD 0)) (P1.2.2 ((gX4_richest P1 ).getD 0)) (if (gX1_surplus (nI ((gX4_richest P1 ).getD 0)) (P1.2.2 ((gX4_richest P1 ).getD 0)) ) < x1 then (gX1_surplus (nI ((gX4_richest P1 ).getD 0)) (P1.2.2 ((gX4_richest P1 ).getD 0)) ) else x1))) (by omega) (hg.trans (show gX4_askBack_L4 P a1 (fu + 1) i x1 P1 = (gX4_askBack_L4 P a1 fu (i + 1) (x1 - (if (gX1_surplus (nI ((gX4_richest P1 ).getD 0)) (P1.2.2 ((gX4_richest P1 ).getD 0)) ) < x1 then (gX1_surplus (nI ((gX4_richest P1 ).getD 0)) (P1.2.2 ((gX4_richest P1 ).getD 0)) ) else x1)) (P1.1, upd P1.2.1 4 ((P1.2.1 4) + (if (gX1_surplus (nI ((gX4_richest P1 ).getD 0)) (P1.2.2 ((gX4_richest P1 ).getD 0)) ) < x1 then (gX1_surplus (nI ((gX4_richest P1 ).getD 0)) (P1.2.2 ((gX4_richest P1 ).getD 0)) ) else x1)), va_up P1.2.2 ((gX4_richest P1 ).getD 0) (gX1_giveBack (nI ((gX4_richest P1 ).getD 0)) (P1.2.2 ((gX4_richest P1 ).getD 0)) (if (gX1_surplus (nI ((gX4_richest P1 ).getD 0)) (P1.2.2 ((gX4_richest P1 ).getD 0)) ) < x1 then (gX1_surplus (nI ((gX4_richest P1 ).getD 0)) (P1.2.2 ((gX4_richest P1 ).getD 0)) ) else x1)))) from (Eq.trans (if_neg c_14) (Eq.trans (if_neg cq_18) rfl)))) _ _ _ hP hD hS (lv_sub hl [4, 5, 1, 0] rfl)
  exact loop4 16 0 a1 P (by omega) (show gX4_askBack P a1 = (gX4_askBack_L4 P a1 16 0 a1 P) from rfl) _ _ _ hP hD hS (lv_sub hl [2, 3, 1, 0] rfl)

def rmX4_start : Room := { frames := 3, cells := 0, slots := 0, locals := 74 }
def gX4_start (P : PS) (a1 : Nat) : Int32 × PS := (if 0 < ((gX1_need (nI a1) (P.2.2 a1) ) - (gX4_free P )) then (if (gX4_canAskBack P ((gX1_need (nI a1) (P.2.2 a1) ) - (gX4_free P ))) = 0 then (0, P) else (1, ((gX4_askBack P ((gX1_need (nI a1) (P.2.2 a1) ) - (gX4_free P ))).1, upd ((gX4_askBack P ((gX1_need (nI a1) (P.2.2 a1) ) - (gX4_free P ))).2.1) 1 (if (((gX4_askBack P ((gX1_need (nI a1) (P.2.2 a1) ) - (gX4_free P ))).2.1) 1) < (gX4_granted ((gX4_askBack P ((gX1_need (nI a1) (P.2.2 a1) ) - (gX4_free P ))).1, (gX4_askBack P ((gX1_need (nI a1) (P.2.2 a1) ) - (gX4_free P ))).2.1, va_up ((gX4_askBack P ((gX1_need (nI a1) (P.2.2 a1) ) - (gX4_free P ))).2.2) a1 (gX1_start (nI a1) (((gX4_askBack P ((gX1_need (nI a1) (P.2.2 a1) ) - (gX4_free P ))).2.2) a1) (gX1_need (nI a1) (P.2.2 a1) ))) ) then (gX4_granted ((gX4_askBack P ((gX1_need (nI a1) (P.2.2 a1) ) - (gX4_free P ))).1, (gX4_askBack P ((gX1_need (nI a1) (P.2.2 a1) ) - (gX4_free P ))).2.1, va_up ((gX4_askBack P ((gX1_need (nI a1) (P.2.2 a1) ) - (gX4_free P ))).2.2) a1 (gX1_start (nI a1) (((gX4_askBack P ((gX1_need (nI a1) (P.2.2 a1) ) - (gX4_free P ))).2.2) a1) (gX1_need (nI a1) (P.2.2 a1) ))) ) else (((gX4_askBack P ((gX1_need (nI a1) (P.2.2 a1) ) - (gX4_free P ))).2.1) 1)), va_up ((gX4_askBack P ((gX1_need (nI a1) (P.2.2 a1) ) - (gX4_free P ))).2.2) a1 (gX1_start (nI a1) (((gX4_askBack P ((gX1_need (nI a1) (P.2.2 a1) ) - (gX4_free P ))).2.2) a1) (gX1_need (nI a1) (P.2.2 a1) ))))) else (1, (P.1, upd P.2.1 1 (if (P.2.1 1) < (gX4_granted (P.1, P.2.1, va_up P.2.2 a1 (gX1_start (nI a1) (P.2.2 a1) (if (gX1_want (nI a1) (P.2.2 a1) ) < (gX4_free P ) then (gX1_want (nI a1) (P.2.2 a1) ) else (gX4_free P )))) ) then (gX4_granted (P.1, P.2.1, va_up P.2.2 a1 (gX1_start (nI a1) (P.2.2 a1) (if (gX1_want (nI a1) (P.2.2 a1) ) < (gX4_free P ) then (gX1_want (nI a1) (P.2.2 a1) ) else (gX4_free P )))) ) else (P.2.1 1)), va_up P.2.2 a1 (gX1_start (nI a1) (P.2.2 a1) (if (gX1_want (nI a1) (P.2.2 a1) ) < (gX4_free P ) then (gX1_want (nI a1) (P.2.2 a1) ) else (gX4_free P ))))))
set_option maxHeartbeats 4000000 in
set_option maxRecDepth 100000 in
theorem mX4_start (l : Launch) (D : va_G) (ck : Nat → ClassId) (pa : Nat → Nat) (P : PS) (a1 : Nat) (h1 : a1 < 16) : xMi l yX4_start wsX4_start rmX4_start D ck [.ref (pa 0), .ref (jA pa a1)] (poolW ck pa P) (poolW ck pa ((gX4_start P a1).2)) ((gX4_start P a1).1) 0 0 := by
  refine xMet (by decide) rfl (Nat.le_of_ble_eq_true rfl) ?_
  intro zp ze s zm zb zt zc hx hb hr hml hown hts hlk hnm hN hK hP hD ls hl
  have hown : s.vm.findClass RX4 = some zm.cls := hown
  have hl : lv_has ls 4 [(0, .ref (pa 0)), (1, .ref (jA pa a1))] := hl
  have hS : va_S (va_A (poolW ck pa P) s.heap.size) s.heap s.heap [] := va_S.rf
  have hA : ∀ zq : Nat, s.heap.size ≤ zq → va_A (poolW ck pa P) s.heap.size zq := fun zq h => Or.inr h
  have hinX4 : ∀ w ∈ u_ws RX4 TX4 7, w ∈ wsX4_start := by decide +kernel
  refine lv_aload_n hx hb dX4_start_0 rfl (lv_at hl 1 rfl) ?_
  refine xreti (va_runV (As := []) (rest := []) ⟨hx, hb, hml, hown, hts⟩ (mX1_need l D ck (jA pa a1) (qA pa a1) (nI a1) (P.2.2 a1)  _) (cwV 0 hts gX4_start_X1_need rfl rfl rfl (by decide +kernel) ⟨Nat.le_of_ble_eq_true rfl, Nat.le_of_ble_eq_true rfl⟩) (xpreV hN hK hP hD (pm_pj (P := P) (by omega)) 0 rfl rfl rfl) rfl rfl hl.1 rfl (lv_room (Nat.le_of_ble_eq_true rfl)) dX4_start_1 ⟨Nat.le_of_ble_eq_true rfl, Nat.le_of_ble_eq_true rfl⟩) hP hD hS hA (pm_pj (P := P) (by omega)) (pm_pj (P := P) (by omega)).symm (fun H locs hP hD hS => ?_)
  refine lv_istore_n (lv' := [(2, .int (gX1_need (nI a1) (P.2.2 a1) )), (0, .ref (pa 0)), (1, .ref (jA pa a1))]) hx hb dX4_start_4 rfl hl (by decide) rfl (fun ls hl => ?_)
  refine lv_iload_n hx hb dX4_start_5 rfl (lv_at hl 0 rfl) ?_
  refine lv_aload_n hx hb dX4_start_6 rfl (lv_at hl 1 rfl) ?_
  refine xreti (va_runV (As := []) (rest := [.int (gX1_need (nI a1) (P.2.2 a1) )]) ⟨hx, hb, hml, hown, hts⟩ (mX4_free l D ck pa P   _) (cwV 0 hts gX4_start_X4_free rfl rfl rfl (by decide +kernel) ⟨Nat.le_of_ble_eq_true rfl, Nat.le_of_ble_eq_true rfl⟩) (xpreV hN hK hP hD pm_all 0 rfl rfl rfl) rfl rfl hl.1 rfl (lv_room (Nat.le_of_ble_eq_true rfl)) dX4_start_7 ⟨Nat.le_of_ble_eq_true rfl, Nat.le_of_ble_eq_true rfl⟩) hP hD hS hA pm_all pm_all' (fun H locs hP hD hS => ?_)
  refine lv_isub hx hb dX4_start_10 ?_
  refine lv_istore_n (lv' := [(3, .int ((gX1_need (nI a1) (P.2.2 a1) ) - (gX4_free P ))), (2, .int (gX1_need (nI a1) (P.2.2 a1) )), (0, .ref (pa 0)), (1, .ref (jA pa a1))]) hx hb dX4_start_11 rfl hl (by decide) rfl (fun ls hl => ?_)
  refine lv_iload_n hx hb dX4_start_12 rfl (lv_at hl 0 rfl) ?_
  refine lv_if_gt (tgt := 34) hx hb dX4_start_13 (by decide) (fun c_13 => ?_) (fun c_13 => ?_)
  · --t
    refine lv_aload_n hx hb dX4_start_34 rfl (lv_at hl 2 rfl) ?_
    refine lv_iload_n hx hb dX4_start_35 rfl (lv_at hl 0 rfl) ?_
    refine xreti (va_runV (As := [.int ((gX1_need (nI a1) (P.2.2 a1) ) - (gX4_free P ))]) (rest := []) ⟨hx, hb, hml, hown, hts⟩ (mX4_canAskBack l D ck pa P ((gX1_need (nI a1) (P.2.2 a1) ) - (gX4_free P ))  _) (cwV 1 hts gX4_start_X4_canAskBack rfl rfl rfl (by decide +kernel) ⟨Nat.le_of_ble_eq_true rfl, Nat.le_of_ble_eq_true rfl⟩) (xpreV hN hK hP hD pm_all 0 rfl rfl rfl) rfl rfl hl.1 rfl (lv_room (Nat.le_of_ble_eq_true rfl)) dX4_start_36 ⟨Nat.le_of_ble_eq_true rfl, Nat.le_of_ble_eq_true rfl⟩) hP hD hS hA pm_all pm_all' (fun H locs hP hD hS => ?_)
    refine lv_if_eq (tgt := 55) hx hb dX4_start_39 (by decide) (fun c_39 => ?_) (fun c_39 => ?_)
    · --t
      refine lv_iconst (v := 0) hx hb dX4_start_55 (by decide) ?_
      exact xzret hx hb hr hlk hP hD hS (Or.inl rfl) (congrArg (fun z => z.1) (show gX4_start P a1 = (0, P) from (Eq.trans (if_pos c_13) (Eq.trans (if_pos c_39) rfl)))).symm (congrArg (fun z => poolW ck pa z.2) (show gX4_start P a1 = (0, P) from (Eq.trans (if_pos c_13) (Eq.trans (if_pos c_39) rfl)))).symm dX4_start_56
    · --f
      refine lv_aload_n hx hb dX4_start_42 rfl (lv_at hl 2 rfl) ?_
      refine lv_iload_n hx hb dX4_start_43 rfl (lv_at hl 0 rfl) ?_
      refine xretv (va_runV (As := [.int ((gX1_need (nI a1) (P.2.2 a1) ) - (gX4_free P ))]) (rest := []) ⟨hx, hb, hml, hown, hts⟩ (mX4_askBack l D ck pa P ((gX1_need (nI a1) (P.2.2 a1) ) - (gX4_free P ))  _) (cwV 1 hts gX4_start_X4_askBack rfl rfl rfl (by decide +kernel) ⟨Nat.le_of_ble_eq_true rfl, Nat.le_of_ble_eq_true rfl⟩) (xpreV hN hK hP hD pm_all 0 rfl rfl rfl) rfl rfl hl.1 rfl (lv_room (Nat.le_of_ble_eq_true rfl)) dX4_start_44 ⟨Nat.le_of_ble_eq_true rfl, Nat.le_of_ble_eq_true rfl⟩) hP hD hS hA pm_all pm_all' (fun H locs hP hD hS => ?_)
      have hP : va_P D vwCl (poolW ck pa (gX4_askBack P ((gX1_need (nI a1) (P.2.2 a1) ) - (gX4_free P )))) H := hP
      have hD : va_D (va_A (poolW ck pa P) s.heap.size) (poolW ck pa (gX4_askBack P ((gX1_need (nI a1) (P.2.2 a1) ) - (gX4_free P )))) := hD
      refine lv_aload_n hx hb dX4_start_47 rfl (lv_at hl 3 rfl) ?_
      refine lv_iload_n hx hb dX4_start_48 rfl (lv_at hl 1 rfl) ?_
      refine xretv (va_runV (As := [.int (gX1_need (nI a1) (P.2.2 a1) )]) (rest := []) ⟨hx, hb, hml, hown, hts⟩ (mX1_start l D ck (jA pa a1) (qA pa a1) (nI a1) (((gX4_askBack P ((gX1_need (nI a1) (P.2.2 a1) ) - (gX4_free P ))).2.2) a1) (gX1_need (nI a1) (P.2.2 a1) ) _) (cwV 1 hts gX4_start_X1_start rfl rfl rfl (by decide +kernel) ⟨Nat.le_of_ble_eq_true rfl, Nat.le_of_ble_eq_true rfl⟩) (xpreV hN hK hP hD (pm_pj (P := (gX4_askBack P ((gX1_need (nI a1) (P.2.2 a1) ) - (gX4_free P )))) (by omega)) 0 rfl rfl rfl) rfl rfl hl.1 rfl (lv_room (Nat.le_of_ble_eq_true rfl)) dX4_start_49 ⟨Nat.le_of_ble_eq_true rfl, Nat.le_of_ble_eq_true rfl⟩) hP hD hS hA (pm_pj (P := (gX4_askBack P ((gX1_need (nI a1) (P.2.2 a1) ) - (gX4_free P )))) (by omega)) (pm_pj' (P := (gX4_askBack P ((gX1_need (nI a1) (P.2.2 a1) ) - (gX4_free P )))) (by omega)) (fun H locs hP hD hS => ?_)
      have hP : va_P D vwCl (poolW ck pa ((gX4_askBack P ((gX1_need (nI a1) (P.2.2 a1) ) - (gX4_free P ))).1, (gX4_askBack P ((gX1_need (nI a1) (P.2.2 a1) ) - (gX4_free P ))).2.1, va_up ((gX4_askBack P ((gX1_need (nI a1) (P.2.2 a1) ) - (gX4_free P ))).2.2) a1 (gX1_start (nI a1) (((gX4_askBack P ((gX1_need (nI a1) (P.2.2 a1) ) - (gX4_free P ))).2.2) a1) (gX1_need (nI a1) (P.2.2 a1) )))) H := hP
      have hD : va_D (va_A (poolW ck pa P) s.heap.size) (poolW ck pa ((gX4_askBack P ((gX1_need (nI a1) (P.2.2 a1) ) - (gX4_free P ))).1, (gX4_askBack P ((gX1_need (nI a1) (P.2.2 a1) ) - (gX4_free P ))).2.1, va_up ((gX4_askBack P ((gX1_need (nI a1) (P.2.2 a1) ) - (gX4_free P ))).2.2) a1 (gX1_start (nI a1) (((gX4_askBack P ((gX1_need (nI a1) (P.2.2 a1) ) - (gX4_free P ))).2.2) a1) (gX1_need (nI a1) (P.2.2 a1) )))) := hD
      refine lv_goto (tgt := 57) hx hb dX4_start_52 (by decide) ?_
      refine lv_aload_n hx hb dX4_start_57 rfl (lv_at hl 2 rfl) ?_
      refine lv_aload_n hx hb dX4_start_58 rfl (lv_at hl 2 rfl) ?_
      refine va_get (D := D) (ci := 4) (v := .int (((gX4_askBack P ((gX1_need (nI a1) (P.2.2 a1) ) - (gX4_free P ))).2.1) 1)) (C := RX4) (T := TX4) (N := 7) hx hb hts hinX4 hown hK hP 0 rfl rfl 3 (by decide) (hts (.fieldLink RX4 92 "JoinGrants$Pool" "mostGranted" "I") (List.mem_of_getElem? (i := 5) rfl)) (fun _ h9 => h9) rfl dX4_start_59 ?_
      refine lv_aload_n hx hb dX4_start_62 rfl (lv_at hl 2 rfl) ?_
      refine xreti (va_runV (As := []) (rest := [.int (((gX4_askBack P ((gX1_need (nI a1) (P.2.2 a1) ) - (gX4_free P ))).2.1) 1), .ref (pa 0)]) ⟨hx, hb, hml, hown, hts⟩ (mX4_granted l D ck pa ((gX4_askBack P ((gX1_need (nI a1) (P.2.2 a1) ) - (gX4_free P ))).1, (gX4_askBack P ((gX1_need (nI a1) (P.2.2 a1) ) - (gX4_free P ))).2.1, va_up ((gX4_askBack P ((gX1_need (nI a1) (P.2.2 a1) ) - (gX4_free P ))).2.2) a1 (gX1_start (nI a1) (((gX4_askBack P ((gX1_need (nI a1) (P.2.2 a1) ) - (gX4_free P ))).2.2) a1) (gX1_need (nI a1) (P.2.2 a1) )))   _) (cwV 0 hts gX4_start_X4_granted rfl rfl rfl (by decide +kernel) ⟨Nat.le_of_ble_eq_true rfl, Nat.le_of_ble_eq_true rfl⟩) (xpreV hN hK hP hD pm_all 0 rfl rfl rfl) rfl rfl hl.1 rfl (lv_room (Nat.le_of_ble_eq_true rfl)) dX4_start_63 ⟨Nat.le_of_ble_eq_true rfl, Nat.le_of_ble_eq_true rfl⟩) hP hD hS hA pm_all pm_all' (fun H locs hP hD hS => ?_)
      refine va_mmax hx hb (hml.trans hl.1.symm) hown (hts (.methodLink RX4 98 Lib.Math.max.name) (List.mem_of_getElem? (i := 6) rfl)) (hts (.static Lib.Math.max.name) (List.mem_of_getElem? (i := 7) rfl)) (hts (.initialized "java/lang/Math") (List.mem_of_getElem? (i := 3) rfl)) (hts (.code Lib.Math.max.name Lib.Math.max.code 2 (some .int)) (List.mem_of_getElem? (i := 8) rfl)) (Nat.le_of_ble_eq_true rfl) (Nat.le_of_ble_eq_true rfl) (Nat.le_of_ble_eq_true rfl) (Nat.le_of_ble_eq_true rfl) dX4_start_66 ?_
      refine va_put (D := D) (ci := 4) (v := .int (if (((gX4_askBack P ((gX1_need (nI a1) (P.2.2 a1) ) - (gX4_free P ))).2.1) 1) < (gX4_granted ((gX4_askBack P ((gX1_need (nI a1) (P.2.2 a1) ) - (gX4_free P ))).1, (gX4_askBack P ((gX1_need (nI a1) (P.2.2 a1) ) - (gX4_free P ))).2.1, va_up ((gX4_askBack P ((gX1_need (nI a1) (P.2.2 a1) ) - (gX4_free P ))).2.2) a1 (gX1_start (nI a1) (((gX4_askBack P ((gX1_need (nI a1) (P.2.2 a1) ) - (gX4_free P ))).2.2) a1) (gX1_need (nI a1) (P.2.2 a1) ))) ) then (gX4_granted ((gX4_askBack P ((gX1_need (nI a1) (P.2.2 a1) ) - (gX4_free P ))).1, (gX4_askBack P ((gX1_need (nI a1) (P.2.2 a1) ) - (gX4_free P ))).2.1, va_up ((gX4_askBack P ((gX1_need (nI a1) (P.2.2 a1) ) - (gX4_free P ))).2.2) a1 (gX1_start (nI a1) (((gX4_askBack P ((gX1_need (nI a1) (P.2.2 a1) ) - (gX4_free P ))).2.2) a1) (gX1_need (nI a1) (P.2.2 a1) ))) ) else (((gX4_askBack P ((gX1_need (nI a1) (P.2.2 a1) ) - (gX4_free P ))).2.1) 1))) (ty := .int) (C := RX4) (T := TX4) (N := 7) hx hb hts hinX4 tyX4 tyX4_ok nmX4 hown hK hP hD hS 0 rfl rfl 3 (by decide) (hts (.fieldLink RX4 92 "JoinGrants$Pool" "mostGranted" "I") (List.mem_of_getElem? (i := 5) rfl)) (fun _ h9 => h9) rfl (by decide +kernel) rfl rfl (Nat.le_of_ble_eq_true rfl) dX4_start_69 (fun H locs hP hD hS => ?_)
      have hP : va_P D vwCl (poolW ck pa ((gX4_askBack P ((gX1_need (nI a1) (P.2.2 a1) ) - (gX4_free P ))).1, upd ((gX4_askBack P ((gX1_need (nI a1) (P.2.2 a1) ) - (gX4_free P ))).2.1) 1 (if (((gX4_askBack P ((gX1_need (nI a1) (P.2.2 a1) ) - (gX4_free P ))).2.1) 1) < (gX4_granted ((gX4_askBack P ((gX1_need (nI a1) (P.2.2 a1) ) - (gX4_free P ))).1, (gX4_askBack P ((gX1_need (nI a1) (P.2.2 a1) ) - (gX4_free P ))).2.1, va_up ((gX4_askBack P ((gX1_need (nI a1) (P.2.2 a1) ) - (gX4_free P ))).2.2) a1 (gX1_start (nI a1) (((gX4_askBack P ((gX1_need (nI a1) (P.2.2 a1) ) - (gX4_free P ))).2.2) a1) (gX1_need (nI a1) (P.2.2 a1) ))) ) then (gX4_granted ((gX4_askBack P ((gX1_need (nI a1) (P.2.2 a1) ) - (gX4_free P ))).1, (gX4_askBack P ((gX1_need (nI a1) (P.2.2 a1) ) - (gX4_free P ))).2.1, va_up ((gX4_askBack P ((gX1_need (nI a1) (P.2.2 a1) ) - (gX4_free P ))).2.2) a1 (gX1_start (nI a1) (((gX4_askBack P ((gX1_need (nI a1) (P.2.2 a1) ) - (gX4_free P ))).2.2) a1) (gX1_need (nI a1) (P.2.2 a1) ))) ) else (((gX4_askBack P ((gX1_need (nI a1) (P.2.2 a1) ) - (gX4_free P ))).2.1) 1)), va_up ((gX4_askBack P ((gX1_need (nI a1) (P.2.2 a1) ) - (gX4_free P ))).2.2) a1 (gX1_start (nI a1) (((gX4_askBack P ((gX1_need (nI a1) (P.2.2 a1) ) - (gX4_free P ))).2.2) a1) (gX1_need (nI a1) (P.2.2 a1) )))) H := hP
      have hD : va_D (va_A (poolW ck pa P) s.heap.size) (poolW ck pa ((gX4_askBack P ((gX1_need (nI a1) (P.2.2 a1) ) - (gX4_free P ))).1, upd ((gX4_askBack P ((gX1_need (nI a1) (P.2.2 a1) ) - (gX4_free P ))).2.1) 1 (if (((gX4_askBack P ((gX1_need (nI a1) (P.2.2 a1) ) - (gX4_free P ))).2.1) 1) < (gX4_granted ((gX4_askBack P ((gX1_need (nI a1) (P.2.2 a1) ) - (gX4_free P ))).1, (gX4_askBack P ((gX1_need (nI a1) (P.2.2 a1) ) - (gX4_free P ))).2.1, va_up ((gX4_askBack P ((gX1_need (nI a1) (P.2.2 a1) ) - (gX4_free P ))).2.2) a1 (gX1_start (nI a1) (((gX4_askBack P ((gX1_need (nI a1) (P.2.2 a1) ) - (gX4_free P ))).2.2) a1) (gX1_need (nI a1) (P.2.2 a1) ))) ) then (gX4_granted ((gX4_askBack P ((gX1_need (nI a1) (P.2.2 a1) ) - (gX4_free P ))).1, (gX4_askBack P ((gX1_need (nI a1) (P.2.2 a1) ) - (gX4_free P ))).2.1, va_up ((gX4_askBack P ((gX1_need (nI a1) (P.2.2 a1) ) - (gX4_free P ))).2.2) a1 (gX1_start (nI a1) (((gX4_askBack P ((gX1_need (nI a1) (P.2.2 a1) ) - (gX4_free P ))).2.2) a1) (gX1_need (nI a1) (P.2.2 a1) ))) ) else (((gX4_askBack P ((gX1_need (nI a1) (P.2.2 a1) ) - (gX4_free P ))).2.1) 1)), va_up ((gX4_askBack P ((gX1_need (nI a1) (P.2.2 a1) ) - (gX4_free P ))).2.2) a1 (gX1_start (nI a1) (((gX4_askBack P ((gX1_need (nI a1) (P.2.2 a1) ) - (gX4_free P ))).2.2) a1) (gX1_need (nI a1) (P.2.2 a1) )))) := hD
      refine lv_iconst (v := 1) hx hb dX4_start_72 (by decide) ?_
      exact xzret hx hb hr hlk hP hD hS (Or.inr rfl) (congrArg (fun z => z.1) (show gX4_start P a1 = (1, ((gX4_askBack P ((gX1_need (nI a1) (P.2.2 a1) ) - (gX4_free P ))).1, upd ((gX4_askBack P ((gX1_need (nI a1) (P.2.2 a1) ) - (gX4_free P ))).2.1) 1 (if (((gX4_askBack P ((gX1_need (nI a1) (P.2.2 a1) ) - (gX4_free P ))).2.1) 1) < (gX4_granted ((gX4_askBack P ((gX1_need (nI a1) (P.2.2 a1) ) - (gX4_free P ))).1, (gX4_askBack P ((gX1_need (nI a1) (P.2.2 a1) ) - (gX4_free P ))).2.1, va_up ((gX4_askBack P ((gX1_need (nI a1) (P.2.2 a1) ) - (gX4_free P ))).2.2) a1 (gX1_start (nI a1) (((gX4_askBack P ((gX1_need (nI a1) (P.2.2 a1) ) - (gX4_free P ))).2.2) a1) (gX1_need (nI a1) (P.2.2 a1) ))) ) then (gX4_granted ((gX4_askBack P ((gX1_need (nI a1) (P.2.2 a1) ) - (gX4_free P ))).1, (gX4_askBack P ((gX1_need (nI a1) (P.2.2 a1) ) - (gX4_free P ))).2.1, va_up ((gX4_askBack P ((gX1_need (nI a1) (P.2.2 a1) ) - (gX4_free P ))).2.2) a1 (gX1_start (nI a1) (((gX4_askBack P ((gX1_need (nI a1) (P.2.2 a1) ) - (gX4_free P ))).2.2) a1) (gX1_need (nI a1) (P.2.2 a1) ))) ) else (((gX4_askBack P ((gX1_need (nI a1) (P.2.2 a1) ) - (gX4_free P ))).2.1) 1)), va_up ((gX4_askBack P ((gX1_need (nI a1) (P.2.2 a1) ) - (gX4_free P ))).2.2) a1 (gX1_start (nI a1) (((gX4_askBack P ((gX1_need (nI a1) (P.2.2 a1) ) - (gX4_free P ))).2.2) a1) (gX1_need (nI a1) (P.2.2 a1) )))) from (Eq.trans (if_pos c_13) (Eq.trans (if_neg c_39) rfl)))).symm (congrArg (fun z => poolW ck pa z.2) (show gX4_start P a1 = (1, ((gX4_askBack P ((gX1_need (nI a1) (P.2.2 a1) ) - (gX4_free P ))).1, upd ((gX4_askBack P ((gX1_need (nI a1) (P.2.2 a1) ) - (gX4_free P ))).2.1) 1 (if (((gX4_askBack P ((gX1_need (nI a1) (P.2.2 a1) ) - (gX4_free P ))).2.1) 1) < (gX4_granted ((gX4_askBack P ((gX1_need (nI a1) (P.2.2 a1) ) - (gX4_free P ))).1, (gX4_askBack P ((gX1_need (nI a1) (P.2.2 a1) ) - (gX4_free P ))).2.1, va_up ((gX4_askBack P ((gX1_need (nI a1) (P.2.2 a1) ) - (gX4_free P ))).2.2) a1 (gX1_start (nI a1) (((gX4_askBack P ((gX1_need (nI a1) (P.2.2 a1) ) - (gX4_free P ))).2.2) a1) (gX1_need (nI a1) (P.2.2 a1) ))) ) then (gX4_granted ((gX4_askBack P ((gX1_need (nI a1) (P.2.2 a1) ) - (gX4_free P ))).1, (gX4_askBack P ((gX1_need (nI a1) (P.2.2 a1) ) - (gX4_free P ))).2.1, va_up ((gX4_askBack P ((gX1_need (nI a1) (P.2.2 a1) ) - (gX4_free P ))).2.2) a1 (gX1_start (nI a1) (((gX4_askBack P ((gX1_need (nI a1) (P.2.2 a1) ) - (gX4_free P ))).2.2) a1) (gX1_need (nI a1) (P.2.2 a1) ))) ) else (((gX4_askBack P ((gX1_need (nI a1) (P.2.2 a1) ) - (gX4_free P ))).2.1) 1)), va_up ((gX4_askBack P ((gX1_need (nI a1) (P.2.2 a1) ) - (gX4_free P ))).2.2) a1 (gX1_start (nI a1) (((gX4_askBack P ((gX1_need (nI a1) (P.2.2 a1) ) - (gX4_free P ))).2.2) a1) (gX1_need (nI a1) (P.2.2 a1) )))) from (Eq.trans (if_pos c_13) (Eq.trans (if_neg c_39) rfl)))).symm dX4_start_73
  · --f
    refine lv_aload_n hx hb dX4_start_16 rfl (lv_at hl 3 rfl) ?_
    refine lv_aload_n hx hb dX4_start_17 rfl (lv_at hl 2 rfl) ?_
    refine xreti (va_runV (As := []) (rest := [.ref (jA pa a1)]) ⟨hx, hb, hml, hown, hts⟩ (mX4_free l D ck pa P   _) (cwV 0 hts gX4_start_X4_free rfl rfl rfl (by decide +kernel) ⟨Nat.le_of_ble_eq_true rfl, Nat.le_of_ble_eq_true rfl⟩) (xpreV hN hK hP hD pm_all 0 rfl rfl rfl) rfl rfl hl.1 rfl (lv_room (Nat.le_of_ble_eq_true rfl)) dX4_start_18 ⟨Nat.le_of_ble_eq_true rfl, Nat.le_of_ble_eq_true rfl⟩) hP hD hS hA pm_all pm_all' (fun H locs hP hD hS => ?_)
    refine lv_aload_n hx hb dX4_start_21 rfl (lv_at hl 3 rfl) ?_
    refine xreti (va_runV (As := []) (rest := [.int (gX4_free P ), .ref (jA pa a1)]) ⟨hx, hb, hml, hown, hts⟩ (mX1_want l D ck (jA pa a1) (qA pa a1) (nI a1) (P.2.2 a1)  _) (cwV 0 hts gX4_start_X1_want rfl rfl rfl (by decide +kernel) ⟨Nat.le_of_ble_eq_true rfl, Nat.le_of_ble_eq_true rfl⟩) (xpreV hN hK hP hD (pm_pj (P := P) (by omega)) 0 rfl rfl rfl) rfl rfl hl.1 rfl (lv_room (Nat.le_of_ble_eq_true rfl)) dX4_start_22 ⟨Nat.le_of_ble_eq_true rfl, Nat.le_of_ble_eq_true rfl⟩) hP hD hS hA (pm_pj (P := P) (by omega)) (pm_pj (P := P) (by omega)).symm (fun H locs hP hD hS => ?_)
    refine va_mmin hx hb (hml.trans hl.1.symm) hown (hts (.methodLink RX4 78 Lib.Math.min.name) (List.mem_of_getElem? (i := 1) rfl)) (hts (.static Lib.Math.min.name) (List.mem_of_getElem? (i := 2) rfl)) (hts (.initialized "java/lang/Math") (List.mem_of_getElem? (i := 3) rfl)) (hts (.code Lib.Math.min.name Lib.Math.min.code 2 (some .int)) (List.mem_of_getElem? (i := 4) rfl)) (Nat.le_of_ble_eq_true rfl) (Nat.le_of_ble_eq_true rfl) (Nat.le_of_ble_eq_true rfl) (Nat.le_of_ble_eq_true rfl) dX4_start_25 ?_
    refine xretv (va_runV (As := [.int (if (gX1_want (nI a1) (P.2.2 a1) ) < (gX4_free P ) then (gX1_want (nI a1) (P.2.2 a1) ) else (gX4_free P ))]) (rest := []) ⟨hx, hb, hml, hown, hts⟩ (mX1_start l D ck (jA pa a1) (qA pa a1) (nI a1) (P.2.2 a1) (if (gX1_want (nI a1) (P.2.2 a1) ) < (gX4_free P ) then (gX1_want (nI a1) (P.2.2 a1) ) else (gX4_free P )) _) (cwV 1 hts gX4_start_X1_start rfl rfl rfl (by decide +kernel) ⟨Nat.le_of_ble_eq_true rfl, Nat.le_of_ble_eq_true rfl⟩) (xpreV hN hK hP hD (pm_pj (P := P) (by omega)) 0 rfl rfl rfl) rfl rfl hl.1 rfl (lv_room (Nat.le_of_ble_eq_true rfl)) dX4_start_28 ⟨Nat.le_of_ble_eq_true rfl, Nat.le_of_ble_eq_true rfl⟩) hP hD hS hA (pm_pj (P := P) (by omega)) (pm_pj' (P := P) (by omega)) (fun H locs hP hD hS => ?_)
    have hP : va_P D vwCl (poolW ck pa (P.1, P.2.1, va_up P.2.2 a1 (gX1_start (nI a1) (P.2.2 a1) (if (gX1_want (nI a1) (P.2.2 a1) ) < (gX4_free P ) then (gX1_want (nI a1) (P.2.2 a1) ) else (gX4_free P ))))) H := hP
    have hD : va_D (va_A (poolW ck pa P) s.heap.size) (poolW ck pa (P.1, P.2.1, va_up P.2.2 a1 (gX1_start (nI a1) (P.2.2 a1) (if (gX1_want (nI a1) (P.2.2 a1) ) < (gX4_free P ) then (gX1_want (nI a1) (P.2.2 a1) ) else (gX4_free P ))))) := hD
    refine lv_goto (tgt := 57) hx hb dX4_start_31 (by decide) ?_
    refine lv_aload_n hx hb dX4_start_57 rfl (lv_at hl 2 rfl) ?_
    refine lv_aload_n hx hb dX4_start_58 rfl (lv_at hl 2 rfl) ?_
    refine va_get (D := D) (ci := 4) (v := .int (P.2.1 1)) (C := RX4) (T := TX4) (N := 7) hx hb hts hinX4 hown hK hP 0 rfl rfl 3 (by decide) (hts (.fieldLink RX4 92 "JoinGrants$Pool" "mostGranted" "I") (List.mem_of_getElem? (i := 5) rfl)) (fun _ h9 => h9) rfl dX4_start_59 ?_
    refine lv_aload_n hx hb dX4_start_62 rfl (lv_at hl 2 rfl) ?_
    refine xreti (va_runV (As := []) (rest := [.int (P.2.1 1), .ref (pa 0)]) ⟨hx, hb, hml, hown, hts⟩ (mX4_granted l D ck pa (P.1, P.2.1, va_up P.2.2 a1 (gX1_start (nI a1) (P.2.2 a1) (if (gX1_want (nI a1) (P.2.2 a1) ) < (gX4_free P ) then (gX1_want (nI a1) (P.2.2 a1) ) else (gX4_free P ))))   _) (cwV 0 hts gX4_start_X4_granted rfl rfl rfl (by decide +kernel) ⟨Nat.le_of_ble_eq_true rfl, Nat.le_of_ble_eq_true rfl⟩) (xpreV hN hK hP hD pm_all 0 rfl rfl rfl) rfl rfl hl.1 rfl (lv_room (Nat.le_of_ble_eq_true rfl)) dX4_start_63 ⟨Nat.le_of_ble_eq_true rfl, Nat.le_of_ble_eq_true rfl⟩) hP hD hS hA pm_all pm_all' (fun H locs hP hD hS => ?_)
    refine va_mmax hx hb (hml.trans hl.1.symm) hown (hts (.methodLink RX4 98 Lib.Math.max.name) (List.mem_of_getElem? (i := 6) rfl)) (hts (.static Lib.Math.max.name) (List.mem_of_getElem? (i := 7) rfl)) (hts (.initialized "java/lang/Math") (List.mem_of_getElem? (i := 3) rfl)) (hts (.code Lib.Math.max.name Lib.Math.max.code 2 (some .int)) (List.mem_of_getElem? (i := 8) rfl)) (Nat.le_of_ble_eq_true rfl) (Nat.le_of_ble_eq_true rfl) (Nat.le_of_ble_eq_true rfl) (Nat.le_of_ble_eq_true rfl) dX4_start_66 ?_
    refine va_put (D := D) (ci := 4) (v := .int (if (P.2.1 1) < (gX4_granted (P.1, P.2.1, va_up P.2.2 a1 (gX1_start (nI a1) (P.2.2 a1) (if (gX1_want (nI a1) (P.2.2 a1) ) < (gX4_free P ) then (gX1_want (nI a1) (P.2.2 a1) ) else (gX4_free P )))) ) then (gX4_granted (P.1, P.2.1, va_up P.2.2 a1 (gX1_start (nI a1) (P.2.2 a1) (if (gX1_want (nI a1) (P.2.2 a1) ) < (gX4_free P ) then (gX1_want (nI a1) (P.2.2 a1) ) else (gX4_free P )))) ) else (P.2.1 1))) (ty := .int) (C := RX4) (T := TX4) (N := 7) hx hb hts hinX4 tyX4 tyX4_ok nmX4 hown hK hP hD hS 0 rfl rfl 3 (by decide) (hts (.fieldLink RX4 92 "JoinGrants$Pool" "mostGranted" "I") (List.mem_of_getElem? (i := 5) rfl)) (fun _ h9 => h9) rfl (by decide +kernel) rfl rfl (Nat.le_of_ble_eq_true rfl) dX4_start_69 (fun H locs hP hD hS => ?_)
    have hP : va_P D vwCl (poolW ck pa (P.1, upd P.2.1 1 (if (P.2.1 1) < (gX4_granted (P.1, P.2.1, va_up P.2.2 a1 (gX1_start (nI a1) (P.2.2 a1) (if (gX1_want (nI a1) (P.2.2 a1) ) < (gX4_free P ) then (gX1_want (nI a1) (P.2.2 a1) ) else (gX4_free P )))) ) then (gX4_granted (P.1, P.2.1, va_up P.2.2 a1 (gX1_start (nI a1) (P.2.2 a1) (if (gX1_want (nI a1) (P.2.2 a1) ) < (gX4_free P ) then (gX1_want (nI a1) (P.2.2 a1) ) else (gX4_free P )))) ) else (P.2.1 1)), va_up P.2.2 a1 (gX1_start (nI a1) (P.2.2 a1) (if (gX1_want (nI a1) (P.2.2 a1) ) < (gX4_free P ) then (gX1_want (nI a1) (P.2.2 a1) ) else (gX4_free P ))))) H := hP
    have hD : va_D (va_A (poolW ck pa P) s.heap.size) (poolW ck pa (P.1, upd P.2.1 1 (if (P.2.1 1) < (gX4_granted (P.1, P.2.1, va_up P.2.2 a1 (gX1_start (nI a1) (P.2.2 a1) (if (gX1_want (nI a1) (P.2.2 a1) ) < (gX4_free P ) then (gX1_want (nI a1) (P.2.2 a1) ) else (gX4_free P )))) ) then (gX4_granted (P.1, P.2.1, va_up P.2.2 a1 (gX1_start (nI a1) (P.2.2 a1) (if (gX1_want (nI a1) (P.2.2 a1) ) < (gX4_free P ) then (gX1_want (nI a1) (P.2.2 a1) ) else (gX4_free P )))) ) else (P.2.1 1)), va_up P.2.2 a1 (gX1_start (nI a1) (P.2.2 a1) (if (gX1_want (nI a1) (P.2.2 a1) ) < (gX4_free P ) then (gX1_want (nI a1) (P.2.2 a1) ) else (gX4_free P ))))) := hD
    refine lv_iconst (v := 1) hx hb dX4_start_72 (by decide) ?_
    exact xzret hx hb hr hlk hP hD hS (Or.inr rfl) (congrArg (fun z => z.1) (show gX4_start P a1 = (1, (P.1, upd P.2.1 1 (if (P.2.1 1) < (gX4_granted (P.1, P.2.1, va_up P.2.2 a1 (gX1_start (nI a1) (P.2.2 a1) (if (gX1_want (nI a1) (P.2.2 a1) ) < (gX4_free P ) then (gX1_want (nI a1) (P.2.2 a1) ) else (gX4_free P )))) ) then (gX4_granted (P.1, P.2.1, va_up P.2.2 a1 (gX1_start (nI a1) (P.2.2 a1) (if (gX1_want (nI a1) (P.2.2 a1) ) < (gX4_free P ) then (gX1_want (nI a1) (P.2.2 a1) ) else (gX4_free P )))) ) else (P.2.1 1)), va_up P.2.2 a1 (gX1_start (nI a1) (P.2.2 a1) (if (gX1_want (nI a1) (P.2.2 a1) ) < (gX4_free P ) then (gX1_want (nI a1) (P.2.2 a1) ) else (gX4_free P ))))) from (Eq.trans (if_neg c_13) rfl))).symm (congrArg (fun z => poolW ck pa z.2) (show gX4_start P a1 = (1, (P.1, upd P.2.1 1 (if (P.2.1 1) < (gX4_granted (P.1, P.2.1, va_up P.2.2 a1 (gX1_start (nI a1) (P.2.2 a1) (if (gX1_want (nI a1) (P.2.2 a1) ) < (gX4_free P ) then (gX1_want (nI a1) (P.2.2 a1) ) else (gX4_free P )))) ) then (gX4_granted (P.1, P.2.1, va_up P.2.2 a1 (gX1_start (nI a1) (P.2.2 a1) (if (gX1_want (nI a1) (P.2.2 a1) ) < (gX4_free P ) then (gX1_want (nI a1) (P.2.2 a1) ) else (gX4_free P )))) ) else (P.2.1 1)), va_up P.2.2 a1 (gX1_start (nI a1) (P.2.2 a1) (if (gX1_want (nI a1) (P.2.2 a1) ) < (gX4_free P ) then (gX1_want (nI a1) (P.2.2 a1) ) else (gX4_free P ))))) from (Eq.trans (if_neg c_13) rfl))).symm dX4_start_73

def rmX4_goThroughQueue : Room := { frames := 4, cells := 0, slots := 0, locals := 97 }
def gX4_goThroughQueue_L2 (P : PS) : Nat → Nat → PS → PS
  | 0, i, P1 => P1
  | fu + 1, i, P1 => (if (gX4_firstInQueue P1 ) = none then P1 else (if ((gX4_start P1 ((gX4_firstInQueue P1 ).getD 0)).1) = 0 then ((gX4_start P1 ((gX4_firstInQueue P1 ).getD 0)).2) else (gX4_goThroughQueue_L2 P fu (i + 1) ((gX4_start P1 ((gX4_firstInQueue P1 ).getD 0)).2))))
def gX4_goThroughQueue (P : PS) : PS := (gX4_goThroughQueue_L2 P 16 0 P)
set_option maxHeartbeats 4000000 in
set_option maxRecDepth 100000 in
theorem mX4_goThroughQueue (l : Launch) (D : va_G) (ck : Nat → ClassId) (pa : Nat → Nat) (P : PS) : xMv l yX4_goThroughQueue wsX4_goThroughQueue rmX4_goThroughQueue D ck [.ref (pa 0)] (poolW ck pa P) (poolW ck pa (gX4_goThroughQueue P)) 0 0 := by
  refine xMet (by decide) rfl (Nat.le_of_ble_eq_true rfl) ?_
  intro zp ze s zm zb zt zc hx hb hr hml hown hts hlk hnm hN hK hP hD ls hl
  have hown : s.vm.findClass RX4 = some zm.cls := hown
  have hl : lv_has ls 3 [(0, .ref (pa 0))] := hl
  have hS : va_S (va_A (poolW ck pa P) s.heap.size) s.heap s.heap [] := va_S.rf
  have hA : ∀ zq : Nat, s.heap.size ≤ zq → va_A (poolW ck pa P) s.heap.size zq := fun zq h => Or.inr h
  have hinX4 : ∀ w ∈ u_ws RX4 TX4 7, w ∈ wsX4_goThroughQueue := by decide +kernel
  refine lv_iconst (v := (nI 0)) hx hb dX4_goThroughQueue_0 (by decide) ?_
  refine lv_istore_n (lv' := [(1, .int (nI 0)), (0, .ref (pa 0))]) hx hb dX4_goThroughQueue_1 rfl hl (by decide) rfl (fun ls hl => ?_)
  have loop2 : ∀ (fu : Nat) (i : Nat) (P1 : PS), (i + fu = 16) → gX4_goThroughQueue P = gX4_goThroughQueue_L2 P fu i P1 → ∀ (H : Heap) (locs : List Loc) (ls : Array Slot), va_P D vwCl (poolW ck pa P1) H → va_D (va_A (poolW ck pa P) s.heap.size) (poolW ck pa P1) → va_S (va_A (poolW ck pa P) s.heap.size) s.heap H locs → lv_has ls 3 [(0, .ref (pa 0)), (1, .int (nI i))] → W zp l ze rmX4_goThroughQueue s zm ([.ref (pa 0)] : List Value).toArray zb zt zc H locs 0 0 (MQ zb (xQv D (poolW ck pa P) (poolW ck pa (gX4_goThroughQueue P)) s.heap.size) ([.ref (pa 0)] : List Value).toArray s 0 0 (va_A (poolW ck pa P) s.heap.size)) (F0 zm 2 ls []) := by
    intro fu
    induction fu with
    | zero =>
      intro i P1 hif hg H locs ls hP hD hS hl
      refine lv_iload_n hx hb dX4_goThroughQueue_2 rfl (lv_at hl 1 rfl) ?_
      refine lv_aload_n hx hb dX4_goThroughQueue_3 rfl (lv_at hl 0 rfl) ?_
      refine va_get (D := D) (ci := 4) (v := .ref (pa 2)) (C := RX4) (T := TX4) (N := 7) hx hb hts hinX4 hown hK hP 0 rfl rfl 1 (by decide) (hts (.fieldLink RX4 25 "JoinGrants$Pool" "joins" "[LJoinGrants$Join;") (List.mem_of_getElem? (i := 1) rfl)) (fun _ h9 => h9) rfl dX4_goThroughQueue_4 ?_
      refine va_alen hx hb hK hP 2 2 rfl rfl (v := (nI 16)) rfl dX4_goThroughQueue_7 ?_
      refine lv_icmp_ge (tgt := 35) hx hb dX4_goThroughQueue_8 (by decide) (fun c_8 => ?_) (fun c_8 => ?_)
      · --t
        exact xvret hx hb hr hlk hP hD hS (congrArg (fun z => poolW ck pa z) (hg.trans (show gX4_goThroughQueue_L2 P 0 i P1 = P1 from rfl))).symm dX4_goThroughQueue_35
      · --f
        exact absurd (nI_le (by omega) (by omega)) c_8
    | succ fu ih2 =>
      intro i P1 hif hg H locs ls hP hD hS hl
      refine lv_iload_n hx hb dX4_goThroughQueue_2 rfl (lv_at hl 1 rfl) ?_
      refine lv_aload_n hx hb dX4_goThroughQueue_3 rfl (lv_at hl 0 rfl) ?_
      refine va_get (D := D) (ci := 4) (v := .ref (pa 2)) (C := RX4) (T := TX4) (N := 7) hx hb hts hinX4 hown hK hP 0 rfl rfl 1 (by decide) (hts (.fieldLink RX4 25 "JoinGrants$Pool" "joins" "[LJoinGrants$Join;") (List.mem_of_getElem? (i := 1) rfl)) (fun _ h9 => h9) rfl dX4_goThroughQueue_4 ?_
      refine va_alen hx hb hK hP 2 2 rfl rfl (v := (nI 16)) rfl dX4_goThroughQueue_7 ?_
      refine lv_icmp_ge (tgt := 35) hx hb dX4_goThroughQueue_8 (by decide) (fun c_8 => ?_) (fun c_8 => ?_)
      · --t
        exact absurd c_8 (nI_ge (by omega) (by omega))
      · --f
        refine lv_aload_n hx hb dX4_goThroughQueue_11 rfl (lv_at hl 0 rfl) ?_
        refine xretq (va_runV (As := []) (rest := []) ⟨hx, hb, hml, hown, hts⟩ (mX4_firstInQueue l D ck pa P1   _) (cwV 0 hts gX4_goThroughQueue_X4_firstInQueue rfl rfl rfl (by decide +kernel) ⟨Nat.le_of_ble_eq_true rfl, Nat.le_of_ble_eq_true rfl⟩) (xpreV hN hK hP hD pm_all 0 rfl rfl rfl) rfl rfl hl.1 rfl (lv_room (Nat.le_of_ble_eq_true rfl)) dX4_goThroughQueue_12 ⟨Nat.le_of_ble_eq_true rfl, Nat.le_of_ble_eq_true rfl⟩) hP hD hS hA pm_all pm_all' (fun H locs hP hD hS => ?_)
        by_cases cq_12 : (gX4_firstInQueue P1 ) = none
        ·
          rw [xrf_none cq_12]
          refine lv_astore_nN (lv' := [(2, .null), (0, .ref (pa 0)), (1, .int (nI i))]) hx hb dX4_goThroughQueue_15 rfl hl (by decide) rfl (fun ls hl => ?_)
          refine lv_aload_nN hx hb dX4_goThroughQueue_16 rfl (lv_at hl 0 rfl) ?_
          refine lv_ifnullN (tgt := 28) hx hb dX4_goThroughQueue_17 (by decide) ?_
          exact xvret hx hb hr hlk hP hD hS (congrArg (fun z => poolW ck pa z) (hg.trans (show gX4_goThroughQueue_L2 P (fu + 1) i P1 = P1 from (Eq.trans (if_pos cq_12) rfl)))).symm dX4_goThroughQueue_28
        ·
          rw [xrf_some cq_12]
          have hlt_12 : ((gX4_firstInQueue P1 )).getD 0 < 16 := lt_X4_firstInQueue cq_12
          refine lv_astore_n (lv' := [(2, .ref (jA pa ((gX4_firstInQueue P1 ).getD 0))), (0, .ref (pa 0)), (1, .int (nI i))]) hx hb dX4_goThroughQueue_15 rfl hl (by decide) rfl (fun ls hl => ?_)
          refine lv_aload_n hx hb dX4_goThroughQueue_16 rfl (lv_at hl 0 rfl) ?_
          refine lv_ifnull hx hb dX4_goThroughQueue_17 ?_
          refine lv_aload_n hx hb dX4_goThroughQueue_20 rfl (lv_at hl 1 rfl) ?_
          refine lv_aload_n hx hb dX4_goThroughQueue_21 rfl (lv_at hl 0 rfl) ?_
          refine xreti (va_runV (As := [.ref (jA pa ((gX4_firstInQueue P1 ).getD 0))]) (rest := []) ⟨hx, hb, hml, hown, hts⟩ (mX4_start l D ck pa P1 ((gX4_firstInQueue P1 ).getD 0) (by omega) _) (cwV 1 hts gX4_goThroughQueue_X4_start rfl rfl rfl (by decide +kernel) ⟨Nat.le_of_ble_eq_true rfl, Nat.le_of_ble_eq_true rfl⟩) (xpreV hN hK hP hD pm_all 0 rfl rfl rfl) rfl rfl hl.1 rfl (lv_room (Nat.le_of_ble_eq_true rfl)) dX4_goThroughQueue_22 ⟨Nat.le_of_ble_eq_true rfl, Nat.le_of_ble_eq_true rfl⟩) hP hD hS hA pm_all pm_all' (fun H locs hP hD hS => ?_)
          have hP : va_P D vwCl (poolW ck pa ((gX4_start P1 ((gX4_firstInQueue P1 ).getD 0)).2)) H := hP
          have hD : va_D (va_A (poolW ck pa P) s.heap.size) (poolW ck pa ((gX4_start P1 ((gX4_firstInQueue P1 ).getD 0)).2)) := hD
          refine lv_if_ne (tgt := 29) hx hb dX4_goThroughQueue_25 (by decide) (fun c_25 => ?_) (fun c_25 => ?_)
          · --t
            refine lv_iinc (v := (nI (i + 1))) (lv' := [(1, .int (nI (i + 1))), (2, .ref (jA pa ((gX4_firstInQueue P1 ).getD 0))), (0, .ref (pa 0))]) hx hb dX4_goThroughQueue_29 hl (k := 2) rfl (nI_1 i) (by decide) rfl (fun ls hl => ?_)
            refine lv_goto (tgt := 2) hx hb dX4_goThroughQueue_32 (by decide) ?_
            exact ih2 (i + 1) ((gX4_start P1 ((gX4_firstInQueue P1 ).getD 0)).2) (by omega) (hg.trans (show gX4_goThroughQueue_L2 P (fu + 1) i P1 = (gX4_goThroughQueue_L2 P fu (i + 1) ((gX4_start P1 ((gX4_firstInQueue P1 ).getD 0)).2)) from (Eq.trans (if_neg cq_12) (Eq.trans (if_neg c_25) rfl)))) _ _ _ hP hD hS (lv_sub hl [2, 0] rfl)
          · --f
            exact xvret hx hb hr hlk hP hD hS (congrArg (fun z => poolW ck pa z) (hg.trans (show gX4_goThroughQueue_L2 P (fu + 1) i P1 = ((gX4_start P1 ((gX4_firstInQueue P1 ).getD 0)).2) from (Eq.trans (if_neg cq_12) (Eq.trans (if_pos c_25) rfl))))).symm dX4_goThroughQueue_28
  exact loop2 16 0 P (by omega) (show gX4_goThroughQueue P = (gX4_goThroughQueue_L2 P 16 0 P) from rfl) _ _ _ hP hD hS (lv_sub hl [1, 0] rfl)

def rmX4_changeSetting : Room := { frames := 5, cells := 0, slots := 0, locals := 119 }
def gX4_changeSetting (P : PS) (a1 : Int32) (a2 : Int32) : PS := (if a1 < 0 then P else (if (nI 4) ≤ a1 then P else (gX4_goThroughQueue (upd P.1 a1.toNatClampNeg a2, P.2.1, P.2.2) )))
set_option maxHeartbeats 4000000 in
set_option maxRecDepth 100000 in
theorem mX4_changeSetting (l : Launch) (D : va_G) (ck : Nat → ClassId) (pa : Nat → Nat) (P : PS) (a1 : Int32) (a2 : Int32) : xMv l yX4_changeSetting wsX4_changeSetting rmX4_changeSetting D ck [.ref (pa 0), .int a1, .int a2] (poolW ck pa P) (poolW ck pa (gX4_changeSetting P a1 a2)) 0 0 := by
  refine xMet (by decide) rfl (Nat.le_of_ble_eq_true rfl) ?_
  intro zp ze s zm zb zt zc hx hb hr hml hown hts hlk hnm hN hK hP hD ls hl
  have hown : s.vm.findClass RX4 = some zm.cls := hown
  have hl : lv_has ls 3 [(0, .ref (pa 0)), (1, .int a1), (2, .int a2)] := hl
  have hS : va_S (va_A (poolW ck pa P) s.heap.size) s.heap s.heap [] := va_S.rf
  have hA : ∀ zq : Nat, s.heap.size ≤ zq → va_A (poolW ck pa P) s.heap.size zq := fun zq h => Or.inr h
  have hinX4 : ∀ w ∈ u_ws RX4 TX4 7, w ∈ wsX4_changeSetting := by decide +kernel
  refine lv_iload_n hx hb dX4_changeSetting_0 rfl (lv_at hl 1 rfl) ?_
  refine lv_if_lt (tgt := 24) hx hb dX4_changeSetting_1 (by decide) (fun c_1 => ?_) (fun c_1 => ?_)
  · --t
    exact xvret hx hb hr hlk hP hD hS (congrArg (fun z => poolW ck pa z) (show gX4_changeSetting P a1 a2 = P from (Eq.trans (if_pos c_1) rfl))).symm dX4_changeSetting_24
  · --f
    refine lv_iload_n hx hb dX4_changeSetting_4 rfl (lv_at hl 1 rfl) ?_
    refine lv_aload_n hx hb dX4_changeSetting_5 rfl (lv_at hl 0 rfl) ?_
    refine va_get (D := D) (ci := 4) (v := .ref (pa 1)) (C := RX4) (T := TX4) (N := 7) hx hb hts hinX4 hown hK hP 0 rfl rfl 0 (by decide) (hts (.fieldLink RX4 20 "JoinGrants$Pool" "settings" "[I") (List.mem_of_getElem? (i := 1) rfl)) (fun _ h9 => h9) rfl dX4_changeSetting_6 ?_
    refine va_alen hx hb hK hP 1 0 rfl rfl (v := (nI 4)) rfl dX4_changeSetting_9 ?_
    refine lv_icmp_ge (tgt := 24) hx hb dX4_changeSetting_10 (by decide) (fun c_10 => ?_) (fun c_10 => ?_)
    · --t
      exact xvret hx hb hr hlk hP hD hS (congrArg (fun z => poolW ck pa z) (show gX4_changeSetting P a1 a2 = P from (Eq.trans (if_neg c_1) (Eq.trans (if_pos c_10) rfl)))).symm dX4_changeSetting_24
    · --f
      refine lv_aload_n hx hb dX4_changeSetting_13 rfl (lv_at hl 0 rfl) ?_
      refine va_get (D := D) (ci := 4) (v := .ref (pa 1)) (C := RX4) (T := TX4) (N := 7) hx hb hts hinX4 hown hK hP 0 rfl rfl 0 (by decide) (hts (.fieldLink RX4 20 "JoinGrants$Pool" "settings" "[I") (List.mem_of_getElem? (i := 1) rfl)) (fun _ h9 => h9) rfl dX4_changeSetting_14 ?_
      refine lv_iload_n hx hb dX4_changeSetting_17 rfl (lv_at hl 1 rfl) ?_
      refine lv_iload_n hx hb dX4_changeSetting_18 rfl (lv_at hl 2 rfl) ?_
      refine va_iast hx hb hK hP hD hS 1 0 rfl rfl (xin_g (by decide) c_1 c_10) dX4_changeSetting_19 (fun H locs hP hD hS => ?_)
      have hP : va_P D vwCl (poolW ck pa (upd P.1 a1.toNatClampNeg a2, P.2.1, P.2.2)) H := hP
      have hD : va_D (va_A (poolW ck pa P) s.heap.size) (poolW ck pa (upd P.1 a1.toNatClampNeg a2, P.2.1, P.2.2)) := hD
      refine lv_aload_n hx hb dX4_changeSetting_20 rfl (lv_at hl 0 rfl) ?_
      refine xretv (va_runV (As := []) (rest := []) ⟨hx, hb, hml, hown, hts⟩ (mX4_goThroughQueue l D ck pa (upd P.1 a1.toNatClampNeg a2, P.2.1, P.2.2)   _) (cwV 0 hts gX4_changeSetting_X4_goThroughQueue rfl rfl rfl (by decide +kernel) ⟨Nat.le_of_ble_eq_true rfl, Nat.le_of_ble_eq_true rfl⟩) (xpreV hN hK hP hD pm_all 0 rfl rfl rfl) rfl rfl hl.1 rfl (lv_room (Nat.le_of_ble_eq_true rfl)) dX4_changeSetting_21 ⟨Nat.le_of_ble_eq_true rfl, Nat.le_of_ble_eq_true rfl⟩) hP hD hS hA pm_all pm_all' (fun H locs hP hD hS => ?_)
      have hP : va_P D vwCl (poolW ck pa (gX4_goThroughQueue (upd P.1 a1.toNatClampNeg a2, P.2.1, P.2.2) )) H := hP
      have hD : va_D (va_A (poolW ck pa P) s.heap.size) (poolW ck pa (gX4_goThroughQueue (upd P.1 a1.toNatClampNeg a2, P.2.1, P.2.2) )) := hD
      exact xvret hx hb hr hlk hP hD hS (congrArg (fun z => poolW ck pa z) (show gX4_changeSetting P a1 a2 = (gX4_goThroughQueue (upd P.1 a1.toNatClampNeg a2, P.2.1, P.2.2) ) from (Eq.trans (if_neg c_1) (Eq.trans (if_neg c_10) rfl)))).symm dX4_changeSetting_24

def rmX4_take : Room := { frames := 5, cells := 0, slots := 0, locals := 119 }
def gX4_take (P : PS) (a1 : Int32) (a2 : Int32) (a3 : Int32) : Int32 × PS := (if (P.2.1 0) < (nI 16) then ((gX1_number (nI ((P.2.1 0).toNatClampNeg)) (((gX4_goThroughQueue (P.1, upd P.2.1 0 ((P.2.1 0) + 1), va_up P.2.2 ((P.2.1 0).toNatClampNeg) (gX1_come (nI ((P.2.1 0).toNatClampNeg)) (P.2.2 ((P.2.1 0).toNatClampNeg)) a1 a2 a3)) ).2.2) ((P.2.1 0).toNatClampNeg)) ), (gX4_goThroughQueue (P.1, upd P.2.1 0 ((P.2.1 0) + 1), va_up P.2.2 ((P.2.1 0).toNatClampNeg) (gX1_come (nI ((P.2.1 0).toNatClampNeg)) (P.2.2 ((P.2.1 0).toNatClampNeg)) a1 a2 a3)) )) else ((-3), P))
set_option maxHeartbeats 4000000 in
set_option maxRecDepth 100000 in
theorem mX4_take (l : Launch) (D : va_G) (ck : Nat → ClassId) (pa : Nat → Nat) (P : PS) (a1 : Int32) (a2 : Int32) (a3 : Int32) (hn0 : ¬ P.2.1 0 < 0) : xMi l yX4_take wsX4_take rmX4_take D ck [.ref (pa 0), .int a1, .int a2, .int a3] (poolW ck pa P) (poolW ck pa ((gX4_take P a1 a2 a3).2)) ((gX4_take P a1 a2 a3).1) 0 0 := by
  refine xMet (by decide) rfl (Nat.le_of_ble_eq_true rfl) ?_
  intro zp ze s zm zb zt zc hx hb hr hml hown hts hlk hnm hN hK hP hD ls hl
  have hown : s.vm.findClass RX4 = some zm.cls := hown
  have hl : lv_has ls 5 [(0, .ref (pa 0)), (1, .int a1), (2, .int a2), (3, .int a3)] := hl
  have hS : va_S (va_A (poolW ck pa P) s.heap.size) s.heap s.heap [] := va_S.rf
  have hA : ∀ zq : Nat, s.heap.size ≤ zq → va_A (poolW ck pa P) s.heap.size zq := fun zq h => Or.inr h
  have hinX4 : ∀ w ∈ u_ws RX4 TX4 7, w ∈ wsX4_take := by decide +kernel
  refine lv_aload_n hx hb dX4_take_0 rfl (lv_at hl 0 rfl) ?_
  refine va_get (D := D) (ci := 4) (v := .int (P.2.1 0)) (C := RX4) (T := TX4) (N := 7) hx hb hts hinX4 hown hK hP 0 rfl rfl 2 (by decide) (hts (.fieldLink RX4 41 "JoinGrants$Pool" "joinsSoFar" "I") (List.mem_of_getElem? (i := 1) rfl)) (fun _ h9 => h9) rfl dX4_take_1 ?_
  refine lv_aload_n hx hb dX4_take_4 rfl (lv_at hl 0 rfl) ?_
  refine va_get (D := D) (ci := 4) (v := .ref (pa 2)) (C := RX4) (T := TX4) (N := 7) hx hb hts hinX4 hown hK hP 0 rfl rfl 1 (by decide) (hts (.fieldLink RX4 25 "JoinGrants$Pool" "joins" "[LJoinGrants$Join;") (List.mem_of_getElem? (i := 2) rfl)) (fun _ h9 => h9) rfl dX4_take_5 ?_
  refine va_alen hx hb hK hP 2 2 rfl rfl (v := (nI 16)) rfl dX4_take_8 ?_
  refine lv_icmp_lt (tgt := 15) hx hb dX4_take_9 (by decide) (fun c_9 => ?_) (fun c_9 => ?_)
  · --t
    have hin0 : vp_in (P.2.1 0) 16 := xin_g' (by decide) hn0 c_9
    have hj0 := xin_lt hin0
    refine lv_aload_n hx hb dX4_take_15 rfl (lv_at hl 0 rfl) ?_
    refine va_get (D := D) (ci := 4) (v := .ref (pa 2)) (C := RX4) (T := TX4) (N := 7) hx hb hts hinX4 hown hK hP 0 rfl rfl 1 (by decide) (hts (.fieldLink RX4 25 "JoinGrants$Pool" "joins" "[LJoinGrants$Join;") (List.mem_of_getElem? (i := 2) rfl)) (fun _ h9 => h9) rfl dX4_take_16 ?_
    refine lv_aload_n hx hb dX4_take_19 rfl (lv_at hl 0 rfl) ?_
    refine va_get (D := D) (ci := 4) (v := .int (P.2.1 0)) (C := RX4) (T := TX4) (N := 7) hx hb hts hinX4 hown hK hP 0 rfl rfl 2 (by decide) (hts (.fieldLink RX4 41 "JoinGrants$Pool" "joinsSoFar" "I") (List.mem_of_getElem? (i := 1) rfl)) (fun _ h9 => h9) rfl dX4_take_20 ?_
    refine xaldq (j := (P.2.1 0).toNatClampNeg) (b := jA pa ((P.2.1 0).toNatClampNeg)) rfl hx hb hK hP 2 2 rfl rfl hin0 rfl dX4_take_23 ?_
    refine lv_astore (lv' := [(4, .ref (jA pa ((P.2.1 0).toNatClampNeg))), (0, .ref (pa 0)), (1, .int a1), (2, .int a2), (3, .int a3)]) hx hb dX4_take_24 hl (by decide) rfl (fun ls hl => ?_)
    refine lv_aload_n hx hb dX4_take_26 rfl (lv_at hl 1 rfl) ?_
    refine lv_dup hx hb dX4_take_27 rfl ?_
    refine va_get (D := D) (ci := 4) (v := .int (P.2.1 0)) (C := RX4) (T := TX4) (N := 7) hx hb hts hinX4 hown hK hP 0 rfl rfl 2 (by decide) (hts (.fieldLink RX4 41 "JoinGrants$Pool" "joinsSoFar" "I") (List.mem_of_getElem? (i := 1) rfl)) (fun _ h9 => h9) rfl dX4_take_28 ?_
    refine lv_iconst (v := 1) hx hb dX4_take_31 (by decide) ?_
    refine lv_iadd hx hb dX4_take_32 ?_
    refine va_put (D := D) (ci := 4) (v := .int ((P.2.1 0) + 1)) (ty := .int) (C := RX4) (T := TX4) (N := 7) hx hb hts hinX4 tyX4 tyX4_ok nmX4 hown hK hP hD hS 0 rfl rfl 2 (by decide) (hts (.fieldLink RX4 41 "JoinGrants$Pool" "joinsSoFar" "I") (List.mem_of_getElem? (i := 1) rfl)) (fun _ h9 => h9) rfl (by decide +kernel) rfl rfl (Nat.le_of_ble_eq_true rfl) dX4_take_33 (fun H locs hP hD hS => ?_)
    have hP : va_P D vwCl (poolW ck pa (P.1, upd P.2.1 0 ((P.2.1 0) + 1), P.2.2)) H := hP
    have hD : va_D (va_A (poolW ck pa P) s.heap.size) (poolW ck pa (P.1, upd P.2.1 0 ((P.2.1 0) + 1), P.2.2)) := hD
    refine lv_aload hx hb dX4_take_36 (lv_at hl 0 rfl) ?_
    refine lv_iload_n hx hb dX4_take_38 rfl (lv_at hl 2 rfl) ?_
    refine lv_iload_n hx hb dX4_take_39 rfl (lv_at hl 3 rfl) ?_
    refine lv_iload_n hx hb dX4_take_40 rfl (lv_at hl 4 rfl) ?_
    refine xretv (va_runV (As := [.int a1, .int a2, .int a3]) (rest := []) ⟨hx, hb, hml, hown, hts⟩ (mX1_come l D ck (jA pa ((P.2.1 0).toNatClampNeg)) (qA pa ((P.2.1 0).toNatClampNeg)) (nI ((P.2.1 0).toNatClampNeg)) (P.2.2 ((P.2.1 0).toNatClampNeg)) a1 a2 a3 _) (cwV 3 hts gX4_take_X1_come rfl rfl rfl (by decide +kernel) ⟨Nat.le_of_ble_eq_true rfl, Nat.le_of_ble_eq_true rfl⟩) (xpreV hN hK hP hD (pm_pj (P := (P.1, upd P.2.1 0 ((P.2.1 0) + 1), P.2.2)) (by omega)) 0 rfl rfl rfl) rfl rfl hl.1 rfl (lv_room (Nat.le_of_ble_eq_true rfl)) dX4_take_41 ⟨Nat.le_of_ble_eq_true rfl, Nat.le_of_ble_eq_true rfl⟩) hP hD hS hA (pm_pj (P := (P.1, upd P.2.1 0 ((P.2.1 0) + 1), P.2.2)) (by omega)) (pm_pj' (P := (P.1, upd P.2.1 0 ((P.2.1 0) + 1), P.2.2)) (by omega)) (fun H locs hP hD hS => ?_)
    have hP : va_P D vwCl (poolW ck pa (P.1, upd P.2.1 0 ((P.2.1 0) + 1), va_up P.2.2 ((P.2.1 0).toNatClampNeg) (gX1_come (nI ((P.2.1 0).toNatClampNeg)) (P.2.2 ((P.2.1 0).toNatClampNeg)) a1 a2 a3))) H := hP
    have hD : va_D (va_A (poolW ck pa P) s.heap.size) (poolW ck pa (P.1, upd P.2.1 0 ((P.2.1 0) + 1), va_up P.2.2 ((P.2.1 0).toNatClampNeg) (gX1_come (nI ((P.2.1 0).toNatClampNeg)) (P.2.2 ((P.2.1 0).toNatClampNeg)) a1 a2 a3))) := hD
    refine lv_aload_n hx hb dX4_take_44 rfl (lv_at hl 1 rfl) ?_
    refine xretv (va_runV (As := []) (rest := []) ⟨hx, hb, hml, hown, hts⟩ (mX4_goThroughQueue l D ck pa (P.1, upd P.2.1 0 ((P.2.1 0) + 1), va_up P.2.2 ((P.2.1 0).toNatClampNeg) (gX1_come (nI ((P.2.1 0).toNatClampNeg)) (P.2.2 ((P.2.1 0).toNatClampNeg)) a1 a2 a3))   _) (cwV 0 hts gX4_take_X4_goThroughQueue rfl rfl rfl (by decide +kernel) ⟨Nat.le_of_ble_eq_true rfl, Nat.le_of_ble_eq_true rfl⟩) (xpreV hN hK hP hD pm_all 0 rfl rfl rfl) rfl rfl hl.1 rfl (lv_room (Nat.le_of_ble_eq_true rfl)) dX4_take_45 ⟨Nat.le_of_ble_eq_true rfl, Nat.le_of_ble_eq_true rfl⟩) hP hD hS hA pm_all pm_all' (fun H locs hP hD hS => ?_)
    have hP : va_P D vwCl (poolW ck pa (gX4_goThroughQueue (P.1, upd P.2.1 0 ((P.2.1 0) + 1), va_up P.2.2 ((P.2.1 0).toNatClampNeg) (gX1_come (nI ((P.2.1 0).toNatClampNeg)) (P.2.2 ((P.2.1 0).toNatClampNeg)) a1 a2 a3)) )) H := hP
    have hD : va_D (va_A (poolW ck pa P) s.heap.size) (poolW ck pa (gX4_goThroughQueue (P.1, upd P.2.1 0 ((P.2.1 0) + 1), va_up P.2.2 ((P.2.1 0).toNatClampNeg) (gX1_come (nI ((P.2.1 0).toNatClampNeg)) (P.2.2 ((P.2.1 0).toNatClampNeg)) a1 a2 a3)) )) := hD
    refine lv_aload hx hb dX4_take_48 (lv_at hl 0 rfl) ?_
    refine xreti (va_runV (As := []) (rest := []) ⟨hx, hb, hml, hown, hts⟩ (mX1_number l D ck (jA pa ((P.2.1 0).toNatClampNeg)) (qA pa ((P.2.1 0).toNatClampNeg)) (nI ((P.2.1 0).toNatClampNeg)) (((gX4_goThroughQueue (P.1, upd P.2.1 0 ((P.2.1 0) + 1), va_up P.2.2 ((P.2.1 0).toNatClampNeg) (gX1_come (nI ((P.2.1 0).toNatClampNeg)) (P.2.2 ((P.2.1 0).toNatClampNeg)) a1 a2 a3)) ).2.2) ((P.2.1 0).toNatClampNeg))  _) (cwV 0 hts gX4_take_X1_number rfl rfl rfl (by decide +kernel) ⟨Nat.le_of_ble_eq_true rfl, Nat.le_of_ble_eq_true rfl⟩) (xpreV hN hK hP hD (pm_pj (P := (gX4_goThroughQueue (P.1, upd P.2.1 0 ((P.2.1 0) + 1), va_up P.2.2 ((P.2.1 0).toNatClampNeg) (gX1_come (nI ((P.2.1 0).toNatClampNeg)) (P.2.2 ((P.2.1 0).toNatClampNeg)) a1 a2 a3)) )) (by omega)) 0 rfl rfl rfl) rfl rfl hl.1 rfl (lv_room (Nat.le_of_ble_eq_true rfl)) dX4_take_50 ⟨Nat.le_of_ble_eq_true rfl, Nat.le_of_ble_eq_true rfl⟩) hP hD hS hA (pm_pj (P := (gX4_goThroughQueue (P.1, upd P.2.1 0 ((P.2.1 0) + 1), va_up P.2.2 ((P.2.1 0).toNatClampNeg) (gX1_come (nI ((P.2.1 0).toNatClampNeg)) (P.2.2 ((P.2.1 0).toNatClampNeg)) a1 a2 a3)) )) (by omega)) (pm_pj (P := (gX4_goThroughQueue (P.1, upd P.2.1 0 ((P.2.1 0) + 1), va_up P.2.2 ((P.2.1 0).toNatClampNeg) (gX1_come (nI ((P.2.1 0).toNatClampNeg)) (P.2.2 ((P.2.1 0).toNatClampNeg)) a1 a2 a3)) )) (by omega)).symm (fun H locs hP hD hS => ?_)
    exact xiret hx hb hr hlk hP hD hS (congrArg (fun z => z.1) (show gX4_take P a1 a2 a3 = ((gX1_number (nI ((P.2.1 0).toNatClampNeg)) (((gX4_goThroughQueue (P.1, upd P.2.1 0 ((P.2.1 0) + 1), va_up P.2.2 ((P.2.1 0).toNatClampNeg) (gX1_come (nI ((P.2.1 0).toNatClampNeg)) (P.2.2 ((P.2.1 0).toNatClampNeg)) a1 a2 a3)) ).2.2) ((P.2.1 0).toNatClampNeg)) ), (gX4_goThroughQueue (P.1, upd P.2.1 0 ((P.2.1 0) + 1), va_up P.2.2 ((P.2.1 0).toNatClampNeg) (gX1_come (nI ((P.2.1 0).toNatClampNeg)) (P.2.2 ((P.2.1 0).toNatClampNeg)) a1 a2 a3)) )) from (Eq.trans (if_pos c_9) rfl))).symm (congrArg (fun z => poolW ck pa z.2) (show gX4_take P a1 a2 a3 = ((gX1_number (nI ((P.2.1 0).toNatClampNeg)) (((gX4_goThroughQueue (P.1, upd P.2.1 0 ((P.2.1 0) + 1), va_up P.2.2 ((P.2.1 0).toNatClampNeg) (gX1_come (nI ((P.2.1 0).toNatClampNeg)) (P.2.2 ((P.2.1 0).toNatClampNeg)) a1 a2 a3)) ).2.2) ((P.2.1 0).toNatClampNeg)) ), (gX4_goThroughQueue (P.1, upd P.2.1 0 ((P.2.1 0) + 1), va_up P.2.2 ((P.2.1 0).toNatClampNeg) (gX1_come (nI ((P.2.1 0).toNatClampNeg)) (P.2.2 ((P.2.1 0).toNatClampNeg)) a1 a2 a3)) )) from (Eq.trans (if_pos c_9) rfl))).symm dX4_take_53
  · --f
    refine lv_bipush (v := (-3)) hx hb dX4_take_12 (by decide) ?_
    exact xiret hx hb hr hlk hP hD hS (congrArg (fun z => z.1) (show gX4_take P a1 a2 a3 = ((-3), P) from (Eq.trans (if_neg c_9) rfl))).symm (congrArg (fun z => poolW ck pa z.2) (show gX4_take P a1 a2 a3 = ((-3), P) from (Eq.trans (if_neg c_9) rfl))).symm dX4_take_14

def rmX4_leap : Room := { frames := 5, cells := 0, slots := 0, locals := 119 }
def gX4_leap_L79 (P : PS) (a1 : Int32) : Nat → Nat → Int32 → Int32 → PS → Int32 × PS
  | 0, i, x2, x3, P1 => (if x3 = 0 then (x2, (P1.1, upd P1.2.1 2 ((P1.2.1 2) + x2), P1.2.2)) else (x2, (gX4_goThroughQueue (P1.1, upd P1.2.1 2 ((P1.2.1 2) + x2), P1.2.2) )))
  | fu + 1, i, x2, x3, P1 => (if (gX1_hasWorkedAll (nI i) ((va_up P1.2.2 i ((gX1_pass (nI i) (P1.2.2 i) x2 (gX4_setting P 3)).2)) i) ) = 0 then (gX4_leap_L79 P a1 fu (i + 1) x2 x3 (P1.1, upd P1.2.1 3 ((P1.2.1 3) + ((gX1_pass (nI i) (P1.2.2 i) x2 (gX4_setting P 3)).1)), va_up P1.2.2 i ((gX1_pass (nI i) (P1.2.2 i) x2 (gX4_setting P 3)).2))) else (gX4_leap_L79 P a1 fu (i + 1) x2 1 (P1.1, upd P1.2.1 3 ((P1.2.1 3) + ((gX1_pass (nI i) (P1.2.2 i) x2 (gX4_setting P 3)).1)), va_up (va_up P1.2.2 i ((gX1_pass (nI i) (P1.2.2 i) x2 (gX4_setting P 3)).2)) i (gX1_end (nI i) ((va_up P1.2.2 i ((gX1_pass (nI i) (P1.2.2 i) x2 (gX4_setting P 3)).2)) i) 2))))
def gX4_leap_L22 (P : PS) (a1 : Int32) : Nat → Nat → Int32 → Int32 × PS
  | 0, i, x1 => (gX4_leap_L79 P a1 16 0 x1 0 P)
  | fu + 1, i, x1 => (if (gX1_isIn (nI i) (P.2.2 i) 1) = 0 then (gX4_leap_L22 P a1 fu (i + 1) x1) else (gX4_leap_L22 P a1 fu (i + 1) (if (gX1_stepsLeft (nI i) (P.2.2 i) (gX4_setting P 3)) < x1 then (gX1_stepsLeft (nI i) (P.2.2 i) (gX4_setting P 3)) else x1)))
def gX4_leap (P : PS) (a1 : Int32) : Int32 × PS := (gX4_leap_L22 P a1 16 0 a1)
set_option maxHeartbeats 4000000 in
set_option maxRecDepth 100000 in
theorem mX4_leap (l : Launch) (D : va_G) (ck : Nat → ClassId) (pa : Nat → Nat) (P : PS) (a1 : Int32) : xMi l yX4_leap wsX4_leap rmX4_leap D ck [.ref (pa 0), .int a1] (poolW ck pa P) (poolW ck pa ((gX4_leap P a1).2)) ((gX4_leap P a1).1) 0 0 := by
  refine xMet (by decide) rfl (Nat.le_of_ble_eq_true rfl) ?_
  intro zp ze s zm zb zt zc hx hb hr hml hown hts hlk hnm hN hK hP hD ls hl
  have hown : s.vm.findClass RX4 = some zm.cls := hown
  have hl : lv_has ls 9 [(0, .ref (pa 0)), (1, .int a1)] := hl
  have hS : va_S (va_A (poolW ck pa P) s.heap.size) s.heap s.heap [] := va_S.rf
  have hA : ∀ zq : Nat, s.heap.size ≤ zq → va_A (poolW ck pa P) s.heap.size zq := fun zq h => Or.inr h
  have hinX4 : ∀ w ∈ u_ws RX4 TX4 7, w ∈ wsX4_leap := by decide +kernel
  refine lv_aload_n hx hb dX4_leap_0 rfl (lv_at hl 0 rfl) ?_
  refine lv_iconst (v := 3) hx hb dX4_leap_1 (by decide) ?_
  refine xreti (va_runV (As := [.int 3]) (rest := []) ⟨hx, hb, hml, hown, hts⟩ (mX4_setting l D ck pa P 3  _) (cwV 1 hts gX4_leap_X4_setting rfl rfl rfl (by decide +kernel) ⟨Nat.le_of_ble_eq_true rfl, Nat.le_of_ble_eq_true rfl⟩) (xpreV hN hK hP hD pm_all 0 rfl rfl rfl) rfl rfl hl.1 rfl (lv_room (Nat.le_of_ble_eq_true rfl)) dX4_leap_2 ⟨Nat.le_of_ble_eq_true rfl, Nat.le_of_ble_eq_true rfl⟩) hP hD hS hA pm_all pm_all' (fun H locs hP hD hS => ?_)
  refine lv_istore_n (lv' := [(2, .int (gX4_setting P 3)), (0, .ref (pa 0)), (1, .int a1)]) hx hb dX4_leap_5 rfl hl (by decide) rfl (fun ls hl => ?_)
  refine lv_iload_n hx hb dX4_leap_6 rfl (lv_at hl 2 rfl) ?_
  refine lv_istore_n (lv' := [(3, .int a1), (2, .int (gX4_setting P 3)), (0, .ref (pa 0)), (1, .int a1)]) hx hb dX4_leap_7 rfl hl (by decide) rfl (fun ls hl => ?_)
  refine lv_aload_n hx hb dX4_leap_8 rfl (lv_at hl 2 rfl) ?_
  refine va_get (D := D) (ci := 4) (v := .ref (pa 2)) (C := RX4) (T := TX4) (N := 7) hx hb hts hinX4 hown hK hP 0 rfl rfl 1 (by decide) (hts (.fieldLink RX4 25 "JoinGrants$Pool" "joins" "[LJoinGrants$Join;") (List.mem_of_getElem? (i := 1) rfl)) (fun _ h9 => h9) rfl dX4_leap_9 ?_
  refine lv_astore (lv' := [(4, .ref (pa 2)), (3, .int a1), (2, .int (gX4_setting P 3)), (0, .ref (pa 0)), (1, .int a1)]) hx hb dX4_leap_12 hl (by decide) rfl (fun ls hl => ?_)
  refine lv_aload hx hb dX4_leap_14 (lv_at hl 0 rfl) ?_
  refine va_alen hx hb hK hP 2 2 rfl rfl (v := (nI 16)) rfl dX4_leap_16 ?_
  refine lv_istore (lv' := [(5, .int (nI 16)), (4, .ref (pa 2)), (3, .int a1), (2, .int (gX4_setting P 3)), (0, .ref (pa 0)), (1, .int a1)]) hx hb dX4_leap_17 hl (by decide) rfl (fun ls hl => ?_)
  refine lv_iconst (v := (nI 0)) hx hb dX4_leap_19 (by decide) ?_
  refine lv_istore (lv' := [(6, .int (nI 0)), (5, .int (nI 16)), (4, .ref (pa 2)), (3, .int a1), (2, .int (gX4_setting P 3)), (0, .ref (pa 0)), (1, .int a1)]) hx hb dX4_leap_20 hl (by decide) rfl (fun ls hl => ?_)
  have loop22 : ∀ (fu : Nat) (i : Nat) (x1 : Int32), (i + fu = 16) → gX4_leap P a1 = gX4_leap_L22 P a1 fu i x1 → ∀ (H : Heap) (locs : List Loc) (ls : Array Slot), va_P D vwCl (poolW ck pa P) H → va_D (va_A (poolW ck pa P) s.heap.size) (poolW ck pa P) → va_S (va_A (poolW ck pa P) s.heap.size) s.heap H locs → lv_has ls 9 [(0, .ref (pa 0)), (1, .int a1), (2, .int (gX4_setting P 3)), (3, .int x1), (4, .ref (pa 2)), (5, .int (nI 16)), (6, .int (nI i))] → W zp l ze rmX4_leap s zm ([.ref (pa 0), .int a1] : List Value).toArray zb zt zc H locs 0 0 (MQ zb (xQi D (poolW ck pa P) (poolW ck pa ((gX4_leap P a1).2)) ((gX4_leap P a1).1) s.heap.size) ([.ref (pa 0), .int a1] : List Value).toArray s 0 0 (va_A (poolW ck pa P) s.heap.size)) (F0 zm 22 ls []) := by
    intro fu
    induction fu with
    | zero =>
      intro i x1 hif hg H locs ls hP hD hS hl
      refine lv_iload hx hb dX4_leap_22 (lv_at hl 6 rfl) ?_
      refine lv_iload hx hb dX4_leap_24 (lv_at hl 5 rfl) ?_
      refine lv_icmp_ge (tgt := 62) hx hb dX4_leap_26 (by decide) (fun c_26 => ?_) (fun c_26 => ?_)
      · --t
        refine lv_iconst (v := 0) hx hb dX4_leap_62 (by decide) ?_
        refine lv_istore (lv' := [(4, .int 0), (0, .ref (pa 0)), (1, .int a1), (2, .int (gX4_setting P 3)), (3, .int x1), (5, .int (nI 16)), (6, .int (nI i))]) hx hb dX4_leap_63 hl (by decide) rfl (fun ls hl => ?_)
        refine lv_aload_n hx hb dX4_leap_65 rfl (lv_at hl 1 rfl) ?_
        refine va_get (D := D) (ci := 4) (v := .ref (pa 2)) (C := RX4) (T := TX4) (N := 7) hx hb hts hinX4 hown hK hP 0 rfl rfl 1 (by decide) (hts (.fieldLink RX4 25 "JoinGrants$Pool" "joins" "[LJoinGrants$Join;") (List.mem_of_getElem? (i := 1) rfl)) (fun _ h9 => h9) rfl dX4_leap_66 ?_
        refine lv_astore (lv' := [(5, .ref (pa 2)), (4, .int 0), (0, .ref (pa 0)), (1, .int a1), (2, .int (gX4_setting P 3)), (3, .int x1), (6, .int (nI i))]) hx hb dX4_leap_69 hl (by decide) rfl (fun ls hl => ?_)
        refine lv_aload hx hb dX4_leap_71 (lv_at hl 0 rfl) ?_
        refine va_alen hx hb hK hP 2 2 rfl rfl (v := (nI 16)) rfl dX4_leap_73 ?_
        refine lv_istore (lv' := [(6, .int (nI 16)), (5, .ref (pa 2)), (4, .int 0), (0, .ref (pa 0)), (1, .int a1), (2, .int (gX4_setting P 3)), (3, .int x1)]) hx hb dX4_leap_74 hl (by decide) rfl (fun ls hl => ?_)
        refine lv_iconst (v := (nI 0)) hx hb dX4_leap_76 (by decide) ?_
        refine lv_istore (lv' := [(7, .int (nI 0)), (6, .int (nI 16)), (5, .ref (pa 2)), (4, .int 0), (0, .ref (pa 0)), (1, .int a1), (2, .int (gX4_setting P 3)), (3, .int x1)]) hx hb dX4_leap_77 hl (by decide) rfl (fun ls hl => ?_)
        have loop79 : ∀ (fu : Nat) (i : Nat) (x2 : Int32) (x3 : Int32) (P1 : PS), (i + fu = 16) → gX4_leap P a1 = gX4_leap_L79 P a1 fu i x2 x3 P1 → ∀ (H : Heap) (locs : List Loc) (ls : Array Slot), va_P D vwCl (poolW ck pa P1) H → va_D (va_A (poolW ck pa P) s.heap.size) (poolW ck pa P1) → va_S (va_A (poolW ck pa P) s.heap.size) s.heap H locs → lv_has ls 9 [(0, .ref (pa 0)), (2, .int (gX4_setting P 3)), (3, .int x2), (4, .int x3), (5, .ref (pa 2)), (6, .int (nI 16)), (7, .int (nI i))] → W zp l ze rmX4_leap s zm ([.ref (pa 0), .int a1] : List Value).toArray zb zt zc H locs 0 0 (MQ zb (xQi D (poolW ck pa P) (poolW ck pa ((gX4_leap P a1).2)) ((gX4_leap P a1).1) s.heap.size) ([.ref (pa 0), .int a1] : List Value).toArray s 0 0 (va_A (poolW ck pa P) s.heap.size)) (F0 zm 79 ls []) := by
          intro fu
          induction fu with
          | zero =>
            intro i x2 x3 P1 hif hg H locs ls hP hD hS hl
            refine lv_iload hx hb dX4_leap_79 (lv_at hl 6 rfl) ?_
            refine lv_iload hx hb dX4_leap_81 (lv_at hl 5 rfl) ?_
            refine lv_icmp_ge (tgt := 132) hx hb dX4_leap_83 (by decide) (fun c_83 => ?_) (fun c_83 => ?_)
            · --t
              refine lv_aload_n hx hb dX4_leap_132 rfl (lv_at hl 0 rfl) ?_
              refine lv_dup hx hb dX4_leap_133 rfl ?_
              refine va_get (D := D) (ci := 4) (v := .int (P1.2.1 2)) (C := RX4) (T := TX4) (N := 7) hx hb hts hinX4 hown hK hP 0 rfl rfl 4 (by decide) (hts (.fieldLink RX4 138 "JoinGrants$Pool" "steps" "I") (List.mem_of_getElem? (i := 7) rfl)) (fun _ h9 => h9) rfl dX4_leap_134 ?_
              refine lv_iload_n hx hb dX4_leap_137 rfl (lv_at hl 2 rfl) ?_
              refine lv_iadd hx hb dX4_leap_138 ?_
              refine va_put (D := D) (ci := 4) (v := .int ((P1.2.1 2) + x2)) (ty := .int) (C := RX4) (T := TX4) (N := 7) hx hb hts hinX4 tyX4 tyX4_ok nmX4 hown hK hP hD hS 0 rfl rfl 4 (by decide) (hts (.fieldLink RX4 138 "JoinGrants$Pool" "steps" "I") (List.mem_of_getElem? (i := 7) rfl)) (fun _ h9 => h9) rfl (by decide +kernel) rfl rfl (Nat.le_of_ble_eq_true rfl) dX4_leap_139 (fun H locs hP hD hS => ?_)
              have hP : va_P D vwCl (poolW ck pa (P1.1, upd P1.2.1 2 ((P1.2.1 2) + x2), P1.2.2)) H := hP
              have hD : va_D (va_A (poolW ck pa P) s.heap.size) (poolW ck pa (P1.1, upd P1.2.1 2 ((P1.2.1 2) + x2), P1.2.2)) := hD
              refine lv_iload hx hb dX4_leap_142 (lv_at hl 3 rfl) ?_
              refine lv_if_eq (tgt := 151) hx hb dX4_leap_144 (by decide) (fun c_144 => ?_) (fun c_144 => ?_)
              · --t
                refine lv_iload_n hx hb dX4_leap_151 rfl (lv_at hl 2 rfl) ?_
                exact xiret hx hb hr hlk hP hD hS (congrArg (fun z => z.1) (hg.trans (show gX4_leap_L79 P a1 0 i x2 x3 P1 = (x2, (P1.1, upd P1.2.1 2 ((P1.2.1 2) + x2), P1.2.2)) from (Eq.trans (if_pos c_144) rfl)))).symm (congrArg (fun z => poolW ck pa z.2) (hg.trans (show gX4_leap_L79 P a1 0 i x2 x3 P1 = (x2, (P1.1, upd P1.2.1 2 ((P1.2.1 2) + x2), P1.2.2)) from (Eq.trans (if_pos c_144) rfl)))).symm dX4_leap_152
              · --f
                refine lv_aload_n hx hb dX4_leap_147 rfl (lv_at hl 0 rfl) ?_
                refine xretv (va_runV (As := []) (rest := []) ⟨hx, hb, hml, hown, hts⟩ (mX4_goThroughQueue l D ck pa (P1.1, upd P1.2.1 2 ((P1.2.1 2) + x2), P1.2.2)   _) (cwV 0 hts gX4_leap_X4_goThroughQueue rfl rfl rfl (by decide +kernel) ⟨Nat.le_of_ble_eq_true rfl, Nat.le_of_ble_eq_true rfl⟩) (xpreV hN hK hP hD pm_all 0 rfl rfl rfl) rfl rfl hl.1 rfl (lv_room (Nat.le_of_ble_eq_true rfl)) dX4_leap_148 ⟨Nat.le_of_ble_eq_true rfl, Nat.le_of_ble_eq_true rfl⟩) hP hD hS hA pm_all pm_all' (fun H locs hP hD hS => ?_)
                have hP : va_P D vwCl (poolW ck pa (gX4_goThroughQueue (P1.1, upd P1.2.1 2 ((P1.2.1 2) + x2), P1.2.2) )) H := hP
                have hD : va_D (va_A (poolW ck pa P) s.heap.size) (poolW ck pa (gX4_goThroughQueue (P1.1, upd P1.2.1 2 ((P1.2.1 2) + x2), P1.2.2) )) := hD
                refine lv_iload_n hx hb dX4_leap_151 rfl (lv_at hl 2 rfl) ?_
                exact xiret hx hb hr hlk hP hD hS (congrArg (fun z => z.1) (hg.trans (show gX4_leap_L79 P a1 0 i x2 x3 P1 = (x2, (gX4_goThroughQueue (P1.1, upd P1.2.1 2 ((P1.2.1 2) + x2), P1.2.2) )) from (Eq.trans (if_neg c_144) rfl)))).symm (congrArg (fun z => poolW ck pa z.2) (hg.trans (show gX4_leap_L79 P a1 0 i x2 x3 P1 = (x2, (gX4_goThroughQueue (P1.1, upd P1.2.1 2 ((P1.2.1 2) + x2), P1.2.2) )) from (Eq.trans (if_neg c_144) rfl)))).symm dX4_leap_152
            · --f
              exact absurd (nI_le (by omega) (by omega)) c_83
          | succ fu ih79 =>
            intro i x2 x3 P1 hif hg H locs ls hP hD hS hl
            refine lv_iload hx hb dX4_leap_79 (lv_at hl 6 rfl) ?_
            refine lv_iload hx hb dX4_leap_81 (lv_at hl 5 rfl) ?_
            refine lv_icmp_ge (tgt := 132) hx hb dX4_leap_83 (by decide) (fun c_83 => ?_) (fun c_83 => ?_)
            · --t
              exact absurd c_83 (nI_ge (by omega) (by omega))
            · --f
              refine lv_aload hx hb dX4_leap_86 (lv_at hl 4 rfl) ?_
              refine lv_iload hx hb dX4_leap_88 (lv_at hl 6 rfl) ?_
              refine xaldq (j := i) (b := jA pa i) (nI_clamp (by omega)) hx hb hK hP 2 2 rfl rfl (vp_in_nI (by omega) (by omega)) rfl dX4_leap_90 ?_
              refine lv_astore (lv' := [(8, .ref (jA pa i)), (0, .ref (pa 0)), (2, .int (gX4_setting P 3)), (3, .int x2), (4, .int x3), (5, .ref (pa 2)), (6, .int (nI 16)), (7, .int (nI i))]) hx hb dX4_leap_91 hl (by decide) rfl (fun ls hl => ?_)
              refine lv_aload_n hx hb dX4_leap_93 rfl (lv_at hl 1 rfl) ?_
              refine lv_dup hx hb dX4_leap_94 rfl ?_
              refine va_get (D := D) (ci := 4) (v := .int (P1.2.1 3)) (C := RX4) (T := TX4) (N := 7) hx hb hts hinX4 hown hK hP 0 rfl rfl 5 (by decide) (hts (.fieldLink RX4 125 "JoinGrants$Pool" "workDone" "I") (List.mem_of_getElem? (i := 6) rfl)) (fun _ h9 => h9) rfl dX4_leap_95 ?_
              refine lv_aload hx hb dX4_leap_98 (lv_at hl 0 rfl) ?_
              refine lv_iload_n hx hb dX4_leap_100 rfl (lv_at hl 3 rfl) ?_
              refine lv_iload_n hx hb dX4_leap_101 rfl (lv_at hl 2 rfl) ?_
              refine xreti (va_runV (As := [.int x2, .int (gX4_setting P 3)]) (rest := [.int (P1.2.1 3), .ref (pa 0)]) ⟨hx, hb, hml, hown, hts⟩ (mX1_pass l D ck (jA pa i) (qA pa i) (nI i) (P1.2.2 i) x2 (gX4_setting P 3) _) (cwV 2 hts gX4_leap_X1_pass rfl rfl rfl (by decide +kernel) ⟨Nat.le_of_ble_eq_true rfl, Nat.le_of_ble_eq_true rfl⟩) (xpreV hN hK hP hD (pm_pj (P := P1) (by omega)) 0 rfl rfl rfl) rfl rfl hl.1 rfl (lv_room (Nat.le_of_ble_eq_true rfl)) dX4_leap_102 ⟨Nat.le_of_ble_eq_true rfl, Nat.le_of_ble_eq_true rfl⟩) hP hD hS hA (pm_pj (P := P1) (by omega)) (pm_pj' (P := P1) (by omega)) (fun H locs hP hD hS => ?_)
              have hP : va_P D vwCl (poolW ck pa (P1.1, P1.2.1, va_up P1.2.2 i ((gX1_pass (nI i) (P1.2.2 i) x2 (gX4_setting P 3)).2))) H := hP
              have hD : va_D (va_A (poolW ck pa P) s.heap.size) (poolW ck pa (P1.1, P1.2.1, va_up P1.2.2 i ((gX1_pass (nI i) (P1.2.2 i) x2 (gX4_setting P 3)).2))) := hD
              refine lv_iadd hx hb dX4_leap_105 ?_
              refine va_put (D := D) (ci := 4) (v := .int ((P1.2.1 3) + ((gX1_pass (nI i) (P1.2.2 i) x2 (gX4_setting P 3)).1))) (ty := .int) (C := RX4) (T := TX4) (N := 7) hx hb hts hinX4 tyX4 tyX4_ok nmX4 hown hK hP hD hS 0 rfl rfl 5 (by decide) (hts (.fieldLink RX4 125 "JoinGrants$Pool" "workDone" "I") (List.mem_of_getElem? (i := 6) rfl)) (fun _ h9 => h9) rfl (by decide +kernel) rfl rfl (Nat.le_of_ble_eq_true rfl) dX4_leap_106 (fun H locs hP hD hS => ?_)
              have hP : va_P D vwCl (poolW ck pa (P1.1, upd P1.2.1 3 ((P1.2.1 3) + ((gX1_pass (nI i) (P1.2.2 i) x2 (gX4_setting P 3)).1)), va_up P1.2.2 i ((gX1_pass (nI i) (P1.2.2 i) x2 (gX4_setting P 3)).2))) H := hP
              have hD : va_D (va_A (poolW ck pa P) s.heap.size) (poolW ck pa (P1.1, upd P1.2.1 3 ((P1.2.1 3) + ((gX1_pass (nI i) (P1.2.2 i) x2 (gX4_setting P 3)).1)), va_up P1.2.2 i ((gX1_pass (nI i) (P1.2.2 i) x2 (gX4_setting P 3)).2))) := hD
              refine lv_aload hx hb dX4_leap_109 (lv_at hl 0 rfl) ?_
              refine xreti (va_runV (As := []) (rest := []) ⟨hx, hb, hml, hown, hts⟩ (mX1_hasWorkedAll l D ck (jA pa i) (qA pa i) (nI i) ((va_up P1.2.2 i ((gX1_pass (nI i) (P1.2.2 i) x2 (gX4_setting P 3)).2)) i)  _) (cwV 0 hts gX4_leap_X1_hasWorkedAll rfl rfl rfl (by decide +kernel) ⟨Nat.le_of_ble_eq_true rfl, Nat.le_of_ble_eq_true rfl⟩) (xpreV hN hK hP hD (pm_pj (P := (P1.1, upd P1.2.1 3 ((P1.2.1 3) + ((gX1_pass (nI i) (P1.2.2 i) x2 (gX4_setting P 3)).1)), va_up P1.2.2 i ((gX1_pass (nI i) (P1.2.2 i) x2 (gX4_setting P 3)).2))) (by omega)) 0 rfl rfl rfl) rfl rfl hl.1 rfl (lv_room (Nat.le_of_ble_eq_true rfl)) dX4_leap_111 ⟨Nat.le_of_ble_eq_true rfl, Nat.le_of_ble_eq_true rfl⟩) hP hD hS hA (pm_pj (P := (P1.1, upd P1.2.1 3 ((P1.2.1 3) + ((gX1_pass (nI i) (P1.2.2 i) x2 (gX4_setting P 3)).1)), va_up P1.2.2 i ((gX1_pass (nI i) (P1.2.2 i) x2 (gX4_setting P 3)).2))) (by omega)) (pm_pj (P := (P1.1, upd P1.2.1 3 ((P1.2.1 3) + ((gX1_pass (nI i) (P1.2.2 i) x2 (gX4_setting P 3)).1)), va_up P1.2.2 i ((gX1_pass (nI i) (P1.2.2 i) x2 (gX4_setting P 3)).2))) (by omega)).symm (fun H locs hP hD hS => ?_)
              refine lv_if_eq (tgt := 126) hx hb dX4_leap_114 (by decide) (fun c_114 => ?_) (fun c_114 => ?_)
              · --t
                refine lv_iinc (v := (nI (i + 1))) (lv' := [(7, .int (nI (i + 1))), (8, .ref (jA pa i)), (0, .ref (pa 0)), (2, .int (gX4_setting P 3)), (3, .int x2), (4, .int x3), (5, .ref (pa 2)), (6, .int (nI 16))]) hx hb dX4_leap_126 hl (k := 7) rfl (nI_1 i) (by decide) rfl (fun ls hl => ?_)
                refine lv_goto (tgt := 79) hx hb dX4_leap_129 (by decide) ?_
                exact ih79 (i + 1) x2 x3 (P1.1, upd P1.2.1 3 ((P1.2.1 3) + ((gX1_pass (nI i) (P1.2.2 i) x2 (gX4_setting P 3)).1)), va_up P1.2.2 i ((gX1_pass (nI i) (P1.2.2 i) x2 (gX4_setting P 3)).2)) (by omega) (hg.trans (show gX4_leap_L79 P a1 (fu + 1) i x2 x3 P1 = (gX4_leap_L79 P a1 fu (i + 1) x2 x3 (P1.1, upd P1.2.1 3 ((P1.2.1 3) + ((gX1_pass (nI i) (P1.2.2 i) x2 (gX4_setting P 3)).1)), va_up P1.2.2 i ((gX1_pass (nI i) (P1.2.2 i) x2 (gX4_setting P 3)).2))) from (Eq.trans (if_pos c_114) rfl))) _ _ _ hP hD hS (lv_sub hl [2, 3, 4, 5, 6, 7, 0] rfl)
              · --f
                refine lv_aload hx hb dX4_leap_117 (lv_at hl 0 rfl) ?_
                refine lv_iconst (v := 2) hx hb dX4_leap_119 (by decide) ?_
                refine xretv (va_runV (As := [.int 2]) (rest := []) ⟨hx, hb, hml, hown, hts⟩ (mX1_end l D ck (jA pa i) (qA pa i) (nI i) ((va_up P1.2.2 i ((gX1_pass (nI i) (P1.2.2 i) x2 (gX4_setting P 3)).2)) i) 2 _) (cwV 1 hts gX4_leap_X1_end rfl rfl rfl (by decide +kernel) ⟨Nat.le_of_ble_eq_true rfl, Nat.le_of_ble_eq_true rfl⟩) (xpreV hN hK hP hD (pm_pj (P := (P1.1, upd P1.2.1 3 ((P1.2.1 3) + ((gX1_pass (nI i) (P1.2.2 i) x2 (gX4_setting P 3)).1)), va_up P1.2.2 i ((gX1_pass (nI i) (P1.2.2 i) x2 (gX4_setting P 3)).2))) (by omega)) 0 rfl rfl rfl) rfl rfl hl.1 rfl (lv_room (Nat.le_of_ble_eq_true rfl)) dX4_leap_120 ⟨Nat.le_of_ble_eq_true rfl, Nat.le_of_ble_eq_true rfl⟩) hP hD hS hA (pm_pj (P := (P1.1, upd P1.2.1 3 ((P1.2.1 3) + ((gX1_pass (nI i) (P1.2.2 i) x2 (gX4_setting P 3)).1)), va_up P1.2.2 i ((gX1_pass (nI i) (P1.2.2 i) x2 (gX4_setting P 3)).2))) (by omega)) (pm_pj' (P := (P1.1, upd P1.2.1 3 ((P1.2.1 3) + ((gX1_pass (nI i) (P1.2.2 i) x2 (gX4_setting P 3)).1)), va_up P1.2.2 i ((gX1_pass (nI i) (P1.2.2 i) x2 (gX4_setting P 3)).2))) (by omega)) (fun H locs hP hD hS => ?_)
                have hP : va_P D vwCl (poolW ck pa (P1.1, upd P1.2.1 3 ((P1.2.1 3) + ((gX1_pass (nI i) (P1.2.2 i) x2 (gX4_setting P 3)).1)), va_up (va_up P1.2.2 i ((gX1_pass (nI i) (P1.2.2 i) x2 (gX4_setting P 3)).2)) i (gX1_end (nI i) ((va_up P1.2.2 i ((gX1_pass (nI i) (P1.2.2 i) x2 (gX4_setting P 3)).2)) i) 2))) H := hP
                have hD : va_D (va_A (poolW ck pa P) s.heap.size) (poolW ck pa (P1.1, upd P1.2.1 3 ((P1.2.1 3) + ((gX1_pass (nI i) (P1.2.2 i) x2 (gX4_setting P 3)).1)), va_up (va_up P1.2.2 i ((gX1_pass (nI i) (P1.2.2 i) x2 (gX4_setting P 3)).2)) i (gX1_end (nI i) ((va_up P1.2.2 i ((gX1_pass (nI i) (P1.2.2 i) x2 (gX4_setting P 3)).2)) i) 2))) := hD
                refine lv_iconst (v := 1) hx hb dX4_leap_123 (by decide) ?_
                refine lv_istore (lv' := [(4, .int 1), (8, .ref (jA pa i)), (0, .ref (pa 0)), (2, .int (gX4_setting P 3)), (3, .int x2), (5, .ref (pa 2)), (6, .int (nI 16)), (7, .int (nI i))]) hx hb dX4_leap_124 hl (by decide) rfl (fun ls hl => ?_)
                refine lv_iinc (v := (nI (i + 1))) (lv' := [(7, .int (nI (i + 1))), (4, .int 1), (8, .ref (jA pa i)), (0, .ref (pa 0)), (2, .int (gX4_setting P 3)), (3, .int x2), (5, .ref (pa 2)), (6, .int (nI 16))]) hx hb dX4_leap_126 hl (k := 7) rfl (nI_1 i) (by decide) rfl (fun ls hl => ?_)
                refine lv_goto (tgt := 79) hx hb dX4_leap_129 (by decide) ?_
                exact ih79 (i + 1) x2 1 (P1.1, upd P1.2.1 3 ((P1.2.1 3) + ((gX1_pass (nI i) (P1.2.2 i) x2 (gX4_setting P 3)).1)), va_up (va_up P1.2.2 i ((gX1_pass (nI i) (P1.2.2 i) x2 (gX4_setting P 3)).2)) i (gX1_end (nI i) ((va_up P1.2.2 i ((gX1_pass (nI i) (P1.2.2 i) x2 (gX4_setting P 3)).2)) i) 2)) (by omega) (hg.trans (show gX4_leap_L79 P a1 (fu + 1) i x2 x3 P1 = (gX4_leap_L79 P a1 fu (i + 1) x2 1 (P1.1, upd P1.2.1 3 ((P1.2.1 3) + ((gX1_pass (nI i) (P1.2.2 i) x2 (gX4_setting P 3)).1)), va_up (va_up P1.2.2 i ((gX1_pass (nI i) (P1.2.2 i) x2 (gX4_setting P 3)).2)) i (gX1_end (nI i) ((va_up P1.2.2 i ((gX1_pass (nI i) (P1.2.2 i) x2 (gX4_setting P 3)).2)) i) 2))) from (Eq.trans (if_neg c_114) rfl))) _ _ _ hP hD hS (lv_sub hl [3, 4, 5, 1, 6, 7, 0] rfl)
        exact loop79 16 0 x1 0 P (by omega) (hg.trans (show gX4_leap_L22 P a1 0 i x1 = (gX4_leap_L79 P a1 16 0 x1 0 P) from rfl)) _ _ _ hP hD hS (lv_sub hl [4, 6, 7, 3, 2, 1, 0] rfl)
      · --f
        exact absurd (nI_le (by omega) (by omega)) c_26
    | succ fu ih22 =>
      intro i x1 hif hg H locs ls hP hD hS hl
      refine lv_iload hx hb dX4_leap_22 (lv_at hl 6 rfl) ?_
      refine lv_iload hx hb dX4_leap_24 (lv_at hl 5 rfl) ?_
      refine lv_icmp_ge (tgt := 62) hx hb dX4_leap_26 (by decide) (fun c_26 => ?_) (fun c_26 => ?_)
      · --t
        exact absurd c_26 (nI_ge (by omega) (by omega))
      · --f
        refine lv_aload hx hb dX4_leap_29 (lv_at hl 4 rfl) ?_
        refine lv_iload hx hb dX4_leap_31 (lv_at hl 6 rfl) ?_
        refine xaldq (j := i) (b := jA pa i) (nI_clamp (by omega)) hx hb hK hP 2 2 rfl rfl (vp_in_nI (by omega) (by omega)) rfl dX4_leap_33 ?_
        refine lv_astore (lv' := [(7, .ref (jA pa i)), (0, .ref (pa 0)), (1, .int a1), (2, .int (gX4_setting P 3)), (3, .int x1), (4, .ref (pa 2)), (5, .int (nI 16)), (6, .int (nI i))]) hx hb dX4_leap_34 hl (by decide) rfl (fun ls hl => ?_)
        refine lv_aload hx hb dX4_leap_36 (lv_at hl 0 rfl) ?_
        refine lv_iconst (v := 1) hx hb dX4_leap_38 (by decide) ?_
        refine xreti (va_runV (As := [.int 1]) (rest := []) ⟨hx, hb, hml, hown, hts⟩ (mX1_isIn l D ck (jA pa i) (qA pa i) (nI i) (P.2.2 i) 1 _) (cwV 1 hts gX4_leap_X1_isIn rfl rfl rfl (by decide +kernel) ⟨Nat.le_of_ble_eq_true rfl, Nat.le_of_ble_eq_true rfl⟩) (xpreV hN hK hP hD (pm_pj (P := P) (by omega)) 0 rfl rfl rfl) rfl rfl hl.1 rfl (lv_room (Nat.le_of_ble_eq_true rfl)) dX4_leap_39 ⟨Nat.le_of_ble_eq_true rfl, Nat.le_of_ble_eq_true rfl⟩) hP hD hS hA (pm_pj (P := P) (by omega)) (pm_pj (P := P) (by omega)).symm (fun H locs hP hD hS => ?_)
        refine lv_if_eq (tgt := 56) hx hb dX4_leap_42 (by decide) (fun c_42 => ?_) (fun c_42 => ?_)
        · --t
          refine lv_iinc (v := (nI (i + 1))) (lv' := [(6, .int (nI (i + 1))), (7, .ref (jA pa i)), (0, .ref (pa 0)), (1, .int a1), (2, .int (gX4_setting P 3)), (3, .int x1), (4, .ref (pa 2)), (5, .int (nI 16))]) hx hb dX4_leap_56 hl (k := 7) rfl (nI_1 i) (by decide) rfl (fun ls hl => ?_)
          refine lv_goto (tgt := 22) hx hb dX4_leap_59 (by decide) ?_
          exact ih22 (i + 1) x1 (by omega) (hg.trans (show gX4_leap_L22 P a1 (fu + 1) i x1 = (gX4_leap_L22 P a1 fu (i + 1) x1) from (Eq.trans (if_pos c_42) rfl))) _ _ _ hP hD hS (lv_sub hl [2, 3, 4, 5, 6, 7, 0] rfl)
        · --f
          refine lv_iload_n hx hb dX4_leap_45 rfl (lv_at hl 4 rfl) ?_
          refine lv_aload hx hb dX4_leap_46 (lv_at hl 0 rfl) ?_
          refine lv_iload_n hx hb dX4_leap_48 rfl (lv_at hl 3 rfl) ?_
          refine xreti (va_runV (As := [.int (gX4_setting P 3)]) (rest := [.int x1]) ⟨hx, hb, hml, hown, hts⟩ (mX1_stepsLeft l D ck (jA pa i) (qA pa i) (nI i) (P.2.2 i) (gX4_setting P 3) _) (cwV 1 hts gX4_leap_X1_stepsLeft rfl rfl rfl (by decide +kernel) ⟨Nat.le_of_ble_eq_true rfl, Nat.le_of_ble_eq_true rfl⟩) (xpreV hN hK hP hD (pm_pj (P := P) (by omega)) 0 rfl rfl rfl) rfl rfl hl.1 rfl (lv_room (Nat.le_of_ble_eq_true rfl)) dX4_leap_49 ⟨Nat.le_of_ble_eq_true rfl, Nat.le_of_ble_eq_true rfl⟩) hP hD hS hA (pm_pj (P := P) (by omega)) (pm_pj (P := P) (by omega)).symm (fun H locs hP hD hS => ?_)
          refine va_mmin hx hb (hml.trans hl.1.symm) hown (hts (.methodLink RX4 78 Lib.Math.min.name) (List.mem_of_getElem? (i := 2) rfl)) (hts (.static Lib.Math.min.name) (List.mem_of_getElem? (i := 3) rfl)) (hts (.initialized "java/lang/Math") (List.mem_of_getElem? (i := 4) rfl)) (hts (.code Lib.Math.min.name Lib.Math.min.code 2 (some .int)) (List.mem_of_getElem? (i := 5) rfl)) (Nat.le_of_ble_eq_true rfl) (Nat.le_of_ble_eq_true rfl) (Nat.le_of_ble_eq_true rfl) (Nat.le_of_ble_eq_true rfl) dX4_leap_52 ?_
          refine lv_istore_n (lv' := [(3, .int (if (gX1_stepsLeft (nI i) (P.2.2 i) (gX4_setting P 3)) < x1 then (gX1_stepsLeft (nI i) (P.2.2 i) (gX4_setting P 3)) else x1)), (7, .ref (jA pa i)), (0, .ref (pa 0)), (1, .int a1), (2, .int (gX4_setting P 3)), (4, .ref (pa 2)), (5, .int (nI 16)), (6, .int (nI i))]) hx hb dX4_leap_55 rfl hl (by decide) rfl (fun ls hl => ?_)
          refine lv_iinc (v := (nI (i + 1))) (lv' := [(6, .int (nI (i + 1))), (3, .int (if (gX1_stepsLeft (nI i) (P.2.2 i) (gX4_setting P 3)) < x1 then (gX1_stepsLeft (nI i) (P.2.2 i) (gX4_setting P 3)) else x1)), (7, .ref (jA pa i)), (0, .ref (pa 0)), (1, .int a1), (2, .int (gX4_setting P 3)), (4, .ref (pa 2)), (5, .int (nI 16))]) hx hb dX4_leap_56 hl (k := 7) rfl (nI_1 i) (by decide) rfl (fun ls hl => ?_)
          refine lv_goto (tgt := 22) hx hb dX4_leap_59 (by decide) ?_
          exact ih22 (i + 1) (if (gX1_stepsLeft (nI i) (P.2.2 i) (gX4_setting P 3)) < x1 then (gX1_stepsLeft (nI i) (P.2.2 i) (gX4_setting P 3)) else x1) (by omega) (hg.trans (show gX4_leap_L22 P a1 (fu + 1) i x1 = (gX4_leap_L22 P a1 fu (i + 1) (if (gX1_stepsLeft (nI i) (P.2.2 i) (gX4_setting P 3)) < x1 then (gX1_stepsLeft (nI i) (P.2.2 i) (gX4_setting P 3)) else x1)) from (Eq.trans (if_neg c_42) rfl))) _ _ _ hP hD hS (lv_sub hl [3, 4, 5, 1, 6, 7, 0] rfl)
  exact loop22 16 0 a1 (by omega) (show gX4_leap P a1 = (gX4_leap_L22 P a1 16 0 a1) from rfl) _ _ _ hP hD hS (lv_sub hl [5, 6, 4, 3, 2, 1, 0] rfl)

def rmX4_tell : Room := { frames := 3, cells := 0, slots := 0, locals := 66 }
def gX4_tell (P : PS) (a1 : Int32) : Int32 := (if a1 = 0 then (P.2.1 0) else (if a1 = 1 then (gX4_joinsIn P (a1 - 1)) else (if a1 = 2 then (gX4_joinsIn P (a1 - 1)) else (if a1 = 3 then (gX4_joinsIn P (a1 - 1)) else (if a1 = 4 then (gX4_joinsIn P (a1 - 1)) else (if a1 = 5 then (gX4_granted P ) else (if a1 = 6 then (gX4_free P ) else (if a1 = 7 then (P.2.1 1) else (if a1 = 8 then (P.2.1 2) else (if a1 = 9 then (P.2.1 3) else (if a1 = 10 then (P.2.1 4) else (if a1 = 11 then (gX4_spilling P ) else (gX4_setting P (a1 - 12))))))))))))))
set_option maxHeartbeats 4000000 in
set_option maxRecDepth 100000 in
theorem mX4_tell (l : Launch) (D : va_G) (ck : Nat → ClassId) (pa : Nat → Nat) (P : PS) (a1 : Int32) : xMi l yX4_tell wsX4_tell rmX4_tell D ck [.ref (pa 0), .int a1] (poolW ck pa P) (poolW ck pa P) (gX4_tell P a1) 0 0 := by
  refine xMet (by decide) rfl (Nat.le_of_ble_eq_true rfl) ?_
  intro zp ze s zm zb zt zc hx hb hr hml hown hts hlk hnm hN hK hP hD ls hl
  have hown : s.vm.findClass RX4 = some zm.cls := hown
  have hl : lv_has ls 2 [(0, .ref (pa 0)), (1, .int a1)] := hl
  have hS : va_S (va_A (poolW ck pa P) s.heap.size) s.heap s.heap [] := va_S.rf
  have hA : ∀ zq : Nat, s.heap.size ≤ zq → va_A (poolW ck pa P) s.heap.size zq := fun zq h => Or.inr h
  have hinX4 : ∀ w ∈ u_ws RX4 TX4 7, w ∈ wsX4_tell := by decide +kernel
  refine lv_iload_n hx hb dX4_tell_0 rfl (lv_at hl 1 rfl) ?_
  by_cases c_1_0 : a1 = 0
  · --0
    refine lv_tableIn (tgt := 64) (off := 63) hx hb dX4_tell_1 (by rw [c_1_0]; decide) (by rw [c_1_0]; decide) (by rw [c_1_0]; decide) (by decide) ?_
    refine lv_aload_n hx hb dX4_tell_64 rfl (lv_at hl 0 rfl) ?_
    refine va_get (D := D) (ci := 4) (v := .int (P.2.1 0)) (C := RX4) (T := TX4) (N := 7) hx hb hts hinX4 hown hK hP 0 rfl rfl 2 (by decide) (hts (.fieldLink RX4 41 "JoinGrants$Pool" "joinsSoFar" "I") (List.mem_of_getElem? (i := 1) rfl)) (fun _ h9 => h9) rfl dX4_tell_65 ?_
    exact xiret hx hb hr hlk hP hD hS (show gX4_tell P a1 = (P.2.1 0) from (Eq.trans (if_pos c_1_0) rfl)).symm rfl dX4_tell_68
  by_cases c_1_1 : a1 = 1
  · --1
    refine lv_tableIn (tgt := 69) (off := 68) hx hb dX4_tell_1 (by rw [c_1_1]; decide) (by rw [c_1_1]; decide) (by rw [c_1_1]; decide) (by decide) ?_
    refine lv_aload_n hx hb dX4_tell_69 rfl (lv_at hl 0 rfl) ?_
    refine lv_iload_n hx hb dX4_tell_70 rfl (lv_at hl 1 rfl) ?_
    refine lv_iconst (v := 1) hx hb dX4_tell_71 (by decide) ?_
    refine lv_isub hx hb dX4_tell_72 ?_
    refine xreti (va_runV (As := [.int (a1 - 1)]) (rest := []) ⟨hx, hb, hml, hown, hts⟩ (mX4_joinsIn l D ck pa P (a1 - 1)  _) (cwV 1 hts gX4_tell_X4_joinsIn rfl rfl rfl (by decide +kernel) ⟨Nat.le_of_ble_eq_true rfl, Nat.le_of_ble_eq_true rfl⟩) (xpreV hN hK hP hD pm_all 0 rfl rfl rfl) rfl rfl hl.1 rfl (lv_room (Nat.le_of_ble_eq_true rfl)) dX4_tell_73 ⟨Nat.le_of_ble_eq_true rfl, Nat.le_of_ble_eq_true rfl⟩) hP hD hS hA pm_all pm_all' (fun H locs hP hD hS => ?_)
    exact xiret hx hb hr hlk hP hD hS (show gX4_tell P a1 = (gX4_joinsIn P (a1 - 1)) from (Eq.trans (if_neg c_1_0) (Eq.trans (if_pos c_1_1) rfl))).symm rfl dX4_tell_76
  by_cases c_1_2 : a1 = 2
  · --2
    refine lv_tableIn (tgt := 69) (off := 68) hx hb dX4_tell_1 (by rw [c_1_2]; decide) (by rw [c_1_2]; decide) (by rw [c_1_2]; decide) (by decide) ?_
    refine lv_aload_n hx hb dX4_tell_69 rfl (lv_at hl 0 rfl) ?_
    refine lv_iload_n hx hb dX4_tell_70 rfl (lv_at hl 1 rfl) ?_
    refine lv_iconst (v := 1) hx hb dX4_tell_71 (by decide) ?_
    refine lv_isub hx hb dX4_tell_72 ?_
    refine xreti (va_runV (As := [.int (a1 - 1)]) (rest := []) ⟨hx, hb, hml, hown, hts⟩ (mX4_joinsIn l D ck pa P (a1 - 1)  _) (cwV 1 hts gX4_tell_X4_joinsIn rfl rfl rfl (by decide +kernel) ⟨Nat.le_of_ble_eq_true rfl, Nat.le_of_ble_eq_true rfl⟩) (xpreV hN hK hP hD pm_all 0 rfl rfl rfl) rfl rfl hl.1 rfl (lv_room (Nat.le_of_ble_eq_true rfl)) dX4_tell_73 ⟨Nat.le_of_ble_eq_true rfl, Nat.le_of_ble_eq_true rfl⟩) hP hD hS hA pm_all pm_all' (fun H locs hP hD hS => ?_)
    exact xiret hx hb hr hlk hP hD hS (show gX4_tell P a1 = (gX4_joinsIn P (a1 - 1)) from (Eq.trans (if_neg c_1_0) (Eq.trans (if_neg c_1_1) (Eq.trans (if_pos c_1_2) rfl)))).symm rfl dX4_tell_76
  by_cases c_1_3 : a1 = 3
  · --3
    refine lv_tableIn (tgt := 69) (off := 68) hx hb dX4_tell_1 (by rw [c_1_3]; decide) (by rw [c_1_3]; decide) (by rw [c_1_3]; decide) (by decide) ?_
    refine lv_aload_n hx hb dX4_tell_69 rfl (lv_at hl 0 rfl) ?_
    refine lv_iload_n hx hb dX4_tell_70 rfl (lv_at hl 1 rfl) ?_
    refine lv_iconst (v := 1) hx hb dX4_tell_71 (by decide) ?_
    refine lv_isub hx hb dX4_tell_72 ?_
    refine xreti (va_runV (As := [.int (a1 - 1)]) (rest := []) ⟨hx, hb, hml, hown, hts⟩ (mX4_joinsIn l D ck pa P (a1 - 1)  _) (cwV 1 hts gX4_tell_X4_joinsIn rfl rfl rfl (by decide +kernel) ⟨Nat.le_of_ble_eq_true rfl, Nat.le_of_ble_eq_true rfl⟩) (xpreV hN hK hP hD pm_all 0 rfl rfl rfl) rfl rfl hl.1 rfl (lv_room (Nat.le_of_ble_eq_true rfl)) dX4_tell_73 ⟨Nat.le_of_ble_eq_true rfl, Nat.le_of_ble_eq_true rfl⟩) hP hD hS hA pm_all pm_all' (fun H locs hP hD hS => ?_)
    exact xiret hx hb hr hlk hP hD hS (show gX4_tell P a1 = (gX4_joinsIn P (a1 - 1)) from (Eq.trans (if_neg c_1_0) (Eq.trans (if_neg c_1_1) (Eq.trans (if_neg c_1_2) (Eq.trans (if_pos c_1_3) rfl))))).symm rfl dX4_tell_76
  by_cases c_1_4 : a1 = 4
  · --4
    refine lv_tableIn (tgt := 69) (off := 68) hx hb dX4_tell_1 (by rw [c_1_4]; decide) (by rw [c_1_4]; decide) (by rw [c_1_4]; decide) (by decide) ?_
    refine lv_aload_n hx hb dX4_tell_69 rfl (lv_at hl 0 rfl) ?_
    refine lv_iload_n hx hb dX4_tell_70 rfl (lv_at hl 1 rfl) ?_
    refine lv_iconst (v := 1) hx hb dX4_tell_71 (by decide) ?_
    refine lv_isub hx hb dX4_tell_72 ?_
    refine xreti (va_runV (As := [.int (a1 - 1)]) (rest := []) ⟨hx, hb, hml, hown, hts⟩ (mX4_joinsIn l D ck pa P (a1 - 1)  _) (cwV 1 hts gX4_tell_X4_joinsIn rfl rfl rfl (by decide +kernel) ⟨Nat.le_of_ble_eq_true rfl, Nat.le_of_ble_eq_true rfl⟩) (xpreV hN hK hP hD pm_all 0 rfl rfl rfl) rfl rfl hl.1 rfl (lv_room (Nat.le_of_ble_eq_true rfl)) dX4_tell_73 ⟨Nat.le_of_ble_eq_true rfl, Nat.le_of_ble_eq_true rfl⟩) hP hD hS hA pm_all pm_all' (fun H locs hP hD hS => ?_)
    exact xiret hx hb hr hlk hP hD hS (show gX4_tell P a1 = (gX4_joinsIn P (a1 - 1)) from (Eq.trans (if_neg c_1_0) (Eq.trans (if_neg c_1_1) (Eq.trans (if_neg c_1_2) (Eq.trans (if_neg c_1_3) (Eq.trans (if_pos c_1_4) rfl)))))).symm rfl dX4_tell_76
  by_cases c_1_5 : a1 = 5
  · --5
    refine lv_tableIn (tgt := 77) (off := 76) hx hb dX4_tell_1 (by rw [c_1_5]; decide) (by rw [c_1_5]; decide) (by rw [c_1_5]; decide) (by decide) ?_
    refine lv_aload_n hx hb dX4_tell_77 rfl (lv_at hl 0 rfl) ?_
    refine xreti (va_runV (As := []) (rest := []) ⟨hx, hb, hml, hown, hts⟩ (mX4_granted l D ck pa P   _) (cwV 0 hts gX4_tell_X4_granted rfl rfl rfl (by decide +kernel) ⟨Nat.le_of_ble_eq_true rfl, Nat.le_of_ble_eq_true rfl⟩) (xpreV hN hK hP hD pm_all 0 rfl rfl rfl) rfl rfl hl.1 rfl (lv_room (Nat.le_of_ble_eq_true rfl)) dX4_tell_78 ⟨Nat.le_of_ble_eq_true rfl, Nat.le_of_ble_eq_true rfl⟩) hP hD hS hA pm_all pm_all' (fun H locs hP hD hS => ?_)
    exact xiret hx hb hr hlk hP hD hS (show gX4_tell P a1 = (gX4_granted P ) from (Eq.trans (if_neg c_1_0) (Eq.trans (if_neg c_1_1) (Eq.trans (if_neg c_1_2) (Eq.trans (if_neg c_1_3) (Eq.trans (if_neg c_1_4) (Eq.trans (if_pos c_1_5) rfl))))))).symm rfl dX4_tell_81
  by_cases c_1_6 : a1 = 6
  · --6
    refine lv_tableIn (tgt := 82) (off := 81) hx hb dX4_tell_1 (by rw [c_1_6]; decide) (by rw [c_1_6]; decide) (by rw [c_1_6]; decide) (by decide) ?_
    refine lv_aload_n hx hb dX4_tell_82 rfl (lv_at hl 0 rfl) ?_
    refine xreti (va_runV (As := []) (rest := []) ⟨hx, hb, hml, hown, hts⟩ (mX4_free l D ck pa P   _) (cwV 0 hts gX4_tell_X4_free rfl rfl rfl (by decide +kernel) ⟨Nat.le_of_ble_eq_true rfl, Nat.le_of_ble_eq_true rfl⟩) (xpreV hN hK hP hD pm_all 0 rfl rfl rfl) rfl rfl hl.1 rfl (lv_room (Nat.le_of_ble_eq_true rfl)) dX4_tell_83 ⟨Nat.le_of_ble_eq_true rfl, Nat.le_of_ble_eq_true rfl⟩) hP hD hS hA pm_all pm_all' (fun H locs hP hD hS => ?_)
    exact xiret hx hb hr hlk hP hD hS (show gX4_tell P a1 = (gX4_free P ) from (Eq.trans (if_neg c_1_0) (Eq.trans (if_neg c_1_1) (Eq.trans (if_neg c_1_2) (Eq.trans (if_neg c_1_3) (Eq.trans (if_neg c_1_4) (Eq.trans (if_neg c_1_5) (Eq.trans (if_pos c_1_6) rfl)))))))).symm rfl dX4_tell_86
  by_cases c_1_7 : a1 = 7
  · --7
    refine lv_tableIn (tgt := 87) (off := 86) hx hb dX4_tell_1 (by rw [c_1_7]; decide) (by rw [c_1_7]; decide) (by rw [c_1_7]; decide) (by decide) ?_
    refine lv_aload_n hx hb dX4_tell_87 rfl (lv_at hl 0 rfl) ?_
    refine va_get (D := D) (ci := 4) (v := .int (P.2.1 1)) (C := RX4) (T := TX4) (N := 7) hx hb hts hinX4 hown hK hP 0 rfl rfl 3 (by decide) (hts (.fieldLink RX4 92 "JoinGrants$Pool" "mostGranted" "I") (List.mem_of_getElem? (i := 2) rfl)) (fun _ h9 => h9) rfl dX4_tell_88 ?_
    exact xiret hx hb hr hlk hP hD hS (show gX4_tell P a1 = (P.2.1 1) from (Eq.trans (if_neg c_1_0) (Eq.trans (if_neg c_1_1) (Eq.trans (if_neg c_1_2) (Eq.trans (if_neg c_1_3) (Eq.trans (if_neg c_1_4) (Eq.trans (if_neg c_1_5) (Eq.trans (if_neg c_1_6) (Eq.trans (if_pos c_1_7) rfl))))))))).symm rfl dX4_tell_91
  by_cases c_1_8 : a1 = 8
  · --8
    refine lv_tableIn (tgt := 92) (off := 91) hx hb dX4_tell_1 (by rw [c_1_8]; decide) (by rw [c_1_8]; decide) (by rw [c_1_8]; decide) (by decide) ?_
    refine lv_aload_n hx hb dX4_tell_92 rfl (lv_at hl 0 rfl) ?_
    refine va_get (D := D) (ci := 4) (v := .int (P.2.1 2)) (C := RX4) (T := TX4) (N := 7) hx hb hts hinX4 hown hK hP 0 rfl rfl 4 (by decide) (hts (.fieldLink RX4 138 "JoinGrants$Pool" "steps" "I") (List.mem_of_getElem? (i := 3) rfl)) (fun _ h9 => h9) rfl dX4_tell_93 ?_
    exact xiret hx hb hr hlk hP hD hS (show gX4_tell P a1 = (P.2.1 2) from (Eq.trans (if_neg c_1_0) (Eq.trans (if_neg c_1_1) (Eq.trans (if_neg c_1_2) (Eq.trans (if_neg c_1_3) (Eq.trans (if_neg c_1_4) (Eq.trans (if_neg c_1_5) (Eq.trans (if_neg c_1_6) (Eq.trans (if_neg c_1_7) (Eq.trans (if_pos c_1_8) rfl)))))))))).symm rfl dX4_tell_96
  by_cases c_1_9 : a1 = 9
  · --9
    refine lv_tableIn (tgt := 97) (off := 96) hx hb dX4_tell_1 (by rw [c_1_9]; decide) (by rw [c_1_9]; decide) (by rw [c_1_9]; decide) (by decide) ?_
    refine lv_aload_n hx hb dX4_tell_97 rfl (lv_at hl 0 rfl) ?_
    refine va_get (D := D) (ci := 4) (v := .int (P.2.1 3)) (C := RX4) (T := TX4) (N := 7) hx hb hts hinX4 hown hK hP 0 rfl rfl 5 (by decide) (hts (.fieldLink RX4 125 "JoinGrants$Pool" "workDone" "I") (List.mem_of_getElem? (i := 4) rfl)) (fun _ h9 => h9) rfl dX4_tell_98 ?_
    exact xiret hx hb hr hlk hP hD hS (show gX4_tell P a1 = (P.2.1 3) from (Eq.trans (if_neg c_1_0) (Eq.trans (if_neg c_1_1) (Eq.trans (if_neg c_1_2) (Eq.trans (if_neg c_1_3) (Eq.trans (if_neg c_1_4) (Eq.trans (if_neg c_1_5) (Eq.trans (if_neg c_1_6) (Eq.trans (if_neg c_1_7) (Eq.trans (if_neg c_1_8) (Eq.trans (if_pos c_1_9) rfl))))))))))).symm rfl dX4_tell_101
  by_cases c_1_10 : a1 = 10
  · --10
    refine lv_tableIn (tgt := 102) (off := 101) hx hb dX4_tell_1 (by rw [c_1_10]; decide) (by rw [c_1_10]; decide) (by rw [c_1_10]; decide) (by decide) ?_
    refine lv_aload_n hx hb dX4_tell_102 rfl (lv_at hl 0 rfl) ?_
    refine va_get (D := D) (ci := 4) (v := .int (P.2.1 4)) (C := RX4) (T := TX4) (N := 7) hx hb hts hinX4 hown hK hP 0 rfl rfl 6 (by decide) (hts (.fieldLink RX4 115 "JoinGrants$Pool" "askedBack" "I") (List.mem_of_getElem? (i := 5) rfl)) (fun _ h9 => h9) rfl dX4_tell_103 ?_
    exact xiret hx hb hr hlk hP hD hS (show gX4_tell P a1 = (P.2.1 4) from (Eq.trans (if_neg c_1_0) (Eq.trans (if_neg c_1_1) (Eq.trans (if_neg c_1_2) (Eq.trans (if_neg c_1_3) (Eq.trans (if_neg c_1_4) (Eq.trans (if_neg c_1_5) (Eq.trans (if_neg c_1_6) (Eq.trans (if_neg c_1_7) (Eq.trans (if_neg c_1_8) (Eq.trans (if_neg c_1_9) (Eq.trans (if_pos c_1_10) rfl)))))))))))).symm rfl dX4_tell_106
  by_cases c_1_11 : a1 = 11
  · --11
    refine lv_tableIn (tgt := 107) (off := 106) hx hb dX4_tell_1 (by rw [c_1_11]; decide) (by rw [c_1_11]; decide) (by rw [c_1_11]; decide) (by decide) ?_
    refine lv_aload_n hx hb dX4_tell_107 rfl (lv_at hl 0 rfl) ?_
    refine xreti (va_runV (As := []) (rest := []) ⟨hx, hb, hml, hown, hts⟩ (mX4_spilling l D ck pa P   _) (cwV 0 hts gX4_tell_X4_spilling rfl rfl rfl (by decide +kernel) ⟨Nat.le_of_ble_eq_true rfl, Nat.le_of_ble_eq_true rfl⟩) (xpreV hN hK hP hD pm_all 0 rfl rfl rfl) rfl rfl hl.1 rfl (lv_room (Nat.le_of_ble_eq_true rfl)) dX4_tell_108 ⟨Nat.le_of_ble_eq_true rfl, Nat.le_of_ble_eq_true rfl⟩) hP hD hS hA pm_all pm_all' (fun H locs hP hD hS => ?_)
    exact xiret hx hb hr hlk hP hD hS (show gX4_tell P a1 = (gX4_spilling P ) from (Eq.trans (if_neg c_1_0) (Eq.trans (if_neg c_1_1) (Eq.trans (if_neg c_1_2) (Eq.trans (if_neg c_1_3) (Eq.trans (if_neg c_1_4) (Eq.trans (if_neg c_1_5) (Eq.trans (if_neg c_1_6) (Eq.trans (if_neg c_1_7) (Eq.trans (if_neg c_1_8) (Eq.trans (if_neg c_1_9) (Eq.trans (if_neg c_1_10) (Eq.trans (if_pos c_1_11) rfl))))))))))))).symm rfl dX4_tell_111
  have z_c_1_0 : (a1).toInt ≠ 0 := fun e => c_1_0 (Int32.toInt_inj.mp e)
  have z_c_1_1 : (a1).toInt ≠ 1 := fun e => c_1_1 (Int32.toInt_inj.mp e)
  have z_c_1_2 : (a1).toInt ≠ 2 := fun e => c_1_2 (Int32.toInt_inj.mp e)
  have z_c_1_3 : (a1).toInt ≠ 3 := fun e => c_1_3 (Int32.toInt_inj.mp e)
  have z_c_1_4 : (a1).toInt ≠ 4 := fun e => c_1_4 (Int32.toInt_inj.mp e)
  have z_c_1_5 : (a1).toInt ≠ 5 := fun e => c_1_5 (Int32.toInt_inj.mp e)
  have z_c_1_6 : (a1).toInt ≠ 6 := fun e => c_1_6 (Int32.toInt_inj.mp e)
  have z_c_1_7 : (a1).toInt ≠ 7 := fun e => c_1_7 (Int32.toInt_inj.mp e)
  have z_c_1_8 : (a1).toInt ≠ 8 := fun e => c_1_8 (Int32.toInt_inj.mp e)
  have z_c_1_9 : (a1).toInt ≠ 9 := fun e => c_1_9 (Int32.toInt_inj.mp e)
  have z_c_1_10 : (a1).toInt ≠ 10 := fun e => c_1_10 (Int32.toInt_inj.mp e)
  have z_c_1_11 : (a1).toInt ≠ 11 := fun e => c_1_11 (Int32.toInt_inj.mp e)
  refine lv_tableOut (tgt := 112) hx hb dX4_tell_1 (by omega) (by decide) ?_
  refine lv_aload_n hx hb dX4_tell_112 rfl (lv_at hl 0 rfl) ?_
  refine lv_iload_n hx hb dX4_tell_113 rfl (lv_at hl 1 rfl) ?_
  refine lv_bipush (v := 12) hx hb dX4_tell_114 (by decide) ?_
  refine lv_isub hx hb dX4_tell_116 ?_
  refine xreti (va_runV (As := [.int (a1 - 12)]) (rest := []) ⟨hx, hb, hml, hown, hts⟩ (mX4_setting l D ck pa P (a1 - 12)  _) (cwV 1 hts gX4_tell_X4_setting rfl rfl rfl (by decide +kernel) ⟨Nat.le_of_ble_eq_true rfl, Nat.le_of_ble_eq_true rfl⟩) (xpreV hN hK hP hD pm_all 0 rfl rfl rfl) rfl rfl hl.1 rfl (lv_room (Nat.le_of_ble_eq_true rfl)) dX4_tell_117 ⟨Nat.le_of_ble_eq_true rfl, Nat.le_of_ble_eq_true rfl⟩) hP hD hS hA pm_all pm_all' (fun H locs hP hD hS => ?_)
  exact xiret hx hb hr hlk hP hD hS (show gX4_tell P a1 = (gX4_setting P (a1 - 12)) from (Eq.trans (if_neg c_1_0) (Eq.trans (if_neg c_1_1) (Eq.trans (if_neg c_1_2) (Eq.trans (if_neg c_1_3) (Eq.trans (if_neg c_1_4) (Eq.trans (if_neg c_1_5) (Eq.trans (if_neg c_1_6) (Eq.trans (if_neg c_1_7) (Eq.trans (if_neg c_1_8) (Eq.trans (if_neg c_1_9) (Eq.trans (if_neg c_1_10) (Eq.trans (if_neg c_1_11) rfl))))))))))))).symm rfl dX4_tell_120

def rmX4_copyFrom : Room := { frames := 2, cells := 0, slots := 0, locals := 42 }
def gX4_copyFrom_L40 (P O : PS) : Nat → Nat → PS → PS
  | 0, i, P1 => (P1.1, upd (upd (upd (upd (upd P1.2.1 0 (O.2.1 0)) 1 (O.2.1 1)) 2 (O.2.1 2)) 3 (O.2.1 3)) 4 (O.2.1 4), P1.2.2)
  | fu + 1, i, P1 => (gX4_copyFrom_L40 P O fu (i + 1) (P1.1, P1.2.1, va_up P1.2.2 i (gX1_copyFrom (P1.2.2 i) (O.2.2 i))))
def gX4_copyFrom_L2 (P O : PS) : Nat → Nat → PS → PS
  | 0, i, P1 => (gX4_copyFrom_L40 P O 16 0 P1)
  | fu + 1, i, P1 => (gX4_copyFrom_L2 P O fu (i + 1) (upd P1.1 i (O.1 i), P1.2.1, P1.2.2))
def gX4_copyFrom (P O : PS) : PS := (gX4_copyFrom_L2 P O 4 0 P)
set_option maxHeartbeats 4000000 in
set_option maxRecDepth 100000 in
theorem mX4_copyFrom (l : Launch) (D : va_G) (ck : Nat → ClassId) (pa pb : Nat → Nat) (P O : PS) : xMv l yX4_copyFrom wsX4_copyFrom rmX4_copyFrom D ck [.ref (pa 0), .ref (pb 0)] (twoW ck pa pb P O) (twoW ck pa pb (gX4_copyFrom P O) O) 0 0 := by
  refine xMet (by decide) rfl (Nat.le_of_ble_eq_true rfl) ?_
  intro zp ze s zm zb zt zc hx hb hr hml hown hts hlk hnm hN hK hP hD ls hl
  have hown : s.vm.findClass RX4 = some zm.cls := hown
  have hl : lv_has ls 3 [(0, .ref (pa 0)), (1, .ref (pb 0))] := hl
  have hS : va_S (va_A (twoW ck pa pb P O) s.heap.size) s.heap s.heap [] := va_S.rf
  have hA : ∀ zq : Nat, s.heap.size ≤ zq → va_A (twoW ck pa pb P O) s.heap.size zq := fun zq h => Or.inr h
  have hinX4 : ∀ w ∈ u_ws RX4 TX4 7, w ∈ wsX4_copyFrom := by decide +kernel
  refine lv_iconst (v := (nI 0)) hx hb dX4_copyFrom_0 (by decide) ?_
  refine lv_istore_n (lv' := [(2, .int (nI 0)), (0, .ref (pa 0)), (1, .ref (pb 0))]) hx hb dX4_copyFrom_1 rfl hl (by decide) rfl (fun ls hl => ?_)
  have loop2 : ∀ (fu : Nat) (i : Nat) (P1 : PS), (i + fu = 4) → gX4_copyFrom P O = gX4_copyFrom_L2 P O fu i P1 → ∀ (H : Heap) (locs : List Loc) (ls : Array Slot), va_P D vwCl (twoW ck pa pb P1 O) H → va_D (va_A (twoW ck pa pb P O) s.heap.size) (twoW ck pa pb P1 O) → va_S (va_A (twoW ck pa pb P O) s.heap.size) s.heap H locs → lv_has ls 3 [(0, .ref (pa 0)), (1, .ref (pb 0)), (2, .int (nI i))] → W zp l ze rmX4_copyFrom s zm ([.ref (pa 0), .ref (pb 0)] : List Value).toArray zb zt zc H locs 0 0 (MQ zb (xQv D (twoW ck pa pb P O) (twoW ck pa pb (gX4_copyFrom P O) O) s.heap.size) ([.ref (pa 0), .ref (pb 0)] : List Value).toArray s 0 0 (va_A (twoW ck pa pb P O) s.heap.size)) (F0 zm 2 ls []) := by
    intro fu
    induction fu with
    | zero =>
      intro i P1 hif hg H locs ls hP hD hS hl
      refine lv_iload_n hx hb dX4_copyFrom_2 rfl (lv_at hl 2 rfl) ?_
      refine lv_aload_n hx hb dX4_copyFrom_3 rfl (lv_at hl 0 rfl) ?_
      refine va_get (D := D) (ci := 4) (v := .ref (pa 1)) (C := RX4) (T := TX4) (N := 7) hx hb hts hinX4 hown hK hP 0 rfl rfl 0 (by decide) (hts (.fieldLink RX4 20 "JoinGrants$Pool" "settings" "[I") (List.mem_of_getElem? (i := 1) rfl)) (fun _ h9 => h9) rfl dX4_copyFrom_4 ?_
      refine va_alen hx hb hK hP 1 0 rfl rfl (v := (nI 4)) rfl dX4_copyFrom_7 ?_
      refine lv_icmp_ge (tgt := 38) hx hb dX4_copyFrom_8 (by decide) (fun c_8 => ?_) (fun c_8 => ?_)
      · --t
        refine lv_iconst (v := (nI 0)) hx hb dX4_copyFrom_38 (by decide) ?_
        refine lv_istore_n (lv' := [(2, .int (nI 0)), (0, .ref (pa 0)), (1, .ref (pb 0))]) hx hb dX4_copyFrom_39 rfl hl (by decide) rfl (fun ls hl => ?_)
        have loop40 : ∀ (fu : Nat) (i : Nat) (P1 : PS), (i + fu = 16) → gX4_copyFrom P O = gX4_copyFrom_L40 P O fu i P1 → ∀ (H : Heap) (locs : List Loc) (ls : Array Slot), va_P D vwCl (twoW ck pa pb P1 O) H → va_D (va_A (twoW ck pa pb P O) s.heap.size) (twoW ck pa pb P1 O) → va_S (va_A (twoW ck pa pb P O) s.heap.size) s.heap H locs → lv_has ls 3 [(0, .ref (pa 0)), (1, .ref (pb 0)), (2, .int (nI i))] → W zp l ze rmX4_copyFrom s zm ([.ref (pa 0), .ref (pb 0)] : List Value).toArray zb zt zc H locs 0 0 (MQ zb (xQv D (twoW ck pa pb P O) (twoW ck pa pb (gX4_copyFrom P O) O) s.heap.size) ([.ref (pa 0), .ref (pb 0)] : List Value).toArray s 0 0 (va_A (twoW ck pa pb P O) s.heap.size)) (F0 zm 40 ls []) := by
          intro fu
          induction fu with
          | zero =>
            intro i P1 hif hg H locs ls hP hD hS hl
            refine lv_iload_n hx hb dX4_copyFrom_40 rfl (lv_at hl 2 rfl) ?_
            refine lv_aload_n hx hb dX4_copyFrom_41 rfl (lv_at hl 0 rfl) ?_
            refine va_get (D := D) (ci := 4) (v := .ref (pa 2)) (C := RX4) (T := TX4) (N := 7) hx hb hts hinX4 hown hK hP 0 rfl rfl 1 (by decide) (hts (.fieldLink RX4 25 "JoinGrants$Pool" "joins" "[LJoinGrants$Join;") (List.mem_of_getElem? (i := 2) rfl)) (fun _ h9 => h9) rfl dX4_copyFrom_42 ?_
            refine va_alen hx hb hK hP 2 2 rfl rfl (v := (nI 16)) rfl dX4_copyFrom_45 ?_
            refine lv_icmp_ge (tgt := 79) hx hb dX4_copyFrom_46 (by decide) (fun c_46 => ?_) (fun c_46 => ?_)
            · --t
              refine lv_aload_n hx hb dX4_copyFrom_79 rfl (lv_at hl 0 rfl) ?_
              refine lv_aload_n hx hb dX4_copyFrom_80 rfl (lv_at hl 1 rfl) ?_
              refine va_get (D := D) (ci := 4) (v := .int (O.2.1 0)) (C := RX4) (T := TX4) (N := 7) hx hb hts hinX4 hown hK hP 3 rfl rfl 2 (by decide) (hts (.fieldLink RX4 41 "JoinGrants$Pool" "joinsSoFar" "I") (List.mem_of_getElem? (i := 3) rfl)) (fun _ h9 => h9) rfl dX4_copyFrom_81 ?_
              refine va_put (D := D) (ci := 4) (v := .int (O.2.1 0)) (ty := .int) (C := RX4) (T := TX4) (N := 7) hx hb hts hinX4 tyX4 tyX4_ok nmX4 hown hK hP hD hS 0 rfl rfl 2 (by decide) (hts (.fieldLink RX4 41 "JoinGrants$Pool" "joinsSoFar" "I") (List.mem_of_getElem? (i := 3) rfl)) (fun _ h9 => h9) rfl (by decide +kernel) rfl rfl (Nat.le_of_ble_eq_true rfl) dX4_copyFrom_84 (fun H locs hP hD hS => ?_)
              have hP : va_P D vwCl (twoW ck pa pb (P1.1, upd P1.2.1 0 (O.2.1 0), P1.2.2) O) H := hP
              have hD : va_D (va_A (twoW ck pa pb P O) s.heap.size) (twoW ck pa pb (P1.1, upd P1.2.1 0 (O.2.1 0), P1.2.2) O) := hD
              refine lv_aload_n hx hb dX4_copyFrom_87 rfl (lv_at hl 0 rfl) ?_
              refine lv_aload_n hx hb dX4_copyFrom_88 rfl (lv_at hl 1 rfl) ?_
              refine va_get (D := D) (ci := 4) (v := .int (O.2.1 1)) (C := RX4) (T := TX4) (N := 7) hx hb hts hinX4 hown hK hP 3 rfl rfl 3 (by decide) (hts (.fieldLink RX4 92 "JoinGrants$Pool" "mostGranted" "I") (List.mem_of_getElem? (i := 4) rfl)) (fun _ h9 => h9) rfl dX4_copyFrom_89 ?_
              refine va_put (D := D) (ci := 4) (v := .int (O.2.1 1)) (ty := .int) (C := RX4) (T := TX4) (N := 7) hx hb hts hinX4 tyX4 tyX4_ok nmX4 hown hK hP hD hS 0 rfl rfl 3 (by decide) (hts (.fieldLink RX4 92 "JoinGrants$Pool" "mostGranted" "I") (List.mem_of_getElem? (i := 4) rfl)) (fun _ h9 => h9) rfl (by decide +kernel) rfl rfl (Nat.le_of_ble_eq_true rfl) dX4_copyFrom_92 (fun H locs hP hD hS => ?_)
              have hP : va_P D vwCl (twoW ck pa pb (P1.1, upd (upd P1.2.1 0 (O.2.1 0)) 1 (O.2.1 1), P1.2.2) O) H := hP
              have hD : va_D (va_A (twoW ck pa pb P O) s.heap.size) (twoW ck pa pb (P1.1, upd (upd P1.2.1 0 (O.2.1 0)) 1 (O.2.1 1), P1.2.2) O) := hD
              refine lv_aload_n hx hb dX4_copyFrom_95 rfl (lv_at hl 0 rfl) ?_
              refine lv_aload_n hx hb dX4_copyFrom_96 rfl (lv_at hl 1 rfl) ?_
              refine va_get (D := D) (ci := 4) (v := .int (O.2.1 2)) (C := RX4) (T := TX4) (N := 7) hx hb hts hinX4 hown hK hP 3 rfl rfl 4 (by decide) (hts (.fieldLink RX4 138 "JoinGrants$Pool" "steps" "I") (List.mem_of_getElem? (i := 5) rfl)) (fun _ h9 => h9) rfl dX4_copyFrom_97 ?_
              refine va_put (D := D) (ci := 4) (v := .int (O.2.1 2)) (ty := .int) (C := RX4) (T := TX4) (N := 7) hx hb hts hinX4 tyX4 tyX4_ok nmX4 hown hK hP hD hS 0 rfl rfl 4 (by decide) (hts (.fieldLink RX4 138 "JoinGrants$Pool" "steps" "I") (List.mem_of_getElem? (i := 5) rfl)) (fun _ h9 => h9) rfl (by decide +kernel) rfl rfl (Nat.le_of_ble_eq_true rfl) dX4_copyFrom_100 (fun H locs hP hD hS => ?_)
              have hP : va_P D vwCl (twoW ck pa pb (P1.1, upd (upd (upd P1.2.1 0 (O.2.1 0)) 1 (O.2.1 1)) 2 (O.2.1 2), P1.2.2) O) H := hP
              have hD : va_D (va_A (twoW ck pa pb P O) s.heap.size) (twoW ck pa pb (P1.1, upd (upd (upd P1.2.1 0 (O.2.1 0)) 1 (O.2.1 1)) 2 (O.2.1 2), P1.2.2) O) := hD
              refine lv_aload_n hx hb dX4_copyFrom_103 rfl (lv_at hl 0 rfl) ?_
              refine lv_aload_n hx hb dX4_copyFrom_104 rfl (lv_at hl 1 rfl) ?_
              refine va_get (D := D) (ci := 4) (v := .int (O.2.1 3)) (C := RX4) (T := TX4) (N := 7) hx hb hts hinX4 hown hK hP 3 rfl rfl 5 (by decide) (hts (.fieldLink RX4 125 "JoinGrants$Pool" "workDone" "I") (List.mem_of_getElem? (i := 6) rfl)) (fun _ h9 => h9) rfl dX4_copyFrom_105 ?_
              refine va_put (D := D) (ci := 4) (v := .int (O.2.1 3)) (ty := .int) (C := RX4) (T := TX4) (N := 7) hx hb hts hinX4 tyX4 tyX4_ok nmX4 hown hK hP hD hS 0 rfl rfl 5 (by decide) (hts (.fieldLink RX4 125 "JoinGrants$Pool" "workDone" "I") (List.mem_of_getElem? (i := 6) rfl)) (fun _ h9 => h9) rfl (by decide +kernel) rfl rfl (Nat.le_of_ble_eq_true rfl) dX4_copyFrom_108 (fun H locs hP hD hS => ?_)
              have hP : va_P D vwCl (twoW ck pa pb (P1.1, upd (upd (upd (upd P1.2.1 0 (O.2.1 0)) 1 (O.2.1 1)) 2 (O.2.1 2)) 3 (O.2.1 3), P1.2.2) O) H := hP
              have hD : va_D (va_A (twoW ck pa pb P O) s.heap.size) (twoW ck pa pb (P1.1, upd (upd (upd (upd P1.2.1 0 (O.2.1 0)) 1 (O.2.1 1)) 2 (O.2.1 2)) 3 (O.2.1 3), P1.2.2) O) := hD
              refine lv_aload_n hx hb dX4_copyFrom_111 rfl (lv_at hl 0 rfl) ?_
              refine lv_aload_n hx hb dX4_copyFrom_112 rfl (lv_at hl 1 rfl) ?_
              refine va_get (D := D) (ci := 4) (v := .int (O.2.1 4)) (C := RX4) (T := TX4) (N := 7) hx hb hts hinX4 hown hK hP 3 rfl rfl 6 (by decide) (hts (.fieldLink RX4 115 "JoinGrants$Pool" "askedBack" "I") (List.mem_of_getElem? (i := 7) rfl)) (fun _ h9 => h9) rfl dX4_copyFrom_113 ?_
              refine va_put (D := D) (ci := 4) (v := .int (O.2.1 4)) (ty := .int) (C := RX4) (T := TX4) (N := 7) hx hb hts hinX4 tyX4 tyX4_ok nmX4 hown hK hP hD hS 0 rfl rfl 6 (by decide) (hts (.fieldLink RX4 115 "JoinGrants$Pool" "askedBack" "I") (List.mem_of_getElem? (i := 7) rfl)) (fun _ h9 => h9) rfl (by decide +kernel) rfl rfl (Nat.le_of_ble_eq_true rfl) dX4_copyFrom_116 (fun H locs hP hD hS => ?_)
              have hP : va_P D vwCl (twoW ck pa pb (P1.1, upd (upd (upd (upd (upd P1.2.1 0 (O.2.1 0)) 1 (O.2.1 1)) 2 (O.2.1 2)) 3 (O.2.1 3)) 4 (O.2.1 4), P1.2.2) O) H := hP
              have hD : va_D (va_A (twoW ck pa pb P O) s.heap.size) (twoW ck pa pb (P1.1, upd (upd (upd (upd (upd P1.2.1 0 (O.2.1 0)) 1 (O.2.1 1)) 2 (O.2.1 2)) 3 (O.2.1 3)) 4 (O.2.1 4), P1.2.2) O) := hD
              exact xvret hx hb hr hlk hP hD hS (congrArg (fun z => twoW ck pa pb z O) (hg.trans (show gX4_copyFrom_L40 P O 0 i P1 = (P1.1, upd (upd (upd (upd (upd P1.2.1 0 (O.2.1 0)) 1 (O.2.1 1)) 2 (O.2.1 2)) 3 (O.2.1 3)) 4 (O.2.1 4), P1.2.2) from rfl))).symm dX4_copyFrom_119
            · --f
              exact absurd (nI_le (by omega) (by omega)) c_46
          | succ fu ih40 =>
            intro i P1 hif hg H locs ls hP hD hS hl
            refine lv_iload_n hx hb dX4_copyFrom_40 rfl (lv_at hl 2 rfl) ?_
            refine lv_aload_n hx hb dX4_copyFrom_41 rfl (lv_at hl 0 rfl) ?_
            refine va_get (D := D) (ci := 4) (v := .ref (pa 2)) (C := RX4) (T := TX4) (N := 7) hx hb hts hinX4 hown hK hP 0 rfl rfl 1 (by decide) (hts (.fieldLink RX4 25 "JoinGrants$Pool" "joins" "[LJoinGrants$Join;") (List.mem_of_getElem? (i := 2) rfl)) (fun _ h9 => h9) rfl dX4_copyFrom_42 ?_
            refine va_alen hx hb hK hP 2 2 rfl rfl (v := (nI 16)) rfl dX4_copyFrom_45 ?_
            refine lv_icmp_ge (tgt := 79) hx hb dX4_copyFrom_46 (by decide) (fun c_46 => ?_) (fun c_46 => ?_)
            · --t
              exact absurd c_46 (nI_ge (by omega) (by omega))
            · --f
              refine lv_iload_n hx hb dX4_copyFrom_49 rfl (lv_at hl 2 rfl) ?_
              refine lv_aload_n hx hb dX4_copyFrom_50 rfl (lv_at hl 1 rfl) ?_
              refine va_get (D := D) (ci := 4) (v := .ref (pb 2)) (C := RX4) (T := TX4) (N := 7) hx hb hts hinX4 hown hK hP 3 rfl rfl 1 (by decide) (hts (.fieldLink RX4 25 "JoinGrants$Pool" "joins" "[LJoinGrants$Join;") (List.mem_of_getElem? (i := 2) rfl)) (fun _ h9 => h9) rfl dX4_copyFrom_51 ?_
              refine va_alen hx hb hK hP 5 2 rfl rfl (v := (nI 16)) rfl dX4_copyFrom_54 ?_
              refine lv_icmp_ge (tgt := 79) hx hb dX4_copyFrom_55 (by decide) (fun c_55 => ?_) (fun c_55 => ?_)
              · --t
                exact absurd c_55 (nI_ge (by omega) (by omega))
              · --f
                refine lv_aload_n hx hb dX4_copyFrom_58 rfl (lv_at hl 0 rfl) ?_
                refine va_get (D := D) (ci := 4) (v := .ref (pa 2)) (C := RX4) (T := TX4) (N := 7) hx hb hts hinX4 hown hK hP 0 rfl rfl 1 (by decide) (hts (.fieldLink RX4 25 "JoinGrants$Pool" "joins" "[LJoinGrants$Join;") (List.mem_of_getElem? (i := 2) rfl)) (fun _ h9 => h9) rfl dX4_copyFrom_59 ?_
                refine lv_iload_n hx hb dX4_copyFrom_62 rfl (lv_at hl 2 rfl) ?_
                refine xaldq (j := i) (b := jA pa i) (nI_clamp (by omega)) hx hb hK hP 2 2 rfl rfl (vp_in_nI (by omega) (by omega)) rfl dX4_copyFrom_63 ?_
                refine lv_aload_n hx hb dX4_copyFrom_64 rfl (lv_at hl 1 rfl) ?_
                refine va_get (D := D) (ci := 4) (v := .ref (pb 2)) (C := RX4) (T := TX4) (N := 7) hx hb hts hinX4 hown hK hP 3 rfl rfl 1 (by decide) (hts (.fieldLink RX4 25 "JoinGrants$Pool" "joins" "[LJoinGrants$Join;") (List.mem_of_getElem? (i := 2) rfl)) (fun _ h9 => h9) rfl dX4_copyFrom_65 ?_
                refine lv_iload_n hx hb dX4_copyFrom_68 rfl (lv_at hl 2 rfl) ?_
                refine xaldq (j := i) (b := jA pb i) (nI_clamp (by omega)) hx hb hK hP 5 2 rfl rfl (vp_in_nI (by omega) (by omega)) rfl dX4_copyFrom_69 ?_
                refine xretv (va_runV (As := [.ref (jA pb i)]) (rest := []) ⟨hx, hb, hml, hown, hts⟩ (mX1_copyFrom l D ck (jA pa i) (qA pa i) (nI i) (jA pb i) (qA pb i) (nI i) (P1.2.2 i) (O.2.2 i) _) (cwV 1 hts gX4_copyFrom_X1_copyFrom rfl rfl rfl (by decide +kernel) ⟨Nat.le_of_ble_eq_true rfl, Nat.le_of_ble_eq_true rfl⟩) (xpreV hN hK hP hD (pm_twoj (by omega)) 0 rfl rfl rfl) rfl rfl hl.1 rfl (lv_room (Nat.le_of_ble_eq_true rfl)) dX4_copyFrom_70 ⟨Nat.le_of_ble_eq_true rfl, Nat.le_of_ble_eq_true rfl⟩) hP hD hS hA (pm_twoj (by omega)) (pm_twoj' (P := P1) (by omega)) (fun H locs hP hD hS => ?_)
                have hP : va_P D vwCl (twoW ck pa pb (P1.1, P1.2.1, va_up P1.2.2 i (gX1_copyFrom (P1.2.2 i) (O.2.2 i))) O) H := hP
                have hD : va_D (va_A (twoW ck pa pb P O) s.heap.size) (twoW ck pa pb (P1.1, P1.2.1, va_up P1.2.2 i (gX1_copyFrom (P1.2.2 i) (O.2.2 i))) O) := hD
                refine lv_iinc (v := (nI (i + 1))) (lv' := [(2, .int (nI (i + 1))), (0, .ref (pa 0)), (1, .ref (pb 0))]) hx hb dX4_copyFrom_73 hl (k := 2) rfl (nI_1 i) (by decide) rfl (fun ls hl => ?_)
                refine lv_goto (tgt := 40) hx hb dX4_copyFrom_76 (by decide) ?_
                exact ih40 (i + 1) (P1.1, P1.2.1, va_up P1.2.2 i (gX1_copyFrom (P1.2.2 i) (O.2.2 i))) (by omega) (hg.trans (show gX4_copyFrom_L40 P O (fu + 1) i P1 = (gX4_copyFrom_L40 P O fu (i + 1) (P1.1, P1.2.1, va_up P1.2.2 i (gX1_copyFrom (P1.2.2 i) (O.2.2 i)))) from rfl)) _ _ _ hP hD hS (lv_sub hl [1, 2, 0] rfl)
        exact loop40 16 0 P1 (by omega) (hg.trans (show gX4_copyFrom_L2 P O 0 i P1 = (gX4_copyFrom_L40 P O 16 0 P1) from rfl)) _ _ _ hP hD hS (lv_sub hl [1, 2, 0] rfl)
      · --f
        exact absurd (nI_le (by omega) (by omega)) c_8
    | succ fu ih2 =>
      intro i P1 hif hg H locs ls hP hD hS hl
      refine lv_iload_n hx hb dX4_copyFrom_2 rfl (lv_at hl 2 rfl) ?_
      refine lv_aload_n hx hb dX4_copyFrom_3 rfl (lv_at hl 0 rfl) ?_
      refine va_get (D := D) (ci := 4) (v := .ref (pa 1)) (C := RX4) (T := TX4) (N := 7) hx hb hts hinX4 hown hK hP 0 rfl rfl 0 (by decide) (hts (.fieldLink RX4 20 "JoinGrants$Pool" "settings" "[I") (List.mem_of_getElem? (i := 1) rfl)) (fun _ h9 => h9) rfl dX4_copyFrom_4 ?_
      refine va_alen hx hb hK hP 1 0 rfl rfl (v := (nI 4)) rfl dX4_copyFrom_7 ?_
      refine lv_icmp_ge (tgt := 38) hx hb dX4_copyFrom_8 (by decide) (fun c_8 => ?_) (fun c_8 => ?_)
      · --t
        exact absurd c_8 (nI_ge (by omega) (by omega))
      · --f
        refine lv_iload_n hx hb dX4_copyFrom_11 rfl (lv_at hl 2 rfl) ?_
        refine lv_aload_n hx hb dX4_copyFrom_12 rfl (lv_at hl 1 rfl) ?_
        refine va_get (D := D) (ci := 4) (v := .ref (pb 1)) (C := RX4) (T := TX4) (N := 7) hx hb hts hinX4 hown hK hP 3 rfl rfl 0 (by decide) (hts (.fieldLink RX4 20 "JoinGrants$Pool" "settings" "[I") (List.mem_of_getElem? (i := 1) rfl)) (fun _ h9 => h9) rfl dX4_copyFrom_13 ?_
        refine va_alen hx hb hK hP 4 0 rfl rfl (v := (nI 4)) rfl dX4_copyFrom_16 ?_
        refine lv_icmp_ge (tgt := 38) hx hb dX4_copyFrom_17 (by decide) (fun c_17 => ?_) (fun c_17 => ?_)
        · --t
          exact absurd c_17 (nI_ge (by omega) (by omega))
        · --f
          refine lv_aload_n hx hb dX4_copyFrom_20 rfl (lv_at hl 0 rfl) ?_
          refine va_get (D := D) (ci := 4) (v := .ref (pa 1)) (C := RX4) (T := TX4) (N := 7) hx hb hts hinX4 hown hK hP 0 rfl rfl 0 (by decide) (hts (.fieldLink RX4 20 "JoinGrants$Pool" "settings" "[I") (List.mem_of_getElem? (i := 1) rfl)) (fun _ h9 => h9) rfl dX4_copyFrom_21 ?_
          refine lv_iload_n hx hb dX4_copyFrom_24 rfl (lv_at hl 2 rfl) ?_
          refine lv_aload_n hx hb dX4_copyFrom_25 rfl (lv_at hl 1 rfl) ?_
          refine va_get (D := D) (ci := 4) (v := .ref (pb 1)) (C := RX4) (T := TX4) (N := 7) hx hb hts hinX4 hown hK hP 3 rfl rfl 0 (by decide) (hts (.fieldLink RX4 20 "JoinGrants$Pool" "settings" "[I") (List.mem_of_getElem? (i := 1) rfl)) (fun _ h9 => h9) rfl dX4_copyFrom_26 ?_
          refine lv_iload_n hx hb dX4_copyFrom_29 rfl (lv_at hl 2 rfl) ?_
          refine xiald (j := i) (nI_clamp (by omega)) hx hb hK hP 4 0 rfl rfl (vp_in_nI (by omega) (by omega)) dX4_copyFrom_30 ?_
          refine xiast (j := i) (nI_clamp (by omega)) hx hb hK hP hD hS 1 0 rfl rfl (vp_in_nI (by omega) (by omega)) dX4_copyFrom_31 (fun H locs hP hD hS => ?_)
          have hP : va_P D vwCl (twoW ck pa pb (upd P1.1 i (O.1 i), P1.2.1, P1.2.2) O) H := hP
          have hD : va_D (va_A (twoW ck pa pb P O) s.heap.size) (twoW ck pa pb (upd P1.1 i (O.1 i), P1.2.1, P1.2.2) O) := hD
          refine lv_iinc (v := (nI (i + 1))) (lv' := [(2, .int (nI (i + 1))), (0, .ref (pa 0)), (1, .ref (pb 0))]) hx hb dX4_copyFrom_32 hl (k := 2) rfl (nI_1 i) (by decide) rfl (fun ls hl => ?_)
          refine lv_goto (tgt := 2) hx hb dX4_copyFrom_35 (by decide) ?_
          exact ih2 (i + 1) (upd P1.1 i (O.1 i), P1.2.1, P1.2.2) (by omega) (hg.trans (show gX4_copyFrom_L2 P O (fu + 1) i P1 = (gX4_copyFrom_L2 P O fu (i + 1) (upd P1.1 i (O.1 i), P1.2.1, P1.2.2)) from rfl)) _ _ _ hP hD hS (lv_sub hl [1, 2, 0] rfl)
  exact loop2 4 0 P (by omega) (show gX4_copyFrom P O = (gX4_copyFrom_L2 P O 4 0 P) from rfl) _ _ _ hP hD hS (lv_sub hl [1, 2, 0] rfl)
