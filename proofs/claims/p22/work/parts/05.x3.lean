def rmX3_isWay : Room := { frames := 0, cells := 0, slots := 0, locals := 0 }
def gX3_isWay (a1 : Int32) : Int32 := (if a1 < 0 then 0 else (if 2 < a1 then 0 else 1))
set_option maxHeartbeats 4000000 in
set_option maxRecDepth 100000 in
theorem mX3_isWay (l : Launch) (D : va_G) (ck : Nat → ClassId) (a1 : Int32) : xMi l yX3_isWay wsX3_isWay rmX3_isWay D ck [.int a1] ([]) ([]) (gX3_isWay a1) 0 0 := by
  refine xMet (by decide) rfl (Nat.le_of_ble_eq_true rfl) ?_
  intro zp ze s zm zb zt zc hx hb hr hml hown hts hlk hnm hN hK hP hD ls hl
  have hown : s.vm.findClass RX3 = some zm.cls := hown
  have hl : lv_has ls 1 [(0, .int a1)] := hl
  have hS : va_S (va_A ([]) s.heap.size) s.heap s.heap [] := va_S.rf
  have hA : ∀ zq : Nat, s.heap.size ≤ zq → va_A ([]) s.heap.size zq := fun zq h => Or.inr h
  refine lv_iload_n hx hb dX3_isWay_0 rfl (lv_at hl 0 rfl) ?_
  refine lv_if_lt (tgt := 13) hx hb dX3_isWay_1 (by decide) (fun c_1 => ?_) (fun c_1 => ?_)
  · --t
    refine lv_iconst (v := 0) hx hb dX3_isWay_13 (by decide) ?_
    exact xzret hx hb hr hlk hP hD hS (Or.inl rfl) (show gX3_isWay a1 = 0 from (Eq.trans (if_pos c_1) rfl)).symm rfl dX3_isWay_14
  · --f
    refine lv_iload_n hx hb dX3_isWay_4 rfl (lv_at hl 0 rfl) ?_
    refine lv_iconst (v := 2) hx hb dX3_isWay_5 (by decide) ?_
    refine lv_icmp_gt (tgt := 13) hx hb dX3_isWay_6 (by decide) (fun c_6 => ?_) (fun c_6 => ?_)
    · --t
      refine lv_iconst (v := 0) hx hb dX3_isWay_13 (by decide) ?_
      exact xzret hx hb hr hlk hP hD hS (Or.inl rfl) (show gX3_isWay a1 = 0 from (Eq.trans (if_neg c_1) (Eq.trans (if_pos c_6) rfl))).symm rfl dX3_isWay_14
    · --f
      refine lv_iconst (v := 1) hx hb dX3_isWay_9 (by decide) ?_
      refine lv_goto (tgt := 14) hx hb dX3_isWay_10 (by decide) ?_
      exact xzret hx hb hr hlk hP hD hS (Or.inr rfl) (show gX3_isWay a1 = 1 from (Eq.trans (if_neg c_1) (Eq.trans (if_neg c_6) rfl))).symm rfl dX3_isWay_14

def rmX3_isTable : Room := { frames := 0, cells := 0, slots := 0, locals := 0 }
def gX3_isTable (a1 : Int32) : Int32 := (if a1 < 1 then 0 else (if 200 < a1 then 0 else 1))
set_option maxHeartbeats 4000000 in
set_option maxRecDepth 100000 in
theorem mX3_isTable (l : Launch) (D : va_G) (ck : Nat → ClassId) (a1 : Int32) : xMi l yX3_isTable wsX3_isTable rmX3_isTable D ck [.int a1] ([]) ([]) (gX3_isTable a1) 0 0 := by
  refine xMet (by decide) rfl (Nat.le_of_ble_eq_true rfl) ?_
  intro zp ze s zm zb zt zc hx hb hr hml hown hts hlk hnm hN hK hP hD ls hl
  have hown : s.vm.findClass RX3 = some zm.cls := hown
  have hl : lv_has ls 1 [(0, .int a1)] := hl
  have hS : va_S (va_A ([]) s.heap.size) s.heap s.heap [] := va_S.rf
  have hA : ∀ zq : Nat, s.heap.size ≤ zq → va_A ([]) s.heap.size zq := fun zq h => Or.inr h
  refine lv_iload_n hx hb dX3_isTable_0 rfl (lv_at hl 0 rfl) ?_
  refine lv_iconst (v := 1) hx hb dX3_isTable_1 (by decide) ?_
  refine lv_icmp_lt (tgt := 16) hx hb dX3_isTable_2 (by decide) (fun c_2 => ?_) (fun c_2 => ?_)
  · --t
    refine lv_iconst (v := 0) hx hb dX3_isTable_16 (by decide) ?_
    exact xzret hx hb hr hlk hP hD hS (Or.inl rfl) (show gX3_isTable a1 = 0 from (Eq.trans (if_pos c_2) rfl)).symm rfl dX3_isTable_17
  · --f
    refine lv_iload_n hx hb dX3_isTable_5 rfl (lv_at hl 0 rfl) ?_
    refine lv_sipush (v := 200) hx hb dX3_isTable_6 (by decide) ?_
    refine lv_icmp_gt (tgt := 16) hx hb dX3_isTable_9 (by decide) (fun c_9 => ?_) (fun c_9 => ?_)
    · --t
      refine lv_iconst (v := 0) hx hb dX3_isTable_16 (by decide) ?_
      exact xzret hx hb hr hlk hP hD hS (Or.inl rfl) (show gX3_isTable a1 = 0 from (Eq.trans (if_neg c_2) (Eq.trans (if_pos c_9) rfl))).symm rfl dX3_isTable_17
    · --f
      refine lv_iconst (v := 1) hx hb dX3_isTable_12 (by decide) ?_
      refine lv_goto (tgt := 17) hx hb dX3_isTable_13 (by decide) ?_
      exact xzret hx hb hr hlk hP hD hS (Or.inr rfl) (show gX3_isTable a1 = 1 from (Eq.trans (if_neg c_2) (Eq.trans (if_neg c_9) rfl))).symm rfl dX3_isTable_17

def rmX3_fits : Room := { frames := 1, cells := 0, slots := 0, locals := 20 }
def gX3_fits (a1 : Int32) (a2 : Int32) (a3 : Int32) : Int32 := (if (gX3_isWay a1) = 0 then 0 else (if (gX3_isTable a2) = 0 then 0 else (if (gX3_isTable a3) = 0 then 0 else 1)))
set_option maxHeartbeats 4000000 in
set_option maxRecDepth 100000 in
theorem mX3_fits (l : Launch) (D : va_G) (ck : Nat → ClassId) (a1 : Int32) (a2 : Int32) (a3 : Int32) : xMi l yX3_fits wsX3_fits rmX3_fits D ck [.int a1, .int a2, .int a3] ([]) ([]) (gX3_fits a1 a2 a3) 0 0 := by
  refine xMet (by decide) rfl (Nat.le_of_ble_eq_true rfl) ?_
  intro zp ze s zm zb zt zc hx hb hr hml hown hts hlk hnm hN hK hP hD ls hl
  have hown : s.vm.findClass RX3 = some zm.cls := hown
  have hl : lv_has ls 3 [(0, .int a1), (1, .int a2), (2, .int a3)] := hl
  have hS : va_S (va_A ([]) s.heap.size) s.heap s.heap [] := va_S.rf
  have hA : ∀ zq : Nat, s.heap.size ≤ zq → va_A ([]) s.heap.size zq := fun zq h => Or.inr h
  refine lv_iload_n hx hb dX3_fits_0 rfl (lv_at hl 0 rfl) ?_
  refine xreti (va_runS (As := [.int a1]) (rest := []) ⟨hx, hb, hml, hown, hts⟩ (mX3_isWay l D ck a1 _) (va_cwS 1 hts gX3_fits_X3_isWay rfl rfl rfl (by decide +kernel) ⟨Nat.le_of_ble_eq_true rfl, Nat.le_of_ble_eq_true rfl⟩) (xpreS hN hK hP hD pm_none) rfl rfl hl.1 rfl (lv_room (Nat.le_of_ble_eq_true rfl)) dX3_fits_1 ⟨Nat.le_of_ble_eq_true rfl, Nat.le_of_ble_eq_true rfl⟩) hP hD hS hA pm_none pm_none (fun H locs hP hD hS => ?_)
  refine lv_if_eq (tgt := 25) hx hb dX3_fits_4 (by decide) (fun c_4 => ?_) (fun c_4 => ?_)
  · --t
    refine lv_iconst (v := 0) hx hb dX3_fits_25 (by decide) ?_
    exact xzret hx hb hr hlk hP hD hS (Or.inl rfl) (show gX3_fits a1 a2 a3 = 0 from (Eq.trans (if_pos c_4) rfl)).symm rfl dX3_fits_26
  · --f
    refine lv_iload_n hx hb dX3_fits_7 rfl (lv_at hl 1 rfl) ?_
    refine xreti (va_runS (As := [.int a2]) (rest := []) ⟨hx, hb, hml, hown, hts⟩ (mX3_isTable l D ck a2 _) (va_cwS 1 hts gX3_fits_X3_isTable rfl rfl rfl (by decide +kernel) ⟨Nat.le_of_ble_eq_true rfl, Nat.le_of_ble_eq_true rfl⟩) (xpreS hN hK hP hD pm_none) rfl rfl hl.1 rfl (lv_room (Nat.le_of_ble_eq_true rfl)) dX3_fits_8 ⟨Nat.le_of_ble_eq_true rfl, Nat.le_of_ble_eq_true rfl⟩) hP hD hS hA pm_none pm_none (fun H locs hP hD hS => ?_)
    refine lv_if_eq (tgt := 25) hx hb dX3_fits_11 (by decide) (fun c_11 => ?_) (fun c_11 => ?_)
    · --t
      refine lv_iconst (v := 0) hx hb dX3_fits_25 (by decide) ?_
      exact xzret hx hb hr hlk hP hD hS (Or.inl rfl) (show gX3_fits a1 a2 a3 = 0 from (Eq.trans (if_neg c_4) (Eq.trans (if_pos c_11) rfl))).symm rfl dX3_fits_26
    · --f
      refine lv_iload_n hx hb dX3_fits_14 rfl (lv_at hl 2 rfl) ?_
      refine xreti (va_runS (As := [.int a3]) (rest := []) ⟨hx, hb, hml, hown, hts⟩ (mX3_isTable l D ck a3 _) (va_cwS 1 hts gX3_fits_X3_isTable rfl rfl rfl (by decide +kernel) ⟨Nat.le_of_ble_eq_true rfl, Nat.le_of_ble_eq_true rfl⟩) (xpreS hN hK hP hD pm_none) rfl rfl hl.1 rfl (lv_room (Nat.le_of_ble_eq_true rfl)) dX3_fits_15 ⟨Nat.le_of_ble_eq_true rfl, Nat.le_of_ble_eq_true rfl⟩) hP hD hS hA pm_none pm_none (fun H locs hP hD hS => ?_)
      refine lv_if_eq (tgt := 25) hx hb dX3_fits_18 (by decide) (fun c_18 => ?_) (fun c_18 => ?_)
      · --t
        refine lv_iconst (v := 0) hx hb dX3_fits_25 (by decide) ?_
        exact xzret hx hb hr hlk hP hD hS (Or.inl rfl) (show gX3_fits a1 a2 a3 = 0 from (Eq.trans (if_neg c_4) (Eq.trans (if_neg c_11) (Eq.trans (if_pos c_18) rfl)))).symm rfl dX3_fits_26
      · --f
        refine lv_iconst (v := 1) hx hb dX3_fits_21 (by decide) ?_
        refine lv_goto (tgt := 26) hx hb dX3_fits_22 (by decide) ?_
        exact xzret hx hb hr hlk hP hD hS (Or.inr rfl) (show gX3_fits a1 a2 a3 = 1 from (Eq.trans (if_neg c_4) (Eq.trans (if_neg c_11) (Eq.trans (if_neg c_18) rfl)))).symm rfl dX3_fits_26

def rmX3_root : Room := { frames := 0, cells := 0, slots := 0, locals := 0 }
def gX3_root_L3 (a1 : Int32) : Nat → Int32
  | 0 => 0
  | fu + 1 => (if a1 < ((nI (fu + 1)) * (nI (fu + 1))) then (gX3_root_L3 a1 fu ) else (nI (fu + 1)))
def gX3_root (a1 : Int32) : Int32 := (gX3_root_L3 a1 20 )
set_option maxHeartbeats 4000000 in
set_option maxRecDepth 100000 in
theorem mX3_root (l : Launch) (D : va_G) (ck : Nat → ClassId) (a1 : Int32) : xMi l yX3_root wsX3_root rmX3_root D ck [.int a1] ([]) ([]) (gX3_root a1) 0 0 := by
  refine xMet (by decide) rfl (Nat.le_of_ble_eq_true rfl) ?_
  intro zp ze s zm zb zt zc hx hb hr hml hown hts hlk hnm hN hK hP hD ls hl
  have hown : s.vm.findClass RX3 = some zm.cls := hown
  have hl : lv_has ls 2 [(0, .int a1)] := hl
  have hS : va_S (va_A ([]) s.heap.size) s.heap s.heap [] := va_S.rf
  have hA : ∀ zq : Nat, s.heap.size ≤ zq → va_A ([]) s.heap.size zq := fun zq h => Or.inr h
  refine lv_bipush (v := (nI 20)) hx hb dX3_root_0 (by decide) ?_
  refine lv_istore_n (lv' := [(1, .int (nI 20)), (0, .int a1)]) hx hb dX3_root_2 rfl hl (by decide) rfl (fun ls hl => ?_)
  have loop3 : ∀ (fu : Nat) , (fu ≤ 20) → gX3_root a1 = gX3_root_L3 a1 fu  → ∀ (H : Heap) (locs : List Loc) (ls : Array Slot), va_P D vwCl ([]) H → va_D (va_A ([]) s.heap.size) ([]) → va_S (va_A ([]) s.heap.size) s.heap H locs → lv_has ls 2 [(0, .int a1), (1, .int (nI fu))] → W zp l ze rmX3_root s zm ([.int a1] : List Value).toArray zb zt zc H locs 0 0 (MQ zb (xQi D ([]) ([]) (gX3_root a1) s.heap.size) ([.int a1] : List Value).toArray s 0 0 (va_A ([]) s.heap.size)) (F0 zm 3 ls []) := by
    intro fu
    induction fu with
    | zero =>
      intro  hf hg H locs ls hP hD hS hl
      refine lv_iload_n hx hb dX3_root_3 rfl (lv_at hl 1 rfl) ?_
      refine lv_if_le (tgt := 22) hx hb dX3_root_4 (by decide) (fun c_4 => ?_) (fun c_4 => ?_)
      · --t
        refine lv_iconst (v := 0) hx hb dX3_root_22 (by decide) ?_
        exact xiret hx hb hr hlk hP hD hS (hg.trans (show gX3_root_L3 a1 0  = 0 from rfl)).symm rfl dX3_root_23
      · --f
        exact absurd (show nI 0 ≤ 0 by decide) c_4
    | succ fu ih3 =>
      intro  hf hg H locs ls hP hD hS hl
      refine lv_iload_n hx hb dX3_root_3 rfl (lv_at hl 1 rfl) ?_
      refine lv_if_le (tgt := 22) hx hb dX3_root_4 (by decide) (fun c_4 => ?_) (fun c_4 => ?_)
      · --t
        exact absurd c_4 (nI_nle (Nat.succ_pos fu) (by omega))
      · --f
        refine lv_iload_n hx hb dX3_root_7 rfl (lv_at hl 1 rfl) ?_
        refine lv_iload_n hx hb dX3_root_8 rfl (lv_at hl 1 rfl) ?_
        refine lv_imul hx hb dX3_root_9 ?_
        refine lv_iload_n hx hb dX3_root_10 rfl (lv_at hl 0 rfl) ?_
        refine lv_icmp_gt (tgt := 16) hx hb dX3_root_11 (by decide) (fun c_11 => ?_) (fun c_11 => ?_)
        · --t
          refine lv_iinc (v := (nI fu)) (lv' := [(1, .int (nI fu)), (0, .int a1)]) hx hb dX3_root_16 hl (k := 1) rfl (pk_m1 fu) (by decide) rfl (fun ls hl => ?_)
          refine lv_goto (tgt := 3) hx hb dX3_root_19 (by decide) ?_
          exact ih3  (by omega) (hg.trans (show gX3_root_L3 a1 (fu + 1)  = (gX3_root_L3 a1 fu ) from (Eq.trans (if_pos c_11) rfl))) _ _ _ hP hD hS (lv_sub hl [1, 0] rfl)
        · --f
          refine lv_iload_n hx hb dX3_root_14 rfl (lv_at hl 1 rfl) ?_
          exact xiret hx hb hr hlk hP hD hS (hg.trans (show gX3_root_L3 a1 (fu + 1)  = (nI (fu + 1)) from (Eq.trans (if_neg c_11) rfl))).symm rfl dX3_root_15
  exact loop3 20  (by decide) (show gX3_root a1 = (gX3_root_L3 a1 20 ) from rfl) _ _ _ hP hD hS (lv_sub hl [1, 0] rfl)

def rmX3_computedNeed : Room := { frames := 1, cells := 0, slots := 0, locals := 21 }
def gX3_computedNeed (p : Nat → Int32) : Int32 := (if (p 0) = 1 then ((gX3_root (p 2)) + 2) else (if (p 0) = 2 then ((gX3_root ((p 1) + (p 2))) + 2) else 3))
set_option maxHeartbeats 4000000 in
set_option maxRecDepth 100000 in
theorem mX3_computedNeed (l : Launch) (D : va_G) (ck : Nat → ClassId) (q : Nat) (p : Nat → Int32) : xMi l yX3_computedNeed wsX3_computedNeed rmX3_computedNeed D ck [.ref q] (pW q p) (pW q p) (gX3_computedNeed p) 0 0 := by
  refine xMet (by decide) rfl (Nat.le_of_ble_eq_true rfl) ?_
  intro zp ze s zm zb zt zc hx hb hr hml hown hts hlk hnm hN hK hP hD ls hl
  have hown : s.vm.findClass RX3 = some zm.cls := hown
  have hl : lv_has ls 1 [(0, .ref q)] := hl
  have hS : va_S (va_A (pW q p) s.heap.size) s.heap s.heap [] := va_S.rf
  have hA : ∀ zq : Nat, s.heap.size ≤ zq → va_A (pW q p) s.heap.size zq := fun zq h => Or.inr h
  have hinX3 : ∀ w ∈ u_ws RX3 TX3 5, w ∈ wsX3_computedNeed := by decide +kernel
  refine lv_aload_n hx hb dX3_computedNeed_0 rfl (lv_at hl 0 rfl) ?_
  refine va_get (D := D) (ci := 3) (v := .int (p 0)) (C := RX3) (T := TX3) (N := 5) hx hb hts hinX3 hown hK hP 0 rfl rfl 0 (by decide) (hts (.fieldLink RX3 29 "JoinGrants$Plan" "way" "I") (List.mem_of_getElem? (i := 1) rfl)) (fun _ h9 => h9) rfl dX3_computedNeed_1 ?_
  by_cases c_4_1 : (p 0) = 1
  · --1
    refine lv_lookup (tgt := 32) (off := 28) hx hb dX3_computedNeed_4 (by decide) (by rw [c_4_1]; decide) (by decide) ?_
    refine lv_aload_n hx hb dX3_computedNeed_32 rfl (lv_at hl 0 rfl) ?_
    refine va_get (D := D) (ci := 3) (v := .int (p 2)) (C := RX3) (T := TX3) (N := 5) hx hb hts hinX3 hown hK hP 0 rfl rfl 2 (by decide) (hts (.fieldLink RX3 22 "JoinGrants$Plan" "right" "I") (List.mem_of_getElem? (i := 2) rfl)) (fun _ h9 => h9) rfl dX3_computedNeed_33 ?_
    refine xreti (va_runS (As := [.int (p 2)]) (rest := []) ⟨hx, hb, hml, hown, hts⟩ (mX3_root l D ck (p 2) _) (va_cwS 1 hts gX3_computedNeed_X3_root rfl rfl rfl (by decide +kernel) ⟨Nat.le_of_ble_eq_true rfl, Nat.le_of_ble_eq_true rfl⟩) (xpreS hN hK hP hD pm_none) rfl rfl hl.1 rfl (lv_room (Nat.le_of_ble_eq_true rfl)) dX3_computedNeed_36 ⟨Nat.le_of_ble_eq_true rfl, Nat.le_of_ble_eq_true rfl⟩) hP hD hS hA pm_none pm_none (fun H locs hP hD hS => ?_)
    refine lv_iconst (v := 2) hx hb dX3_computedNeed_39 (by decide) ?_
    refine lv_iadd hx hb dX3_computedNeed_40 ?_
    exact xiret hx hb hr hlk hP hD hS (show gX3_computedNeed p = ((gX3_root (p 2)) + 2) from (Eq.trans (if_pos c_4_1) rfl)).symm rfl dX3_computedNeed_41
  by_cases c_4_2 : (p 0) = 2
  · --2
    refine lv_lookup (tgt := 42) (off := 38) hx hb dX3_computedNeed_4 (by decide) (by rw [c_4_2]; decide) (by decide) ?_
    refine lv_aload_n hx hb dX3_computedNeed_42 rfl (lv_at hl 0 rfl) ?_
    refine va_get (D := D) (ci := 3) (v := .int (p 1)) (C := RX3) (T := TX3) (N := 5) hx hb hts hinX3 hown hK hP 0 rfl rfl 1 (by decide) (hts (.fieldLink RX3 18 "JoinGrants$Plan" "left" "I") (List.mem_of_getElem? (i := 3) rfl)) (fun _ h9 => h9) rfl dX3_computedNeed_43 ?_
    refine lv_aload_n hx hb dX3_computedNeed_46 rfl (lv_at hl 0 rfl) ?_
    refine va_get (D := D) (ci := 3) (v := .int (p 2)) (C := RX3) (T := TX3) (N := 5) hx hb hts hinX3 hown hK hP 0 rfl rfl 2 (by decide) (hts (.fieldLink RX3 22 "JoinGrants$Plan" "right" "I") (List.mem_of_getElem? (i := 2) rfl)) (fun _ h9 => h9) rfl dX3_computedNeed_47 ?_
    refine lv_iadd hx hb dX3_computedNeed_50 ?_
    refine xreti (va_runS (As := [.int ((p 1) + (p 2))]) (rest := []) ⟨hx, hb, hml, hown, hts⟩ (mX3_root l D ck ((p 1) + (p 2)) _) (va_cwS 1 hts gX3_computedNeed_X3_root rfl rfl rfl (by decide +kernel) ⟨Nat.le_of_ble_eq_true rfl, Nat.le_of_ble_eq_true rfl⟩) (xpreS hN hK hP hD pm_none) rfl rfl hl.1 rfl (lv_room (Nat.le_of_ble_eq_true rfl)) dX3_computedNeed_51 ⟨Nat.le_of_ble_eq_true rfl, Nat.le_of_ble_eq_true rfl⟩) hP hD hS hA pm_none pm_none (fun H locs hP hD hS => ?_)
    refine lv_iconst (v := 2) hx hb dX3_computedNeed_54 (by decide) ?_
    refine lv_iadd hx hb dX3_computedNeed_55 ?_
    exact xiret hx hb hr hlk hP hD hS (show gX3_computedNeed p = ((gX3_root ((p 1) + (p 2))) + 2) from (Eq.trans (if_neg c_4_1) (Eq.trans (if_pos c_4_2) rfl))).symm rfl dX3_computedNeed_56
  refine lv_lookup (tgt := 57) (off := 53) hx hb dX3_computedNeed_4 (by decide) ((lv_osw c_4_1 (by decide)).trans ((lv_osw c_4_2 (by decide)).trans rfl)) (by decide) ?_
  refine lv_iconst (v := 3) hx hb dX3_computedNeed_57 (by decide) ?_
  exact xiret hx hb hr hlk hP hD hS (show gX3_computedNeed p = 3 from (Eq.trans (if_neg c_4_1) (Eq.trans (if_neg c_4_2) rfl))).symm rfl dX3_computedNeed_58

def rmX3_computedWant : Room := { frames := 0, cells := 0, slots := 0, locals := 0 }
def gX3_computedWant (p : Nat → Int32) : Int32 := (if (p 0) = 1 then (((p 2) + ((p 2) / 5)) + 2) else (if (p 0) = 2 then ((((p 1) + (p 2)) / 2) + 3) else ((p 2) + 2)))
set_option maxHeartbeats 4000000 in
set_option maxRecDepth 100000 in
theorem mX3_computedWant (l : Launch) (D : va_G) (ck : Nat → ClassId) (q : Nat) (p : Nat → Int32) : xMi l yX3_computedWant wsX3_computedWant rmX3_computedWant D ck [.ref q] (pW q p) (pW q p) (gX3_computedWant p) 0 0 := by
  refine xMet (by decide) rfl (Nat.le_of_ble_eq_true rfl) ?_
  intro zp ze s zm zb zt zc hx hb hr hml hown hts hlk hnm hN hK hP hD ls hl
  have hown : s.vm.findClass RX3 = some zm.cls := hown
  have hl : lv_has ls 1 [(0, .ref q)] := hl
  have hS : va_S (va_A (pW q p) s.heap.size) s.heap s.heap [] := va_S.rf
  have hA : ∀ zq : Nat, s.heap.size ≤ zq → va_A (pW q p) s.heap.size zq := fun zq h => Or.inr h
  have hinX3 : ∀ w ∈ u_ws RX3 TX3 5, w ∈ wsX3_computedWant := by decide +kernel
  refine lv_aload_n hx hb dX3_computedWant_0 rfl (lv_at hl 0 rfl) ?_
  refine va_get (D := D) (ci := 3) (v := .int (p 0)) (C := RX3) (T := TX3) (N := 5) hx hb hts hinX3 hown hK hP 0 rfl rfl 0 (by decide) (hts (.fieldLink RX3 29 "JoinGrants$Plan" "way" "I") (List.mem_of_getElem? (i := 1) rfl)) (fun _ h9 => h9) rfl dX3_computedWant_1 ?_
  by_cases c_4_1 : (p 0) = 1
  · --1
    refine lv_lookup (tgt := 32) (off := 28) hx hb dX3_computedWant_4 (by decide) (by rw [c_4_1]; decide) (by decide) ?_
    refine lv_aload_n hx hb dX3_computedWant_32 rfl (lv_at hl 0 rfl) ?_
    refine va_get (D := D) (ci := 3) (v := .int (p 2)) (C := RX3) (T := TX3) (N := 5) hx hb hts hinX3 hown hK hP 0 rfl rfl 2 (by decide) (hts (.fieldLink RX3 22 "JoinGrants$Plan" "right" "I") (List.mem_of_getElem? (i := 2) rfl)) (fun _ h9 => h9) rfl dX3_computedWant_33 ?_
    refine lv_aload_n hx hb dX3_computedWant_36 rfl (lv_at hl 0 rfl) ?_
    refine va_get (D := D) (ci := 3) (v := .int (p 2)) (C := RX3) (T := TX3) (N := 5) hx hb hts hinX3 hown hK hP 0 rfl rfl 2 (by decide) (hts (.fieldLink RX3 22 "JoinGrants$Plan" "right" "I") (List.mem_of_getElem? (i := 2) rfl)) (fun _ h9 => h9) rfl dX3_computedWant_37 ?_
    refine lv_iconst (v := 5) hx hb dX3_computedWant_40 (by decide) ?_
    refine lv_idiv hx hb dX3_computedWant_41 (by decide) ?_
    refine lv_iadd hx hb dX3_computedWant_42 ?_
    refine lv_iconst (v := 2) hx hb dX3_computedWant_43 (by decide) ?_
    refine lv_iadd hx hb dX3_computedWant_44 ?_
    exact xiret hx hb hr hlk hP hD hS (show gX3_computedWant p = (((p 2) + ((p 2) / 5)) + 2) from (Eq.trans (if_pos c_4_1) rfl)).symm rfl dX3_computedWant_45
  by_cases c_4_2 : (p 0) = 2
  · --2
    refine lv_lookup (tgt := 46) (off := 42) hx hb dX3_computedWant_4 (by decide) (by rw [c_4_2]; decide) (by decide) ?_
    refine lv_aload_n hx hb dX3_computedWant_46 rfl (lv_at hl 0 rfl) ?_
    refine va_get (D := D) (ci := 3) (v := .int (p 1)) (C := RX3) (T := TX3) (N := 5) hx hb hts hinX3 hown hK hP 0 rfl rfl 1 (by decide) (hts (.fieldLink RX3 18 "JoinGrants$Plan" "left" "I") (List.mem_of_getElem? (i := 3) rfl)) (fun _ h9 => h9) rfl dX3_computedWant_47 ?_
    refine lv_aload_n hx hb dX3_computedWant_50 rfl (lv_at hl 0 rfl) ?_
    refine va_get (D := D) (ci := 3) (v := .int (p 2)) (C := RX3) (T := TX3) (N := 5) hx hb hts hinX3 hown hK hP 0 rfl rfl 2 (by decide) (hts (.fieldLink RX3 22 "JoinGrants$Plan" "right" "I") (List.mem_of_getElem? (i := 2) rfl)) (fun _ h9 => h9) rfl dX3_computedWant_51 ?_
    refine lv_iadd hx hb dX3_computedWant_54 ?_
    refine lv_iconst (v := 2) hx hb dX3_computedWant_55 (by decide) ?_
    refine lv_idiv hx hb dX3_computedWant_56 (by decide) ?_
    refine lv_iconst (v := 3) hx hb dX3_computedWant_57 (by decide) ?_
    refine lv_iadd hx hb dX3_computedWant_58 ?_
    exact xiret hx hb hr hlk hP hD hS (show gX3_computedWant p = ((((p 1) + (p 2)) / 2) + 3) from (Eq.trans (if_neg c_4_1) (Eq.trans (if_pos c_4_2) rfl))).symm rfl dX3_computedWant_59
  refine lv_lookup (tgt := 60) (off := 56) hx hb dX3_computedWant_4 (by decide) ((lv_osw c_4_1 (by decide)).trans ((lv_osw c_4_2 (by decide)).trans rfl)) (by decide) ?_
  refine lv_aload_n hx hb dX3_computedWant_60 rfl (lv_at hl 0 rfl) ?_
  refine va_get (D := D) (ci := 3) (v := .int (p 2)) (C := RX3) (T := TX3) (N := 5) hx hb hts hinX3 hown hK hP 0 rfl rfl 2 (by decide) (hts (.fieldLink RX3 22 "JoinGrants$Plan" "right" "I") (List.mem_of_getElem? (i := 2) rfl)) (fun _ h9 => h9) rfl dX3_computedWant_61 ?_
  refine lv_iconst (v := 2) hx hb dX3_computedWant_64 (by decide) ?_
  refine lv_iadd hx hb dX3_computedWant_65 ?_
  exact xiret hx hb hr hlk hP hD hS (show gX3_computedWant p = ((p 2) + 2) from (Eq.trans (if_neg c_4_1) (Eq.trans (if_neg c_4_2) rfl))).symm rfl dX3_computedWant_66

def rmX3_changeWay : Room := { frames := 2, cells := 0, slots := 0, locals := 41 }
def gX3_changeWay (p : Nat → Int32) (a1 : Int32) : (Nat → Int32) := (upd (upd (upd p 0 a1) 3 (gX3_computedNeed (upd p 0 a1) )) 4 (if (gX3_computedNeed (upd p 0 a1) ) < (gX3_computedWant (upd (upd p 0 a1) 3 (gX3_computedNeed (upd p 0 a1) )) ) then (gX3_computedWant (upd (upd p 0 a1) 3 (gX3_computedNeed (upd p 0 a1) )) ) else (gX3_computedNeed (upd p 0 a1) )))
set_option maxHeartbeats 4000000 in
set_option maxRecDepth 100000 in
theorem mX3_changeWay (l : Launch) (D : va_G) (ck : Nat → ClassId) (q : Nat) (p : Nat → Int32) (a1 : Int32) : xMv l yX3_changeWay wsX3_changeWay rmX3_changeWay D ck [.ref q, .int a1] (pW q p) (pW q (gX3_changeWay p a1)) 0 0 := by
  refine xMet (by decide) rfl (Nat.le_of_ble_eq_true rfl) ?_
  intro zp ze s zm zb zt zc hx hb hr hml hown hts hlk hnm hN hK hP hD ls hl
  have hown : s.vm.findClass RX3 = some zm.cls := hown
  have hl : lv_has ls 2 [(0, .ref q), (1, .int a1)] := hl
  have hS : va_S (va_A (pW q p) s.heap.size) s.heap s.heap [] := va_S.rf
  have hA : ∀ zq : Nat, s.heap.size ≤ zq → va_A (pW q p) s.heap.size zq := fun zq h => Or.inr h
  have hinX3 : ∀ w ∈ u_ws RX3 TX3 5, w ∈ wsX3_changeWay := by decide +kernel
  refine lv_aload_n hx hb dX3_changeWay_0 rfl (lv_at hl 0 rfl) ?_
  refine lv_iload_n hx hb dX3_changeWay_1 rfl (lv_at hl 1 rfl) ?_
  refine va_put (D := D) (ci := 3) (v := .int a1) (ty := .int) (C := RX3) (T := TX3) (N := 5) hx hb hts hinX3 tyX3 tyX3_ok nmX3 hown hK hP hD hS 0 rfl rfl 0 (by decide) (hts (.fieldLink RX3 29 "JoinGrants$Plan" "way" "I") (List.mem_of_getElem? (i := 1) rfl)) (fun _ h9 => h9) rfl (by decide +kernel) rfl rfl (Nat.le_of_ble_eq_true rfl) dX3_changeWay_2 (fun H locs hP hD hS => ?_)
  have hP : va_P D vwCl (pW q (upd p 0 a1)) H := hP
  have hD : va_D (va_A (pW q p) s.heap.size) (pW q (upd p 0 a1)) := hD
  refine lv_aload_n hx hb dX3_changeWay_5 rfl (lv_at hl 0 rfl) ?_
  refine lv_aload_n hx hb dX3_changeWay_6 rfl (lv_at hl 0 rfl) ?_
  refine xreti (va_runV (As := []) (rest := [.ref q]) ⟨hx, hb, hml, hown, hts⟩ (mX3_computedNeed l D ck q (upd p 0 a1)  _) (cwV 0 hts gX3_changeWay_X3_computedNeed rfl rfl rfl (by decide +kernel) ⟨Nat.le_of_ble_eq_true rfl, Nat.le_of_ble_eq_true rfl⟩) (xpreV hN hK hP hD pm_all 0 rfl rfl rfl) rfl rfl hl.1 rfl (lv_room (Nat.le_of_ble_eq_true rfl)) dX3_changeWay_7 ⟨Nat.le_of_ble_eq_true rfl, Nat.le_of_ble_eq_true rfl⟩) hP hD hS hA pm_all pm_all' (fun H locs hP hD hS => ?_)
  refine va_put (D := D) (ci := 3) (v := .int (gX3_computedNeed (upd p 0 a1) )) (ty := .int) (C := RX3) (T := TX3) (N := 5) hx hb hts hinX3 tyX3 tyX3_ok nmX3 hown hK hP hD hS 0 rfl rfl 3 (by decide) (hts (.fieldLink RX3 36 "JoinGrants$Plan" "need" "I") (List.mem_of_getElem? (i := 2) rfl)) (fun _ h9 => h9) rfl (by decide +kernel) rfl rfl (Nat.le_of_ble_eq_true rfl) dX3_changeWay_10 (fun H locs hP hD hS => ?_)
  have hP : va_P D vwCl (pW q (upd (upd p 0 a1) 3 (gX3_computedNeed (upd p 0 a1) ))) H := hP
  have hD : va_D (va_A (pW q p) s.heap.size) (pW q (upd (upd p 0 a1) 3 (gX3_computedNeed (upd p 0 a1) ))) := hD
  refine lv_aload_n hx hb dX3_changeWay_13 rfl (lv_at hl 0 rfl) ?_
  refine lv_aload_n hx hb dX3_changeWay_14 rfl (lv_at hl 0 rfl) ?_
  refine va_get (D := D) (ci := 3) (v := .int (gX3_computedNeed (upd p 0 a1) )) (C := RX3) (T := TX3) (N := 5) hx hb hts hinX3 hown hK hP 0 rfl rfl 3 (by decide) (hts (.fieldLink RX3 36 "JoinGrants$Plan" "need" "I") (List.mem_of_getElem? (i := 2) rfl)) (fun _ h9 => h9) rfl dX3_changeWay_15 ?_
  refine lv_aload_n hx hb dX3_changeWay_18 rfl (lv_at hl 0 rfl) ?_
  refine xreti (va_runV (As := []) (rest := [.int (gX3_computedNeed (upd p 0 a1) ), .ref q]) ⟨hx, hb, hml, hown, hts⟩ (mX3_computedWant l D ck q (upd (upd p 0 a1) 3 (gX3_computedNeed (upd p 0 a1) ))  _) (cwV 0 hts gX3_changeWay_X3_computedWant rfl rfl rfl (by decide +kernel) ⟨Nat.le_of_ble_eq_true rfl, Nat.le_of_ble_eq_true rfl⟩) (xpreV hN hK hP hD pm_all 0 rfl rfl rfl) rfl rfl hl.1 rfl (lv_room (Nat.le_of_ble_eq_true rfl)) dX3_changeWay_19 ⟨Nat.le_of_ble_eq_true rfl, Nat.le_of_ble_eq_true rfl⟩) hP hD hS hA pm_all pm_all' (fun H locs hP hD hS => ?_)
  refine va_mmax hx hb (hml.trans hl.1.symm) hown (hts (.methodLink RX3 42 Lib.Math.max.name) (List.mem_of_getElem? (i := 3) rfl)) (hts (.static Lib.Math.max.name) (List.mem_of_getElem? (i := 4) rfl)) (hts (.initialized "java/lang/Math") (List.mem_of_getElem? (i := 5) rfl)) (hts (.code Lib.Math.max.name Lib.Math.max.code 2 (some .int)) (List.mem_of_getElem? (i := 6) rfl)) (Nat.le_of_ble_eq_true rfl) (Nat.le_of_ble_eq_true rfl) (Nat.le_of_ble_eq_true rfl) (Nat.le_of_ble_eq_true rfl) dX3_changeWay_22 ?_
  refine va_put (D := D) (ci := 3) (v := .int (if (gX3_computedNeed (upd p 0 a1) ) < (gX3_computedWant (upd (upd p 0 a1) 3 (gX3_computedNeed (upd p 0 a1) )) ) then (gX3_computedWant (upd (upd p 0 a1) 3 (gX3_computedNeed (upd p 0 a1) )) ) else (gX3_computedNeed (upd p 0 a1) ))) (ty := .int) (C := RX3) (T := TX3) (N := 5) hx hb hts hinX3 tyX3 tyX3_ok nmX3 hown hK hP hD hS 0 rfl rfl 4 (by decide) (hts (.fieldLink RX3 48 "JoinGrants$Plan" "want" "I") (List.mem_of_getElem? (i := 7) rfl)) (fun _ h9 => h9) rfl (by decide +kernel) rfl rfl (Nat.le_of_ble_eq_true rfl) dX3_changeWay_25 (fun H locs hP hD hS => ?_)
  have hP : va_P D vwCl (pW q (upd (upd (upd p 0 a1) 3 (gX3_computedNeed (upd p 0 a1) )) 4 (if (gX3_computedNeed (upd p 0 a1) ) < (gX3_computedWant (upd (upd p 0 a1) 3 (gX3_computedNeed (upd p 0 a1) )) ) then (gX3_computedWant (upd (upd p 0 a1) 3 (gX3_computedNeed (upd p 0 a1) )) ) else (gX3_computedNeed (upd p 0 a1) )))) H := hP
  have hD : va_D (va_A (pW q p) s.heap.size) (pW q (upd (upd (upd p 0 a1) 3 (gX3_computedNeed (upd p 0 a1) )) 4 (if (gX3_computedNeed (upd p 0 a1) ) < (gX3_computedWant (upd (upd p 0 a1) 3 (gX3_computedNeed (upd p 0 a1) )) ) then (gX3_computedWant (upd (upd p 0 a1) 3 (gX3_computedNeed (upd p 0 a1) )) ) else (gX3_computedNeed (upd p 0 a1) )))) := hD
  exact xvret hx hb hr hlk hP hD hS (congrArg (fun z => pW q z) (show gX3_changeWay p a1 = (upd (upd (upd p 0 a1) 3 (gX3_computedNeed (upd p 0 a1) )) 4 (if (gX3_computedNeed (upd p 0 a1) ) < (gX3_computedWant (upd (upd p 0 a1) 3 (gX3_computedNeed (upd p 0 a1) )) ) then (gX3_computedWant (upd (upd p 0 a1) 3 (gX3_computedNeed (upd p 0 a1) )) ) else (gX3_computedNeed (upd p 0 a1) ))) from rfl)).symm dX3_changeWay_28

def rmX3_make : Room := { frames := 3, cells := 0, slots := 0, locals := 62 }
def gX3_make (p : Nat → Int32) (a1 : Int32) (a2 : Int32) (a3 : Int32) : (Nat → Int32) := (gX3_changeWay (upd (upd p 1 a2) 2 a3) a1)
set_option maxHeartbeats 4000000 in
set_option maxRecDepth 100000 in
theorem mX3_make (l : Launch) (D : va_G) (ck : Nat → ClassId) (q : Nat) (p : Nat → Int32) (a1 : Int32) (a2 : Int32) (a3 : Int32) : xMv l yX3_make wsX3_make rmX3_make D ck [.ref q, .int a1, .int a2, .int a3] (pW q p) (pW q (gX3_make p a1 a2 a3)) 0 0 := by
  refine xMet (by decide) rfl (Nat.le_of_ble_eq_true rfl) ?_
  intro zp ze s zm zb zt zc hx hb hr hml hown hts hlk hnm hN hK hP hD ls hl
  have hown : s.vm.findClass RX3 = some zm.cls := hown
  have hl : lv_has ls 4 [(0, .ref q), (1, .int a1), (2, .int a2), (3, .int a3)] := hl
  have hS : va_S (va_A (pW q p) s.heap.size) s.heap s.heap [] := va_S.rf
  have hA : ∀ zq : Nat, s.heap.size ≤ zq → va_A (pW q p) s.heap.size zq := fun zq h => Or.inr h
  have hinX3 : ∀ w ∈ u_ws RX3 TX3 5, w ∈ wsX3_make := by decide +kernel
  refine lv_aload_n hx hb dX3_make_0 rfl (lv_at hl 0 rfl) ?_
  refine lv_iload_n hx hb dX3_make_1 rfl (lv_at hl 2 rfl) ?_
  refine va_put (D := D) (ci := 3) (v := .int a2) (ty := .int) (C := RX3) (T := TX3) (N := 5) hx hb hts hinX3 tyX3 tyX3_ok nmX3 hown hK hP hD hS 0 rfl rfl 1 (by decide) (hts (.fieldLink RX3 18 "JoinGrants$Plan" "left" "I") (List.mem_of_getElem? (i := 1) rfl)) (fun _ h9 => h9) rfl (by decide +kernel) rfl rfl (Nat.le_of_ble_eq_true rfl) dX3_make_2 (fun H locs hP hD hS => ?_)
  have hP : va_P D vwCl (pW q (upd p 1 a2)) H := hP
  have hD : va_D (va_A (pW q p) s.heap.size) (pW q (upd p 1 a2)) := hD
  refine lv_aload_n hx hb dX3_make_5 rfl (lv_at hl 0 rfl) ?_
  refine lv_iload_n hx hb dX3_make_6 rfl (lv_at hl 3 rfl) ?_
  refine va_put (D := D) (ci := 3) (v := .int a3) (ty := .int) (C := RX3) (T := TX3) (N := 5) hx hb hts hinX3 tyX3 tyX3_ok nmX3 hown hK hP hD hS 0 rfl rfl 2 (by decide) (hts (.fieldLink RX3 22 "JoinGrants$Plan" "right" "I") (List.mem_of_getElem? (i := 2) rfl)) (fun _ h9 => h9) rfl (by decide +kernel) rfl rfl (Nat.le_of_ble_eq_true rfl) dX3_make_7 (fun H locs hP hD hS => ?_)
  have hP : va_P D vwCl (pW q (upd (upd p 1 a2) 2 a3)) H := hP
  have hD : va_D (va_A (pW q p) s.heap.size) (pW q (upd (upd p 1 a2) 2 a3)) := hD
  refine lv_aload_n hx hb dX3_make_10 rfl (lv_at hl 0 rfl) ?_
  refine lv_iload_n hx hb dX3_make_11 rfl (lv_at hl 1 rfl) ?_
  refine xretv (va_runV (As := [.int a1]) (rest := []) ⟨hx, hb, hml, hown, hts⟩ (mX3_changeWay l D ck q (upd (upd p 1 a2) 2 a3) a1 _) (cwV 1 hts gX3_make_X3_changeWay rfl rfl rfl (by decide +kernel) ⟨Nat.le_of_ble_eq_true rfl, Nat.le_of_ble_eq_true rfl⟩) (xpreV hN hK hP hD pm_all 0 rfl rfl rfl) rfl rfl hl.1 rfl (lv_room (Nat.le_of_ble_eq_true rfl)) dX3_make_12 ⟨Nat.le_of_ble_eq_true rfl, Nat.le_of_ble_eq_true rfl⟩) hP hD hS hA pm_all pm_all' (fun H locs hP hD hS => ?_)
  have hP : va_P D vwCl (pW q (gX3_changeWay (upd (upd p 1 a2) 2 a3) a1)) H := hP
  have hD : va_D (va_A (pW q p) s.heap.size) (pW q (gX3_changeWay (upd (upd p 1 a2) 2 a3) a1)) := hD
  exact xvret hx hb hr hlk hP hD hS (congrArg (fun z => pW q z) (show gX3_make p a1 a2 a3 = (gX3_changeWay (upd (upd p 1 a2) 2 a3) a1) from rfl)).symm dX3_make_15

def rmX3_spillsWith : Room := { frames := 0, cells := 0, slots := 0, locals := 0 }
def gX3_spillsWith (p : Nat → Int32) (a1 : Int32) : Int32 := (if (p 0) = 0 then 0 else (if (p 4) ≤ a1 then 0 else 1))
set_option maxHeartbeats 4000000 in
set_option maxRecDepth 100000 in
theorem mX3_spillsWith (l : Launch) (D : va_G) (ck : Nat → ClassId) (q : Nat) (p : Nat → Int32) (a1 : Int32) : xMi l yX3_spillsWith wsX3_spillsWith rmX3_spillsWith D ck [.ref q, .int a1] (pW q p) (pW q p) (gX3_spillsWith p a1) 0 0 := by
  refine xMet (by decide) rfl (Nat.le_of_ble_eq_true rfl) ?_
  intro zp ze s zm zb zt zc hx hb hr hml hown hts hlk hnm hN hK hP hD ls hl
  have hown : s.vm.findClass RX3 = some zm.cls := hown
  have hl : lv_has ls 2 [(0, .ref q), (1, .int a1)] := hl
  have hS : va_S (va_A (pW q p) s.heap.size) s.heap s.heap [] := va_S.rf
  have hA : ∀ zq : Nat, s.heap.size ≤ zq → va_A (pW q p) s.heap.size zq := fun zq h => Or.inr h
  have hinX3 : ∀ w ∈ u_ws RX3 TX3 5, w ∈ wsX3_spillsWith := by decide +kernel
  refine lv_aload_n hx hb dX3_spillsWith_0 rfl (lv_at hl 0 rfl) ?_
  refine va_get (D := D) (ci := 3) (v := .int (p 0)) (C := RX3) (T := TX3) (N := 5) hx hb hts hinX3 hown hK hP 0 rfl rfl 0 (by decide) (hts (.fieldLink RX3 29 "JoinGrants$Plan" "way" "I") (List.mem_of_getElem? (i := 1) rfl)) (fun _ h9 => h9) rfl dX3_spillsWith_1 ?_
  refine lv_if_eq (tgt := 19) hx hb dX3_spillsWith_4 (by decide) (fun c_4 => ?_) (fun c_4 => ?_)
  · --t
    refine lv_iconst (v := 0) hx hb dX3_spillsWith_19 (by decide) ?_
    exact xzret hx hb hr hlk hP hD hS (Or.inl rfl) (show gX3_spillsWith p a1 = 0 from (Eq.trans (if_pos c_4) rfl)).symm rfl dX3_spillsWith_20
  · --f
    refine lv_iload_n hx hb dX3_spillsWith_7 rfl (lv_at hl 1 rfl) ?_
    refine lv_aload_n hx hb dX3_spillsWith_8 rfl (lv_at hl 0 rfl) ?_
    refine va_get (D := D) (ci := 3) (v := .int (p 4)) (C := RX3) (T := TX3) (N := 5) hx hb hts hinX3 hown hK hP 0 rfl rfl 4 (by decide) (hts (.fieldLink RX3 48 "JoinGrants$Plan" "want" "I") (List.mem_of_getElem? (i := 2) rfl)) (fun _ h9 => h9) rfl dX3_spillsWith_9 ?_
    refine lv_icmp_ge (tgt := 19) hx hb dX3_spillsWith_12 (by decide) (fun c_12 => ?_) (fun c_12 => ?_)
    · --t
      refine lv_iconst (v := 0) hx hb dX3_spillsWith_19 (by decide) ?_
      exact xzret hx hb hr hlk hP hD hS (Or.inl rfl) (show gX3_spillsWith p a1 = 0 from (Eq.trans (if_neg c_4) (Eq.trans (if_pos c_12) rfl))).symm rfl dX3_spillsWith_20
    · --f
      refine lv_iconst (v := 1) hx hb dX3_spillsWith_15 (by decide) ?_
      refine lv_goto (tgt := 20) hx hb dX3_spillsWith_16 (by decide) ?_
      exact xzret hx hb hr hlk hP hD hS (Or.inr rfl) (show gX3_spillsWith p a1 = 1 from (Eq.trans (if_neg c_4) (Eq.trans (if_neg c_12) rfl))).symm rfl dX3_spillsWith_20

def rmX3_workWith : Room := { frames := 0, cells := 0, slots := 0, locals := 0 }
def gX3_workWith_L82 (p : Nat → Int32) (a1 : Int32) : Nat → Nat → Int32 → Int32
  | 0, m1, r1 => (if r1 ≤ 1 then (((p 1) + (p 2)) * ((2 * (nI m1)) + 1)) else (((p 1) + (p 2)) * ((2 * (nI m1)) + 1)))
  | fu + 1, m1, r1 => (if r1 ≤ 1 then (((p 1) + (p 2)) * ((2 * (nI m1)) + 1)) else (gX3_workWith_L82 p a1 fu (m1 + 1) (((r1 + a1) - 2) / (a1 - 1))))
def gX3_workWith (p : Nat → Int32) (a1 : Int32) : Int32 := (if 3 ≤ a1 then (if (p 0) = 0 then ((p 1) + ((p 2) * ((((p 1) + a1) - 3) / (a1 - 2)))) else (if (p 0) = 1 then (if a1 < (p 4) then (3 * ((p 1) + (p 2))) else ((p 1) + (p 2))) else (gX3_workWith_L82 p a1 ((p 1 + p 2).toNatClampNeg) 0 (((((p 1) + (p 2)) + a1) - 1) / a1)))) else 0)
set_option maxHeartbeats 4000000 in
set_option maxRecDepth 100000 in
theorem mX3_workWith (l : Launch) (D : va_G) (ck : Nat → ClassId) (q : Nat) (p : Nat → Int32) (a1 : Int32) : xMi l yX3_workWith wsX3_workWith rmX3_workWith D ck [.ref q, .int a1] (pW q p) (pW q p) (gX3_workWith p a1) 0 0 := by
  refine xMet (by decide) rfl (Nat.le_of_ble_eq_true rfl) ?_
  intro zp ze s zm zb zt zc hx hb hr hml hown hts hlk hnm hN hK hP hD ls hl
  have hown : s.vm.findClass RX3 = some zm.cls := hown
  have hl : lv_has ls 5 [(0, .ref q), (1, .int a1)] := hl
  have hS : va_S (va_A (pW q p) s.heap.size) s.heap s.heap [] := va_S.rf
  have hA : ∀ zq : Nat, s.heap.size ≤ zq → va_A (pW q p) s.heap.size zq := fun zq h => Or.inr h
  have hinX3 : ∀ w ∈ u_ws RX3 TX3 5, w ∈ wsX3_workWith := by decide +kernel
  refine lv_iload_n hx hb dX3_workWith_0 rfl (lv_at hl 1 rfl) ?_
  refine lv_iconst (v := 3) hx hb dX3_workWith_1 (by decide) ?_
  refine lv_icmp_ge (tgt := 7) hx hb dX3_workWith_2 (by decide) (fun c_2 => ?_) (fun c_2 => ?_)
  · --t
    refine lv_aload_n hx hb dX3_workWith_7 rfl (lv_at hl 0 rfl) ?_
    refine va_get (D := D) (ci := 3) (v := .int (p 1)) (C := RX3) (T := TX3) (N := 5) hx hb hts hinX3 hown hK hP 0 rfl rfl 1 (by decide) (hts (.fieldLink RX3 18 "JoinGrants$Plan" "left" "I") (List.mem_of_getElem? (i := 1) rfl)) (fun _ h9 => h9) rfl dX3_workWith_8 ?_
    refine lv_aload_n hx hb dX3_workWith_11 rfl (lv_at hl 0 rfl) ?_
    refine va_get (D := D) (ci := 3) (v := .int (p 2)) (C := RX3) (T := TX3) (N := 5) hx hb hts hinX3 hown hK hP 0 rfl rfl 2 (by decide) (hts (.fieldLink RX3 22 "JoinGrants$Plan" "right" "I") (List.mem_of_getElem? (i := 2) rfl)) (fun _ h9 => h9) rfl dX3_workWith_12 ?_
    refine lv_iadd hx hb dX3_workWith_15 ?_
    refine lv_istore_n (lv' := [(2, .int ((p 1) + (p 2))), (0, .ref q), (1, .int a1)]) hx hb dX3_workWith_16 rfl hl (by decide) rfl (fun ls hl => ?_)
    refine lv_aload_n hx hb dX3_workWith_17 rfl (lv_at hl 1 rfl) ?_
    refine va_get (D := D) (ci := 3) (v := .int (p 0)) (C := RX3) (T := TX3) (N := 5) hx hb hts hinX3 hown hK hP 0 rfl rfl 0 (by decide) (hts (.fieldLink RX3 29 "JoinGrants$Plan" "way" "I") (List.mem_of_getElem? (i := 3) rfl)) (fun _ h9 => h9) rfl dX3_workWith_18 ?_
    refine lv_if_ne (tgt := 47) hx hb dX3_workWith_21 (by decide) (fun c_21 => ?_) (fun c_21 => ?_)
    · --t
      refine lv_aload_n hx hb dX3_workWith_47 rfl (lv_at hl 1 rfl) ?_
      refine va_get (D := D) (ci := 3) (v := .int (p 0)) (C := RX3) (T := TX3) (N := 5) hx hb hts hinX3 hown hK hP 0 rfl rfl 0 (by decide) (hts (.fieldLink RX3 29 "JoinGrants$Plan" "way" "I") (List.mem_of_getElem? (i := 3) rfl)) (fun _ h9 => h9) rfl dX3_workWith_48 ?_
      refine lv_iconst (v := 1) hx hb dX3_workWith_51 (by decide) ?_
      refine lv_icmp_ne (tgt := 71) hx hb dX3_workWith_52 (by decide) (fun c_52 => ?_) (fun c_52 => ?_)
      · --t
        refine lv_iload_n hx hb dX3_workWith_71 rfl (lv_at hl 0 rfl) ?_
        refine lv_iload_n hx hb dX3_workWith_72 rfl (lv_at hl 2 rfl) ?_
        refine lv_iadd hx hb dX3_workWith_73 ?_
        refine lv_iconst (v := 1) hx hb dX3_workWith_74 (by decide) ?_
        refine lv_isub hx hb dX3_workWith_75 ?_
        refine lv_iload_n hx hb dX3_workWith_76 rfl (lv_at hl 2 rfl) ?_
        refine lv_idiv hx hb dX3_workWith_77 (x_d0 c_2) ?_
        refine lv_istore_n (lv' := [(3, .int (((((p 1) + (p 2)) + a1) - 1) / a1)), (2, .int ((p 1) + (p 2))), (0, .ref q), (1, .int a1)]) hx hb dX3_workWith_78 rfl hl (by decide) rfl (fun ls hl => ?_)
        refine lv_iconst (v := (nI 0)) hx hb dX3_workWith_79 (by decide) ?_
        refine lv_istore (lv' := [(4, .int (nI 0)), (3, .int (((((p 1) + (p 2)) + a1) - 1) / a1)), (2, .int ((p 1) + (p 2))), (0, .ref q), (1, .int a1)]) hx hb dX3_workWith_80 hl (by decide) rfl (fun ls hl => ?_)
        have loop82 : ∀ (fu : Nat) (m1 : Nat) (r1 : Int32), (m1 + fu = (p 1 + p 2).toNatClampNeg) → gX3_workWith p a1 = gX3_workWith_L82 p a1 fu m1 r1 → ∀ (H : Heap) (locs : List Loc) (ls : Array Slot), va_P D vwCl (pW q p) H → va_D (va_A (pW q p) s.heap.size) (pW q p) → va_S (va_A (pW q p) s.heap.size) s.heap H locs → lv_has ls 5 [(0, .ref q), (1, .int a1), (2, .int ((p 1) + (p 2))), (3, .int r1), (4, .int (nI m1))] → W zp l ze rmX3_workWith s zm ([.ref q, .int a1] : List Value).toArray zb zt zc H locs 0 0 (MQ zb (xQi D (pW q p) (pW q p) (gX3_workWith p a1) s.heap.size) ([.ref q, .int a1] : List Value).toArray s 0 0 (va_A (pW q p) s.heap.size)) (F0 zm 82 ls []) := by
          intro fu
          induction fu with
          | zero =>
            intro m1 r1 hf hg H locs ls hP hD hS hl
            refine lv_iload_n hx hb dX3_workWith_82 rfl (lv_at hl 3 rfl) ?_
            refine lv_iconst (v := 1) hx hb dX3_workWith_83 (by decide) ?_
            refine lv_icmp_le (tgt := 109) hx hb dX3_workWith_84 (by decide) (fun c_84 => ?_) (fun c_84 => ?_)
            · --t
              refine lv_iload_n hx hb dX3_workWith_109 rfl (lv_at hl 2 rfl) ?_
              refine lv_iconst (v := 2) hx hb dX3_workWith_110 (by decide) ?_
              refine lv_iload hx hb dX3_workWith_111 (lv_at hl 4 rfl) ?_
              refine lv_imul hx hb dX3_workWith_113 ?_
              refine lv_iconst (v := 1) hx hb dX3_workWith_114 (by decide) ?_
              refine lv_iadd hx hb dX3_workWith_115 ?_
              refine lv_imul hx hb dX3_workWith_116 ?_
              exact xiret hx hb hr hlk hP hD hS (hg.trans (show gX3_workWith_L82 p a1 0 m1 r1 = (((p 1) + (p 2)) * ((2 * (nI m1)) + 1)) from (Eq.trans (if_pos c_84) rfl))).symm rfl dX3_workWith_117
            · --f
              refine lv_iload hx hb dX3_workWith_87 (lv_at hl 4 rfl) ?_
              refine lv_iload_n hx hb dX3_workWith_89 rfl (lv_at hl 2 rfl) ?_
              refine lv_icmp_ge (tgt := 109) hx hb dX3_workWith_90 (by decide) (fun c_90 => ?_) (fun c_90 => ?_)
              · --t
                refine lv_iload_n hx hb dX3_workWith_109 rfl (lv_at hl 2 rfl) ?_
                refine lv_iconst (v := 2) hx hb dX3_workWith_110 (by decide) ?_
                refine lv_iload hx hb dX3_workWith_111 (lv_at hl 4 rfl) ?_
                refine lv_imul hx hb dX3_workWith_113 ?_
                refine lv_iconst (v := 1) hx hb dX3_workWith_114 (by decide) ?_
                refine lv_iadd hx hb dX3_workWith_115 ?_
                refine lv_imul hx hb dX3_workWith_116 ?_
                exact xiret hx hb hr hlk hP hD hS (hg.trans (show gX3_workWith_L82 p a1 0 m1 r1 = (((p 1) + (p 2)) * ((2 * (nI m1)) + 1)) from (Eq.trans (if_neg c_84) rfl))).symm rfl dX3_workWith_117
              · --f
                exact absurd (cl_le (by omega) (Nat.lt_of_le_of_lt (by omega) (x_clt (x := p 1 + p 2)))) c_90
          | succ fu ih82 =>
            intro m1 r1 hf hg H locs ls hP hD hS hl
            refine lv_iload_n hx hb dX3_workWith_82 rfl (lv_at hl 3 rfl) ?_
            refine lv_iconst (v := 1) hx hb dX3_workWith_83 (by decide) ?_
            refine lv_icmp_le (tgt := 109) hx hb dX3_workWith_84 (by decide) (fun c_84 => ?_) (fun c_84 => ?_)
            · --t
              refine lv_iload_n hx hb dX3_workWith_109 rfl (lv_at hl 2 rfl) ?_
              refine lv_iconst (v := 2) hx hb dX3_workWith_110 (by decide) ?_
              refine lv_iload hx hb dX3_workWith_111 (lv_at hl 4 rfl) ?_
              refine lv_imul hx hb dX3_workWith_113 ?_
              refine lv_iconst (v := 1) hx hb dX3_workWith_114 (by decide) ?_
              refine lv_iadd hx hb dX3_workWith_115 ?_
              refine lv_imul hx hb dX3_workWith_116 ?_
              exact xiret hx hb hr hlk hP hD hS (hg.trans (show gX3_workWith_L82 p a1 (fu + 1) m1 r1 = (((p 1) + (p 2)) * ((2 * (nI m1)) + 1)) from (Eq.trans (if_pos c_84) rfl))).symm rfl dX3_workWith_117
            · --f
              refine lv_iload hx hb dX3_workWith_87 (lv_at hl 4 rfl) ?_
              refine lv_iload_n hx hb dX3_workWith_89 rfl (lv_at hl 2 rfl) ?_
              refine lv_icmp_ge (tgt := 109) hx hb dX3_workWith_90 (by decide) (fun c_90 => ?_) (fun c_90 => ?_)
              · --t
                exact absurd c_90 (cl_lt (by omega))
              · --f
                refine lv_iload_n hx hb dX3_workWith_93 rfl (lv_at hl 3 rfl) ?_
                refine lv_iload_n hx hb dX3_workWith_94 rfl (lv_at hl 1 rfl) ?_
                refine lv_iadd hx hb dX3_workWith_95 ?_
                refine lv_iconst (v := 2) hx hb dX3_workWith_96 (by decide) ?_
                refine lv_isub hx hb dX3_workWith_97 ?_
                refine lv_iload_n hx hb dX3_workWith_98 rfl (lv_at hl 1 rfl) ?_
                refine lv_iconst (v := 1) hx hb dX3_workWith_99 (by decide) ?_
                refine lv_isub hx hb dX3_workWith_100 ?_
                refine lv_idiv hx hb dX3_workWith_101 (x_d1 c_2) ?_
                refine lv_istore_n (lv' := [(3, .int (((r1 + a1) - 2) / (a1 - 1))), (0, .ref q), (1, .int a1), (2, .int ((p 1) + (p 2))), (4, .int (nI m1))]) hx hb dX3_workWith_102 rfl hl (by decide) rfl (fun ls hl => ?_)
                refine lv_iinc (v := (nI (m1 + 1))) (lv' := [(4, .int (nI (m1 + 1))), (3, .int (((r1 + a1) - 2) / (a1 - 1))), (0, .ref q), (1, .int a1), (2, .int ((p 1) + (p 2)))]) hx hb dX3_workWith_103 hl (k := 4) rfl (nI_1 m1) (by decide) rfl (fun ls hl => ?_)
                refine lv_goto (tgt := 82) hx hb dX3_workWith_106 (by decide) ?_
                exact ih82 (m1 + 1) (((r1 + a1) - 2) / (a1 - 1)) (by omega) (hg.trans (show gX3_workWith_L82 p a1 (fu + 1) m1 r1 = (gX3_workWith_L82 p a1 fu (m1 + 1) (((r1 + a1) - 2) / (a1 - 1))) from (Eq.trans (if_neg c_84) rfl))) _ _ _ hP hD hS (lv_sub hl [2, 3, 4, 1, 0] rfl)
        exact loop82 ((p 1 + p 2).toNatClampNeg) 0 (((((p 1) + (p 2)) + a1) - 1) / a1) (by omega) (show gX3_workWith p a1 = (gX3_workWith_L82 p a1 ((p 1 + p 2).toNatClampNeg) 0 (((((p 1) + (p 2)) + a1) - 1) / a1)) from (Eq.trans (if_pos c_2) (Eq.trans (if_neg c_21) (Eq.trans (if_neg c_52) rfl)))) _ _ _ hP hD hS (lv_sub hl [3, 4, 2, 1, 0] rfl)
      · --f
        refine lv_iload_n hx hb dX3_workWith_55 rfl (lv_at hl 2 rfl) ?_
        refine lv_aload_n hx hb dX3_workWith_56 rfl (lv_at hl 1 rfl) ?_
        refine va_get (D := D) (ci := 3) (v := .int (p 4)) (C := RX3) (T := TX3) (N := 5) hx hb hts hinX3 hown hK hP 0 rfl rfl 4 (by decide) (hts (.fieldLink RX3 48 "JoinGrants$Plan" "want" "I") (List.mem_of_getElem? (i := 4) rfl)) (fun _ h9 => h9) rfl dX3_workWith_57 ?_
        refine lv_icmp_lt (tgt := 67) hx hb dX3_workWith_60 (by decide) (fun c_60 => ?_) (fun c_60 => ?_)
        · --t
          refine lv_iconst (v := 3) hx hb dX3_workWith_67 (by decide) ?_
          refine lv_iload_n hx hb dX3_workWith_68 rfl (lv_at hl 0 rfl) ?_
          refine lv_imul hx hb dX3_workWith_69 ?_
          exact xiret hx hb hr hlk hP hD hS (show gX3_workWith p a1 = (3 * ((p 1) + (p 2))) from (Eq.trans (if_pos c_2) (Eq.trans (if_neg c_21) (Eq.trans (if_pos c_52) (Eq.trans (if_pos c_60) rfl))))).symm rfl dX3_workWith_70
        · --f
          refine lv_iload_n hx hb dX3_workWith_63 rfl (lv_at hl 0 rfl) ?_
          refine lv_goto (tgt := 70) hx hb dX3_workWith_64 (by decide) ?_
          exact xiret hx hb hr hlk hP hD hS (show gX3_workWith p a1 = ((p 1) + (p 2)) from (Eq.trans (if_pos c_2) (Eq.trans (if_neg c_21) (Eq.trans (if_pos c_52) (Eq.trans (if_neg c_60) rfl))))).symm rfl dX3_workWith_70
    · --f
      refine lv_aload_n hx hb dX3_workWith_24 rfl (lv_at hl 1 rfl) ?_
      refine va_get (D := D) (ci := 3) (v := .int (p 1)) (C := RX3) (T := TX3) (N := 5) hx hb hts hinX3 hown hK hP 0 rfl rfl 1 (by decide) (hts (.fieldLink RX3 18 "JoinGrants$Plan" "left" "I") (List.mem_of_getElem? (i := 1) rfl)) (fun _ h9 => h9) rfl dX3_workWith_25 ?_
      refine lv_aload_n hx hb dX3_workWith_28 rfl (lv_at hl 1 rfl) ?_
      refine va_get (D := D) (ci := 3) (v := .int (p 2)) (C := RX3) (T := TX3) (N := 5) hx hb hts hinX3 hown hK hP 0 rfl rfl 2 (by decide) (hts (.fieldLink RX3 22 "JoinGrants$Plan" "right" "I") (List.mem_of_getElem? (i := 2) rfl)) (fun _ h9 => h9) rfl dX3_workWith_29 ?_
      refine lv_aload_n hx hb dX3_workWith_32 rfl (lv_at hl 1 rfl) ?_
      refine va_get (D := D) (ci := 3) (v := .int (p 1)) (C := RX3) (T := TX3) (N := 5) hx hb hts hinX3 hown hK hP 0 rfl rfl 1 (by decide) (hts (.fieldLink RX3 18 "JoinGrants$Plan" "left" "I") (List.mem_of_getElem? (i := 1) rfl)) (fun _ h9 => h9) rfl dX3_workWith_33 ?_
      refine lv_iload_n hx hb dX3_workWith_36 rfl (lv_at hl 2 rfl) ?_
      refine lv_iadd hx hb dX3_workWith_37 ?_
      refine lv_iconst (v := 3) hx hb dX3_workWith_38 (by decide) ?_
      refine lv_isub hx hb dX3_workWith_39 ?_
      refine lv_iload_n hx hb dX3_workWith_40 rfl (lv_at hl 2 rfl) ?_
      refine lv_iconst (v := 2) hx hb dX3_workWith_41 (by decide) ?_
      refine lv_isub hx hb dX3_workWith_42 ?_
      refine lv_idiv hx hb dX3_workWith_43 (x_d2 c_2) ?_
      refine lv_imul hx hb dX3_workWith_44 ?_
      refine lv_iadd hx hb dX3_workWith_45 ?_
      exact xiret hx hb hr hlk hP hD hS (show gX3_workWith p a1 = ((p 1) + ((p 2) * ((((p 1) + a1) - 3) / (a1 - 2)))) from (Eq.trans (if_pos c_2) (Eq.trans (if_pos c_21) rfl))).symm rfl dX3_workWith_46
  · --f
    refine lv_iconst (v := 0) hx hb dX3_workWith_5 (by decide) ?_
    exact xiret hx hb hr hlk hP hD hS (show gX3_workWith p a1 = 0 from (Eq.trans (if_neg c_2) rfl)).symm rfl dX3_workWith_6
