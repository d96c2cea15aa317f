def rmX6_in : Room := { frames := 0, cells := 0, slots := 0, locals := 0 }
def gX6_in (a1 : Int64) (a2 : Int64) (a3 : Int64) : Int32 := (if (lg_cmp a1 a2) < 0 then 0 else (if 0 < (lg_cmp a1 a3) then 0 else 1))
set_option maxHeartbeats 4000000 in
set_option maxRecDepth 100000 in
theorem mX6_in (l : Launch) (D : va_G) (ck : Nat → ClassId) (a1 : Int64) (a2 : Int64) (a3 : Int64) : xMi l yX6_in wsX6_in rmX6_in D ck [.long a1, .long a2, .long a3] ([]) ([]) (gX6_in a1 a2 a3) 0 0 := by
  refine xMet (by decide) rfl (Nat.le_of_ble_eq_true rfl) ?_
  intro zp ze s zm zb zt zc hx hb hr hml hown hts hlk hnm hN hK hP hD ls hl
  have hown : s.vm.findClass RX6 = some zm.cls := hown
  have hl : lv_has ls 6 [(0, .long a1), (2, .long a2), (4, .long a3)] := hl
  have hS : va_S (va_A ([]) s.heap.size) s.heap s.heap [] := va_S.rf
  have hA : ∀ zq : Nat, s.heap.size ≤ zq → va_A ([]) s.heap.size zq := fun zq h => Or.inr h
  refine lv_lload_n hx hb dX6_in_0 rfl (lv_at hl 0 rfl) ?_
  refine lv_lload_n hx hb dX6_in_1 rfl (lv_at hl 1 rfl) ?_
  refine W.lcmp hx hb dX6_in_2 ?_
  refine lv_if_lt (tgt := 17) hx hb dX6_in_3 (by decide) (fun c_3 => ?_) (fun c_3 => ?_)
  · --t
    refine lv_iconst (v := 0) hx hb dX6_in_17 (by decide) ?_
    exact xzret hx hb hr hlk hP hD hS (Or.inl rfl) (show gX6_in a1 a2 a3 = 0 from (Eq.trans (if_pos c_3) rfl)).symm rfl dX6_in_18
  · --f
    refine lv_lload_n hx hb dX6_in_6 rfl (lv_at hl 0 rfl) ?_
    refine lv_lload hx hb dX6_in_7 (lv_at hl 2 rfl) ?_
    refine W.lcmp hx hb dX6_in_9 ?_
    refine lv_if_gt (tgt := 17) hx hb dX6_in_10 (by decide) (fun c_10 => ?_) (fun c_10 => ?_)
    · --t
      refine lv_iconst (v := 0) hx hb dX6_in_17 (by decide) ?_
      exact xzret hx hb hr hlk hP hD hS (Or.inl rfl) (show gX6_in a1 a2 a3 = 0 from (Eq.trans (if_neg c_3) (Eq.trans (if_pos c_10) rfl))).symm rfl dX6_in_18
    · --f
      refine lv_iconst (v := 1) hx hb dX6_in_13 (by decide) ?_
      refine lv_goto (tgt := 18) hx hb dX6_in_14 (by decide) ?_
      exact xzret hx hb hr hlk hP hD hS (Or.inr rfl) (show gX6_in a1 a2 a3 = 1 from (Eq.trans (if_neg c_3) (Eq.trans (if_neg c_10) rfl))).symm rfl dX6_in_18

theorem z_X6_in {a1 a2 a3 : Int64} : gX6_in a1 a2 a3 = 0 ∨ gX6_in a1 a2 a3 = 1 := by
  unfold gX6_in
  (repeat' split) <;> first | exact Or.inl rfl | exact Or.inr rfl

def rmX6_isTable : Room := { frames := 1, cells := 0, slots := 0, locals := 25 }
def gX6_isTable (a1 : Int32) : Int32 := (gX6_in ((a1).toInt64) 1 200)
set_option maxHeartbeats 4000000 in
set_option maxRecDepth 100000 in
theorem mX6_isTable (l : Launch) (D : va_G) (ck : Nat → ClassId) (a1 : Int32) : xMi l yX6_isTable wsX6_isTable rmX6_isTable D ck [.int a1] ([]) ([]) (gX6_isTable a1) 0 0 := by
  refine xMet (by decide) rfl (Nat.le_of_ble_eq_true rfl) ?_
  intro zp ze s zm zb zt zc hx hb hr hml hown hts hlk hnm hN hK hP hD ls hl
  have hown : s.vm.findClass RX6 = some zm.cls := hown
  have hl : lv_has ls 1 [(0, .int a1)] := hl
  have hS : va_S (va_A ([]) s.heap.size) s.heap s.heap [] := va_S.rf
  have hA : ∀ zq : Nat, s.heap.size ≤ zq → va_A ([]) s.heap.size zq := fun zq h => Or.inr h
  refine lv_iload_n hx hb dX6_isTable_0 rfl (lv_at hl 0 rfl) ?_
  refine lv_i2l (v := (a1).toInt64) hx hb dX6_isTable_1 rfl ?_
  refine lv_lconst (v := 1) hx hb dX6_isTable_2 (by decide) ?_
  refine lv_ldc2 (v := 200) hx hb hown (hts (.constantLong RX6 122 (200)) (List.mem_of_getElem? (i := 1) rfl)) dX6_isTable_3 ?_
  refine xreti (va_runS (As := [.long ((a1).toInt64), .long 1, .long 200]) (rest := []) ⟨hx, hb, hml, hown, hts⟩ (mX6_in l D ck ((a1).toInt64) 1 200  _) (va_cwS 3 hts gX6_isTable_X6_in rfl rfl rfl (by decide +kernel) ⟨Nat.le_of_ble_eq_true rfl, Nat.le_of_ble_eq_true rfl⟩) (xpreS hN hK hP hD pm_none) rfl rfl hl.1 rfl (lv_room (Nat.le_of_ble_eq_true rfl)) dX6_isTable_6 ⟨Nat.le_of_ble_eq_true rfl, Nat.le_of_ble_eq_true rfl⟩) hP hD hS hA pm_none pm_none (fun H locs hP hD hS => ?_)
  exact xzret hx hb hr hlk hP hD hS z_X6_in (show gX6_isTable a1 = (gX6_in ((a1).toInt64) 1 200) from rfl).symm rfl dX6_isTable_9

def rmX6_isSetting : Room := { frames := 1, cells := 0, slots := 0, locals := 25 }
def gX6_isSetting (a1 : Int32) (a2 : Int32) : Int32 := (if a1 = 0 then (gX6_in ((a2).toInt64) 20 500) else (if a1 = 1 then (gX6_in ((a2).toInt64) 0 1) else (if a1 = 2 then (gX6_in ((a2).toInt64) 0 1) else (if a1 = 3 then (if (gX6_in ((a2).toInt64) 1 50) = 0 then 0 else 1) else 0))))
set_option maxHeartbeats 4000000 in
set_option maxRecDepth 100000 in
theorem mX6_isSetting (l : Launch) (D : va_G) (ck : Nat → ClassId) (a1 : Int32) (a2 : Int32) : xMi l yX6_isSetting wsX6_isSetting rmX6_isSetting D ck [.int a1, .int a2] ([]) ([]) (gX6_isSetting a1 a2) 0 0 := by
  refine xMet (by decide) rfl (Nat.le_of_ble_eq_true rfl) ?_
  intro zp ze s zm zb zt zc hx hb hr hml hown hts hlk hnm hN hK hP hD ls hl
  have hown : s.vm.findClass RX6 = some zm.cls := hown
  have hl : lv_has ls 2 [(0, .int a1), (1, .int a2)] := hl
  have hS : va_S (va_A ([]) s.heap.size) s.heap s.heap [] := va_S.rf
  have hA : ∀ zq : Nat, s.heap.size ≤ zq → va_A ([]) s.heap.size zq := fun zq h => Or.inr h
  refine lv_iload_n hx hb dX6_isSetting_0 rfl (lv_at hl 0 rfl) ?_
  by_cases c_1_0 : a1 = 0
  · --0
    refine lv_tableIn (tgt := 28) (off := 27) hx hb dX6_isSetting_1 (by rw [c_1_0]; decide) (by rw [c_1_0]; decide) (by rw [c_1_0]; decide) (by decide) ?_
    refine lv_iload_n hx hb dX6_isSetting_28 rfl (lv_at hl 1 rfl) ?_
    refine lv_i2l (v := (a2).toInt64) hx hb dX6_isSetting_29 rfl ?_
    refine lv_ldc2 (v := 20) hx hb hown (hts (.constantLong RX6 146 (20)) (List.mem_of_getElem? (i := 1) rfl)) dX6_isSetting_30 ?_
    refine lv_ldc2 (v := 500) hx hb hown (hts (.constantLong RX6 148 (500)) (List.mem_of_getElem? (i := 2) rfl)) dX6_isSetting_33 ?_
    refine xreti (va_runS (As := [.long ((a2).toInt64), .long 20, .long 500]) (rest := []) ⟨hx, hb, hml, hown, hts⟩ (mX6_in l D ck ((a2).toInt64) 20 500  _) (va_cwS 3 hts gX6_isSetting_X6_in rfl rfl rfl (by decide +kernel) ⟨Nat.le_of_ble_eq_true rfl, Nat.le_of_ble_eq_true rfl⟩) (xpreS hN hK hP hD pm_none) rfl rfl hl.1 rfl (lv_room (Nat.le_of_ble_eq_true rfl)) dX6_isSetting_36 ⟨Nat.le_of_ble_eq_true rfl, Nat.le_of_ble_eq_true rfl⟩) hP hD hS hA pm_none pm_none (fun H locs hP hD hS => ?_)
    exact xzret hx hb hr hlk hP hD hS z_X6_in (show gX6_isSetting a1 a2 = (gX6_in ((a2).toInt64) 20 500) from (Eq.trans (if_pos c_1_0) rfl)).symm rfl dX6_isSetting_39
  by_cases c_1_1 : a1 = 1
  · --1
    refine lv_tableIn (tgt := 40) (off := 39) hx hb dX6_isSetting_1 (by rw [c_1_1]; decide) (by rw [c_1_1]; decide) (by rw [c_1_1]; decide) (by decide) ?_
    refine lv_iload_n hx hb dX6_isSetting_40 rfl (lv_at hl 1 rfl) ?_
    refine lv_i2l (v := (a2).toInt64) hx hb dX6_isSetting_41 rfl ?_
    refine lv_lconst (v := 0) hx hb dX6_isSetting_42 (by decide) ?_
    refine lv_lconst (v := 1) hx hb dX6_isSetting_43 (by decide) ?_
    refine xreti (va_runS (As := [.long ((a2).toInt64), .long 0, .long 1]) (rest := []) ⟨hx, hb, hml, hown, hts⟩ (mX6_in l D ck ((a2).toInt64) 0 1  _) (va_cwS 3 hts gX6_isSetting_X6_in rfl rfl rfl (by decide +kernel) ⟨Nat.le_of_ble_eq_true rfl, Nat.le_of_ble_eq_true rfl⟩) (xpreS hN hK hP hD pm_none) rfl rfl hl.1 rfl (lv_room (Nat.le_of_ble_eq_true rfl)) dX6_isSetting_44 ⟨Nat.le_of_ble_eq_true rfl, Nat.le_of_ble_eq_true rfl⟩) hP hD hS hA pm_none pm_none (fun H locs hP hD hS => ?_)
    exact xzret hx hb hr hlk hP hD hS z_X6_in (show gX6_isSetting a1 a2 = (gX6_in ((a2).toInt64) 0 1) from (Eq.trans (if_neg c_1_0) (Eq.trans (if_pos c_1_1) rfl))).symm rfl dX6_isSetting_47
  by_cases c_1_2 : a1 = 2
  · --2
    refine lv_tableIn (tgt := 40) (off := 39) hx hb dX6_isSetting_1 (by rw [c_1_2]; decide) (by rw [c_1_2]; decide) (by rw [c_1_2]; decide) (by decide) ?_
    refine lv_iload_n hx hb dX6_isSetting_40 rfl (lv_at hl 1 rfl) ?_
    refine lv_i2l (v := (a2).toInt64) hx hb dX6_isSetting_41 rfl ?_
    refine lv_lconst (v := 0) hx hb dX6_isSetting_42 (by decide) ?_
    refine lv_lconst (v := 1) hx hb dX6_isSetting_43 (by decide) ?_
    refine xreti (va_runS (As := [.long ((a2).toInt64), .long 0, .long 1]) (rest := []) ⟨hx, hb, hml, hown, hts⟩ (mX6_in l D ck ((a2).toInt64) 0 1  _) (va_cwS 3 hts gX6_isSetting_X6_in rfl rfl rfl (by decide +kernel) ⟨Nat.le_of_ble_eq_true rfl, Nat.le_of_ble_eq_true rfl⟩) (xpreS hN hK hP hD pm_none) rfl rfl hl.1 rfl (lv_room (Nat.le_of_ble_eq_true rfl)) dX6_isSetting_44 ⟨Nat.le_of_ble_eq_true rfl, Nat.le_of_ble_eq_true rfl⟩) hP hD hS hA pm_none pm_none (fun H locs hP hD hS => ?_)
    exact xzret hx hb hr hlk hP hD hS z_X6_in (show gX6_isSetting a1 a2 = (gX6_in ((a2).toInt64) 0 1) from (Eq.trans (if_neg c_1_0) (Eq.trans (if_neg c_1_1) (Eq.trans (if_pos c_1_2) rfl)))).symm rfl dX6_isSetting_47
  have z_c_1_0 : (a1).toInt ≠ 0 := fun e => c_1_0 (Int32.toInt_inj.mp e)
  have z_c_1_1 : (a1).toInt ≠ 1 := fun e => c_1_1 (Int32.toInt_inj.mp e)
  have z_c_1_2 : (a1).toInt ≠ 2 := fun e => c_1_2 (Int32.toInt_inj.mp e)
  refine lv_tableOut (tgt := 48) hx hb dX6_isSetting_1 (by omega) (by decide) ?_
  refine lv_iload_n hx hb dX6_isSetting_48 rfl (lv_at hl 0 rfl) ?_
  refine lv_iconst (v := 3) hx hb dX6_isSetting_49 (by decide) ?_
  refine lv_icmp_ne (tgt := 69) hx hb dX6_isSetting_50 (by decide) (fun c_50 => ?_) (fun c_50 => ?_)
  · --t
    refine lv_iconst (v := 0) hx hb dX6_isSetting_69 (by decide) ?_
    exact xzret hx hb hr hlk hP hD hS (Or.inl rfl) (show gX6_isSetting a1 a2 = 0 from (Eq.trans (if_neg c_1_0) (Eq.trans (if_neg c_1_1) (Eq.trans (if_neg c_1_2) (Eq.trans (if_neg c_50) rfl))))).symm rfl dX6_isSetting_70
  · --f
    refine lv_iload_n hx hb dX6_isSetting_53 rfl (lv_at hl 1 rfl) ?_
    refine lv_i2l (v := (a2).toInt64) hx hb dX6_isSetting_54 rfl ?_
    refine lv_lconst (v := 1) hx hb dX6_isSetting_55 (by decide) ?_
    refine lv_ldc2 (v := 50) hx hb hown (hts (.constantLong RX6 150 (50)) (List.mem_of_getElem? (i := 3) rfl)) dX6_isSetting_56 ?_
    refine xreti (va_runS (As := [.long ((a2).toInt64), .long 1, .long 50]) (rest := []) ⟨hx, hb, hml, hown, hts⟩ (mX6_in l D ck ((a2).toInt64) 1 50  _) (va_cwS 3 hts gX6_isSetting_X6_in rfl rfl rfl (by decide +kernel) ⟨Nat.le_of_ble_eq_true rfl, Nat.le_of_ble_eq_true rfl⟩) (xpreS hN hK hP hD pm_none) rfl rfl hl.1 rfl (lv_room (Nat.le_of_ble_eq_true rfl)) dX6_isSetting_59 ⟨Nat.le_of_ble_eq_true rfl, Nat.le_of_ble_eq_true rfl⟩) hP hD hS hA pm_none pm_none (fun H locs hP hD hS => ?_)
    refine lv_if_eq (tgt := 69) hx hb dX6_isSetting_62 (by decide) (fun c_62 => ?_) (fun c_62 => ?_)
    · --t
      refine lv_iconst (v := 0) hx hb dX6_isSetting_69 (by decide) ?_
      exact xzret hx hb hr hlk hP hD hS (Or.inl rfl) (show gX6_isSetting a1 a2 = 0 from (Eq.trans (if_neg c_1_0) (Eq.trans (if_neg c_1_1) (Eq.trans (if_neg c_1_2) (Eq.trans (if_pos c_50) (Eq.trans (if_pos c_62) rfl)))))).symm rfl dX6_isSetting_70
    · --f
      refine lv_iconst (v := 1) hx hb dX6_isSetting_65 (by decide) ?_
      refine lv_goto (tgt := 70) hx hb dX6_isSetting_66 (by decide) ?_
      exact xzret hx hb hr hlk hP hD hS (Or.inr rfl) (show gX6_isSetting a1 a2 = 1 from (Eq.trans (if_neg c_1_0) (Eq.trans (if_neg c_1_1) (Eq.trans (if_neg c_1_2) (Eq.trans (if_pos c_50) (Eq.trans (if_neg c_62) rfl)))))).symm rfl dX6_isSetting_70

def rmX6_over : Room := { frames := 0, cells := 0, slots := 0, locals := 0 }
def gX6_over (a1 : Int32) (a2 : Int32) : Int32 := (((a1 + a2) - 1) / a2)
set_option maxHeartbeats 4000000 in
set_option maxRecDepth 100000 in
theorem mX6_over (l : Launch) (D : va_G) (ck : Nat → ClassId) (a1 : Int32) (a2 : Int32) (h0 : ¬ a2 = 0) : xMi l yX6_over wsX6_over rmX6_over D ck [.int a1, .int a2] ([]) ([]) (gX6_over a1 a2) 0 0 := by
  refine xMet (by decide) rfl (Nat.le_of_ble_eq_true rfl) ?_
  intro zp ze s zm zb zt zc hx hb hr hml hown hts hlk hnm hN hK hP hD ls hl
  have hown : s.vm.findClass RX6 = some zm.cls := hown
  have hl : lv_has ls 2 [(0, .int a1), (1, .int a2)] := hl
  have hS : va_S (va_A ([]) s.heap.size) s.heap s.heap [] := va_S.rf
  have hA : ∀ zq : Nat, s.heap.size ≤ zq → va_A ([]) s.heap.size zq := fun zq h => Or.inr h
  refine lv_iload_n hx hb dX6_over_0 rfl (lv_at hl 0 rfl) ?_
  refine lv_iload_n hx hb dX6_over_1 rfl (lv_at hl 1 rfl) ?_
  refine lv_iadd hx hb dX6_over_2 ?_
  refine lv_iconst (v := 1) hx hb dX6_over_3 (by decide) ?_
  refine lv_isub hx hb dX6_over_4 ?_
  refine lv_iload_n hx hb dX6_over_5 rfl (lv_at hl 1 rfl) ?_
  refine lv_idiv hx hb dX6_over_6 h0 ?_
  exact xiret hx hb hr hlk hP hD hS (show gX6_over a1 a2 = (((a1 + a2) - 1) / a2) from rfl).symm rfl dX6_over_7

def rmX6_root : Room := { frames := 0, cells := 0, slots := 0, locals := 0 }
def gX6_root_L2 (a1 : Int32) : Nat → Nat → Int32
  | 0, r => (nI r)
  | fu + 1, r => (if a1 < (((nI r) + 1) * ((nI r) + 1)) then (nI r) else (gX6_root_L2 a1 fu (r + 1)))
def gX6_root (a1 : Int32) : Int32 := (gX6_root_L2 a1 20 0)
set_option maxHeartbeats 4000000 in
set_option maxRecDepth 100000 in
theorem mX6_root (l : Launch) (D : va_G) (ck : Nat → ClassId) (a1 : Int32) (h4 : 0 ≤ a1.toInt ∧ a1.toInt ≤ 400) : xMi l yX6_root wsX6_root rmX6_root D ck [.int a1] ([]) ([]) (gX6_root a1) 0 0 := by
  refine xMet (by decide) rfl (Nat.le_of_ble_eq_true rfl) ?_
  intro zp ze s zm zb zt zc hx hb hr hml hown hts hlk hnm hN hK hP hD ls hl
  have hown : s.vm.findClass RX6 = some zm.cls := hown
  have hl : lv_has ls 2 [(0, .int a1)] := hl
  have hS : va_S (va_A ([]) s.heap.size) s.heap s.heap [] := va_S.rf
  have hA : ∀ zq : Nat, s.heap.size ≤ zq → va_A ([]) s.heap.size zq := fun zq h => Or.inr h
  refine lv_iconst (v := (nI 0)) hx hb dX6_root_0 (by decide) ?_
  refine lv_istore_n (lv' := [(1, .int (nI 0)), (0, .int a1)]) hx hb dX6_root_1 rfl hl (by decide) rfl (fun ls hl => ?_)
  have loop2 : ∀ (fu : Nat) (r : Nat), (r + fu = 20) → gX6_root a1 = gX6_root_L2 a1 fu r → ∀ (H : Heap) (locs : List Loc) (ls : Array Slot), va_P D vwCl ([]) H → va_D (va_A ([]) s.heap.size) ([]) → va_S (va_A ([]) s.heap.size) s.heap H locs → lv_has ls 2 [(0, .int a1), (1, .int (nI r))] → W zp l ze rmX6_root s zm ([.int a1] : List Value).toArray zb zt zc H locs 0 0 (MQ zb (xQi D ([]) ([]) (gX6_root a1) s.heap.size) ([.int a1] : List Value).toArray s 0 0 (va_A ([]) s.heap.size)) (F0 zm 2 ls []) := by
    intro fu
    induction fu with
    | zero =>
      intro r hif hg H locs ls hP hD hS hl
      refine lv_iload_n hx hb dX6_root_2 rfl (lv_at hl 1 rfl) ?_
      refine lv_iconst (v := 1) hx hb dX6_root_3 (by decide) ?_
      refine lv_iadd hx hb dX6_root_4 ?_
      refine lv_iload_n hx hb dX6_root_5 rfl (lv_at hl 1 rfl) ?_
      refine lv_iconst (v := 1) hx hb dX6_root_6 (by decide) ?_
      refine lv_iadd hx hb dX6_root_7 ?_
      refine lv_imul hx hb dX6_root_8 ?_
      refine lv_iload_n hx hb dX6_root_9 rfl (lv_at hl 0 rfl) ?_
      refine lv_icmp_gt (tgt := 19) hx hb dX6_root_10 (by decide) (fun c_10 => ?_) (fun c_10 => ?_)
      · --t
        refine lv_iload_n hx hb dX6_root_19 rfl (lv_at hl 1 rfl) ?_
        exact xiret hx hb hr hlk hP hD hS (hg.trans (show gX6_root_L2 a1 0 r = (nI r) from rfl)).symm rfl dX6_root_20
      · --f
        exact absurd (by rw [show r = 20 by omega]; exact x_root20 h4.2) c_10
    | succ fu ih2 =>
      intro r hif hg H locs ls hP hD hS hl
      refine lv_iload_n hx hb dX6_root_2 rfl (lv_at hl 1 rfl) ?_
      refine lv_iconst (v := 1) hx hb dX6_root_3 (by decide) ?_
      refine lv_iadd hx hb dX6_root_4 ?_
      refine lv_iload_n hx hb dX6_root_5 rfl (lv_at hl 1 rfl) ?_
      refine lv_iconst (v := 1) hx hb dX6_root_6 (by decide) ?_
      refine lv_iadd hx hb dX6_root_7 ?_
      refine lv_imul hx hb dX6_root_8 ?_
      refine lv_iload_n hx hb dX6_root_9 rfl (lv_at hl 0 rfl) ?_
      refine lv_icmp_gt (tgt := 19) hx hb dX6_root_10 (by decide) (fun c_10 => ?_) (fun c_10 => ?_)
      · --t
        refine lv_iload_n hx hb dX6_root_19 rfl (lv_at hl 1 rfl) ?_
        exact xiret hx hb hr hlk hP hD hS (hg.trans (show gX6_root_L2 a1 (fu + 1) r = (nI r) from (Eq.trans (if_pos c_10) rfl))).symm rfl dX6_root_20
      · --f
        refine lv_iinc (v := (nI (r + 1))) (lv' := [(1, .int (nI (r + 1))), (0, .int a1)]) hx hb dX6_root_13 hl (k := 1) rfl (nI_1 r) (by decide) rfl (fun ls hl => ?_)
        refine lv_goto (tgt := 2) hx hb dX6_root_16 (by decide) ?_
        exact ih2 (r + 1) (by omega) (hg.trans (show gX6_root_L2 a1 (fu + 1) r = (gX6_root_L2 a1 fu (r + 1)) from (Eq.trans (if_neg c_10) rfl))) _ _ _ hP hD hS (lv_sub hl [1, 0] rfl)
  exact loop2 20 0 (by omega) (show gX6_root a1 = (gX6_root_L2 a1 20 0) from rfl) _ _ _ hP hD hS (lv_sub hl [1, 0] rfl)

def rmX6_needsOf : Room := { frames := 1, cells := 0, slots := 0, locals := 21 }
def gX6_needsOf (a1 : Int32) (a2 : Int32) (a3 : Int32) : Int32 := (if a1 = 0 then 3 else (if a1 = 1 then ((gX6_root a3) + 2) else ((gX6_root (a2 + a3)) + 2)))
set_option maxHeartbeats 4000000 in
set_option maxRecDepth 100000 in
theorem mX6_needsOf (l : Launch) (D : va_G) (ck : Nat → ClassId) (a1 : Int32) (a2 : Int32) (a3 : Int32) (h2 : xT200 a2) (h3 : xT200 a3) : xMi l yX6_needsOf wsX6_needsOf rmX6_needsOf D ck [.int a1, .int a2, .int a3] ([]) ([]) (gX6_needsOf a1 a2 a3) 0 0 := by
  refine xMet (by decide) rfl (Nat.le_of_ble_eq_true rfl) ?_
  intro zp ze s zm zb zt zc hx hb hr hml hown hts hlk hnm hN hK hP hD ls hl
  have hown : s.vm.findClass RX6 = some zm.cls := hown
  have hl : lv_has ls 3 [(0, .int a1), (1, .int a2), (2, .int a3)] := hl
  have hS : va_S (va_A ([]) s.heap.size) s.heap s.heap [] := va_S.rf
  have hA : ∀ zq : Nat, s.heap.size ≤ zq → va_A ([]) s.heap.size zq := fun zq h => Or.inr h
  refine lv_iload_n hx hb dX6_needsOf_0 rfl (lv_at hl 0 rfl) ?_
  refine lv_if_ne (tgt := 8) hx hb dX6_needsOf_1 (by decide) (fun c_1 => ?_) (fun c_1 => ?_)
  · --t
    refine lv_iload_n hx hb dX6_needsOf_8 rfl (lv_at hl 0 rfl) ?_
    refine lv_iconst (v := 1) hx hb dX6_needsOf_9 (by decide) ?_
    refine lv_icmp_ne (tgt := 22) hx hb dX6_needsOf_10 (by decide) (fun c_10 => ?_) (fun c_10 => ?_)
    · --t
      refine lv_iload_n hx hb dX6_needsOf_22 rfl (lv_at hl 1 rfl) ?_
      refine lv_iload_n hx hb dX6_needsOf_23 rfl (lv_at hl 2 rfl) ?_
      refine lv_iadd hx hb dX6_needsOf_24 ?_
      refine xreti (va_runS (As := [.int (a2 + a3)]) (rest := []) ⟨hx, hb, hml, hown, hts⟩ (mX6_root l D ck (a2 + a3) (x_tadd h2 h3) _) (va_cwS 1 hts gX6_needsOf_X6_root rfl rfl rfl (by decide +kernel) ⟨Nat.le_of_ble_eq_true rfl, Nat.le_of_ble_eq_true rfl⟩) (xpreS hN hK hP hD pm_none) rfl rfl hl.1 rfl (lv_room (Nat.le_of_ble_eq_true rfl)) dX6_needsOf_25 ⟨Nat.le_of_ble_eq_true rfl, Nat.le_of_ble_eq_true rfl⟩) hP hD hS hA pm_none pm_none (fun H locs hP hD hS => ?_)
      refine lv_iconst (v := 2) hx hb dX6_needsOf_28 (by decide) ?_
      refine lv_iadd hx hb dX6_needsOf_29 ?_
      exact xiret hx hb hr hlk hP hD hS (show gX6_needsOf a1 a2 a3 = ((gX6_root (a2 + a3)) + 2) from (Eq.trans (if_neg c_1) (Eq.trans (if_neg c_10) rfl))).symm rfl dX6_needsOf_30
    · --f
      refine lv_iload_n hx hb dX6_needsOf_13 rfl (lv_at hl 2 rfl) ?_
      refine xreti (va_runS (As := [.int a3]) (rest := []) ⟨hx, hb, hml, hown, hts⟩ (mX6_root l D ck a3 (x_t400 h3) _) (va_cwS 1 hts gX6_needsOf_X6_root rfl rfl rfl (by decide +kernel) ⟨Nat.le_of_ble_eq_true rfl, Nat.le_of_ble_eq_true rfl⟩) (xpreS hN hK hP hD pm_none) rfl rfl hl.1 rfl (lv_room (Nat.le_of_ble_eq_true rfl)) dX6_needsOf_14 ⟨Nat.le_of_ble_eq_true rfl, Nat.le_of_ble_eq_true rfl⟩) hP hD hS hA pm_none pm_none (fun H locs hP hD hS => ?_)
      refine lv_iconst (v := 2) hx hb dX6_needsOf_17 (by decide) ?_
      refine lv_iadd hx hb dX6_needsOf_18 ?_
      refine lv_goto (tgt := 30) hx hb dX6_needsOf_19 (by decide) ?_
      exact xiret hx hb hr hlk hP hD hS (show gX6_needsOf a1 a2 a3 = ((gX6_root a3) + 2) from (Eq.trans (if_neg c_1) (Eq.trans (if_pos c_10) rfl))).symm rfl dX6_needsOf_30
  · --f
    refine lv_iconst (v := 3) hx hb dX6_needsOf_4 (by decide) ?_
    refine lv_goto (tgt := 30) hx hb dX6_needsOf_5 (by decide) ?_
    exact xiret hx hb hr hlk hP hD hS (show gX6_needsOf a1 a2 a3 = 3 from (Eq.trans (if_pos c_1) rfl)).symm rfl dX6_needsOf_30

def rmX6_wantsOf : Room := { frames := 2, cells := 0, slots := 0, locals := 43 }
def gX6_wantsOf (a1 : Int32) (a2 : Int32) (a3 : Int32) : Int32 := (if a1 = 0 then (if (gX6_needsOf a1 a2 a3) ≤ (a3 + 2) then (a3 + 2) else (gX6_needsOf a1 a2 a3)) else (if a1 = 1 then (if (gX6_needsOf a1 a2 a3) ≤ ((a3 + (a3 / 5)) + 2) then ((a3 + (a3 / 5)) + 2) else (gX6_needsOf a1 a2 a3)) else (if (gX6_needsOf a1 a2 a3) ≤ (((a2 + a3) / 2) + 3) then (((a2 + a3) / 2) + 3) else (gX6_needsOf a1 a2 a3))))
set_option maxHeartbeats 4000000 in
set_option maxRecDepth 100000 in
theorem mX6_wantsOf (l : Launch) (D : va_G) (ck : Nat → ClassId) (a1 : Int32) (a2 : Int32) (a3 : Int32) (h2 : xT200 a2) (h3 : xT200 a3) : xMi l yX6_wantsOf wsX6_wantsOf rmX6_wantsOf D ck [.int a1, .int a2, .int a3] ([]) ([]) (gX6_wantsOf a1 a2 a3) 0 0 := by
  refine xMet (by decide) rfl (Nat.le_of_ble_eq_true rfl) ?_
  intro zp ze s zm zb zt zc hx hb hr hml hown hts hlk hnm hN hK hP hD ls hl
  have hown : s.vm.findClass RX6 = some zm.cls := hown
  have hl : lv_has ls 5 [(0, .int a1), (1, .int a2), (2, .int a3)] := hl
  have hS : va_S (va_A ([]) s.heap.size) s.heap s.heap [] := va_S.rf
  have hA : ∀ zq : Nat, s.heap.size ≤ zq → va_A ([]) s.heap.size zq := fun zq h => Or.inr h
  refine lv_iload_n hx hb dX6_wantsOf_0 rfl (lv_at hl 0 rfl) ?_
  refine lv_if_ne (tgt := 10) hx hb dX6_wantsOf_1 (by decide) (fun c_1 => ?_) (fun c_1 => ?_)
  · --t
    refine lv_iload_n hx hb dX6_wantsOf_10 rfl (lv_at hl 0 rfl) ?_
    refine lv_iconst (v := 1) hx hb dX6_wantsOf_11 (by decide) ?_
    refine lv_icmp_ne (tgt := 25) hx hb dX6_wantsOf_12 (by decide) (fun c_12 => ?_) (fun c_12 => ?_)
    · --t
      refine lv_iload_n hx hb dX6_wantsOf_25 rfl (lv_at hl 1 rfl) ?_
      refine lv_iload_n hx hb dX6_wantsOf_26 rfl (lv_at hl 2 rfl) ?_
      refine lv_iadd hx hb dX6_wantsOf_27 ?_
      refine lv_iconst (v := 2) hx hb dX6_wantsOf_28 (by decide) ?_
      refine lv_idiv hx hb dX6_wantsOf_29 (by decide) ?_
      refine lv_iconst (v := 3) hx hb dX6_wantsOf_30 (by decide) ?_
      refine lv_iadd hx hb dX6_wantsOf_31 ?_
      refine lv_istore_n (lv' := [(3, .int (((a2 + a3) / 2) + 3)), (0, .int a1), (1, .int a2), (2, .int a3)]) hx hb dX6_wantsOf_32 rfl hl (by decide) rfl (fun ls hl => ?_)
      refine lv_iload_n hx hb dX6_wantsOf_33 rfl (lv_at hl 1 rfl) ?_
      refine lv_iload_n hx hb dX6_wantsOf_34 rfl (lv_at hl 2 rfl) ?_
      refine lv_iload_n hx hb dX6_wantsOf_35 rfl (lv_at hl 3 rfl) ?_
      refine xreti (va_runS (As := [.int a1, .int a2, .int a3]) (rest := []) ⟨hx, hb, hml, hown, hts⟩ (mX6_needsOf l D ck a1 a2 a3 h2 h3 _) (va_cwS 3 hts gX6_wantsOf_X6_needsOf rfl rfl rfl (by decide +kernel) ⟨Nat.le_of_ble_eq_true rfl, Nat.le_of_ble_eq_true rfl⟩) (xpreS hN hK hP hD pm_none) rfl rfl hl.1 rfl (lv_room (Nat.le_of_ble_eq_true rfl)) dX6_wantsOf_36 ⟨Nat.le_of_ble_eq_true rfl, Nat.le_of_ble_eq_true rfl⟩) hP hD hS hA pm_none pm_none (fun H locs hP hD hS => ?_)
      refine lv_istore (lv' := [(4, .int (gX6_needsOf a1 a2 a3)), (3, .int (((a2 + a3) / 2) + 3)), (0, .int a1), (1, .int a2), (2, .int a3)]) hx hb dX6_wantsOf_39 hl (by decide) rfl (fun ls hl => ?_)
      refine lv_iload_n hx hb dX6_wantsOf_41 rfl (lv_at hl 1 rfl) ?_
      refine lv_iload hx hb dX6_wantsOf_42 (lv_at hl 0 rfl) ?_
      refine lv_icmp_ge (tgt := 52) hx hb dX6_wantsOf_44 (by decide) (fun c_44 => ?_) (fun c_44 => ?_)
      · --t
        refine lv_iload_n hx hb dX6_wantsOf_52 rfl (lv_at hl 1 rfl) ?_
        exact xiret hx hb hr hlk hP hD hS (show gX6_wantsOf a1 a2 a3 = (((a2 + a3) / 2) + 3) from (Eq.trans (if_neg c_1) (Eq.trans (if_neg c_12) (Eq.trans (if_pos c_44) rfl)))).symm rfl dX6_wantsOf_53
      · --f
        refine lv_iload hx hb dX6_wantsOf_47 (lv_at hl 0 rfl) ?_
        refine lv_goto (tgt := 53) hx hb dX6_wantsOf_49 (by decide) ?_
        exact xiret hx hb hr hlk hP hD hS (show gX6_wantsOf a1 a2 a3 = (gX6_needsOf a1 a2 a3) from (Eq.trans (if_neg c_1) (Eq.trans (if_neg c_12) (Eq.trans (if_neg c_44) rfl)))).symm rfl dX6_wantsOf_53
    · --f
      refine lv_iload_n hx hb dX6_wantsOf_15 rfl (lv_at hl 2 rfl) ?_
      refine lv_iload_n hx hb dX6_wantsOf_16 rfl (lv_at hl 2 rfl) ?_
      refine lv_iconst (v := 5) hx hb dX6_wantsOf_17 (by decide) ?_
      refine lv_idiv hx hb dX6_wantsOf_18 (by decide) ?_
      refine lv_iadd hx hb dX6_wantsOf_19 ?_
      refine lv_iconst (v := 2) hx hb dX6_wantsOf_20 (by decide) ?_
      refine lv_iadd hx hb dX6_wantsOf_21 ?_
      refine lv_goto (tgt := 32) hx hb dX6_wantsOf_22 (by decide) ?_
      refine lv_istore_n (lv' := [(3, .int ((a3 + (a3 / 5)) + 2)), (0, .int a1), (1, .int a2), (2, .int a3)]) hx hb dX6_wantsOf_32 rfl hl (by decide) rfl (fun ls hl => ?_)
      refine lv_iload_n hx hb dX6_wantsOf_33 rfl (lv_at hl 1 rfl) ?_
      refine lv_iload_n hx hb dX6_wantsOf_34 rfl (lv_at hl 2 rfl) ?_
      refine lv_iload_n hx hb dX6_wantsOf_35 rfl (lv_at hl 3 rfl) ?_
      refine xreti (va_runS (As := [.int a1, .int a2, .int a3]) (rest := []) ⟨hx, hb, hml, hown, hts⟩ (mX6_needsOf l D ck a1 a2 a3 h2 h3 _) (va_cwS 3 hts gX6_wantsOf_X6_needsOf rfl rfl rfl (by decide +kernel) ⟨Nat.le_of_ble_eq_true rfl, Nat.le_of_ble_eq_true rfl⟩) (xpreS hN hK hP hD pm_none) rfl rfl hl.1 rfl (lv_room (Nat.le_of_ble_eq_true rfl)) dX6_wantsOf_36 ⟨Nat.le_of_ble_eq_true rfl, Nat.le_of_ble_eq_true rfl⟩) hP hD hS hA pm_none pm_none (fun H locs hP hD hS => ?_)
      refine lv_istore (lv' := [(4, .int (gX6_needsOf a1 a2 a3)), (3, .int ((a3 + (a3 / 5)) + 2)), (0, .int a1), (1, .int a2), (2, .int a3)]) hx hb dX6_wantsOf_39 hl (by decide) rfl (fun ls hl => ?_)
      refine lv_iload_n hx hb dX6_wantsOf_41 rfl (lv_at hl 1 rfl) ?_
      refine lv_iload hx hb dX6_wantsOf_42 (lv_at hl 0 rfl) ?_
      refine lv_icmp_ge (tgt := 52) hx hb dX6_wantsOf_44 (by decide) (fun c_44 => ?_) (fun c_44 => ?_)
      · --t
        refine lv_iload_n hx hb dX6_wantsOf_52 rfl (lv_at hl 1 rfl) ?_
        exact xiret hx hb hr hlk hP hD hS (show gX6_wantsOf a1 a2 a3 = ((a3 + (a3 / 5)) + 2) from (Eq.trans (if_neg c_1) (Eq.trans (if_pos c_12) (Eq.trans (if_pos c_44) rfl)))).symm rfl dX6_wantsOf_53
      · --f
        refine lv_iload hx hb dX6_wantsOf_47 (lv_at hl 0 rfl) ?_
        refine lv_goto (tgt := 53) hx hb dX6_wantsOf_49 (by decide) ?_
        exact xiret hx hb hr hlk hP hD hS (show gX6_wantsOf a1 a2 a3 = (gX6_needsOf a1 a2 a3) from (Eq.trans (if_neg c_1) (Eq.trans (if_pos c_12) (Eq.trans (if_neg c_44) rfl)))).symm rfl dX6_wantsOf_53
  · --f
    refine lv_iload_n hx hb dX6_wantsOf_4 rfl (lv_at hl 2 rfl) ?_
    refine lv_iconst (v := 2) hx hb dX6_wantsOf_5 (by decide) ?_
    refine lv_iadd hx hb dX6_wantsOf_6 ?_
    refine lv_goto (tgt := 32) hx hb dX6_wantsOf_7 (by decide) ?_
    refine lv_istore_n (lv' := [(3, .int (a3 + 2)), (0, .int a1), (1, .int a2), (2, .int a3)]) hx hb dX6_wantsOf_32 rfl hl (by decide) rfl (fun ls hl => ?_)
    refine lv_iload_n hx hb dX6_wantsOf_33 rfl (lv_at hl 1 rfl) ?_
    refine lv_iload_n hx hb dX6_wantsOf_34 rfl (lv_at hl 2 rfl) ?_
    refine lv_iload_n hx hb dX6_wantsOf_35 rfl (lv_at hl 3 rfl) ?_
    refine xreti (va_runS (As := [.int a1, .int a2, .int a3]) (rest := []) ⟨hx, hb, hml, hown, hts⟩ (mX6_needsOf l D ck a1 a2 a3 h2 h3 _) (va_cwS 3 hts gX6_wantsOf_X6_needsOf rfl rfl rfl (by decide +kernel) ⟨Nat.le_of_ble_eq_true rfl, Nat.le_of_ble_eq_true rfl⟩) (xpreS hN hK hP hD pm_none) rfl rfl hl.1 rfl (lv_room (Nat.le_of_ble_eq_true rfl)) dX6_wantsOf_36 ⟨Nat.le_of_ble_eq_true rfl, Nat.le_of_ble_eq_true rfl⟩) hP hD hS hA pm_none pm_none (fun H locs hP hD hS => ?_)
    refine lv_istore (lv' := [(4, .int (gX6_needsOf a1 a2 a3)), (3, .int (a3 + 2)), (0, .int a1), (1, .int a2), (2, .int a3)]) hx hb dX6_wantsOf_39 hl (by decide) rfl (fun ls hl => ?_)
    refine lv_iload_n hx hb dX6_wantsOf_41 rfl (lv_at hl 1 rfl) ?_
    refine lv_iload hx hb dX6_wantsOf_42 (lv_at hl 0 rfl) ?_
    refine lv_icmp_ge (tgt := 52) hx hb dX6_wantsOf_44 (by decide) (fun c_44 => ?_) (fun c_44 => ?_)
    · --t
      refine lv_iload_n hx hb dX6_wantsOf_52 rfl (lv_at hl 1 rfl) ?_
      exact xiret hx hb hr hlk hP hD hS (show gX6_wantsOf a1 a2 a3 = (a3 + 2) from (Eq.trans (if_pos c_1) (Eq.trans (if_pos c_44) rfl))).symm rfl dX6_wantsOf_53
    · --f
      refine lv_iload hx hb dX6_wantsOf_47 (lv_at hl 0 rfl) ?_
      refine lv_goto (tgt := 53) hx hb dX6_wantsOf_49 (by decide) ?_
      exact xiret hx hb hr hlk hP hD hS (show gX6_wantsOf a1 a2 a3 = (gX6_needsOf a1 a2 a3) from (Eq.trans (if_pos c_1) (Eq.trans (if_neg c_44) rfl))).symm rfl dX6_wantsOf_53

def rmX6_workOf : Room := { frames := 3, cells := 0, slots := 0, locals := 67 }
def gX6_workOf_L57 (a1 : Int32) (a2 : Int32) (a3 : Int32) (a4 : Int32) : Nat → Int32 → Int32 → Int32
  | 0, x1, t1 => ((a2 + a3) * ((2 * t1) + 1))
  | fu + 1, x1, t1 => (if x1 ≤ 1 then ((a2 + a3) * ((2 * t1) + 1)) else (gX6_workOf_L57 a1 a2 a3 a4 fu (gX6_over x1 (a4 - 1)) (t1 + 1)))
def gX6_workOf (a1 : Int32) (a2 : Int32) (a3 : Int32) (a4 : Int32) : Int32 := (if a1 = 0 then (a2 + (a3 * (gX6_over a2 (a4 - 2)))) else (if a1 = 1 then (if a4 < (gX6_wantsOf a1 a2 a3) then (3 * (a2 + a3)) else (a2 + a3)) else (gX6_workOf_L57 a1 a2 a3 a4 400 (gX6_over (a2 + a3) a4) 0)))
set_option maxHeartbeats 4000000 in
set_option maxRecDepth 100000 in
theorem mX6_workOf (l : Launch) (D : va_G) (ck : Nat → ClassId) (a1 : Int32) (a2 : Int32) (a3 : Int32) (a4 : Int32) (h2 : xT200 a2) (h3 : xT200 a3) (h4 : xP3 a4) : xMi l yX6_workOf wsX6_workOf rmX6_workOf D ck [.int a1, .int a2, .int a3, .int a4] ([]) ([]) (gX6_workOf a1 a2 a3 a4) 0 0 := by
  refine xMet (by decide) rfl (Nat.le_of_ble_eq_true rfl) ?_
  intro zp ze s zm zb zt zc hx hb hr hml hown hts hlk hnm hN hK hP hD ls hl
  have hown : s.vm.findClass RX6 = some zm.cls := hown
  have hl : lv_has ls 7 [(0, .int a1), (1, .int a2), (2, .int a3), (3, .int a4)] := hl
  have hS : va_S (va_A ([]) s.heap.size) s.heap s.heap [] := va_S.rf
  have hA : ∀ zq : Nat, s.heap.size ≤ zq → va_A ([]) s.heap.size zq := fun zq h => Or.inr h
  refine lv_iload_n hx hb dX6_workOf_0 rfl (lv_at hl 1 rfl) ?_
  refine lv_iload_n hx hb dX6_workOf_1 rfl (lv_at hl 2 rfl) ?_
  refine lv_iadd hx hb dX6_workOf_2 ?_
  refine lv_istore (lv' := [(4, .int (a2 + a3)), (0, .int a1), (1, .int a2), (2, .int a3), (3, .int a4)]) hx hb dX6_workOf_3 hl (by decide) rfl (fun ls hl => ?_)
  refine lv_iload_n hx hb dX6_workOf_5 rfl (lv_at hl 1 rfl) ?_
  refine lv_if_ne (tgt := 21) hx hb dX6_workOf_6 (by decide) (fun c_6 => ?_) (fun c_6 => ?_)
  · --t
    refine lv_iload_n hx hb dX6_workOf_21 rfl (lv_at hl 1 rfl) ?_
    refine lv_iconst (v := 1) hx hb dX6_workOf_22 (by decide) ?_
    refine lv_icmp_ne (tgt := 46) hx hb dX6_workOf_23 (by decide) (fun c_23 => ?_) (fun c_23 => ?_)
    · --t
      refine lv_iconst (v := 0) hx hb dX6_workOf_46 (by decide) ?_
      refine lv_istore (lv' := [(5, .int 0), (4, .int (a2 + a3)), (0, .int a1), (1, .int a2), (2, .int a3), (3, .int a4)]) hx hb dX6_workOf_47 hl (by decide) rfl (fun ls hl => ?_)
      refine lv_iload hx hb dX6_workOf_49 (lv_at hl 1 rfl) ?_
      refine lv_iload_n hx hb dX6_workOf_51 rfl (lv_at hl 5 rfl) ?_
      refine xreti (va_runS (As := [.int (a2 + a3), .int a4]) (rest := []) ⟨hx, hb, hml, hown, hts⟩ (mX6_over l D ck (a2 + a3) a4 (x_nz0 h4) _) (va_cwS 2 hts gX6_workOf_X6_over rfl rfl rfl (by decide +kernel) ⟨Nat.le_of_ble_eq_true rfl, Nat.le_of_ble_eq_true rfl⟩) (xpreS hN hK hP hD pm_none) rfl rfl hl.1 rfl (lv_room (Nat.le_of_ble_eq_true rfl)) dX6_workOf_52 ⟨Nat.le_of_ble_eq_true rfl, Nat.le_of_ble_eq_true rfl⟩) hP hD hS hA pm_none pm_none (fun H locs hP hD hS => ?_)
      refine lv_istore (lv' := [(6, .int (gX6_over (a2 + a3) a4)), (5, .int 0), (4, .int (a2 + a3)), (0, .int a1), (1, .int a2), (2, .int a3), (3, .int a4)]) hx hb dX6_workOf_55 hl (by decide) rfl (fun ls hl => ?_)
      have loop57 : ∀ (fu : Nat) (x1 : Int32) (t1 : Int32), (x1.toInt ≤ fu + 1 ∧ fu ≤ 400) → gX6_workOf a1 a2 a3 a4 = gX6_workOf_L57 a1 a2 a3 a4 fu x1 t1 → ∀ (H : Heap) (locs : List Loc) (ls : Array Slot), va_P D vwCl ([]) H → va_D (va_A ([]) s.heap.size) ([]) → va_S (va_A ([]) s.heap.size) s.heap H locs → lv_has ls 7 [(0, .int a1), (1, .int a2), (2, .int a3), (3, .int a4), (4, .int (a2 + a3)), (5, .int t1), (6, .int x1)] → W zp l ze rmX6_workOf s zm ([.int a1, .int a2, .int a3, .int a4] : List Value).toArray zb zt zc H locs 0 0 (MQ zb (xQi D ([]) ([]) (gX6_workOf a1 a2 a3 a4) s.heap.size) ([.int a1, .int a2, .int a3, .int a4] : List Value).toArray s 0 0 (va_A ([]) s.heap.size)) (F0 zm 57 ls []) := by
        intro fu
        induction fu with
        | zero =>
          intro x1 t1 hx1 hg H locs ls hP hD hS hl
          refine lv_iload hx hb dX6_workOf_57 (lv_at hl 6 rfl) ?_
          refine lv_iconst (v := 1) hx hb dX6_workOf_59 (by decide) ?_
          refine lv_icmp_le (tgt := 79) hx hb dX6_workOf_60 (by decide) (fun c_60 => ?_) (fun c_60 => ?_)
          · --t
            refine lv_iload hx hb dX6_workOf_79 (lv_at hl 4 rfl) ?_
            refine lv_iconst (v := 2) hx hb dX6_workOf_81 (by decide) ?_
            refine lv_iload hx hb dX6_workOf_82 (lv_at hl 5 rfl) ?_
            refine lv_imul hx hb dX6_workOf_84 ?_
            refine lv_iconst (v := 1) hx hb dX6_workOf_85 (by decide) ?_
            refine lv_iadd hx hb dX6_workOf_86 ?_
            refine lv_imul hx hb dX6_workOf_87 ?_
            exact xiret hx hb hr hlk hP hD hS (hg.trans (show gX6_workOf_L57 a1 a2 a3 a4 0 x1 t1 = ((a2 + a3) * ((2 * t1) + 1)) from rfl)).symm rfl dX6_workOf_88
          · --f
            exact absurd (by rw [x_ile]; have : (1 : Int32).toInt = 1 := rfl; omega) c_60
        | succ fu ih57 =>
          intro x1 t1 hx1 hg H locs ls hP hD hS hl
          refine lv_iload hx hb dX6_workOf_57 (lv_at hl 6 rfl) ?_
          refine lv_iconst (v := 1) hx hb dX6_workOf_59 (by decide) ?_
          refine lv_icmp_le (tgt := 79) hx hb dX6_workOf_60 (by decide) (fun c_60 => ?_) (fun c_60 => ?_)
          · --t
            refine lv_iload hx hb dX6_workOf_79 (lv_at hl 4 rfl) ?_
            refine lv_iconst (v := 2) hx hb dX6_workOf_81 (by decide) ?_
            refine lv_iload hx hb dX6_workOf_82 (lv_at hl 5 rfl) ?_
            refine lv_imul hx hb dX6_workOf_84 ?_
            refine lv_iconst (v := 1) hx hb dX6_workOf_85 (by decide) ?_
            refine lv_iadd hx hb dX6_workOf_86 ?_
            refine lv_imul hx hb dX6_workOf_87 ?_
            exact xiret hx hb hr hlk hP hD hS (hg.trans (show gX6_workOf_L57 a1 a2 a3 a4 (fu + 1) x1 t1 = ((a2 + a3) * ((2 * t1) + 1)) from (Eq.trans (if_pos c_60) rfl))).symm rfl dX6_workOf_88
          · --f
            refine lv_iinc (v := (t1 + 1)) (lv' := [(5, .int (t1 + 1)), (0, .int a1), (1, .int a2), (2, .int a3), (3, .int a4), (4, .int (a2 + a3)), (6, .int x1)]) hx hb dX6_workOf_63 hl (k := 5) rfl rfl (by decide) rfl (fun ls hl => ?_)
            refine lv_iload hx hb dX6_workOf_66 (lv_at hl 6 rfl) ?_
            refine lv_iload_n hx hb dX6_workOf_68 rfl (lv_at hl 4 rfl) ?_
            refine lv_iconst (v := 1) hx hb dX6_workOf_69 (by decide) ?_
            refine lv_isub hx hb dX6_workOf_70 ?_
            refine xreti (va_runS (As := [.int x1, .int (a4 - 1)]) (rest := []) ⟨hx, hb, hml, hown, hts⟩ (mX6_over l D ck x1 (a4 - 1) (x_nz1 h4) _) (va_cwS 2 hts gX6_workOf_X6_over rfl rfl rfl (by decide +kernel) ⟨Nat.le_of_ble_eq_true rfl, Nat.le_of_ble_eq_true rfl⟩) (xpreS hN hK hP hD pm_none) rfl rfl hl.1 rfl (lv_room (Nat.le_of_ble_eq_true rfl)) dX6_workOf_71 ⟨Nat.le_of_ble_eq_true rfl, Nat.le_of_ble_eq_true rfl⟩) hP hD hS hA pm_none pm_none (fun H locs hP hD hS => ?_)
            refine lv_istore (lv' := [(6, .int (gX6_over x1 (a4 - 1))), (5, .int (t1 + 1)), (0, .int a1), (1, .int a2), (2, .int a3), (3, .int a4), (4, .int (a2 + a3))]) hx hb dX6_workOf_74 hl (by decide) rfl (fun ls hl => ?_)
            refine lv_goto (tgt := 57) hx hb dX6_workOf_76 (by decide) ?_
            exact ih57 (gX6_over x1 (a4 - 1)) (t1 + 1) (by have := x_overdec c_60 (by omega) (y := a4 - 1) (by rw [x_sub1 h4]; have := h4.1; have := h4.2; omega); exact ⟨by have := this.1; show (gX6_over x1 (a4 - 1)).toInt ≤ _; unfold gX6_over; omega, by omega⟩) (hg.trans (show gX6_workOf_L57 a1 a2 a3 a4 (fu + 1) x1 t1 = (gX6_workOf_L57 a1 a2 a3 a4 fu (gX6_over x1 (a4 - 1)) (t1 + 1)) from (Eq.trans (if_neg c_60) rfl))) _ _ _ hP hD hS (lv_sub hl [2, 3, 4, 5, 6, 1, 0] rfl)
      exact loop57 400 (gX6_over (a2 + a3) a4) 0 ⟨(by have := x_over400 (x_tadd h2 h3) h4; show (gX6_over (a2 + a3) a4).toInt ≤ _; unfold gX6_over; omega), (by omega)⟩ (show gX6_workOf a1 a2 a3 a4 = (gX6_workOf_L57 a1 a2 a3 a4 400 (gX6_over (a2 + a3) a4) 0) from (Eq.trans (if_neg c_6) (Eq.trans (if_neg c_23) rfl))) _ _ _ hP hD hS (lv_sub hl [3, 4, 5, 6, 2, 1, 0] rfl)
    · --f
      refine lv_iload_n hx hb dX6_workOf_26 rfl (lv_at hl 4 rfl) ?_
      refine lv_iload_n hx hb dX6_workOf_27 rfl (lv_at hl 1 rfl) ?_
      refine lv_iload_n hx hb dX6_workOf_28 rfl (lv_at hl 2 rfl) ?_
      refine lv_iload_n hx hb dX6_workOf_29 rfl (lv_at hl 3 rfl) ?_
      refine xreti (va_runS (As := [.int a1, .int a2, .int a3]) (rest := [.int a4]) ⟨hx, hb, hml, hown, hts⟩ (mX6_wantsOf l D ck a1 a2 a3 h2 h3 _) (va_cwS 3 hts gX6_workOf_X6_wantsOf rfl rfl rfl (by decide +kernel) ⟨Nat.le_of_ble_eq_true rfl, Nat.le_of_ble_eq_true rfl⟩) (xpreS hN hK hP hD pm_none) rfl rfl hl.1 rfl (lv_room (Nat.le_of_ble_eq_true rfl)) dX6_workOf_30 ⟨Nat.le_of_ble_eq_true rfl, Nat.le_of_ble_eq_true rfl⟩) hP hD hS hA pm_none pm_none (fun H locs hP hD hS => ?_)
      refine lv_icmp_lt (tgt := 41) hx hb dX6_workOf_33 (by decide) (fun c_33 => ?_) (fun c_33 => ?_)
      · --t
        refine lv_iconst (v := 3) hx hb dX6_workOf_41 (by decide) ?_
        refine lv_iload hx hb dX6_workOf_42 (lv_at hl 0 rfl) ?_
        refine lv_imul hx hb dX6_workOf_44 ?_
        exact xiret hx hb hr hlk hP hD hS (show gX6_workOf a1 a2 a3 a4 = (3 * (a2 + a3)) from (Eq.trans (if_neg c_6) (Eq.trans (if_pos c_23) (Eq.trans (if_pos c_33) rfl)))).symm rfl dX6_workOf_45
      · --f
        refine lv_iload hx hb dX6_workOf_36 (lv_at hl 0 rfl) ?_
        refine lv_goto (tgt := 45) hx hb dX6_workOf_38 (by decide) ?_
        exact xiret hx hb hr hlk hP hD hS (show gX6_workOf a1 a2 a3 a4 = (a2 + a3) from (Eq.trans (if_neg c_6) (Eq.trans (if_pos c_23) (Eq.trans (if_neg c_33) rfl)))).symm rfl dX6_workOf_45
  · --f
    refine lv_iload_n hx hb dX6_workOf_9 rfl (lv_at hl 2 rfl) ?_
    refine lv_iload_n hx hb dX6_workOf_10 rfl (lv_at hl 3 rfl) ?_
    refine lv_iload_n hx hb dX6_workOf_11 rfl (lv_at hl 2 rfl) ?_
    refine lv_iload_n hx hb dX6_workOf_12 rfl (lv_at hl 4 rfl) ?_
    refine lv_iconst (v := 2) hx hb dX6_workOf_13 (by decide) ?_
    refine lv_isub hx hb dX6_workOf_14 ?_
    refine xreti (va_runS (As := [.int a2, .int (a4 - 2)]) (rest := [.int a3, .int a2]) ⟨hx, hb, hml, hown, hts⟩ (mX6_over l D ck a2 (a4 - 2) (x_nz2 h4) _) (va_cwS 2 hts gX6_workOf_X6_over rfl rfl rfl (by decide +kernel) ⟨Nat.le_of_ble_eq_true rfl, Nat.le_of_ble_eq_true rfl⟩) (xpreS hN hK hP hD pm_none) rfl rfl hl.1 rfl (lv_room (Nat.le_of_ble_eq_true rfl)) dX6_workOf_15 ⟨Nat.le_of_ble_eq_true rfl, Nat.le_of_ble_eq_true rfl⟩) hP hD hS hA pm_none pm_none (fun H locs hP hD hS => ?_)
    refine lv_imul hx hb dX6_workOf_18 ?_
    refine lv_iadd hx hb dX6_workOf_19 ?_
    exact xiret hx hb hr hlk hP hD hS (show gX6_workOf a1 a2 a3 a4 = (a2 + (a3 * (gX6_over a2 (a4 - 2)))) from (Eq.trans (if_pos c_6) rfl)).symm rfl dX6_workOf_20

def rmX6_of : Room := { frames := 0, cells := 0, slots := 0, locals := 0 }
def gX6_of (f : FS) (a1 : Nat) (a2 : Nat) : Int32 := (f (9 + 9 * a1 + a2))
set_option maxHeartbeats 4000000 in
set_option maxRecDepth 100000 in
theorem mX6_of (l : Launch) (D : va_G) (ck : Nat → ClassId) (ma : Nat → Nat) (M : FS) (f : FS) (x1 : Int32) (a1 : Nat) (e1 : x1 = nI a1) (h1 : a1 < 16) (x2 : Int32) (a2 : Nat) (e2 : x2 = nI a2) (h2 : a2 < 9) : xMi l yX6_of wsX6_of rmX6_of D ck [.ref (ma 0), .int x1, .int x2] (coreW ck ma M f) (coreW ck ma M f) (gX6_of f a1 a2) 0 0 := by
  refine xMet (by decide) rfl (Nat.le_of_ble_eq_true rfl) ?_
  intro zp ze s zm zb zt zc hx hb hr hml hown hts hlk hnm hN hK hP hD ls hl
  have hown : s.vm.findClass RX6 = some zm.cls := hown
  subst e1
  subst e2
  have hl : lv_has ls 3 [(0, .ref (ma 0)), (1, .int (nI a1)), (2, .int (nI a2))] := hl
  have hS : va_S (va_A (coreW ck ma M f) s.heap.size) s.heap s.heap [] := va_S.rf
  have hA : ∀ zq : Nat, s.heap.size ≤ zq → va_A (coreW ck ma M f) s.heap.size zq := fun zq h => Or.inr h
  have hinX6 : ∀ w ∈ u_ws RX6 TX6 13, w ∈ wsX6_of := by decide +kernel
  refine lv_aload_n hx hb dX6_of_0 rfl (lv_at hl 0 rfl) ?_
  refine va_get (D := D) (ci := 6) (v := .ref (ma 1)) (C := RX6) (T := TX6) (N := 13) hx hb hts hinX6 hown hK hP 0 rfl rfl 0 (by decide) (hts (.fieldLink RX6 7 "JoinGrantsModel" "all" "[I") (List.mem_of_getElem? (i := 1) rfl)) (fun _ h9 => h9) rfl dX6_of_1 ?_
  refine lv_bipush (v := (nI 9)) hx hb dX6_of_4 (by decide) ?_
  refine lv_bipush (v := (nI 9)) hx hb dX6_of_6 (by decide) ?_
  refine lv_iload_n hx hb dX6_of_8 rfl (lv_at hl 1 rfl) ?_
  refine lv_imul hx hb dX6_of_9 ?_
  refine lv_iadd hx hb dX6_of_10 ?_
  refine lv_iload_n hx hb dX6_of_11 rfl (lv_at hl 2 rfl) ?_
  refine lv_iadd hx hb dX6_of_12 ?_
  refine xiald (j := (9 + 9 * a1 + a2)) (x_ofc h1 h2) hx hb hK hP 1 0 rfl rfl (x_ofi h1 h2) dX6_of_13 ?_
  exact xiret hx hb hr hlk hP hD hS (show gX6_of f a1 a2 = (f (9 + 9 * a1 + a2)) from rfl).symm rfl dX6_of_14

def rmX6_sets : Room := { frames := 0, cells := 0, slots := 0, locals := 0 }
def gX6_sets (f : FS) (a1 : Nat) (a2 : Nat) (a3 : Int32) : FS := (upd f (9 + 9 * a1 + a2) a3)
set_option maxHeartbeats 4000000 in
set_option maxRecDepth 100000 in
theorem mX6_sets (l : Launch) (D : va_G) (ck : Nat → ClassId) (ma : Nat → Nat) (M : FS) (f : FS) (x1 : Int32) (a1 : Nat) (e1 : x1 = nI a1) (h1 : a1 < 16) (x2 : Int32) (a2 : Nat) (e2 : x2 = nI a2) (h2 : a2 < 9) (a3 : Int32) : xMv l yX6_sets wsX6_sets rmX6_sets D ck [.ref (ma 0), .int x1, .int x2, .int a3] (coreW ck ma M f) (coreW ck ma M (gX6_sets f a1 a2 a3)) 0 0 := by
  refine xMet (by decide) rfl (Nat.le_of_ble_eq_true rfl) ?_
  intro zp ze s zm zb zt zc hx hb hr hml hown hts hlk hnm hN hK hP hD ls hl
  have hown : s.vm.findClass RX6 = some zm.cls := hown
  subst e1
  subst e2
  have hl : lv_has ls 4 [(0, .ref (ma 0)), (1, .int (nI a1)), (2, .int (nI a2)), (3, .int a3)] := hl
  have hS : va_S (va_A (coreW ck ma M f) s.heap.size) s.heap s.heap [] := va_S.rf
  have hA : ∀ zq : Nat, s.heap.size ≤ zq → va_A (coreW ck ma M f) s.heap.size zq := fun zq h => Or.inr h
  have hinX6 : ∀ w ∈ u_ws RX6 TX6 13, w ∈ wsX6_sets := by decide +kernel
  refine lv_aload_n hx hb dX6_sets_0 rfl (lv_at hl 0 rfl) ?_
  refine va_get (D := D) (ci := 6) (v := .ref (ma 1)) (C := RX6) (T := TX6) (N := 13) hx hb hts hinX6 hown hK hP 0 rfl rfl 0 (by decide) (hts (.fieldLink RX6 7 "JoinGrantsModel" "all" "[I") (List.mem_of_getElem? (i := 1) rfl)) (fun _ h9 => h9) rfl dX6_sets_1 ?_
  refine lv_bipush (v := (nI 9)) hx hb dX6_sets_4 (by decide) ?_
  refine lv_bipush (v := (nI 9)) hx hb dX6_sets_6 (by decide) ?_
  refine lv_iload_n hx hb dX6_sets_8 rfl (lv_at hl 1 rfl) ?_
  refine lv_imul hx hb dX6_sets_9 ?_
  refine lv_iadd hx hb dX6_sets_10 ?_
  refine lv_iload_n hx hb dX6_sets_11 rfl (lv_at hl 2 rfl) ?_
  refine lv_iadd hx hb dX6_sets_12 ?_
  refine lv_iload_n hx hb dX6_sets_13 rfl (lv_at hl 3 rfl) ?_
  refine xiast (j := (9 + 9 * a1 + a2)) (x_ofc h1 h2) hx hb hK hP hD hS 1 0 rfl rfl (x_ofi h1 h2) dX6_sets_14 (fun H locs hP hD hS => ?_)
  have hP : va_P D vwCl (coreW ck ma M (upd f (9 + 9 * a1 + a2) a3)) H := hP
  have hD : va_D (va_A (coreW ck ma M f) s.heap.size) (coreW ck ma M (upd f (9 + 9 * a1 + a2) a3)) := hD
  exact xvret hx hb hr hlk hP hD hS (congrArg (fun z => coreW ck ma M z) (show gX6_sets f a1 a2 a3 = (upd f (9 + 9 * a1 + a2) a3) from rfl)).symm dX6_sets_15

def rmX6_is : Room := { frames := 1, cells := 0, slots := 0, locals := 22 }
def gX6_is (f : FS) (a1 : Nat) (a2 : Int32) : Int32 := (if (gX6_of f a1 3) = a2 then 1 else 0)
set_option maxHeartbeats 4000000 in
set_option maxRecDepth 100000 in
theorem mX6_is (l : Launch) (D : va_G) (ck : Nat → ClassId) (ma : Nat → Nat) (M : FS) (f : FS) (x1 : Int32) (a1 : Nat) (e1 : x1 = nI a1) (h1 : a1 < 16) (a2 : Int32) : xMi l yX6_is wsX6_is rmX6_is D ck [.ref (ma 0), .int x1, .int a2] (coreW ck ma M f) (coreW ck ma M f) (gX6_is f a1 a2) 0 0 := by
  refine xMet (by decide) rfl (Nat.le_of_ble_eq_true rfl) ?_
  intro zp ze s zm zb zt zc hx hb hr hml hown hts hlk hnm hN hK hP hD ls hl
  have hown : s.vm.findClass RX6 = some zm.cls := hown
  subst e1
  have hl : lv_has ls 3 [(0, .ref (ma 0)), (1, .int (nI a1)), (2, .int a2)] := hl
  have hS : va_S (va_A (coreW ck ma M f) s.heap.size) s.heap s.heap [] := va_S.rf
  have hA : ∀ zq : Nat, s.heap.size ≤ zq → va_A (coreW ck ma M f) s.heap.size zq := fun zq h => Or.inr h
  refine lv_aload_n hx hb dX6_is_0 rfl (lv_at hl 0 rfl) ?_
  refine lv_iload_n hx hb dX6_is_1 rfl (lv_at hl 1 rfl) ?_
  refine lv_iconst (v := 3) hx hb dX6_is_2 (by decide) ?_
  refine xreti (va_runV (As := [.int (nI a1), .int 3]) (rest := []) ⟨hx, hb, hml, hown, hts⟩ (mX6_of l D ck ma M f (nI a1) a1 rfl (by omega) 3 3 rfl (by omega)  _) (cwV 2 hts gX6_is_X6_of rfl rfl rfl (by decide +kernel) ⟨Nat.le_of_ble_eq_true rfl, Nat.le_of_ble_eq_true rfl⟩) (xpreV hN hK hP hD pm_all 0 rfl rfl rfl) rfl rfl hl.1 rfl (lv_room (Nat.le_of_ble_eq_true rfl)) dX6_is_3 ⟨Nat.le_of_ble_eq_true rfl, Nat.le_of_ble_eq_true rfl⟩) hP hD hS hA pm_all pm_all' (fun H locs hP hD hS => ?_)
  refine lv_iload_n hx hb dX6_is_6 rfl (lv_at hl 2 rfl) ?_
  refine lv_icmp_ne (tgt := 14) hx hb dX6_is_7 (by decide) (fun c_7 => ?_) (fun c_7 => ?_)
  · --t
    refine lv_iconst (v := 0) hx hb dX6_is_14 (by decide) ?_
    exact xzret hx hb hr hlk hP hD hS (Or.inl rfl) (show gX6_is f a1 a2 = 0 from (Eq.trans (if_neg c_7) rfl)).symm rfl dX6_is_15
  · --f
    refine lv_iconst (v := 1) hx hb dX6_is_10 (by decide) ?_
    refine lv_goto (tgt := 15) hx hb dX6_is_11 (by decide) ?_
    exact xzret hx hb hr hlk hP hD hS (Or.inr rfl) (show gX6_is f a1 a2 = 1 from (Eq.trans (if_pos c_7) rfl)).symm rfl dX6_is_15

def rmX6_needs : Room := { frames := 2, cells := 0, slots := 0, locals := 43 }
def gX6_needs (f : FS) (a1 : Nat) : Int32 := (gX6_needsOf (gX6_of f a1 0) (gX6_of f a1 1) (gX6_of f a1 2))
set_option maxHeartbeats 4000000 in
set_option maxRecDepth 100000 in
theorem mX6_needs (l : Launch) (D : va_G) (ck : Nat → ClassId) (ma : Nat → Nat) (M : FS) (f : FS) (x1 : Int32) (a1 : Nat) (e1 : x1 = nI a1) (h1 : a1 < 16) (hbi : bI f) : xMi l yX6_needs wsX6_needs rmX6_needs D ck [.ref (ma 0), .int x1] (coreW ck ma M f) (coreW ck ma M f) (gX6_needs f a1) 0 0 := by
  refine xMet (by decide) rfl (Nat.le_of_ble_eq_true rfl) ?_
  intro zp ze s zm zb zt zc hx hb hr hml hown hts hlk hnm hN hK hP hD ls hl
  have hown : s.vm.findClass RX6 = some zm.cls := hown
  subst e1
  have hl : lv_has ls 2 [(0, .ref (ma 0)), (1, .int (nI a1))] := hl
  have hS : va_S (va_A (coreW ck ma M f) s.heap.size) s.heap s.heap [] := va_S.rf
  have hA : ∀ zq : Nat, s.heap.size ≤ zq → va_A (coreW ck ma M f) s.heap.size zq := fun zq h => Or.inr h
  refine lv_aload_n hx hb dX6_needs_0 rfl (lv_at hl 0 rfl) ?_
  refine lv_iload_n hx hb dX6_needs_1 rfl (lv_at hl 1 rfl) ?_
  refine lv_iconst (v := 0) hx hb dX6_needs_2 (by decide) ?_
  refine xreti (va_runV (As := [.int (nI a1), .int 0]) (rest := []) ⟨hx, hb, hml, hown, hts⟩ (mX6_of l D ck ma M f (nI a1) a1 rfl (by omega) 0 0 rfl (by omega)  _) (cwV 2 hts gX6_needs_X6_of rfl rfl rfl (by decide +kernel) ⟨Nat.le_of_ble_eq_true rfl, Nat.le_of_ble_eq_true rfl⟩) (xpreV hN hK hP hD pm_all 0 rfl rfl rfl) rfl rfl hl.1 rfl (lv_room (Nat.le_of_ble_eq_true rfl)) dX6_needs_3 ⟨Nat.le_of_ble_eq_true rfl, Nat.le_of_ble_eq_true rfl⟩) hP hD hS hA pm_all pm_all' (fun H locs hP hD hS => ?_)
  refine lv_aload_n hx hb dX6_needs_6 rfl (lv_at hl 0 rfl) ?_
  refine lv_iload_n hx hb dX6_needs_7 rfl (lv_at hl 1 rfl) ?_
  refine lv_iconst (v := 1) hx hb dX6_needs_8 (by decide) ?_
  refine xreti (va_runV (As := [.int (nI a1), .int 1]) (rest := [.int (gX6_of f a1 0)]) ⟨hx, hb, hml, hown, hts⟩ (mX6_of l D ck ma M f (nI a1) a1 rfl (by omega) 1 1 rfl (by omega)  _) (cwV 2 hts gX6_needs_X6_of rfl rfl rfl (by decide +kernel) ⟨Nat.le_of_ble_eq_true rfl, Nat.le_of_ble_eq_true rfl⟩) (xpreV hN hK hP hD pm_all 0 rfl rfl rfl) rfl rfl hl.1 rfl (lv_room (Nat.le_of_ble_eq_true rfl)) dX6_needs_9 ⟨Nat.le_of_ble_eq_true rfl, Nat.le_of_ble_eq_true rfl⟩) hP hD hS hA pm_all pm_all' (fun H locs hP hD hS => ?_)
  refine lv_aload_n hx hb dX6_needs_12 rfl (lv_at hl 0 rfl) ?_
  refine lv_iload_n hx hb dX6_needs_13 rfl (lv_at hl 1 rfl) ?_
  refine lv_iconst (v := 2) hx hb dX6_needs_14 (by decide) ?_
  refine xreti (va_runV (As := [.int (nI a1), .int 2]) (rest := [.int (gX6_of f a1 1), .int (gX6_of f a1 0)]) ⟨hx, hb, hml, hown, hts⟩ (mX6_of l D ck ma M f (nI a1) a1 rfl (by omega) 2 2 rfl (by omega)  _) (cwV 2 hts gX6_needs_X6_of rfl rfl rfl (by decide +kernel) ⟨Nat.le_of_ble_eq_true rfl, Nat.le_of_ble_eq_true rfl⟩) (xpreV hN hK hP hD pm_all 0 rfl rfl rfl) rfl rfl hl.1 rfl (lv_room (Nat.le_of_ble_eq_true rfl)) dX6_needs_15 ⟨Nat.le_of_ble_eq_true rfl, Nat.le_of_ble_eq_true rfl⟩) hP hD hS hA pm_all pm_all' (fun H locs hP hD hS => ?_)
  refine xreti (va_runS (As := [.int (gX6_of f a1 0), .int (gX6_of f a1 1), .int (gX6_of f a1 2)]) (rest := []) ⟨hx, hb, hml, hown, hts⟩ (mX6_needsOf l D ck (gX6_of f a1 0) (gX6_of f a1 1) (gX6_of f a1 2) ((hbi.2 a1 h1).1) ((hbi.2 a1 h1).2) _) (va_cwS 3 hts gX6_needs_X6_needsOf rfl rfl rfl (by decide +kernel) ⟨Nat.le_of_ble_eq_true rfl, Nat.le_of_ble_eq_true rfl⟩) (xpreS hN hK hP hD pm_none) rfl rfl hl.1 rfl (lv_room (Nat.le_of_ble_eq_true rfl)) dX6_needs_18 ⟨Nat.le_of_ble_eq_true rfl, Nat.le_of_ble_eq_true rfl⟩) hP hD hS hA pm_none pm_none (fun H locs hP hD hS => ?_)
  exact xiret hx hb hr hlk hP hD hS (show gX6_needs f a1 = (gX6_needsOf (gX6_of f a1 0) (gX6_of f a1 1) (gX6_of f a1 2)) from rfl).symm rfl dX6_needs_21

def rmX6_wants : Room := { frames := 3, cells := 0, slots := 0, locals := 67 }
def gX6_wants (f : FS) (a1 : Nat) : Int32 := (gX6_wantsOf (gX6_of f a1 0) (gX6_of f a1 1) (gX6_of f a1 2))
set_option maxHeartbeats 4000000 in
set_option maxRecDepth 100000 in
theorem mX6_wants (l : Launch) (D : va_G) (ck : Nat → ClassId) (ma : Nat → Nat) (M : FS) (f : FS) (x1 : Int32) (a1 : Nat) (e1 : x1 = nI a1) (h1 : a1 < 16) (hbi : bI f) : xMi l yX6_wants wsX6_wants rmX6_wants D ck [.ref (ma 0), .int x1] (coreW ck ma M f) (coreW ck ma M f) (gX6_wants f a1) 0 0 := by
  refine xMet (by decide) rfl (Nat.le_of_ble_eq_true rfl) ?_
  intro zp ze s zm zb zt zc hx hb hr hml hown hts hlk hnm hN hK hP hD ls hl
  have hown : s.vm.findClass RX6 = some zm.cls := hown
  subst e1
  have hl : lv_has ls 2 [(0, .ref (ma 0)), (1, .int (nI a1))] := hl
  have hS : va_S (va_A (coreW ck ma M f) s.heap.size) s.heap s.heap [] := va_S.rf
  have hA : ∀ zq : Nat, s.heap.size ≤ zq → va_A (coreW ck ma M f) s.heap.size zq := fun zq h => Or.inr h
  refine lv_aload_n hx hb dX6_wants_0 rfl (lv_at hl 0 rfl) ?_
  refine lv_iload_n hx hb dX6_wants_1 rfl (lv_at hl 1 rfl) ?_
  refine lv_iconst (v := 0) hx hb dX6_wants_2 (by decide) ?_
  refine xreti (va_runV (As := [.int (nI a1), .int 0]) (rest := []) ⟨hx, hb, hml, hown, hts⟩ (mX6_of l D ck ma M f (nI a1) a1 rfl (by omega) 0 0 rfl (by omega)  _) (cwV 2 hts gX6_wants_X6_of rfl rfl rfl (by decide +kernel) ⟨Nat.le_of_ble_eq_true rfl, Nat.le_of_ble_eq_true rfl⟩) (xpreV hN hK hP hD pm_all 0 rfl rfl rfl) rfl rfl hl.1 rfl (lv_room (Nat.le_of_ble_eq_true rfl)) dX6_wants_3 ⟨Nat.le_of_ble_eq_true rfl, Nat.le_of_ble_eq_true rfl⟩) hP hD hS hA pm_all pm_all' (fun H locs hP hD hS => ?_)
  refine lv_aload_n hx hb dX6_wants_6 rfl (lv_at hl 0 rfl) ?_
  refine lv_iload_n hx hb dX6_wants_7 rfl (lv_at hl 1 rfl) ?_
  refine lv_iconst (v := 1) hx hb dX6_wants_8 (by decide) ?_
  refine xreti (va_runV (As := [.int (nI a1), .int 1]) (rest := [.int (gX6_of f a1 0)]) ⟨hx, hb, hml, hown, hts⟩ (mX6_of l D ck ma M f (nI a1) a1 rfl (by omega) 1 1 rfl (by omega)  _) (cwV 2 hts gX6_wants_X6_of rfl rfl rfl (by decide +kernel) ⟨Nat.le_of_ble_eq_true rfl, Nat.le_of_ble_eq_true rfl⟩) (xpreV hN hK hP hD pm_all 0 rfl rfl rfl) rfl rfl hl.1 rfl (lv_room (Nat.le_of_ble_eq_true rfl)) dX6_wants_9 ⟨Nat.le_of_ble_eq_true rfl, Nat.le_of_ble_eq_true rfl⟩) hP hD hS hA pm_all pm_all' (fun H locs hP hD hS => ?_)
  refine lv_aload_n hx hb dX6_wants_12 rfl (lv_at hl 0 rfl) ?_
  refine lv_iload_n hx hb dX6_wants_13 rfl (lv_at hl 1 rfl) ?_
  refine lv_iconst (v := 2) hx hb dX6_wants_14 (by decide) ?_
  refine xreti (va_runV (As := [.int (nI a1), .int 2]) (rest := [.int (gX6_of f a1 1), .int (gX6_of f a1 0)]) ⟨hx, hb, hml, hown, hts⟩ (mX6_of l D ck ma M f (nI a1) a1 rfl (by omega) 2 2 rfl (by omega)  _) (cwV 2 hts gX6_wants_X6_of rfl rfl rfl (by decide +kernel) ⟨Nat.le_of_ble_eq_true rfl, Nat.le_of_ble_eq_true rfl⟩) (xpreV hN hK hP hD pm_all 0 rfl rfl rfl) rfl rfl hl.1 rfl (lv_room (Nat.le_of_ble_eq_true rfl)) dX6_wants_15 ⟨Nat.le_of_ble_eq_true rfl, Nat.le_of_ble_eq_true rfl⟩) hP hD hS hA pm_all pm_all' (fun H locs hP hD hS => ?_)
  refine xreti (va_runS (As := [.int (gX6_of f a1 0), .int (gX6_of f a1 1), .int (gX6_of f a1 2)]) (rest := []) ⟨hx, hb, hml, hown, hts⟩ (mX6_wantsOf l D ck (gX6_of f a1 0) (gX6_of f a1 1) (gX6_of f a1 2) ((hbi.2 a1 h1).1) ((hbi.2 a1 h1).2) _) (va_cwS 3 hts gX6_wants_X6_wantsOf rfl rfl rfl (by decide +kernel) ⟨Nat.le_of_ble_eq_true rfl, Nat.le_of_ble_eq_true rfl⟩) (xpreS hN hK hP hD pm_none) rfl rfl hl.1 rfl (lv_room (Nat.le_of_ble_eq_true rfl)) dX6_wants_18 ⟨Nat.le_of_ble_eq_true rfl, Nat.le_of_ble_eq_true rfl⟩) hP hD hS hA pm_none pm_none (fun H locs hP hD hS => ?_)
  exact xiret hx hb hr hlk hP hD hS (show gX6_wants f a1 = (gX6_wantsOf (gX6_of f a1 0) (gX6_of f a1 1) (gX6_of f a1 2)) from rfl).symm rfl dX6_wants_21

def rmX6_works : Room := { frames := 4, cells := 0, slots := 0, locals := 93 }
def gX6_works (f : FS) (a1 : Nat) (a2 : Int32) : Int32 := (gX6_workOf (gX6_of f a1 0) (gX6_of f a1 1) (gX6_of f a1 2) a2)
set_option maxHeartbeats 4000000 in
set_option maxRecDepth 100000 in
theorem mX6_works (l : Launch) (D : va_G) (ck : Nat → ClassId) (ma : Nat → Nat) (M : FS) (f : FS) (x1 : Int32) (a1 : Nat) (e1 : x1 = nI a1) (h1 : a1 < 16) (a2 : Int32) (hbi : bI f) (h3 : xP3 a2) : xMi l yX6_works wsX6_works rmX6_works D ck [.ref (ma 0), .int x1, .int a2] (coreW ck ma M f) (coreW ck ma M f) (gX6_works f a1 a2) 0 0 := by
  refine xMet (by decide) rfl (Nat.le_of_ble_eq_true rfl) ?_
  intro zp ze s zm zb zt zc hx hb hr hml hown hts hlk hnm hN hK hP hD ls hl
  have hown : s.vm.findClass RX6 = some zm.cls := hown
  subst e1
  have hl : lv_has ls 3 [(0, .ref (ma 0)), (1, .int (nI a1)), (2, .int a2)] := hl
  have hS : va_S (va_A (coreW ck ma M f) s.heap.size) s.heap s.heap [] := va_S.rf
  have hA : ∀ zq : Nat, s.heap.size ≤ zq → va_A (coreW ck ma M f) s.heap.size zq := fun zq h => Or.inr h
  refine lv_aload_n hx hb dX6_works_0 rfl (lv_at hl 0 rfl) ?_
  refine lv_iload_n hx hb dX6_works_1 rfl (lv_at hl 1 rfl) ?_
  refine lv_iconst (v := 0) hx hb dX6_works_2 (by decide) ?_
  refine xreti (va_runV (As := [.int (nI a1), .int 0]) (rest := []) ⟨hx, hb, hml, hown, hts⟩ (mX6_of l D ck ma M f (nI a1) a1 rfl (by omega) 0 0 rfl (by omega)  _) (cwV 2 hts gX6_works_X6_of rfl rfl rfl (by decide +kernel) ⟨Nat.le_of_ble_eq_true rfl, Nat.le_of_ble_eq_true rfl⟩) (xpreV hN hK hP hD pm_all 0 rfl rfl rfl) rfl rfl hl.1 rfl (lv_room (Nat.le_of_ble_eq_true rfl)) dX6_works_3 ⟨Nat.le_of_ble_eq_true rfl, Nat.le_of_ble_eq_true rfl⟩) hP hD hS hA pm_all pm_all' (fun H locs hP hD hS => ?_)
  refine lv_aload_n hx hb dX6_works_6 rfl (lv_at hl 0 rfl) ?_
  refine lv_iload_n hx hb dX6_works_7 rfl (lv_at hl 1 rfl) ?_
  refine lv_iconst (v := 1) hx hb dX6_works_8 (by decide) ?_
  refine xreti (va_runV (As := [.int (nI a1), .int 1]) (rest := [.int (gX6_of f a1 0)]) ⟨hx, hb, hml, hown, hts⟩ (mX6_of l D ck ma M f (nI a1) a1 rfl (by omega) 1 1 rfl (by omega)  _) (cwV 2 hts gX6_works_X6_of rfl rfl rfl (by decide +kernel) ⟨Nat.le_of_ble_eq_true rfl, Nat.le_of_ble_eq_true rfl⟩) (xpreV hN hK hP hD pm_all 0 rfl rfl rfl) rfl rfl hl.1 rfl (lv_room (Nat.le_of_ble_eq_true rfl)) dX6_works_9 ⟨Nat.le_of_ble_eq_true rfl, Nat.le_of_ble_eq_true rfl⟩) hP hD hS hA pm_all pm_all' (fun H locs hP hD hS => ?_)
  refine lv_aload_n hx hb dX6_works_12 rfl (lv_at hl 0 rfl) ?_
  refine lv_iload_n hx hb dX6_works_13 rfl (lv_at hl 1 rfl) ?_
  refine lv_iconst (v := 2) hx hb dX6_works_14 (by decide) ?_
  refine xreti (va_runV (As := [.int (nI a1), .int 2]) (rest := [.int (gX6_of f a1 1), .int (gX6_of f a1 0)]) ⟨hx, hb, hml, hown, hts⟩ (mX6_of l D ck ma M f (nI a1) a1 rfl (by omega) 2 2 rfl (by omega)  _) (cwV 2 hts gX6_works_X6_of rfl rfl rfl (by decide +kernel) ⟨Nat.le_of_ble_eq_true rfl, Nat.le_of_ble_eq_true rfl⟩) (xpreV hN hK hP hD pm_all 0 rfl rfl rfl) rfl rfl hl.1 rfl (lv_room (Nat.le_of_ble_eq_true rfl)) dX6_works_15 ⟨Nat.le_of_ble_eq_true rfl, Nat.le_of_ble_eq_true rfl⟩) hP hD hS hA pm_all pm_all' (fun H locs hP hD hS => ?_)
  refine lv_iload_n hx hb dX6_works_18 rfl (lv_at hl 2 rfl) ?_
  refine xreti (va_runS (As := [.int (gX6_of f a1 0), .int (gX6_of f a1 1), .int (gX6_of f a1 2), .int a2]) (rest := []) ⟨hx, hb, hml, hown, hts⟩ (mX6_workOf l D ck (gX6_of f a1 0) (gX6_of f a1 1) (gX6_of f a1 2) a2 ((hbi.2 a1 h1).1) ((hbi.2 a1 h1).2) h3 _) (va_cwS 4 hts gX6_works_X6_workOf rfl rfl rfl (by decide +kernel) ⟨Nat.le_of_ble_eq_true rfl, Nat.le_of_ble_eq_true rfl⟩) (xpreS hN hK hP hD pm_none) rfl rfl hl.1 rfl (lv_room (Nat.le_of_ble_eq_true rfl)) dX6_works_19 ⟨Nat.le_of_ble_eq_true rfl, Nat.le_of_ble_eq_true rfl⟩) hP hD hS hA pm_none pm_none (fun H locs hP hD hS => ?_)
  exact xiret hx hb hr hlk hP hD hS (show gX6_works f a1 a2 = (gX6_workOf (gX6_of f a1 0) (gX6_of f a1 1) (gX6_of f a1 2) a2) from rfl).symm rfl dX6_works_22

def rmX6_isJoin : Room := { frames := 1, cells := 0, slots := 0, locals := 25 }
def gX6_isJoin (f : FS) (a1 : Int32) : Int32 := (gX6_in ((a1).toInt64) 0 ((((f 4)).toInt64) - 1))
set_option maxHeartbeats 4000000 in
set_option maxRecDepth 100000 in
theorem mX6_isJoin (l : Launch) (D : va_G) (ck : Nat → ClassId) (ma : Nat → Nat) (M : FS) (f : FS) (a1 : Int32) : xMi l yX6_isJoin wsX6_isJoin rmX6_isJoin D ck [.ref (ma 0), .int a1] (coreW ck ma M f) (coreW ck ma M f) (gX6_isJoin f a1) 0 0 := by
  refine xMet (by decide) rfl (Nat.le_of_ble_eq_true rfl) ?_
  intro zp ze s zm zb zt zc hx hb hr hml hown hts hlk hnm hN hK hP hD ls hl
  have hown : s.vm.findClass RX6 = some zm.cls := hown
  have hl : lv_has ls 2 [(0, .ref (ma 0)), (1, .int a1)] := hl
  have hS : va_S (va_A (coreW ck ma M f) s.heap.size) s.heap s.heap [] := va_S.rf
  have hA : ∀ zq : Nat, s.heap.size ≤ zq → va_A (coreW ck ma M f) s.heap.size zq := fun zq h => Or.inr h
  have hinX6 : ∀ w ∈ u_ws RX6 TX6 13, w ∈ wsX6_isJoin := by decide +kernel
  refine lv_iload_n hx hb dX6_isJoin_0 rfl (lv_at hl 1 rfl) ?_
  refine lv_i2l (v := (a1).toInt64) hx hb dX6_isJoin_1 rfl ?_
  refine lv_lconst (v := 0) hx hb dX6_isJoin_2 (by decide) ?_
  refine lv_aload_n hx hb dX6_isJoin_3 rfl (lv_at hl 0 rfl) ?_
  refine va_get (D := D) (ci := 6) (v := .ref (ma 1)) (C := RX6) (T := TX6) (N := 13) hx hb hts hinX6 hown hK hP 0 rfl rfl 0 (by decide) (hts (.fieldLink RX6 7 "JoinGrantsModel" "all" "[I") (List.mem_of_getElem? (i := 1) rfl)) (fun _ h9 => h9) rfl dX6_isJoin_4 ?_
  refine lv_iconst (v := 4) hx hb dX6_isJoin_7 (by decide) ?_
  refine xiald (j := 4) (by decide) hx hb hK hP 1 0 rfl rfl (show vp_in 4 153 from by unfold vp_in; decide) dX6_isJoin_8 ?_
  refine lv_i2l (v := ((f 4)).toInt64) hx hb dX6_isJoin_9 rfl ?_
  refine lv_lconst (v := 1) hx hb dX6_isJoin_10 (by decide) ?_
  refine lv_lsub hx hb dX6_isJoin_11 ?_
  refine xreti (va_runS (As := [.long ((a1).toInt64), .long 0, .long ((((f 4)).toInt64) - 1)]) (rest := []) ⟨hx, hb, hml, hown, hts⟩ (mX6_in l D ck ((a1).toInt64) 0 ((((f 4)).toInt64) - 1)  _) (va_cwS 3 hts gX6_isJoin_X6_in rfl rfl rfl (by decide +kernel) ⟨Nat.le_of_ble_eq_true rfl, Nat.le_of_ble_eq_true rfl⟩) (xpreS hN hK hP hD pm_none) rfl rfl hl.1 rfl (lv_room (Nat.le_of_ble_eq_true rfl)) dX6_isJoin_12 ⟨Nat.le_of_ble_eq_true rfl, Nat.le_of_ble_eq_true rfl⟩) hP hD hS hA pm_none pm_none (fun H locs hP hD hS => ?_)
  exact xzret hx hb hr hlk hP hD hS z_X6_in (show gX6_isJoin f a1 = (gX6_in ((a1).toInt64) 0 ((((f 4)).toInt64) - 1)) from rfl).symm rfl dX6_isJoin_15

def rmX6_granted : Room := { frames := 1, cells := 0, slots := 0, locals := 22 }
def gX6_granted_L4 (f : FS) : Nat → Nat → Int32 → Int32
  | 0, i, x9 => x9
  | fu + 1, i, x9 => (gX6_granted_L4 f fu (i + 1) (x9 + (gX6_of f i 4)))
def gX6_granted (f : FS) : Int32 := (gX6_granted_L4 f ((f 4).toNatClampNeg) 0 0)
set_option maxHeartbeats 4000000 in
set_option maxRecDepth 100000 in
theorem mX6_granted (l : Launch) (D : va_G) (ck : Nat → ClassId) (ma : Nat → Nat) (M : FS) (f : FS)  (hbi : bI f) : xMi l yX6_granted wsX6_granted rmX6_granted D ck [.ref (ma 0)] (coreW ck ma M f) (coreW ck ma M f) (gX6_granted f) 0 0 := by
  refine xMet (by decide) rfl (Nat.le_of_ble_eq_true rfl) ?_
  intro zp ze s zm zb zt zc hx hb hr hml hown hts hlk hnm hN hK hP hD ls hl
  have hown : s.vm.findClass RX6 = some zm.cls := hown
  have hl : lv_has ls 3 [(0, .ref (ma 0))] := hl
  have hS : va_S (va_A (coreW ck ma M f) s.heap.size) s.heap s.heap [] := va_S.rf
  have hA : ∀ zq : Nat, s.heap.size ≤ zq → va_A (coreW ck ma M f) s.heap.size zq := fun zq h => Or.inr h
  have hinX6 : ∀ w ∈ u_ws RX6 TX6 13, w ∈ wsX6_granted := by decide +kernel
  have hb1 := hbi.1
  refine lv_iconst (v := 0) hx hb dX6_granted_0 (by decide) ?_
  refine lv_istore_n (lv' := [(1, .int 0), (0, .ref (ma 0))]) hx hb dX6_granted_1 rfl hl (by decide) rfl (fun ls hl => ?_)
  refine lv_iconst (v := (nI 0)) hx hb dX6_granted_2 (by decide) ?_
  refine lv_istore_n (lv' := [(2, .int (nI 0)), (1, .int 0), (0, .ref (ma 0))]) hx hb dX6_granted_3 rfl hl (by decide) rfl (fun ls hl => ?_)
  have loop4 : ∀ (fu : Nat) (i : Nat) (x9 : Int32), (i + fu = (f 4).toNatClampNeg) → gX6_granted f = gX6_granted_L4 f fu i x9 → ∀ (H : Heap) (locs : List Loc) (ls : Array Slot), va_P D vwCl (coreW ck ma M f) H → va_D (va_A (coreW ck ma M f) s.heap.size) (coreW ck ma M f) → va_S (va_A (coreW ck ma M f) s.heap.size) s.heap H locs → lv_has ls 3 [(0, .ref (ma 0)), (1, .int x9), (2, .int (nI i))] → W zp l ze rmX6_granted s zm ([.ref (ma 0)] : List Value).toArray zb zt zc H locs 0 0 (MQ zb (xQi D (coreW ck ma M f) (coreW ck ma M f) (gX6_granted f) s.heap.size) ([.ref (ma 0)] : List Value).toArray s 0 0 (va_A (coreW ck ma M f) s.heap.size)) (F0 zm 4 ls []) := by
    intro fu
    induction fu with
    | zero =>
      intro i x9 hif hg H locs ls hP hD hS hl
      refine lv_iload_n hx hb dX6_granted_4 rfl (lv_at hl 2 rfl) ?_
      refine lv_aload_n hx hb dX6_granted_5 rfl (lv_at hl 0 rfl) ?_
      refine va_get (D := D) (ci := 6) (v := .ref (ma 1)) (C := RX6) (T := TX6) (N := 13) hx hb hts hinX6 hown hK hP 0 rfl rfl 0 (by decide) (hts (.fieldLink RX6 7 "JoinGrantsModel" "all" "[I") (List.mem_of_getElem? (i := 1) rfl)) (fun _ h9 => h9) rfl dX6_granted_6 ?_
      refine lv_iconst (v := 4) hx hb dX6_granted_9 (by decide) ?_
      refine xiald (j := 4) (by decide) hx hb hK hP 1 0 rfl rfl (show vp_in 4 153 from by unfold vp_in; decide) dX6_granted_10 ?_
      refine lv_icmp_ge (tgt := 29) hx hb dX6_granted_11 (by decide) (fun c_11 => ?_) (fun c_11 => ?_)
      · --t
        refine lv_iload_n hx hb dX6_granted_29 rfl (lv_at hl 1 rfl) ?_
        exact xiret hx hb hr hlk hP hD hS (hg.trans (show gX6_granted_L4 f 0 i x9 = x9 from rfl)).symm rfl dX6_granted_30
      · --f
        exact absurd (cl_le (by omega) (by have := hbi.1; omega)) c_11
    | succ fu ih4 =>
      intro i x9 hif hg H locs ls hP hD hS hl
      refine lv_iload_n hx hb dX6_granted_4 rfl (lv_at hl 2 rfl) ?_
      refine lv_aload_n hx hb dX6_granted_5 rfl (lv_at hl 0 rfl) ?_
      refine va_get (D := D) (ci := 6) (v := .ref (ma 1)) (C := RX6) (T := TX6) (N := 13) hx hb hts hinX6 hown hK hP 0 rfl rfl 0 (by decide) (hts (.fieldLink RX6 7 "JoinGrantsModel" "all" "[I") (List.mem_of_getElem? (i := 1) rfl)) (fun _ h9 => h9) rfl dX6_granted_6 ?_
      refine lv_iconst (v := 4) hx hb dX6_granted_9 (by decide) ?_
      refine xiald (j := 4) (by decide) hx hb hK hP 1 0 rfl rfl (show vp_in 4 153 from by unfold vp_in; decide) dX6_granted_10 ?_
      refine lv_icmp_ge (tgt := 29) hx hb dX6_granted_11 (by decide) (fun c_11 => ?_) (fun c_11 => ?_)
      · --t
        exact absurd c_11 (cl_lt (by omega))
      · --f
        refine lv_iload_n hx hb dX6_granted_14 rfl (lv_at hl 1 rfl) ?_
        refine lv_aload_n hx hb dX6_granted_15 rfl (lv_at hl 0 rfl) ?_
        refine lv_iload_n hx hb dX6_granted_16 rfl (lv_at hl 2 rfl) ?_
        refine lv_iconst (v := 4) hx hb dX6_granted_17 (by decide) ?_
        refine xreti (va_runV (As := [.int (nI i), .int 4]) (rest := [.int x9]) ⟨hx, hb, hml, hown, hts⟩ (mX6_of l D ck ma M f (nI i) i rfl (by omega) 4 4 rfl (by omega)  _) (cwV 2 hts gX6_granted_X6_of rfl rfl rfl (by decide +kernel) ⟨Nat.le_of_ble_eq_true rfl, Nat.le_of_ble_eq_true rfl⟩) (xpreV hN hK hP hD pm_all 0 rfl rfl rfl) rfl rfl hl.1 rfl (lv_room (Nat.le_of_ble_eq_true rfl)) dX6_granted_18 ⟨Nat.le_of_ble_eq_true rfl, Nat.le_of_ble_eq_true rfl⟩) hP hD hS hA pm_all pm_all' (fun H locs hP hD hS => ?_)
        refine lv_iadd hx hb dX6_granted_21 ?_
        refine lv_istore_n (lv' := [(1, .int (x9 + (gX6_of f i 4))), (0, .ref (ma 0)), (2, .int (nI i))]) hx hb dX6_granted_22 rfl hl (by decide) rfl (fun ls hl => ?_)
        refine lv_iinc (v := (nI (i + 1))) (lv' := [(2, .int (nI (i + 1))), (1, .int (x9 + (gX6_of f i 4))), (0, .ref (ma 0))]) hx hb dX6_granted_23 hl (k := 2) rfl (nI_1 i) (by decide) rfl (fun ls hl => ?_)
        refine lv_goto (tgt := 4) hx hb dX6_granted_26 (by decide) ?_
        exact ih4 (i + 1) (x9 + (gX6_of f i 4)) (by omega) (hg.trans (show gX6_granted_L4 f (fu + 1) i x9 = (gX6_granted_L4 f fu (i + 1) (x9 + (gX6_of f i 4))) from rfl)) _ _ _ hP hD hS (lv_sub hl [2, 1, 0] rfl)
  exact loop4 ((f 4).toNatClampNeg) 0 0 (by omega) (show gX6_granted f = (gX6_granted_L4 f ((f 4).toNatClampNeg) 0 0) from rfl) _ _ _ hP hD hS (lv_sub hl [2, 1, 0] rfl)

def rmX6_free : Room := { frames := 2, cells := 0, slots := 0, locals := 44 }
def gX6_free (f : FS) : Int32 := (if 0 ≤ ((f 0) - (gX6_granted f )) then ((f 0) - (gX6_granted f )) else 0)
set_option maxHeartbeats 4000000 in
set_option maxRecDepth 100000 in
theorem mX6_free (l : Launch) (D : va_G) (ck : Nat → ClassId) (ma : Nat → Nat) (M : FS) (f : FS)  (hbi : bI f) : xMi l yX6_free wsX6_free rmX6_free D ck [.ref (ma 0)] (coreW ck ma M f) (coreW ck ma M f) (gX6_free f) 0 0 := by
  refine xMet (by decide) rfl (Nat.le_of_ble_eq_true rfl) ?_
  intro zp ze s zm zb zt zc hx hb hr hml hown hts hlk hnm hN hK hP hD ls hl
  have hown : s.vm.findClass RX6 = some zm.cls := hown
  have hl : lv_has ls 2 [(0, .ref (ma 0))] := hl
  have hS : va_S (va_A (coreW ck ma M f) s.heap.size) s.heap s.heap [] := va_S.rf
  have hA : ∀ zq : Nat, s.heap.size ≤ zq → va_A (coreW ck ma M f) s.heap.size zq := fun zq h => Or.inr h
  have hinX6 : ∀ w ∈ u_ws RX6 TX6 13, w ∈ wsX6_free := by decide +kernel
  refine lv_aload_n hx hb dX6_free_0 rfl (lv_at hl 0 rfl) ?_
  refine va_get (D := D) (ci := 6) (v := .ref (ma 1)) (C := RX6) (T := TX6) (N := 13) hx hb hts hinX6 hown hK hP 0 rfl rfl 0 (by decide) (hts (.fieldLink RX6 7 "JoinGrantsModel" "all" "[I") (List.mem_of_getElem? (i := 1) rfl)) (fun _ h9 => h9) rfl dX6_free_1 ?_
  refine lv_iconst (v := 0) hx hb dX6_free_4 (by decide) ?_
  refine xiald (j := 0) (by decide) hx hb hK hP 1 0 rfl rfl (show vp_in 0 153 from by unfold vp_in; decide) dX6_free_5 ?_
  refine lv_aload_n hx hb dX6_free_6 rfl (lv_at hl 0 rfl) ?_
  refine xreti (va_runV (As := []) (rest := [.int (f 0)]) ⟨hx, hb, hml, hown, hts⟩ (mX6_granted l D ck ma M f  hbi _) (cwV 0 hts gX6_free_X6_granted rfl rfl rfl (by decide +kernel) ⟨Nat.le_of_ble_eq_true rfl, Nat.le_of_ble_eq_true rfl⟩) (xpreV hN hK hP hD pm_all 0 rfl rfl rfl) rfl rfl hl.1 rfl (lv_room (Nat.le_of_ble_eq_true rfl)) dX6_free_7 ⟨Nat.le_of_ble_eq_true rfl, Nat.le_of_ble_eq_true rfl⟩) hP hD hS hA pm_all pm_all' (fun H locs hP hD hS => ?_)
  refine lv_isub hx hb dX6_free_10 ?_
  refine lv_istore_n (lv' := [(1, .int ((f 0) - (gX6_granted f ))), (0, .ref (ma 0))]) hx hb dX6_free_11 rfl hl (by decide) rfl (fun ls hl => ?_)
  refine lv_iload_n hx hb dX6_free_12 rfl (lv_at hl 0 rfl) ?_
  refine lv_if_ge (tgt := 20) hx hb dX6_free_13 (by decide) (fun c_13 => ?_) (fun c_13 => ?_)
  · --t
    refine lv_iload_n hx hb dX6_free_20 rfl (lv_at hl 0 rfl) ?_
    exact xiret hx hb hr hlk hP hD hS (show gX6_free f = ((f 0) - (gX6_granted f )) from (Eq.trans (if_pos c_13) rfl)).symm rfl dX6_free_21
  · --f
    refine lv_iconst (v := 0) hx hb dX6_free_16 (by decide) ?_
    refine lv_goto (tgt := 21) hx hb dX6_free_17 (by decide) ?_
    exact xiret hx hb hr hlk hP hD hS (show gX6_free f = 0 from (Eq.trans (if_neg c_13) rfl)).symm rfl dX6_free_21

def rmX6_extra : Room := { frames := 3, cells := 0, slots := 0, locals := 64 }
def gX6_extra (f : FS) (a1 : Nat) : Int32 := (if (gX6_is f a1 1) = 0 then 0 else ((gX6_of f a1 4) - (gX6_needs f a1)))
set_option maxHeartbeats 4000000 in
set_option maxRecDepth 100000 in
theorem mX6_extra (l : Launch) (D : va_G) (ck : Nat → ClassId) (ma : Nat → Nat) (M : FS) (f : FS) (x1 : Int32) (a1 : Nat) (e1 : x1 = nI a1) (h1 : a1 < 16) (hbi : bI f) : xMi l yX6_extra wsX6_extra rmX6_extra D ck [.ref (ma 0), .int x1] (coreW ck ma M f) (coreW ck ma M f) (gX6_extra f a1) 0 0 := by
  refine xMet (by decide) rfl (Nat.le_of_ble_eq_true rfl) ?_
  intro zp ze s zm zb zt zc hx hb hr hml hown hts hlk hnm hN hK hP hD ls hl
  have hown : s.vm.findClass RX6 = some zm.cls := hown
  subst e1
  have hl : lv_has ls 2 [(0, .ref (ma 0)), (1, .int (nI a1))] := hl
  have hS : va_S (va_A (coreW ck ma M f) s.heap.size) s.heap s.heap [] := va_S.rf
  have hA : ∀ zq : Nat, s.heap.size ≤ zq → va_A (coreW ck ma M f) s.heap.size zq := fun zq h => Or.inr h
  refine lv_aload_n hx hb dX6_extra_0 rfl (lv_at hl 0 rfl) ?_
  refine lv_iload_n hx hb dX6_extra_1 rfl (lv_at hl 1 rfl) ?_
  refine lv_iconst (v := 1) hx hb dX6_extra_2 (by decide) ?_
  refine xreti (va_runV (As := [.int (nI a1), .int 1]) (rest := []) ⟨hx, hb, hml, hown, hts⟩ (mX6_is l D ck ma M f (nI a1) a1 rfl (by omega) 1  _) (cwV 2 hts gX6_extra_X6_is rfl rfl rfl (by decide +kernel) ⟨Nat.le_of_ble_eq_true rfl, Nat.le_of_ble_eq_true rfl⟩) (xpreV hN hK hP hD pm_all 0 rfl rfl rfl) rfl rfl hl.1 rfl (lv_room (Nat.le_of_ble_eq_true rfl)) dX6_extra_3 ⟨Nat.le_of_ble_eq_true rfl, Nat.le_of_ble_eq_true rfl⟩) hP hD hS hA pm_all pm_all' (fun H locs hP hD hS => ?_)
  refine lv_if_eq (tgt := 24) hx hb dX6_extra_6 (by decide) (fun c_6 => ?_) (fun c_6 => ?_)
  · --t
    refine lv_iconst (v := 0) hx hb dX6_extra_24 (by decide) ?_
    exact xiret hx hb hr hlk hP hD hS (show gX6_extra f a1 = 0 from (Eq.trans (if_pos c_6) rfl)).symm rfl dX6_extra_25
  · --f
    refine lv_aload_n hx hb dX6_extra_9 rfl (lv_at hl 0 rfl) ?_
    refine lv_iload_n hx hb dX6_extra_10 rfl (lv_at hl 1 rfl) ?_
    refine lv_iconst (v := 4) hx hb dX6_extra_11 (by decide) ?_
    refine xreti (va_runV (As := [.int (nI a1), .int 4]) (rest := []) ⟨hx, hb, hml, hown, hts⟩ (mX6_of l D ck ma M f (nI a1) a1 rfl (by omega) 4 4 rfl (by omega)  _) (cwV 2 hts gX6_extra_X6_of rfl rfl rfl (by decide +kernel) ⟨Nat.le_of_ble_eq_true rfl, Nat.le_of_ble_eq_true rfl⟩) (xpreV hN hK hP hD pm_all 0 rfl rfl rfl) rfl rfl hl.1 rfl (lv_room (Nat.le_of_ble_eq_true rfl)) dX6_extra_12 ⟨Nat.le_of_ble_eq_true rfl, Nat.le_of_ble_eq_true rfl⟩) hP hD hS hA pm_all pm_all' (fun H locs hP hD hS => ?_)
    refine lv_aload_n hx hb dX6_extra_15 rfl (lv_at hl 0 rfl) ?_
    refine lv_iload_n hx hb dX6_extra_16 rfl (lv_at hl 1 rfl) ?_
    refine xreti (va_runV (As := [.int (nI a1)]) (rest := [.int (gX6_of f a1 4)]) ⟨hx, hb, hml, hown, hts⟩ (mX6_needs l D ck ma M f (nI a1) a1 rfl (by omega) hbi _) (cwV 1 hts gX6_extra_X6_needs rfl rfl rfl (by decide +kernel) ⟨Nat.le_of_ble_eq_true rfl, Nat.le_of_ble_eq_true rfl⟩) (xpreV hN hK hP hD pm_all 0 rfl rfl rfl) rfl rfl hl.1 rfl (lv_room (Nat.le_of_ble_eq_true rfl)) dX6_extra_17 ⟨Nat.le_of_ble_eq_true rfl, Nat.le_of_ble_eq_true rfl⟩) hP hD hS hA pm_all pm_all' (fun H locs hP hD hS => ?_)
    refine lv_isub hx hb dX6_extra_20 ?_
    refine lv_goto (tgt := 25) hx hb dX6_extra_21 (by decide) ?_
    exact xiret hx hb hr hlk hP hD hS (show gX6_extra f a1 = ((gX6_of f a1 4) - (gX6_needs f a1)) from (Eq.trans (if_neg c_6) rfl)).symm rfl dX6_extra_25

def rmX6_spares : Room := { frames := 4, cells := 0, slots := 0, locals := 85 }
def gX6_spares_L4 (f : FS) : Nat → Nat → Int32 → Int32
  | 0, i, x9 => x9
  | fu + 1, i, x9 => (gX6_spares_L4 f fu (i + 1) (x9 + (gX6_extra f i)))
def gX6_spares (f : FS) : Int32 := (gX6_spares_L4 f ((f 4).toNatClampNeg) 0 0)
set_option maxHeartbeats 4000000 in
set_option maxRecDepth 100000 in
theorem mX6_spares (l : Launch) (D : va_G) (ck : Nat → ClassId) (ma : Nat → Nat) (M : FS) (f : FS)  (hbi : bI f) : xMi l yX6_spares wsX6_spares rmX6_spares D ck [.ref (ma 0)] (coreW ck ma M f) (coreW ck ma M f) (gX6_spares f) 0 0 := by
  refine xMet (by decide) rfl (Nat.le_of_ble_eq_true rfl) ?_
  intro zp ze s zm zb zt zc hx hb hr hml hown hts hlk hnm hN hK hP hD ls hl
  have hown : s.vm.findClass RX6 = some zm.cls := hown
  have hl : lv_has ls 3 [(0, .ref (ma 0))] := hl
  have hS : va_S (va_A (coreW ck ma M f) s.heap.size) s.heap s.heap [] := va_S.rf
  have hA : ∀ zq : Nat, s.heap.size ≤ zq → va_A (coreW ck ma M f) s.heap.size zq := fun zq h => Or.inr h
  have hinX6 : ∀ w ∈ u_ws RX6 TX6 13, w ∈ wsX6_spares := by decide +kernel
  have hb1 := hbi.1
  refine lv_iconst (v := 0) hx hb dX6_spares_0 (by decide) ?_
  refine lv_istore_n (lv' := [(1, .int 0), (0, .ref (ma 0))]) hx hb dX6_spares_1 rfl hl (by decide) rfl (fun ls hl => ?_)
  refine lv_iconst (v := (nI 0)) hx hb dX6_spares_2 (by decide) ?_
  refine lv_istore_n (lv' := [(2, .int (nI 0)), (1, .int 0), (0, .ref (ma 0))]) hx hb dX6_spares_3 rfl hl (by decide) rfl (fun ls hl => ?_)
  have loop4 : ∀ (fu : Nat) (i : Nat) (x9 : Int32), (i + fu = (f 4).toNatClampNeg) → gX6_spares f = gX6_spares_L4 f fu i x9 → ∀ (H : Heap) (locs : List Loc) (ls : Array Slot), va_P D vwCl (coreW ck ma M f) H → va_D (va_A (coreW ck ma M f) s.heap.size) (coreW ck ma M f) → va_S (va_A (coreW ck ma M f) s.heap.size) s.heap H locs → lv_has ls 3 [(0, .ref (ma 0)), (1, .int x9), (2, .int (nI i))] → W zp l ze rmX6_spares s zm ([.ref (ma 0)] : List Value).toArray zb zt zc H locs 0 0 (MQ zb (xQi D (coreW ck ma M f) (coreW ck ma M f) (gX6_spares f) s.heap.size) ([.ref (ma 0)] : List Value).toArray s 0 0 (va_A (coreW ck ma M f) s.heap.size)) (F0 zm 4 ls []) := by
    intro fu
    induction fu with
    | zero =>
      intro i x9 hif hg H locs ls hP hD hS hl
      refine lv_iload_n hx hb dX6_spares_4 rfl (lv_at hl 2 rfl) ?_
      refine lv_aload_n hx hb dX6_spares_5 rfl (lv_at hl 0 rfl) ?_
      refine va_get (D := D) (ci := 6) (v := .ref (ma 1)) (C := RX6) (T := TX6) (N := 13) hx hb hts hinX6 hown hK hP 0 rfl rfl 0 (by decide) (hts (.fieldLink RX6 7 "JoinGrantsModel" "all" "[I") (List.mem_of_getElem? (i := 1) rfl)) (fun _ h9 => h9) rfl dX6_spares_6 ?_
      refine lv_iconst (v := 4) hx hb dX6_spares_9 (by decide) ?_
      refine xiald (j := 4) (by decide) hx hb hK hP 1 0 rfl rfl (show vp_in 4 153 from by unfold vp_in; decide) dX6_spares_10 ?_
      refine lv_icmp_ge (tgt := 28) hx hb dX6_spares_11 (by decide) (fun c_11 => ?_) (fun c_11 => ?_)
      · --t
        refine lv_iload_n hx hb dX6_spares_28 rfl (lv_at hl 1 rfl) ?_
        exact xiret hx hb hr hlk hP hD hS (hg.trans (show gX6_spares_L4 f 0 i x9 = x9 from rfl)).symm rfl dX6_spares_29
      · --f
        exact absurd (cl_le (by omega) (by have := hbi.1; omega)) c_11
    | succ fu ih4 =>
      intro i x9 hif hg H locs ls hP hD hS hl
      refine lv_iload_n hx hb dX6_spares_4 rfl (lv_at hl 2 rfl) ?_
      refine lv_aload_n hx hb dX6_spares_5 rfl (lv_at hl 0 rfl) ?_
      refine va_get (D := D) (ci := 6) (v := .ref (ma 1)) (C := RX6) (T := TX6) (N := 13) hx hb hts hinX6 hown hK hP 0 rfl rfl 0 (by decide) (hts (.fieldLink RX6 7 "JoinGrantsModel" "all" "[I") (List.mem_of_getElem? (i := 1) rfl)) (fun _ h9 => h9) rfl dX6_spares_6 ?_
      refine lv_iconst (v := 4) hx hb dX6_spares_9 (by decide) ?_
      refine xiald (j := 4) (by decide) hx hb hK hP 1 0 rfl rfl (show vp_in 4 153 from by unfold vp_in; decide) dX6_spares_10 ?_
      refine lv_icmp_ge (tgt := 28) hx hb dX6_spares_11 (by decide) (fun c_11 => ?_) (fun c_11 => ?_)
      · --t
        exact absurd c_11 (cl_lt (by omega))
      · --f
        refine lv_iload_n hx hb dX6_spares_14 rfl (lv_at hl 1 rfl) ?_
        refine lv_aload_n hx hb dX6_spares_15 rfl (lv_at hl 0 rfl) ?_
        refine lv_iload_n hx hb dX6_spares_16 rfl (lv_at hl 2 rfl) ?_
        refine xreti (va_runV (As := [.int (nI i)]) (rest := [.int x9]) ⟨hx, hb, hml, hown, hts⟩ (mX6_extra l D ck ma M f (nI i) i rfl (by omega) hbi _) (cwV 1 hts gX6_spares_X6_extra rfl rfl rfl (by decide +kernel) ⟨Nat.le_of_ble_eq_true rfl, Nat.le_of_ble_eq_true rfl⟩) (xpreV hN hK hP hD pm_all 0 rfl rfl rfl) rfl rfl hl.1 rfl (lv_room (Nat.le_of_ble_eq_true rfl)) dX6_spares_17 ⟨Nat.le_of_ble_eq_true rfl, Nat.le_of_ble_eq_true rfl⟩) hP hD hS hA pm_all pm_all' (fun H locs hP hD hS => ?_)
        refine lv_iadd hx hb dX6_spares_20 ?_
        refine lv_istore_n (lv' := [(1, .int (x9 + (gX6_extra f i))), (0, .ref (ma 0)), (2, .int (nI i))]) hx hb dX6_spares_21 rfl hl (by decide) rfl (fun ls hl => ?_)
        refine lv_iinc (v := (nI (i + 1))) (lv' := [(2, .int (nI (i + 1))), (1, .int (x9 + (gX6_extra f i))), (0, .ref (ma 0))]) hx hb dX6_spares_22 hl (k := 2) rfl (nI_1 i) (by decide) rfl (fun ls hl => ?_)
        refine lv_goto (tgt := 4) hx hb dX6_spares_25 (by decide) ?_
        exact ih4 (i + 1) (x9 + (gX6_extra f i)) (by omega) (hg.trans (show gX6_spares_L4 f (fu + 1) i x9 = (gX6_spares_L4 f fu (i + 1) (x9 + (gX6_extra f i))) from rfl)) _ _ _ hP hD hS (lv_sub hl [2, 1, 0] rfl)
  exact loop4 ((f 4).toNatClampNeg) 0 0 (by omega) (show gX6_spares f = (gX6_spares_L4 f ((f 4).toNatClampNeg) 0 0) from rfl) _ _ _ hP hD hS (lv_sub hl [2, 1, 0] rfl)

def rmX6_isAhead : Room := { frames := 3, cells := 0, slots := 0, locals := 64 }
def gX6_isAhead (f : FS) (a1 : Nat) (a2 : Nat) : Int32 := (if (f 1) = 1 then (if ((gX6_needs f a1) - (gX6_needs f a2)) < 0 then 1 else (if ((gX6_needs f a1) - (gX6_needs f a2)) = 0 then (if (nI a2) ≤ (nI a1) then 0 else 1) else 0)) else (if (nI a2) ≤ (nI a1) then 0 else 1))
set_option maxHeartbeats 4000000 in
set_option maxRecDepth 100000 in
theorem mX6_isAhead (l : Launch) (D : va_G) (ck : Nat → ClassId) (ma : Nat → Nat) (M : FS) (f : FS) (x1 : Int32) (a1 : Nat) (e1 : x1 = nI a1) (h1 : a1 < 16) (x2 : Int32) (a2 : Nat) (e2 : x2 = nI a2) (h2 : a2 < 16) (hbi : bI f) : xMi l yX6_isAhead wsX6_isAhead rmX6_isAhead D ck [.ref (ma 0), .int x1, .int x2] (coreW ck ma M f) (coreW ck ma M f) (gX6_isAhead f a1 a2) 0 0 := by
  refine xMet (by decide) rfl (Nat.le_of_ble_eq_true rfl) ?_
  intro zp ze s zm zb zt zc hx hb hr hml hown hts hlk hnm hN hK hP hD ls hl
  have hown : s.vm.findClass RX6 = some zm.cls := hown
  subst e1
  subst e2
  have hl : lv_has ls 4 [(0, .ref (ma 0)), (1, .int (nI a1)), (2, .int (nI a2))] := hl
  have hS : va_S (va_A (coreW ck ma M f) s.heap.size) s.heap s.heap [] := va_S.rf
  have hA : ∀ zq : Nat, s.heap.size ≤ zq → va_A (coreW ck ma M f) s.heap.size zq := fun zq h => Or.inr h
  have hinX6 : ∀ w ∈ u_ws RX6 TX6 13, w ∈ wsX6_isAhead := by decide +kernel
  refine lv_aload_n hx hb dX6_isAhead_0 rfl (lv_at hl 0 rfl) ?_
  refine va_get (D := D) (ci := 6) (v := .ref (ma 1)) (C := RX6) (T := TX6) (N := 13) hx hb hts hinX6 hown hK hP 0 rfl rfl 0 (by decide) (hts (.fieldLink RX6 7 "JoinGrantsModel" "all" "[I") (List.mem_of_getElem? (i := 1) rfl)) (fun _ h9 => h9) rfl dX6_isAhead_1 ?_
  refine lv_iconst (v := 1) hx hb dX6_isAhead_4 (by decide) ?_
  refine xiald (j := 1) (by decide) hx hb hK hP 1 0 rfl rfl (show vp_in 1 153 from by unfold vp_in; decide) dX6_isAhead_5 ?_
  refine lv_iconst (v := 1) hx hb dX6_isAhead_6 (by decide) ?_
  refine lv_icmp_ne (tgt := 24) hx hb dX6_isAhead_7 (by decide) (fun c_7 => ?_) (fun c_7 => ?_)
  · --t
    refine lv_iconst (v := 0) hx hb dX6_isAhead_24 (by decide) ?_
    refine lv_istore_n (lv' := [(3, .int 0), (0, .ref (ma 0)), (1, .int (nI a1)), (2, .int (nI a2))]) hx hb dX6_isAhead_25 rfl hl (by decide) rfl (fun ls hl => ?_)
    refine lv_iload_n hx hb dX6_isAhead_26 rfl (lv_at hl 0 rfl) ?_
    refine lv_if_lt (tgt := 39) hx hb dX6_isAhead_27 (by decide) (fun c_27 => ?_) (fun c_27 => ?_)
    · --t
      exact absurd c_27 (by decide)
    · --f
      refine lv_iload_n hx hb dX6_isAhead_30 rfl (lv_at hl 0 rfl) ?_
      refine lv_if_ne (tgt := 43) hx hb dX6_isAhead_31 (by decide) (fun c_31 => ?_) (fun c_31 => ?_)
      · --t
        exact absurd (by decide) c_31
      · --f
        refine lv_iload_n hx hb dX6_isAhead_34 rfl (lv_at hl 2 rfl) ?_
        refine lv_iload_n hx hb dX6_isAhead_35 rfl (lv_at hl 3 rfl) ?_
        refine lv_icmp_ge (tgt := 43) hx hb dX6_isAhead_36 (by decide) (fun c_36 => ?_) (fun c_36 => ?_)
        · --t
          refine lv_iconst (v := 0) hx hb dX6_isAhead_43 (by decide) ?_
          exact xzret hx hb hr hlk hP hD hS (Or.inl rfl) (show gX6_isAhead f a1 a2 = 0 from (Eq.trans (if_neg c_7) (Eq.trans (if_pos c_36) rfl))).symm rfl dX6_isAhead_44
        · --f
          refine lv_iconst (v := 1) hx hb dX6_isAhead_39 (by decide) ?_
          refine lv_goto (tgt := 44) hx hb dX6_isAhead_40 (by decide) ?_
          exact xzret hx hb hr hlk hP hD hS (Or.inr rfl) (show gX6_isAhead f a1 a2 = 1 from (Eq.trans (if_neg c_7) (Eq.trans (if_neg c_36) rfl))).symm rfl dX6_isAhead_44
  · --f
    refine lv_aload_n hx hb dX6_isAhead_10 rfl (lv_at hl 0 rfl) ?_
    refine lv_iload_n hx hb dX6_isAhead_11 rfl (lv_at hl 1 rfl) ?_
    refine xreti (va_runV (As := [.int (nI a1)]) (rest := []) ⟨hx, hb, hml, hown, hts⟩ (mX6_needs l D ck ma M f (nI a1) a1 rfl (by omega) hbi _) (cwV 1 hts gX6_isAhead_X6_needs rfl rfl rfl (by decide +kernel) ⟨Nat.le_of_ble_eq_true rfl, Nat.le_of_ble_eq_true rfl⟩) (xpreV hN hK hP hD pm_all 0 rfl rfl rfl) rfl rfl hl.1 rfl (lv_room (Nat.le_of_ble_eq_true rfl)) dX6_isAhead_12 ⟨Nat.le_of_ble_eq_true rfl, Nat.le_of_ble_eq_true rfl⟩) hP hD hS hA pm_all pm_all' (fun H locs hP hD hS => ?_)
    refine lv_aload_n hx hb dX6_isAhead_15 rfl (lv_at hl 0 rfl) ?_
    refine lv_iload_n hx hb dX6_isAhead_16 rfl (lv_at hl 2 rfl) ?_
    refine xreti (va_runV (As := [.int (nI a2)]) (rest := [.int (gX6_needs f a1)]) ⟨hx, hb, hml, hown, hts⟩ (mX6_needs l D ck ma M f (nI a2) a2 rfl (by omega) hbi _) (cwV 1 hts gX6_isAhead_X6_needs rfl rfl rfl (by decide +kernel) ⟨Nat.le_of_ble_eq_true rfl, Nat.le_of_ble_eq_true rfl⟩) (xpreV hN hK hP hD pm_all 0 rfl rfl rfl) rfl rfl hl.1 rfl (lv_room (Nat.le_of_ble_eq_true rfl)) dX6_isAhead_17 ⟨Nat.le_of_ble_eq_true rfl, Nat.le_of_ble_eq_true rfl⟩) hP hD hS hA pm_all pm_all' (fun H locs hP hD hS => ?_)
    refine lv_isub hx hb dX6_isAhead_20 ?_
    refine lv_goto (tgt := 25) hx hb dX6_isAhead_21 (by decide) ?_
    refine lv_istore_n (lv' := [(3, .int ((gX6_needs f a1) - (gX6_needs f a2))), (0, .ref (ma 0)), (1, .int (nI a1)), (2, .int (nI a2))]) hx hb dX6_isAhead_25 rfl hl (by decide) rfl (fun ls hl => ?_)
    refine lv_iload_n hx hb dX6_isAhead_26 rfl (lv_at hl 0 rfl) ?_
    refine lv_if_lt (tgt := 39) hx hb dX6_isAhead_27 (by decide) (fun c_27 => ?_) (fun c_27 => ?_)
    · --t
      refine lv_iconst (v := 1) hx hb dX6_isAhead_39 (by decide) ?_
      refine lv_goto (tgt := 44) hx hb dX6_isAhead_40 (by decide) ?_
      exact xzret hx hb hr hlk hP hD hS (Or.inr rfl) (show gX6_isAhead f a1 a2 = 1 from (Eq.trans (if_pos c_7) (Eq.trans (if_pos c_27) rfl))).symm rfl dX6_isAhead_44
    · --f
      refine lv_iload_n hx hb dX6_isAhead_30 rfl (lv_at hl 0 rfl) ?_
      refine lv_if_ne (tgt := 43) hx hb dX6_isAhead_31 (by decide) (fun c_31 => ?_) (fun c_31 => ?_)
      · --t
        refine lv_iconst (v := 0) hx hb dX6_isAhead_43 (by decide) ?_
        exact xzret hx hb hr hlk hP hD hS (Or.inl rfl) (show gX6_isAhead f a1 a2 = 0 from (Eq.trans (if_pos c_7) (Eq.trans (if_neg c_27) (Eq.trans (if_neg c_31) rfl)))).symm rfl dX6_isAhead_44
      · --f
        refine lv_iload_n hx hb dX6_isAhead_34 rfl (lv_at hl 2 rfl) ?_
        refine lv_iload_n hx hb dX6_isAhead_35 rfl (lv_at hl 3 rfl) ?_
        refine lv_icmp_ge (tgt := 43) hx hb dX6_isAhead_36 (by decide) (fun c_36 => ?_) (fun c_36 => ?_)
        · --t
          refine lv_iconst (v := 0) hx hb dX6_isAhead_43 (by decide) ?_
          exact xzret hx hb hr hlk hP hD hS (Or.inl rfl) (show gX6_isAhead f a1 a2 = 0 from (Eq.trans (if_pos c_7) (Eq.trans (if_neg c_27) (Eq.trans (if_pos c_31) (Eq.trans (if_pos c_36) rfl))))).symm rfl dX6_isAhead_44
        · --f
          refine lv_iconst (v := 1) hx hb dX6_isAhead_39 (by decide) ?_
          refine lv_goto (tgt := 44) hx hb dX6_isAhead_40 (by decide) ?_
          exact xzret hx hb hr hlk hP hD hS (Or.inr rfl) (show gX6_isAhead f a1 a2 = 1 from (Eq.trans (if_pos c_7) (Eq.trans (if_neg c_27) (Eq.trans (if_pos c_31) (Eq.trans (if_neg c_36) rfl))))).symm rfl dX6_isAhead_44

def rmX6_rankOf : Room := { frames := 4, cells := 0, slots := 0, locals := 87 }
def gX6_rankOf_L4 (f : FS) (a1 : Nat) : Nat → Nat → Int32 → Int32
  | 0, i, x9 => x9
  | fu + 1, i, x9 => (if (gX6_is f i 0) = 0 then (gX6_rankOf_L4 f a1 fu (i + 1) (x9 + 0)) else (if (gX6_isAhead f i a1) = 0 then (gX6_rankOf_L4 f a1 fu (i + 1) (x9 + 0)) else (gX6_rankOf_L4 f a1 fu (i + 1) (x9 + 1))))
def gX6_rankOf (f : FS) (a1 : Nat) : Int32 := (gX6_rankOf_L4 f a1 ((f 4).toNatClampNeg) 0 0)
set_option maxHeartbeats 4000000 in
set_option maxRecDepth 100000 in
theorem mX6_rankOf (l : Launch) (D : va_G) (ck : Nat → ClassId) (ma : Nat → Nat) (M : FS) (f : FS) (x1 : Int32) (a1 : Nat) (e1 : x1 = nI a1) (h1 : a1 < 16) (hbi : bI f) : xMi l yX6_rankOf wsX6_rankOf rmX6_rankOf D ck [.ref (ma 0), .int x1] (coreW ck ma M f) (coreW ck ma M f) (gX6_rankOf f a1) 0 0 := by
  refine xMet (by decide) rfl (Nat.le_of_ble_eq_true rfl) ?_
  intro zp ze s zm zb zt zc hx hb hr hml hown hts hlk hnm hN hK hP hD ls hl
  have hown : s.vm.findClass RX6 = some zm.cls := hown
  subst e1
  have hl : lv_has ls 4 [(0, .ref (ma 0)), (1, .int (nI a1))] := hl
  have hS : va_S (va_A (coreW ck ma M f) s.heap.size) s.heap s.heap [] := va_S.rf
  have hA : ∀ zq : Nat, s.heap.size ≤ zq → va_A (coreW ck ma M f) s.heap.size zq := fun zq h => Or.inr h
  have hinX6 : ∀ w ∈ u_ws RX6 TX6 13, w ∈ wsX6_rankOf := by decide +kernel
  have hb1 := hbi.1
  refine lv_iconst (v := 0) hx hb dX6_rankOf_0 (by decide) ?_
  refine lv_istore_n (lv' := [(2, .int 0), (0, .ref (ma 0)), (1, .int (nI a1))]) hx hb dX6_rankOf_1 rfl hl (by decide) rfl (fun ls hl => ?_)
  refine lv_iconst (v := (nI 0)) hx hb dX6_rankOf_2 (by decide) ?_
  refine lv_istore_n (lv' := [(3, .int (nI 0)), (2, .int 0), (0, .ref (ma 0)), (1, .int (nI a1))]) hx hb dX6_rankOf_3 rfl hl (by decide) rfl (fun ls hl => ?_)
  have loop4 : ∀ (fu : Nat) (i : Nat) (x9 : Int32), (i + fu = (f 4).toNatClampNeg) → gX6_rankOf f a1 = gX6_rankOf_L4 f a1 fu i x9 → ∀ (H : Heap) (locs : List Loc) (ls : Array Slot), va_P D vwCl (coreW ck ma M f) H → va_D (va_A (coreW ck ma M f) s.heap.size) (coreW ck ma M f) → va_S (va_A (coreW ck ma M f) s.heap.size) s.heap H locs → lv_has ls 4 [(0, .ref (ma 0)), (1, .int (nI a1)), (2, .int x9), (3, .int (nI i))] → W zp l ze rmX6_rankOf s zm ([.ref (ma 0), .int (nI a1)] : List Value).toArray zb zt zc H locs 0 0 (MQ zb (xQi D (coreW ck ma M f) (coreW ck ma M f) (gX6_rankOf f a1) s.heap.size) ([.ref (ma 0), .int (nI a1)] : List Value).toArray s 0 0 (va_A (coreW ck ma M f) s.heap.size)) (F0 zm 4 ls []) := by
    intro fu
    induction fu with
    | zero =>
      intro i x9 hif hg H locs ls hP hD hS hl
      refine lv_iload_n hx hb dX6_rankOf_4 rfl (lv_at hl 3 rfl) ?_
      refine lv_aload_n hx hb dX6_rankOf_5 rfl (lv_at hl 0 rfl) ?_
      refine va_get (D := D) (ci := 6) (v := .ref (ma 1)) (C := RX6) (T := TX6) (N := 13) hx hb hts hinX6 hown hK hP 0 rfl rfl 0 (by decide) (hts (.fieldLink RX6 7 "JoinGrantsModel" "all" "[I") (List.mem_of_getElem? (i := 1) rfl)) (fun _ h9 => h9) rfl dX6_rankOf_6 ?_
      refine lv_iconst (v := 4) hx hb dX6_rankOf_9 (by decide) ?_
      refine xiald (j := 4) (by decide) hx hb hK hP 1 0 rfl rfl (show vp_in 4 153 from by unfold vp_in; decide) dX6_rankOf_10 ?_
      refine lv_icmp_ge (tgt := 46) hx hb dX6_rankOf_11 (by decide) (fun c_11 => ?_) (fun c_11 => ?_)
      · --t
        refine lv_iload_n hx hb dX6_rankOf_46 rfl (lv_at hl 2 rfl) ?_
        exact xiret hx hb hr hlk hP hD hS (hg.trans (show gX6_rankOf_L4 f a1 0 i x9 = x9 from rfl)).symm rfl dX6_rankOf_47
      · --f
        exact absurd (cl_le (by omega) (by have := hbi.1; omega)) c_11
    | succ fu ih4 =>
      intro i x9 hif hg H locs ls hP hD hS hl
      refine lv_iload_n hx hb dX6_rankOf_4 rfl (lv_at hl 3 rfl) ?_
      refine lv_aload_n hx hb dX6_rankOf_5 rfl (lv_at hl 0 rfl) ?_
      refine va_get (D := D) (ci := 6) (v := .ref (ma 1)) (C := RX6) (T := TX6) (N := 13) hx hb hts hinX6 hown hK hP 0 rfl rfl 0 (by decide) (hts (.fieldLink RX6 7 "JoinGrantsModel" "all" "[I") (List.mem_of_getElem? (i := 1) rfl)) (fun _ h9 => h9) rfl dX6_rankOf_6 ?_
      refine lv_iconst (v := 4) hx hb dX6_rankOf_9 (by decide) ?_
      refine xiald (j := 4) (by decide) hx hb hK hP 1 0 rfl rfl (show vp_in 4 153 from by unfold vp_in; decide) dX6_rankOf_10 ?_
      refine lv_icmp_ge (tgt := 46) hx hb dX6_rankOf_11 (by decide) (fun c_11 => ?_) (fun c_11 => ?_)
      · --t
        exact absurd c_11 (cl_lt (by omega))
      · --f
        refine lv_iload_n hx hb dX6_rankOf_14 rfl (lv_at hl 2 rfl) ?_
        refine lv_aload_n hx hb dX6_rankOf_15 rfl (lv_at hl 0 rfl) ?_
        refine lv_iload_n hx hb dX6_rankOf_16 rfl (lv_at hl 3 rfl) ?_
        refine lv_iconst (v := 0) hx hb dX6_rankOf_17 (by decide) ?_
        refine xreti (va_runV (As := [.int (nI i), .int 0]) (rest := [.int x9]) ⟨hx, hb, hml, hown, hts⟩ (mX6_is l D ck ma M f (nI i) i rfl (by omega) 0  _) (cwV 2 hts gX6_rankOf_X6_is rfl rfl rfl (by decide +kernel) ⟨Nat.le_of_ble_eq_true rfl, Nat.le_of_ble_eq_true rfl⟩) (xpreV hN hK hP hD pm_all 0 rfl rfl rfl) rfl rfl hl.1 rfl (lv_room (Nat.le_of_ble_eq_true rfl)) dX6_rankOf_18 ⟨Nat.le_of_ble_eq_true rfl, Nat.le_of_ble_eq_true rfl⟩) hP hD hS hA pm_all pm_all' (fun H locs hP hD hS => ?_)
        refine lv_if_eq (tgt := 37) hx hb dX6_rankOf_21 (by decide) (fun c_21 => ?_) (fun c_21 => ?_)
        · --t
          refine lv_iconst (v := 0) hx hb dX6_rankOf_37 (by decide) ?_
          refine lv_iadd hx hb dX6_rankOf_38 ?_
          refine lv_istore_n (lv' := [(2, .int (x9 + 0)), (0, .ref (ma 0)), (1, .int (nI a1)), (3, .int (nI i))]) hx hb dX6_rankOf_39 rfl hl (by decide) rfl (fun ls hl => ?_)
          refine lv_iinc (v := (nI (i + 1))) (lv' := [(3, .int (nI (i + 1))), (2, .int (x9 + 0)), (0, .ref (ma 0)), (1, .int (nI a1))]) hx hb dX6_rankOf_40 hl (k := 3) rfl (nI_1 i) (by decide) rfl (fun ls hl => ?_)
          refine lv_goto (tgt := 4) hx hb dX6_rankOf_43 (by decide) ?_
          exact ih4 (i + 1) (x9 + 0) (by omega) (hg.trans (show gX6_rankOf_L4 f a1 (fu + 1) i x9 = (gX6_rankOf_L4 f a1 fu (i + 1) (x9 + 0)) from (Eq.trans (if_pos c_21) rfl))) _ _ _ hP hD hS (lv_sub hl [2, 3, 1, 0] rfl)
        · --f
          refine lv_aload_n hx hb dX6_rankOf_24 rfl (lv_at hl 0 rfl) ?_
          refine lv_iload_n hx hb dX6_rankOf_25 rfl (lv_at hl 3 rfl) ?_
          refine lv_iload_n hx hb dX6_rankOf_26 rfl (lv_at hl 1 rfl) ?_
          refine xreti (va_runV (As := [.int (nI i), .int (nI a1)]) (rest := [.int x9]) ⟨hx, hb, hml, hown, hts⟩ (mX6_isAhead l D ck ma M f (nI i) i rfl (by omega) (nI a1) a1 rfl (by omega) hbi _) (cwV 2 hts gX6_rankOf_X6_isAhead rfl rfl rfl (by decide +kernel) ⟨Nat.le_of_ble_eq_true rfl, Nat.le_of_ble_eq_true rfl⟩) (xpreV hN hK hP hD pm_all 0 rfl rfl rfl) rfl rfl hl.1 rfl (lv_room (Nat.le_of_ble_eq_true rfl)) dX6_rankOf_27 ⟨Nat.le_of_ble_eq_true rfl, Nat.le_of_ble_eq_true rfl⟩) hP hD hS hA pm_all pm_all' (fun H locs hP hD hS => ?_)
          refine lv_if_eq (tgt := 37) hx hb dX6_rankOf_30 (by decide) (fun c_30 => ?_) (fun c_30 => ?_)
          · --t
            refine lv_iconst (v := 0) hx hb dX6_rankOf_37 (by decide) ?_
            refine lv_iadd hx hb dX6_rankOf_38 ?_
            refine lv_istore_n (lv' := [(2, .int (x9 + 0)), (0, .ref (ma 0)), (1, .int (nI a1)), (3, .int (nI i))]) hx hb dX6_rankOf_39 rfl hl (by decide) rfl (fun ls hl => ?_)
            refine lv_iinc (v := (nI (i + 1))) (lv' := [(3, .int (nI (i + 1))), (2, .int (x9 + 0)), (0, .ref (ma 0)), (1, .int (nI a1))]) hx hb dX6_rankOf_40 hl (k := 3) rfl (nI_1 i) (by decide) rfl (fun ls hl => ?_)
            refine lv_goto (tgt := 4) hx hb dX6_rankOf_43 (by decide) ?_
            exact ih4 (i + 1) (x9 + 0) (by omega) (hg.trans (show gX6_rankOf_L4 f a1 (fu + 1) i x9 = (gX6_rankOf_L4 f a1 fu (i + 1) (x9 + 0)) from (Eq.trans (if_neg c_21) (Eq.trans (if_pos c_30) rfl)))) _ _ _ hP hD hS (lv_sub hl [2, 3, 1, 0] rfl)
          · --f
            refine lv_iconst (v := 1) hx hb dX6_rankOf_33 (by decide) ?_
            refine lv_goto (tgt := 38) hx hb dX6_rankOf_34 (by decide) ?_
            refine lv_iadd hx hb dX6_rankOf_38 ?_
            refine lv_istore_n (lv' := [(2, .int (x9 + 1)), (0, .ref (ma 0)), (1, .int (nI a1)), (3, .int (nI i))]) hx hb dX6_rankOf_39 rfl hl (by decide) rfl (fun ls hl => ?_)
            refine lv_iinc (v := (nI (i + 1))) (lv' := [(3, .int (nI (i + 1))), (2, .int (x9 + 1)), (0, .ref (ma 0)), (1, .int (nI a1))]) hx hb dX6_rankOf_40 hl (k := 3) rfl (nI_1 i) (by decide) rfl (fun ls hl => ?_)
            refine lv_goto (tgt := 4) hx hb dX6_rankOf_43 (by decide) ?_
            exact ih4 (i + 1) (x9 + 1) (by omega) (hg.trans (show gX6_rankOf_L4 f a1 (fu + 1) i x9 = (gX6_rankOf_L4 f a1 fu (i + 1) (x9 + 1)) from (Eq.trans (if_neg c_21) (Eq.trans (if_neg c_30) rfl)))) _ _ _ hP hD hS (lv_sub hl [2, 3, 1, 0] rfl)
  exact loop4 ((f 4).toNatClampNeg) 0 0 (by omega) (show gX6_rankOf f a1 = (gX6_rankOf_L4 f a1 ((f 4).toNatClampNeg) 0 0) from rfl) _ _ _ hP hD hS (lv_sub hl [2, 3, 1, 0] rfl)

def rmX6_ranked : Room := { frames := 5, cells := 0, slots := 0, locals := 110 }
def gX6_ranked_L2 (f : FS) (a1 : Int32) : Nat → Nat → Int32
  | 0, i => (-5)
  | fu + 1, i => (if (gX6_is f i 0) = 0 then (gX6_ranked_L2 f a1 fu (i + 1)) else (if (gX6_rankOf f i) = a1 then (nI i) else (gX6_ranked_L2 f a1 fu (i + 1))))
def gX6_ranked (f : FS) (a1 : Int32) : Int32 := (gX6_ranked_L2 f a1 ((f 4).toNatClampNeg) 0)
set_option maxHeartbeats 4000000 in
set_option maxRecDepth 100000 in
theorem mX6_ranked (l : Launch) (D : va_G) (ck : Nat → ClassId) (ma : Nat → Nat) (M : FS) (f : FS) (a1 : Int32) (hbi : bI f) : xMi l yX6_ranked wsX6_ranked rmX6_ranked D ck [.ref (ma 0), .int a1] (coreW ck ma M f) (coreW ck ma M f) (gX6_ranked f a1) 0 0 := by
  refine xMet (by decide) rfl (Nat.le_of_ble_eq_true rfl) ?_
  intro zp ze s zm zb zt zc hx hb hr hml hown hts hlk hnm hN hK hP hD ls hl
  have hown : s.vm.findClass RX6 = some zm.cls := hown
  have hl : lv_has ls 3 [(0, .ref (ma 0)), (1, .int a1)] := hl
  have hS : va_S (va_A (coreW ck ma M f) s.heap.size) s.heap s.heap [] := va_S.rf
  have hA : ∀ zq : Nat, s.heap.size ≤ zq → va_A (coreW ck ma M f) s.heap.size zq := fun zq h => Or.inr h
  have hinX6 : ∀ w ∈ u_ws RX6 TX6 13, w ∈ wsX6_ranked := by decide +kernel
  have hb1 := hbi.1
  refine lv_iconst (v := (nI 0)) hx hb dX6_ranked_0 (by decide) ?_
  refine lv_istore_n (lv' := [(2, .int (nI 0)), (0, .ref (ma 0)), (1, .int a1)]) hx hb dX6_ranked_1 rfl hl (by decide) rfl (fun ls hl => ?_)
  have loop2 : ∀ (fu : Nat) (i : Nat), (i + fu = (f 4).toNatClampNeg) → gX6_ranked f a1 = gX6_ranked_L2 f a1 fu i → ∀ (H : Heap) (locs : List Loc) (ls : Array Slot), va_P D vwCl (coreW ck ma M f) H → va_D (va_A (coreW ck ma M f) s.heap.size) (coreW ck ma M f) → va_S (va_A (coreW ck ma M f) s.heap.size) s.heap H locs → lv_has ls 3 [(0, .ref (ma 0)), (1, .int a1), (2, .int (nI i))] → W zp l ze rmX6_ranked s zm ([.ref (ma 0), .int a1] : List Value).toArray zb zt zc H locs 0 0 (MQ zb (xQi D (coreW ck ma M f) (coreW ck ma M f) (gX6_ranked f a1) s.heap.size) ([.ref (ma 0), .int a1] : List Value).toArray s 0 0 (va_A (coreW ck ma M f) s.heap.size)) (F0 zm 2 ls []) := by
    intro fu
    induction fu with
    | zero =>
      intro i hif hg H locs ls hP hD hS hl
      refine lv_iload_n hx hb dX6_ranked_2 rfl (lv_at hl 2 rfl) ?_
      refine lv_aload_n hx hb dX6_ranked_3 rfl (lv_at hl 0 rfl) ?_
      refine va_get (D := D) (ci := 6) (v := .ref (ma 1)) (C := RX6) (T := TX6) (N := 13) hx hb hts hinX6 hown hK hP 0 rfl rfl 0 (by decide) (hts (.fieldLink RX6 7 "JoinGrantsModel" "all" "[I") (List.mem_of_getElem? (i := 1) rfl)) (fun _ h9 => h9) rfl dX6_ranked_4 ?_
      refine lv_iconst (v := 4) hx hb dX6_ranked_7 (by decide) ?_
      refine xiald (j := 4) (by decide) hx hb hK hP 1 0 rfl rfl (show vp_in 4 153 from by unfold vp_in; decide) dX6_ranked_8 ?_
      refine lv_icmp_ge (tgt := 38) hx hb dX6_ranked_9 (by decide) (fun c_9 => ?_) (fun c_9 => ?_)
      · --t
        refine lv_bipush (v := (-5)) hx hb dX6_ranked_38 (by decide) ?_
        exact xiret hx hb hr hlk hP hD hS (hg.trans (show gX6_ranked_L2 f a1 0 i = (-5) from rfl)).symm rfl dX6_ranked_40
      · --f
        exact absurd (cl_le (by omega) (by have := hbi.1; omega)) c_9
    | succ fu ih2 =>
      intro i hif hg H locs ls hP hD hS hl
      refine lv_iload_n hx hb dX6_ranked_2 rfl (lv_at hl 2 rfl) ?_
      refine lv_aload_n hx hb dX6_ranked_3 rfl (lv_at hl 0 rfl) ?_
      refine va_get (D := D) (ci := 6) (v := .ref (ma 1)) (C := RX6) (T := TX6) (N := 13) hx hb hts hinX6 hown hK hP 0 rfl rfl 0 (by decide) (hts (.fieldLink RX6 7 "JoinGrantsModel" "all" "[I") (List.mem_of_getElem? (i := 1) rfl)) (fun _ h9 => h9) rfl dX6_ranked_4 ?_
      refine lv_iconst (v := 4) hx hb dX6_ranked_7 (by decide) ?_
      refine xiald (j := 4) (by decide) hx hb hK hP 1 0 rfl rfl (show vp_in 4 153 from by unfold vp_in; decide) dX6_ranked_8 ?_
      refine lv_icmp_ge (tgt := 38) hx hb dX6_ranked_9 (by decide) (fun c_9 => ?_) (fun c_9 => ?_)
      · --t
        exact absurd c_9 (cl_lt (by omega))
      · --f
        refine lv_aload_n hx hb dX6_ranked_12 rfl (lv_at hl 0 rfl) ?_
        refine lv_iload_n hx hb dX6_ranked_13 rfl (lv_at hl 2 rfl) ?_
        refine lv_iconst (v := 0) hx hb dX6_ranked_14 (by decide) ?_
        refine xreti (va_runV (As := [.int (nI i), .int 0]) (rest := []) ⟨hx, hb, hml, hown, hts⟩ (mX6_is l D ck ma M f (nI i) i rfl (by omega) 0  _) (cwV 2 hts gX6_ranked_X6_is rfl rfl rfl (by decide +kernel) ⟨Nat.le_of_ble_eq_true rfl, Nat.le_of_ble_eq_true rfl⟩) (xpreV hN hK hP hD pm_all 0 rfl rfl rfl) rfl rfl hl.1 rfl (lv_room (Nat.le_of_ble_eq_true rfl)) dX6_ranked_15 ⟨Nat.le_of_ble_eq_true rfl, Nat.le_of_ble_eq_true rfl⟩) hP hD hS hA pm_all pm_all' (fun H locs hP hD hS => ?_)
        refine lv_if_eq (tgt := 32) hx hb dX6_ranked_18 (by decide) (fun c_18 => ?_) (fun c_18 => ?_)
        · --t
          refine lv_iinc (v := (nI (i + 1))) (lv' := [(2, .int (nI (i + 1))), (0, .ref (ma 0)), (1, .int a1)]) hx hb dX6_ranked_32 hl (k := 2) rfl (nI_1 i) (by decide) rfl (fun ls hl => ?_)
          refine lv_goto (tgt := 2) hx hb dX6_ranked_35 (by decide) ?_
          exact ih2 (i + 1) (by omega) (hg.trans (show gX6_ranked_L2 f a1 (fu + 1) i = (gX6_ranked_L2 f a1 fu (i + 1)) from (Eq.trans (if_pos c_18) rfl))) _ _ _ hP hD hS (lv_sub hl [1, 2, 0] rfl)
        · --f
          refine lv_aload_n hx hb dX6_ranked_21 rfl (lv_at hl 0 rfl) ?_
          refine lv_iload_n hx hb dX6_ranked_22 rfl (lv_at hl 2 rfl) ?_
          refine xreti (va_runV (As := [.int (nI i)]) (rest := []) ⟨hx, hb, hml, hown, hts⟩ (mX6_rankOf l D ck ma M f (nI i) i rfl (by omega) hbi _) (cwV 1 hts gX6_ranked_X6_rankOf rfl rfl rfl (by decide +kernel) ⟨Nat.le_of_ble_eq_true rfl, Nat.le_of_ble_eq_true rfl⟩) (xpreV hN hK hP hD pm_all 0 rfl rfl rfl) rfl rfl hl.1 rfl (lv_room (Nat.le_of_ble_eq_true rfl)) dX6_ranked_23 ⟨Nat.le_of_ble_eq_true rfl, Nat.le_of_ble_eq_true rfl⟩) hP hD hS hA pm_all pm_all' (fun H locs hP hD hS => ?_)
          refine lv_iload_n hx hb dX6_ranked_26 rfl (lv_at hl 1 rfl) ?_
          refine lv_icmp_ne (tgt := 32) hx hb dX6_ranked_27 (by decide) (fun c_27 => ?_) (fun c_27 => ?_)
          · --t
            refine lv_iinc (v := (nI (i + 1))) (lv' := [(2, .int (nI (i + 1))), (0, .ref (ma 0)), (1, .int a1)]) hx hb dX6_ranked_32 hl (k := 2) rfl (nI_1 i) (by decide) rfl (fun ls hl => ?_)
            refine lv_goto (tgt := 2) hx hb dX6_ranked_35 (by decide) ?_
            exact ih2 (i + 1) (by omega) (hg.trans (show gX6_ranked_L2 f a1 (fu + 1) i = (gX6_ranked_L2 f a1 fu (i + 1)) from (Eq.trans (if_neg c_18) (Eq.trans (if_neg c_27) rfl)))) _ _ _ hP hD hS (lv_sub hl [1, 2, 0] rfl)
          · --f
            refine lv_iload_n hx hb dX6_ranked_30 rfl (lv_at hl 2 rfl) ?_
            exact xiret hx hb hr hlk hP hD hS (hg.trans (show gX6_ranked_L2 f a1 (fu + 1) i = (nI i) from (Eq.trans (if_neg c_18) (Eq.trans (if_pos c_27) rfl)))).symm rfl dX6_ranked_31
  exact loop2 ((f 4).toNatClampNeg) 0 (by omega) (show gX6_ranked f a1 = (gX6_ranked_L2 f a1 ((f 4).toNatClampNeg) 0) from rfl) _ _ _ hP hD hS (lv_sub hl [1, 2, 0] rfl)

def rmX6_manyWith : Room := { frames := 2, cells := 0, slots := 0, locals := 44 }
def gX6_manyWith_L4 (f : FS) (a1 : Int32) : Nat → Nat → Int32 → Int32
  | 0, i, x9 => x9
  | fu + 1, i, x9 => (if (gX6_is f i a1) = 0 then (gX6_manyWith_L4 f a1 fu (i + 1) (x9 + 0)) else (gX6_manyWith_L4 f a1 fu (i + 1) (x9 + 1)))
def gX6_manyWith (f : FS) (a1 : Int32) : Int32 := (gX6_manyWith_L4 f a1 ((f 4).toNatClampNeg) 0 0)
set_option maxHeartbeats 4000000 in
set_option maxRecDepth 100000 in
theorem mX6_manyWith (l : Launch) (D : va_G) (ck : Nat → ClassId) (ma : Nat → Nat) (M : FS) (f : FS) (a1 : Int32) (hbi : bI f) : xMi l yX6_manyWith wsX6_manyWith rmX6_manyWith D ck [.ref (ma 0), .int a1] (coreW ck ma M f) (coreW ck ma M f) (gX6_manyWith f a1) 0 0 := by
  refine xMet (by decide) rfl (Nat.le_of_ble_eq_true rfl) ?_
  intro zp ze s zm zb zt zc hx hb hr hml hown hts hlk hnm hN hK hP hD ls hl
  have hown : s.vm.findClass RX6 = some zm.cls := hown
  have hl : lv_has ls 4 [(0, .ref (ma 0)), (1, .int a1)] := hl
  have hS : va_S (va_A (coreW ck ma M f) s.heap.size) s.heap s.heap [] := va_S.rf
  have hA : ∀ zq : Nat, s.heap.size ≤ zq → va_A (coreW ck ma M f) s.heap.size zq := fun zq h => Or.inr h
  have hinX6 : ∀ w ∈ u_ws RX6 TX6 13, w ∈ wsX6_manyWith := by decide +kernel
  have hb1 := hbi.1
  refine lv_iconst (v := 0) hx hb dX6_manyWith_0 (by decide) ?_
  refine lv_istore_n (lv' := [(2, .int 0), (0, .ref (ma 0)), (1, .int a1)]) hx hb dX6_manyWith_1 rfl hl (by decide) rfl (fun ls hl => ?_)
  refine lv_iconst (v := (nI 0)) hx hb dX6_manyWith_2 (by decide) ?_
  refine lv_istore_n (lv' := [(3, .int (nI 0)), (2, .int 0), (0, .ref (ma 0)), (1, .int a1)]) hx hb dX6_manyWith_3 rfl hl (by decide) rfl (fun ls hl => ?_)
  have loop4 : ∀ (fu : Nat) (i : Nat) (x9 : Int32), (i + fu = (f 4).toNatClampNeg) → gX6_manyWith f a1 = gX6_manyWith_L4 f a1 fu i x9 → ∀ (H : Heap) (locs : List Loc) (ls : Array Slot), va_P D vwCl (coreW ck ma M f) H → va_D (va_A (coreW ck ma M f) s.heap.size) (coreW ck ma M f) → va_S (va_A (coreW ck ma M f) s.heap.size) s.heap H locs → lv_has ls 4 [(0, .ref (ma 0)), (1, .int a1), (2, .int x9), (3, .int (nI i))] → W zp l ze rmX6_manyWith s zm ([.ref (ma 0), .int a1] : List Value).toArray zb zt zc H locs 0 0 (MQ zb (xQi D (coreW ck ma M f) (coreW ck ma M f) (gX6_manyWith f a1) s.heap.size) ([.ref (ma 0), .int a1] : List Value).toArray s 0 0 (va_A (coreW ck ma M f) s.heap.size)) (F0 zm 4 ls []) := by
    intro fu
    induction fu with
    | zero =>
      intro i x9 hif hg H locs ls hP hD hS hl
      refine lv_iload_n hx hb dX6_manyWith_4 rfl (lv_at hl 3 rfl) ?_
      refine lv_aload_n hx hb dX6_manyWith_5 rfl (lv_at hl 0 rfl) ?_
      refine va_get (D := D) (ci := 6) (v := .ref (ma 1)) (C := RX6) (T := TX6) (N := 13) hx hb hts hinX6 hown hK hP 0 rfl rfl 0 (by decide) (hts (.fieldLink RX6 7 "JoinGrantsModel" "all" "[I") (List.mem_of_getElem? (i := 1) rfl)) (fun _ h9 => h9) rfl dX6_manyWith_6 ?_
      refine lv_iconst (v := 4) hx hb dX6_manyWith_9 (by decide) ?_
      refine xiald (j := 4) (by decide) hx hb hK hP 1 0 rfl rfl (show vp_in 4 153 from by unfold vp_in; decide) dX6_manyWith_10 ?_
      refine lv_icmp_ge (tgt := 37) hx hb dX6_manyWith_11 (by decide) (fun c_11 => ?_) (fun c_11 => ?_)
      · --t
        refine lv_iload_n hx hb dX6_manyWith_37 rfl (lv_at hl 2 rfl) ?_
        exact xiret hx hb hr hlk hP hD hS (hg.trans (show gX6_manyWith_L4 f a1 0 i x9 = x9 from rfl)).symm rfl dX6_manyWith_38
      · --f
        exact absurd (cl_le (by omega) (by have := hbi.1; omega)) c_11
    | succ fu ih4 =>
      intro i x9 hif hg H locs ls hP hD hS hl
      refine lv_iload_n hx hb dX6_manyWith_4 rfl (lv_at hl 3 rfl) ?_
      refine lv_aload_n hx hb dX6_manyWith_5 rfl (lv_at hl 0 rfl) ?_
      refine va_get (D := D) (ci := 6) (v := .ref (ma 1)) (C := RX6) (T := TX6) (N := 13) hx hb hts hinX6 hown hK hP 0 rfl rfl 0 (by decide) (hts (.fieldLink RX6 7 "JoinGrantsModel" "all" "[I") (List.mem_of_getElem? (i := 1) rfl)) (fun _ h9 => h9) rfl dX6_manyWith_6 ?_
      refine lv_iconst (v := 4) hx hb dX6_manyWith_9 (by decide) ?_
      refine xiald (j := 4) (by decide) hx hb hK hP 1 0 rfl rfl (show vp_in 4 153 from by unfold vp_in; decide) dX6_manyWith_10 ?_
      refine lv_icmp_ge (tgt := 37) hx hb dX6_manyWith_11 (by decide) (fun c_11 => ?_) (fun c_11 => ?_)
      · --t
        exact absurd c_11 (cl_lt (by omega))
      · --f
        refine lv_iload_n hx hb dX6_manyWith_14 rfl (lv_at hl 2 rfl) ?_
        refine lv_aload_n hx hb dX6_manyWith_15 rfl (lv_at hl 0 rfl) ?_
        refine lv_iload_n hx hb dX6_manyWith_16 rfl (lv_at hl 3 rfl) ?_
        refine lv_iload_n hx hb dX6_manyWith_17 rfl (lv_at hl 1 rfl) ?_
        refine xreti (va_runV (As := [.int (nI i), .int a1]) (rest := [.int x9]) ⟨hx, hb, hml, hown, hts⟩ (mX6_is l D ck ma M f (nI i) i rfl (by omega) a1  _) (cwV 2 hts gX6_manyWith_X6_is rfl rfl rfl (by decide +kernel) ⟨Nat.le_of_ble_eq_true rfl, Nat.le_of_ble_eq_true rfl⟩) (xpreV hN hK hP hD pm_all 0 rfl rfl rfl) rfl rfl hl.1 rfl (lv_room (Nat.le_of_ble_eq_true rfl)) dX6_manyWith_18 ⟨Nat.le_of_ble_eq_true rfl, Nat.le_of_ble_eq_true rfl⟩) hP hD hS hA pm_all pm_all' (fun H locs hP hD hS => ?_)
        refine lv_if_eq (tgt := 28) hx hb dX6_manyWith_21 (by decide) (fun c_21 => ?_) (fun c_21 => ?_)
        · --t
          refine lv_iconst (v := 0) hx hb dX6_manyWith_28 (by decide) ?_
          refine lv_iadd hx hb dX6_manyWith_29 ?_
          refine lv_istore_n (lv' := [(2, .int (x9 + 0)), (0, .ref (ma 0)), (1, .int a1), (3, .int (nI i))]) hx hb dX6_manyWith_30 rfl hl (by decide) rfl (fun ls hl => ?_)
          refine lv_iinc (v := (nI (i + 1))) (lv' := [(3, .int (nI (i + 1))), (2, .int (x9 + 0)), (0, .ref (ma 0)), (1, .int a1)]) hx hb dX6_manyWith_31 hl (k := 3) rfl (nI_1 i) (by decide) rfl (fun ls hl => ?_)
          refine lv_goto (tgt := 4) hx hb dX6_manyWith_34 (by decide) ?_
          exact ih4 (i + 1) (x9 + 0) (by omega) (hg.trans (show gX6_manyWith_L4 f a1 (fu + 1) i x9 = (gX6_manyWith_L4 f a1 fu (i + 1) (x9 + 0)) from (Eq.trans (if_pos c_21) rfl))) _ _ _ hP hD hS (lv_sub hl [2, 3, 1, 0] rfl)
        · --f
          refine lv_iconst (v := 1) hx hb dX6_manyWith_24 (by decide) ?_
          refine lv_goto (tgt := 29) hx hb dX6_manyWith_25 (by decide) ?_
          refine lv_iadd hx hb dX6_manyWith_29 ?_
          refine lv_istore_n (lv' := [(2, .int (x9 + 1)), (0, .ref (ma 0)), (1, .int a1), (3, .int (nI i))]) hx hb dX6_manyWith_30 rfl hl (by decide) rfl (fun ls hl => ?_)
          refine lv_iinc (v := (nI (i + 1))) (lv' := [(3, .int (nI (i + 1))), (2, .int (x9 + 1)), (0, .ref (ma 0)), (1, .int a1)]) hx hb dX6_manyWith_31 hl (k := 3) rfl (nI_1 i) (by decide) rfl (fun ls hl => ?_)
          refine lv_goto (tgt := 4) hx hb dX6_manyWith_34 (by decide) ?_
          exact ih4 (i + 1) (x9 + 1) (by omega) (hg.trans (show gX6_manyWith_L4 f a1 (fu + 1) i x9 = (gX6_manyWith_L4 f a1 fu (i + 1) (x9 + 1)) from (Eq.trans (if_neg c_21) rfl))) _ _ _ hP hD hS (lv_sub hl [2, 3, 1, 0] rfl)
  exact loop4 ((f 4).toNatClampNeg) 0 0 (by omega) (show gX6_manyWith f a1 = (gX6_manyWith_L4 f a1 ((f 4).toNatClampNeg) 0 0) from rfl) _ _ _ hP hD hS (lv_sub hl [2, 3, 1, 0] rfl)

def rmX6_spills : Room := { frames := 4, cells := 0, slots := 0, locals := 88 }
def gX6_spills (f : FS) (a1 : Nat) : Int32 := (if (gX6_is f a1 1) = 0 then 0 else (if (gX6_of f a1 0) = 0 then 0 else (if (gX6_wants f a1) ≤ (gX6_of f a1 4) then 0 else 1)))
set_option maxHeartbeats 4000000 in
set_option maxRecDepth 100000 in
theorem mX6_spills (l : Launch) (D : va_G) (ck : Nat → ClassId) (ma : Nat → Nat) (M : FS) (f : FS) (x1 : Int32) (a1 : Nat) (e1 : x1 = nI a1) (h1 : a1 < 16) (hbi : bI f) : xMi l yX6_spills wsX6_spills rmX6_spills D ck [.ref (ma 0), .int x1] (coreW ck ma M f) (coreW ck ma M f) (gX6_spills f a1) 0 0 := by
  refine xMet (by decide) rfl (Nat.le_of_ble_eq_true rfl) ?_
  intro zp ze s zm zb zt zc hx hb hr hml hown hts hlk hnm hN hK hP hD ls hl
  have hown : s.vm.findClass RX6 = some zm.cls := hown
  subst e1
  have hl : lv_has ls 2 [(0, .ref (ma 0)), (1, .int (nI a1))] := hl
  have hS : va_S (va_A (coreW ck ma M f) s.heap.size) s.heap s.heap [] := va_S.rf
  have hA : ∀ zq : Nat, s.heap.size ≤ zq → va_A (coreW ck ma M f) s.heap.size zq := fun zq h => Or.inr h
  refine lv_aload_n hx hb dX6_spills_0 rfl (lv_at hl 0 rfl) ?_
  refine lv_iload_n hx hb dX6_spills_1 rfl (lv_at hl 1 rfl) ?_
  refine lv_iconst (v := 1) hx hb dX6_spills_2 (by decide) ?_
  refine xreti (va_runV (As := [.int (nI a1), .int 1]) (rest := []) ⟨hx, hb, hml, hown, hts⟩ (mX6_is l D ck ma M f (nI a1) a1 rfl (by omega) 1  _) (cwV 2 hts gX6_spills_X6_is rfl rfl rfl (by decide +kernel) ⟨Nat.le_of_ble_eq_true rfl, Nat.le_of_ble_eq_true rfl⟩) (xpreV hN hK hP hD pm_all 0 rfl rfl rfl) rfl rfl hl.1 rfl (lv_room (Nat.le_of_ble_eq_true rfl)) dX6_spills_3 ⟨Nat.le_of_ble_eq_true rfl, Nat.le_of_ble_eq_true rfl⟩) hP hD hS hA pm_all pm_all' (fun H locs hP hD hS => ?_)
  refine lv_if_eq (tgt := 36) hx hb dX6_spills_6 (by decide) (fun c_6 => ?_) (fun c_6 => ?_)
  · --t
    refine lv_iconst (v := 0) hx hb dX6_spills_36 (by decide) ?_
    exact xzret hx hb hr hlk hP hD hS (Or.inl rfl) (show gX6_spills f a1 = 0 from (Eq.trans (if_pos c_6) rfl)).symm rfl dX6_spills_37
  · --f
    refine lv_aload_n hx hb dX6_spills_9 rfl (lv_at hl 0 rfl) ?_
    refine lv_iload_n hx hb dX6_spills_10 rfl (lv_at hl 1 rfl) ?_
    refine lv_iconst (v := 0) hx hb dX6_spills_11 (by decide) ?_
    refine xreti (va_runV (As := [.int (nI a1), .int 0]) (rest := []) ⟨hx, hb, hml, hown, hts⟩ (mX6_of l D ck ma M f (nI a1) a1 rfl (by omega) 0 0 rfl (by omega)  _) (cwV 2 hts gX6_spills_X6_of rfl rfl rfl (by decide +kernel) ⟨Nat.le_of_ble_eq_true rfl, Nat.le_of_ble_eq_true rfl⟩) (xpreV hN hK hP hD pm_all 0 rfl rfl rfl) rfl rfl hl.1 rfl (lv_room (Nat.le_of_ble_eq_true rfl)) dX6_spills_12 ⟨Nat.le_of_ble_eq_true rfl, Nat.le_of_ble_eq_true rfl⟩) hP hD hS hA pm_all pm_all' (fun H locs hP hD hS => ?_)
    refine lv_if_eq (tgt := 36) hx hb dX6_spills_15 (by decide) (fun c_15 => ?_) (fun c_15 => ?_)
    · --t
      refine lv_iconst (v := 0) hx hb dX6_spills_36 (by decide) ?_
      exact xzret hx hb hr hlk hP hD hS (Or.inl rfl) (show gX6_spills f a1 = 0 from (Eq.trans (if_neg c_6) (Eq.trans (if_pos c_15) rfl))).symm rfl dX6_spills_37
    · --f
      refine lv_aload_n hx hb dX6_spills_18 rfl (lv_at hl 0 rfl) ?_
      refine lv_iload_n hx hb dX6_spills_19 rfl (lv_at hl 1 rfl) ?_
      refine lv_iconst (v := 4) hx hb dX6_spills_20 (by decide) ?_
      refine xreti (va_runV (As := [.int (nI a1), .int 4]) (rest := []) ⟨hx, hb, hml, hown, hts⟩ (mX6_of l D ck ma M f (nI a1) a1 rfl (by omega) 4 4 rfl (by omega)  _) (cwV 2 hts gX6_spills_X6_of rfl rfl rfl (by decide +kernel) ⟨Nat.le_of_ble_eq_true rfl, Nat.le_of_ble_eq_true rfl⟩) (xpreV hN hK hP hD pm_all 0 rfl rfl rfl) rfl rfl hl.1 rfl (lv_room (Nat.le_of_ble_eq_true rfl)) dX6_spills_21 ⟨Nat.le_of_ble_eq_true rfl, Nat.le_of_ble_eq_true rfl⟩) hP hD hS hA pm_all pm_all' (fun H locs hP hD hS => ?_)
      refine lv_aload_n hx hb dX6_spills_24 rfl (lv_at hl 0 rfl) ?_
      refine lv_iload_n hx hb dX6_spills_25 rfl (lv_at hl 1 rfl) ?_
      refine xreti (va_runV (As := [.int (nI a1)]) (rest := [.int (gX6_of f a1 4)]) ⟨hx, hb, hml, hown, hts⟩ (mX6_wants l D ck ma M f (nI a1) a1 rfl (by omega) hbi _) (cwV 1 hts gX6_spills_X6_wants rfl rfl rfl (by decide +kernel) ⟨Nat.le_of_ble_eq_true rfl, Nat.le_of_ble_eq_true rfl⟩) (xpreV hN hK hP hD pm_all 0 rfl rfl rfl) rfl rfl hl.1 rfl (lv_room (Nat.le_of_ble_eq_true rfl)) dX6_spills_26 ⟨Nat.le_of_ble_eq_true rfl, Nat.le_of_ble_eq_true rfl⟩) hP hD hS hA pm_all pm_all' (fun H locs hP hD hS => ?_)
      refine lv_icmp_ge (tgt := 36) hx hb dX6_spills_29 (by decide) (fun c_29 => ?_) (fun c_29 => ?_)
      · --t
        refine lv_iconst (v := 0) hx hb dX6_spills_36 (by decide) ?_
        exact xzret hx hb hr hlk hP hD hS (Or.inl rfl) (show gX6_spills f a1 = 0 from (Eq.trans (if_neg c_6) (Eq.trans (if_neg c_15) (Eq.trans (if_pos c_29) rfl)))).symm rfl dX6_spills_37
      · --f
        refine lv_iconst (v := 1) hx hb dX6_spills_32 (by decide) ?_
        refine lv_goto (tgt := 37) hx hb dX6_spills_33 (by decide) ?_
        exact xzret hx hb hr hlk hP hD hS (Or.inr rfl) (show gX6_spills f a1 = 1 from (Eq.trans (if_neg c_6) (Eq.trans (if_neg c_15) (Eq.trans (if_neg c_29) rfl)))).symm rfl dX6_spills_37

def rmX6_spilling : Room := { frames := 5, cells := 0, slots := 0, locals := 109 }
def gX6_spilling_L4 (f : FS) : Nat → Nat → Int32 → Int32
  | 0, i, x9 => x9
  | fu + 1, i, x9 => (if (gX6_spills f i) = 0 then (gX6_spilling_L4 f fu (i + 1) (x9 + 0)) else (gX6_spilling_L4 f fu (i + 1) (x9 + 1)))
def gX6_spilling (f : FS) : Int32 := (gX6_spilling_L4 f ((f 4).toNatClampNeg) 0 0)
set_option maxHeartbeats 4000000 in
set_option maxRecDepth 100000 in
theorem mX6_spilling (l : Launch) (D : va_G) (ck : Nat → ClassId) (ma : Nat → Nat) (M : FS) (f : FS)  (hbi : bI f) : xMi l yX6_spilling wsX6_spilling rmX6_spilling D ck [.ref (ma 0)] (coreW ck ma M f) (coreW ck ma M f) (gX6_spilling f) 0 0 := by
  refine xMet (by decide) rfl (Nat.le_of_ble_eq_true rfl) ?_
  intro zp ze s zm zb zt zc hx hb hr hml hown hts hlk hnm hN hK hP hD ls hl
  have hown : s.vm.findClass RX6 = some zm.cls := hown
  have hl : lv_has ls 3 [(0, .ref (ma 0))] := hl
  have hS : va_S (va_A (coreW ck ma M f) s.heap.size) s.heap s.heap [] := va_S.rf
  have hA : ∀ zq : Nat, s.heap.size ≤ zq → va_A (coreW ck ma M f) s.heap.size zq := fun zq h => Or.inr h
  have hinX6 : ∀ w ∈ u_ws RX6 TX6 13, w ∈ wsX6_spilling := by decide +kernel
  have hb1 := hbi.1
  refine lv_iconst (v := 0) hx hb dX6_spilling_0 (by decide) ?_
  refine lv_istore_n (lv' := [(1, .int 0), (0, .ref (ma 0))]) hx hb dX6_spilling_1 rfl hl (by decide) rfl (fun ls hl => ?_)
  refine lv_iconst (v := (nI 0)) hx hb dX6_spilling_2 (by decide) ?_
  refine lv_istore_n (lv' := [(2, .int (nI 0)), (1, .int 0), (0, .ref (ma 0))]) hx hb dX6_spilling_3 rfl hl (by decide) rfl (fun ls hl => ?_)
  have loop4 : ∀ (fu : Nat) (i : Nat) (x9 : Int32), (i + fu = (f 4).toNatClampNeg) → gX6_spilling f = gX6_spilling_L4 f fu i x9 → ∀ (H : Heap) (locs : List Loc) (ls : Array Slot), va_P D vwCl (coreW ck ma M f) H → va_D (va_A (coreW ck ma M f) s.heap.size) (coreW ck ma M f) → va_S (va_A (coreW ck ma M f) s.heap.size) s.heap H locs → lv_has ls 3 [(0, .ref (ma 0)), (1, .int x9), (2, .int (nI i))] → W zp l ze rmX6_spilling s zm ([.ref (ma 0)] : List Value).toArray zb zt zc H locs 0 0 (MQ zb (xQi D (coreW ck ma M f) (coreW ck ma M f) (gX6_spilling f) s.heap.size) ([.ref (ma 0)] : List Value).toArray s 0 0 (va_A (coreW ck ma M f) s.heap.size)) (F0 zm 4 ls []) := by
    intro fu
    induction fu with
    | zero =>
      intro i x9 hif hg H locs ls hP hD hS hl
      refine lv_iload_n hx hb dX6_spilling_4 rfl (lv_at hl 2 rfl) ?_
      refine lv_aload_n hx hb dX6_spilling_5 rfl (lv_at hl 0 rfl) ?_
      refine va_get (D := D) (ci := 6) (v := .ref (ma 1)) (C := RX6) (T := TX6) (N := 13) hx hb hts hinX6 hown hK hP 0 rfl rfl 0 (by decide) (hts (.fieldLink RX6 7 "JoinGrantsModel" "all" "[I") (List.mem_of_getElem? (i := 1) rfl)) (fun _ h9 => h9) rfl dX6_spilling_6 ?_
      refine lv_iconst (v := 4) hx hb dX6_spilling_9 (by decide) ?_
      refine xiald (j := 4) (by decide) hx hb hK hP 1 0 rfl rfl (show vp_in 4 153 from by unfold vp_in; decide) dX6_spilling_10 ?_
      refine lv_icmp_ge (tgt := 36) hx hb dX6_spilling_11 (by decide) (fun c_11 => ?_) (fun c_11 => ?_)
      · --t
        refine lv_iload_n hx hb dX6_spilling_36 rfl (lv_at hl 1 rfl) ?_
        exact xiret hx hb hr hlk hP hD hS (hg.trans (show gX6_spilling_L4 f 0 i x9 = x9 from rfl)).symm rfl dX6_spilling_37
      · --f
        exact absurd (cl_le (by omega) (by have := hbi.1; omega)) c_11
    | succ fu ih4 =>
      intro i x9 hif hg H locs ls hP hD hS hl
      refine lv_iload_n hx hb dX6_spilling_4 rfl (lv_at hl 2 rfl) ?_
      refine lv_aload_n hx hb dX6_spilling_5 rfl (lv_at hl 0 rfl) ?_
      refine va_get (D := D) (ci := 6) (v := .ref (ma 1)) (C := RX6) (T := TX6) (N := 13) hx hb hts hinX6 hown hK hP 0 rfl rfl 0 (by decide) (hts (.fieldLink RX6 7 "JoinGrantsModel" "all" "[I") (List.mem_of_getElem? (i := 1) rfl)) (fun _ h9 => h9) rfl dX6_spilling_6 ?_
      refine lv_iconst (v := 4) hx hb dX6_spilling_9 (by decide) ?_
      refine xiald (j := 4) (by decide) hx hb hK hP 1 0 rfl rfl (show vp_in 4 153 from by unfold vp_in; decide) dX6_spilling_10 ?_
      refine lv_icmp_ge (tgt := 36) hx hb dX6_spilling_11 (by decide) (fun c_11 => ?_) (fun c_11 => ?_)
      · --t
        exact absurd c_11 (cl_lt (by omega))
      · --f
        refine lv_iload_n hx hb dX6_spilling_14 rfl (lv_at hl 1 rfl) ?_
        refine lv_aload_n hx hb dX6_spilling_15 rfl (lv_at hl 0 rfl) ?_
        refine lv_iload_n hx hb dX6_spilling_16 rfl (lv_at hl 2 rfl) ?_
        refine xreti (va_runV (As := [.int (nI i)]) (rest := [.int x9]) ⟨hx, hb, hml, hown, hts⟩ (mX6_spills l D ck ma M f (nI i) i rfl (by omega) hbi _) (cwV 1 hts gX6_spilling_X6_spills rfl rfl rfl (by decide +kernel) ⟨Nat.le_of_ble_eq_true rfl, Nat.le_of_ble_eq_true rfl⟩) (xpreV hN hK hP hD pm_all 0 rfl rfl rfl) rfl rfl hl.1 rfl (lv_room (Nat.le_of_ble_eq_true rfl)) dX6_spilling_17 ⟨Nat.le_of_ble_eq_true rfl, Nat.le_of_ble_eq_true rfl⟩) hP hD hS hA pm_all pm_all' (fun H locs hP hD hS => ?_)
        refine lv_if_eq (tgt := 27) hx hb dX6_spilling_20 (by decide) (fun c_20 => ?_) (fun c_20 => ?_)
        · --t
          refine lv_iconst (v := 0) hx hb dX6_spilling_27 (by decide) ?_
          refine lv_iadd hx hb dX6_spilling_28 ?_
          refine lv_istore_n (lv' := [(1, .int (x9 + 0)), (0, .ref (ma 0)), (2, .int (nI i))]) hx hb dX6_spilling_29 rfl hl (by decide) rfl (fun ls hl => ?_)
          refine lv_iinc (v := (nI (i + 1))) (lv' := [(2, .int (nI (i + 1))), (1, .int (x9 + 0)), (0, .ref (ma 0))]) hx hb dX6_spilling_30 hl (k := 2) rfl (nI_1 i) (by decide) rfl (fun ls hl => ?_)
          refine lv_goto (tgt := 4) hx hb dX6_spilling_33 (by decide) ?_
          exact ih4 (i + 1) (x9 + 0) (by omega) (hg.trans (show gX6_spilling_L4 f (fu + 1) i x9 = (gX6_spilling_L4 f fu (i + 1) (x9 + 0)) from (Eq.trans (if_pos c_20) rfl))) _ _ _ hP hD hS (lv_sub hl [2, 1, 0] rfl)
        · --f
          refine lv_iconst (v := 1) hx hb dX6_spilling_23 (by decide) ?_
          refine lv_goto (tgt := 28) hx hb dX6_spilling_24 (by decide) ?_
          refine lv_iadd hx hb dX6_spilling_28 ?_
          refine lv_istore_n (lv' := [(1, .int (x9 + 1)), (0, .ref (ma 0)), (2, .int (nI i))]) hx hb dX6_spilling_29 rfl hl (by decide) rfl (fun ls hl => ?_)
          refine lv_iinc (v := (nI (i + 1))) (lv' := [(2, .int (nI (i + 1))), (1, .int (x9 + 1)), (0, .ref (ma 0))]) hx hb dX6_spilling_30 hl (k := 2) rfl (nI_1 i) (by decide) rfl (fun ls hl => ?_)
          refine lv_goto (tgt := 4) hx hb dX6_spilling_33 (by decide) ?_
          exact ih4 (i + 1) (x9 + 1) (by omega) (hg.trans (show gX6_spilling_L4 f (fu + 1) i x9 = (gX6_spilling_L4 f fu (i + 1) (x9 + 1)) from (Eq.trans (if_neg c_20) rfl))) _ _ _ hP hD hS (lv_sub hl [2, 1, 0] rfl)
  exact loop4 ((f 4).toNatClampNeg) 0 0 (by omega) (show gX6_spilling f = (gX6_spilling_L4 f ((f 4).toNatClampNeg) 0 0) from rfl) _ _ _ hP hD hS (lv_sub hl [2, 1, 0] rfl)

def rmX6_spare : Room := { frames := 5, cells := 0, slots := 0, locals := 107 }
def gX6_spare (f : FS) : Int32 := (gX6_spares f )
set_option maxHeartbeats 4000000 in
set_option maxRecDepth 100000 in
theorem mX6_spare (l : Launch) (D : va_G) (ck : Nat → ClassId) (ma : Nat → Nat) (M : FS) (f : FS)  (hbi : bI f) : xMi l yX6_spare wsX6_spare rmX6_spare D ck [.ref (ma 0)] (coreW ck ma M f) (coreW ck ma M f) (gX6_spare f) 0 0 := by
  refine xMet (by decide) rfl (Nat.le_of_ble_eq_true rfl) ?_
  intro zp ze s zm zb zt zc hx hb hr hml hown hts hlk hnm hN hK hP hD ls hl
  have hown : s.vm.findClass RX6 = some zm.cls := hown
  have hl : lv_has ls 1 [(0, .ref (ma 0))] := hl
  have hS : va_S (va_A (coreW ck ma M f) s.heap.size) s.heap s.heap [] := va_S.rf
  have hA : ∀ zq : Nat, s.heap.size ≤ zq → va_A (coreW ck ma M f) s.heap.size zq := fun zq h => Or.inr h
  refine lv_aload_n hx hb dX6_spare_0 rfl (lv_at hl 0 rfl) ?_
  refine xreti (va_runV (As := []) (rest := []) ⟨hx, hb, hml, hown, hts⟩ (mX6_spares l D ck ma M f  hbi _) (cwV 0 hts gX6_spare_X6_spares rfl rfl rfl (by decide +kernel) ⟨Nat.le_of_ble_eq_true rfl, Nat.le_of_ble_eq_true rfl⟩) (xpreV hN hK hP hD pm_all 0 rfl rfl rfl) rfl rfl hl.1 rfl (lv_room (Nat.le_of_ble_eq_true rfl)) dX6_spare_1 ⟨Nat.le_of_ble_eq_true rfl, Nat.le_of_ble_eq_true rfl⟩) hP hD hS hA pm_all pm_all' (fun H locs hP hD hS => ?_)
  exact xiret hx hb hr hlk hP hD hS (show gX6_spare f = (gX6_spares f ) from rfl).symm rfl dX6_spare_4

def rmX6_ends : Room := { frames := 1, cells := 0, slots := 0, locals := 23 }
def gX6_ends (f : FS) (a1 : Nat) (a2 : Int32) : FS := (gX6_sets (gX6_sets (gX6_sets f a1 3 a2) a1 4 0) a1 5 0)
set_option maxHeartbeats 4000000 in
set_option maxRecDepth 100000 in
theorem mX6_ends (l : Launch) (D : va_G) (ck : Nat → ClassId) (ma : Nat → Nat) (M : FS) (f : FS) (x1 : Int32) (a1 : Nat) (e1 : x1 = nI a1) (h1 : a1 < 16) (a2 : Int32) : xMv l yX6_ends wsX6_ends rmX6_ends D ck [.ref (ma 0), .int x1, .int a2] (coreW ck ma M f) (coreW ck ma M (gX6_ends f a1 a2)) 0 0 := by
  refine xMet (by decide) rfl (Nat.le_of_ble_eq_true rfl) ?_
  intro zp ze s zm zb zt zc hx hb hr hml hown hts hlk hnm hN hK hP hD ls hl
  have hown : s.vm.findClass RX6 = some zm.cls := hown
  subst e1
  have hl : lv_has ls 3 [(0, .ref (ma 0)), (1, .int (nI a1)), (2, .int a2)] := hl
  have hS : va_S (va_A (coreW ck ma M f) s.heap.size) s.heap s.heap [] := va_S.rf
  have hA : ∀ zq : Nat, s.heap.size ≤ zq → va_A (coreW ck ma M f) s.heap.size zq := fun zq h => Or.inr h
  refine lv_aload_n hx hb dX6_ends_0 rfl (lv_at hl 0 rfl) ?_
  refine lv_iload_n hx hb dX6_ends_1 rfl (lv_at hl 1 rfl) ?_
  refine lv_iconst (v := 3) hx hb dX6_ends_2 (by decide) ?_
  refine lv_iload_n hx hb dX6_ends_3 rfl (lv_at hl 2 rfl) ?_
  refine xretv (va_runV (As := [.int (nI a1), .int 3, .int a2]) (rest := []) ⟨hx, hb, hml, hown, hts⟩ (mX6_sets l D ck ma M f (nI a1) a1 rfl (by omega) 3 3 rfl (by omega) a2  _) (cwV 3 hts gX6_ends_X6_sets rfl rfl rfl (by decide +kernel) ⟨Nat.le_of_ble_eq_true rfl, Nat.le_of_ble_eq_true rfl⟩) (xpreV hN hK hP hD pm_all 0 rfl rfl rfl) rfl rfl hl.1 rfl (lv_room (Nat.le_of_ble_eq_true rfl)) dX6_ends_4 ⟨Nat.le_of_ble_eq_true rfl, Nat.le_of_ble_eq_true rfl⟩) hP hD hS hA pm_all pm_all' (fun H locs hP hD hS => ?_)
  have hP : va_P D vwCl (coreW ck ma M (gX6_sets f a1 3 a2)) H := hP
  have hD : va_D (va_A (coreW ck ma M f) s.heap.size) (coreW ck ma M (gX6_sets f a1 3 a2)) := hD
  refine lv_aload_n hx hb dX6_ends_7 rfl (lv_at hl 0 rfl) ?_
  refine lv_iload_n hx hb dX6_ends_8 rfl (lv_at hl 1 rfl) ?_
  refine lv_iconst (v := 4) hx hb dX6_ends_9 (by decide) ?_
  refine lv_iconst (v := 0) hx hb dX6_ends_10 (by decide) ?_
  refine xretv (va_runV (As := [.int (nI a1), .int 4, .int 0]) (rest := []) ⟨hx, hb, hml, hown, hts⟩ (mX6_sets l D ck ma M (gX6_sets f a1 3 a2) (nI a1) a1 rfl (by omega) 4 4 rfl (by omega) 0  _) (cwV 3 hts gX6_ends_X6_sets rfl rfl rfl (by decide +kernel) ⟨Nat.le_of_ble_eq_true rfl, Nat.le_of_ble_eq_true rfl⟩) (xpreV hN hK hP hD pm_all 0 rfl rfl rfl) rfl rfl hl.1 rfl (lv_room (Nat.le_of_ble_eq_true rfl)) dX6_ends_11 ⟨Nat.le_of_ble_eq_true rfl, Nat.le_of_ble_eq_true rfl⟩) hP hD hS hA pm_all pm_all' (fun H locs hP hD hS => ?_)
  have hP : va_P D vwCl (coreW ck ma M (gX6_sets (gX6_sets f a1 3 a2) a1 4 0)) H := hP
  have hD : va_D (va_A (coreW ck ma M f) s.heap.size) (coreW ck ma M (gX6_sets (gX6_sets f a1 3 a2) a1 4 0)) := hD
  refine lv_aload_n hx hb dX6_ends_14 rfl (lv_at hl 0 rfl) ?_
  refine lv_iload_n hx hb dX6_ends_15 rfl (lv_at hl 1 rfl) ?_
  refine lv_iconst (v := 5) hx hb dX6_ends_16 (by decide) ?_
  refine lv_iconst (v := 0) hx hb dX6_ends_17 (by decide) ?_
  refine xretv (va_runV (As := [.int (nI a1), .int 5, .int 0]) (rest := []) ⟨hx, hb, hml, hown, hts⟩ (mX6_sets l D ck ma M (gX6_sets (gX6_sets f a1 3 a2) a1 4 0) (nI a1) a1 rfl (by omega) 5 5 rfl (by omega) 0  _) (cwV 3 hts gX6_ends_X6_sets rfl rfl rfl (by decide +kernel) ⟨Nat.le_of_ble_eq_true rfl, Nat.le_of_ble_eq_true rfl⟩) (xpreV hN hK hP hD pm_all 0 rfl rfl rfl) rfl rfl hl.1 rfl (lv_room (Nat.le_of_ble_eq_true rfl)) dX6_ends_18 ⟨Nat.le_of_ble_eq_true rfl, Nat.le_of_ble_eq_true rfl⟩) hP hD hS hA pm_all pm_all' (fun H locs hP hD hS => ?_)
  have hP : va_P D vwCl (coreW ck ma M (gX6_sets (gX6_sets (gX6_sets f a1 3 a2) a1 4 0) a1 5 0)) H := hP
  have hD : va_D (va_A (coreW ck ma M f) s.heap.size) (coreW ck ma M (gX6_sets (gX6_sets (gX6_sets f a1 3 a2) a1 4 0) a1 5 0)) := hD
  exact xvret hx hb hr hlk hP hD hS (congrArg (fun z => coreW ck ma M z) (show gX6_ends f a1 a2 = (gX6_sets (gX6_sets (gX6_sets f a1 3 a2) a1 4 0) a1 5 0) from rfl)).symm dX6_ends_21

def rmX6_givesBack : Room := { frames := 5, cells := 0, slots := 0, locals := 115 }
def gX6_givesBack (f : FS) (a1 : Nat) (a2 : Int32) : FS := (upd (gX6_sets (gX6_sets (gX6_sets f a1 4 ((gX6_of f a1 4) - a2)) a1 5 ((((((((((gX6_of f a1 5)).toInt64) * (((gX6_works f a1 ((gX6_of f a1 4) - a2))).toInt64)) + (((gX6_works f a1 (gX6_of f a1 4))).toInt64)) - 1) / (((gX6_works f a1 (gX6_of f a1 4))).toInt64))).toInt32) + a2)) a1 8 ((gX6_of (gX6_sets (gX6_sets f a1 4 ((gX6_of f a1 4) - a2)) a1 5 ((((((((((gX6_of f a1 5)).toInt64) * (((gX6_works f a1 ((gX6_of f a1 4) - a2))).toInt64)) + (((gX6_works f a1 (gX6_of f a1 4))).toInt64)) - 1) / (((gX6_works f a1 (gX6_of f a1 4))).toInt64))).toInt32) + a2)) a1 8) + a2)) 8 (((gX6_sets (gX6_sets (gX6_sets f a1 4 ((gX6_of f a1 4) - a2)) a1 5 ((((((((((gX6_of f a1 5)).toInt64) * (((gX6_works f a1 ((gX6_of f a1 4) - a2))).toInt64)) + (((gX6_works f a1 (gX6_of f a1 4))).toInt64)) - 1) / (((gX6_works f a1 (gX6_of f a1 4))).toInt64))).toInt32) + a2)) a1 8 ((gX6_of (gX6_sets (gX6_sets f a1 4 ((gX6_of f a1 4) - a2)) a1 5 ((((((((((gX6_of f a1 5)).toInt64) * (((gX6_works f a1 ((gX6_of f a1 4) - a2))).toInt64)) + (((gX6_works f a1 (gX6_of f a1 4))).toInt64)) - 1) / (((gX6_works f a1 (gX6_of f a1 4))).toInt64))).toInt32) + a2)) a1 8) + a2)) 8) + a2))
set_option maxHeartbeats 4000000 in
set_option maxRecDepth 100000 in
theorem mX6_givesBack (l : Launch) (D : va_G) (ck : Nat → ClassId) (ma : Nat → Nat) (M : FS) (f : FS) (x1 : Int32) (a1 : Nat) (e1 : x1 = nI a1) (h1 : a1 < 16) (a2 : Int32) (hbi : bI f) (hq1 : xP3 (gX6_of f a1 4 - a2)) (hq2 : xP3 (gX6_of f a1 4)) (hz : ¬ (gX6_works f a1 (gX6_of f a1 4)).toInt64 = 0) : xMv l yX6_givesBack wsX6_givesBack rmX6_givesBack D ck [.ref (ma 0), .int x1, .int a2] (coreW ck ma M f) (coreW ck ma M (gX6_givesBack f a1 a2)) 0 0 := by
  refine xMet (by decide) rfl (Nat.le_of_ble_eq_true rfl) ?_
  intro zp ze s zm zb zt zc hx hb hr hml hown hts hlk hnm hN hK hP hD ls hl
  have hown : s.vm.findClass RX6 = some zm.cls := hown
  subst e1
  have hl : lv_has ls 7 [(0, .ref (ma 0)), (1, .int (nI a1)), (2, .int a2)] := hl
  have hS : va_S (va_A (coreW ck ma M f) s.heap.size) s.heap s.heap [] := va_S.rf
  have hA : ∀ zq : Nat, s.heap.size ≤ zq → va_A (coreW ck ma M f) s.heap.size zq := fun zq h => Or.inr h
  have hinX6 : ∀ w ∈ u_ws RX6 TX6 13, w ∈ wsX6_givesBack := by decide +kernel
  refine lv_aload_n hx hb dX6_givesBack_0 rfl (lv_at hl 0 rfl) ?_
  refine lv_iload_n hx hb dX6_givesBack_1 rfl (lv_at hl 1 rfl) ?_
  refine lv_iconst (v := 4) hx hb dX6_givesBack_2 (by decide) ?_
  refine xreti (va_runV (As := [.int (nI a1), .int 4]) (rest := []) ⟨hx, hb, hml, hown, hts⟩ (mX6_of l D ck ma M f (nI a1) a1 rfl (by omega) 4 4 rfl (by omega)  _) (cwV 2 hts gX6_givesBack_X6_of rfl rfl rfl (by decide +kernel) ⟨Nat.le_of_ble_eq_true rfl, Nat.le_of_ble_eq_true rfl⟩) (xpreV hN hK hP hD pm_all 0 rfl rfl rfl) rfl rfl hl.1 rfl (lv_room (Nat.le_of_ble_eq_true rfl)) dX6_givesBack_3 ⟨Nat.le_of_ble_eq_true rfl, Nat.le_of_ble_eq_true rfl⟩) hP hD hS hA pm_all pm_all' (fun H locs hP hD hS => ?_)
  refine lv_istore_n (lv' := [(3, .int (gX6_of f a1 4)), (0, .ref (ma 0)), (1, .int (nI a1)), (2, .int a2)]) hx hb dX6_givesBack_6 rfl hl (by decide) rfl (fun ls hl => ?_)
  refine lv_aload_n hx hb dX6_givesBack_7 rfl (lv_at hl 1 rfl) ?_
  refine lv_iload_n hx hb dX6_givesBack_8 rfl (lv_at hl 2 rfl) ?_
  refine lv_iconst (v := 5) hx hb dX6_givesBack_9 (by decide) ?_
  refine xreti (va_runV (As := [.int (nI a1), .int 5]) (rest := []) ⟨hx, hb, hml, hown, hts⟩ (mX6_of l D ck ma M f (nI a1) a1 rfl (by omega) 5 5 rfl (by omega)  _) (cwV 2 hts gX6_givesBack_X6_of rfl rfl rfl (by decide +kernel) ⟨Nat.le_of_ble_eq_true rfl, Nat.le_of_ble_eq_true rfl⟩) (xpreV hN hK hP hD pm_all 0 rfl rfl rfl) rfl rfl hl.1 rfl (lv_room (Nat.le_of_ble_eq_true rfl)) dX6_givesBack_10 ⟨Nat.le_of_ble_eq_true rfl, Nat.le_of_ble_eq_true rfl⟩) hP hD hS hA pm_all pm_all' (fun H locs hP hD hS => ?_)
  refine lv_i2l (v := ((gX6_of f a1 5)).toInt64) hx hb dX6_givesBack_13 rfl ?_
  refine lv_aload_n hx hb dX6_givesBack_14 rfl (lv_at hl 1 rfl) ?_
  refine lv_iload_n hx hb dX6_givesBack_15 rfl (lv_at hl 2 rfl) ?_
  refine lv_iload_n hx hb dX6_givesBack_16 rfl (lv_at hl 0 rfl) ?_
  refine lv_iload_n hx hb dX6_givesBack_17 rfl (lv_at hl 3 rfl) ?_
  refine lv_isub hx hb dX6_givesBack_18 ?_
  refine xreti (va_runV (As := [.int (nI a1), .int ((gX6_of f a1 4) - a2)]) (rest := [.long (((gX6_of f a1 5)).toInt64)]) ⟨hx, hb, hml, hown, hts⟩ (mX6_works l D ck ma M f (nI a1) a1 rfl (by omega) ((gX6_of f a1 4) - a2) hbi hq1 _) (cwV 2 hts gX6_givesBack_X6_works rfl rfl rfl (by decide +kernel) ⟨Nat.le_of_ble_eq_true rfl, Nat.le_of_ble_eq_true rfl⟩) (xpreV hN hK hP hD pm_all 0 rfl rfl rfl) rfl rfl hl.1 rfl (lv_room (Nat.le_of_ble_eq_true rfl)) dX6_givesBack_19 ⟨Nat.le_of_ble_eq_true rfl, Nat.le_of_ble_eq_true rfl⟩) hP hD hS hA pm_all pm_all' (fun H locs hP hD hS => ?_)
  refine lv_i2l (v := ((gX6_works f a1 ((gX6_of f a1 4) - a2))).toInt64) hx hb dX6_givesBack_22 rfl ?_
  refine lv_lmul hx hb dX6_givesBack_23 ?_
  refine lv_lstore (lv' := [(4, .long ((((gX6_of f a1 5)).toInt64) * (((gX6_works f a1 ((gX6_of f a1 4) - a2))).toInt64))), (3, .int (gX6_of f a1 4)), (0, .ref (ma 0)), (1, .int (nI a1)), (2, .int a2)]) hx hb dX6_givesBack_24 hl (by decide) rfl (fun ls hl => ?_)
  refine lv_aload_n hx hb dX6_givesBack_26 rfl (lv_at hl 2 rfl) ?_
  refine lv_iload_n hx hb dX6_givesBack_27 rfl (lv_at hl 3 rfl) ?_
  refine lv_iload_n hx hb dX6_givesBack_28 rfl (lv_at hl 1 rfl) ?_
  refine xreti (va_runV (As := [.int (nI a1), .int (gX6_of f a1 4)]) (rest := []) ⟨hx, hb, hml, hown, hts⟩ (mX6_works l D ck ma M f (nI a1) a1 rfl (by omega) (gX6_of f a1 4) hbi hq2 _) (cwV 2 hts gX6_givesBack_X6_works rfl rfl rfl (by decide +kernel) ⟨Nat.le_of_ble_eq_true rfl, Nat.le_of_ble_eq_true rfl⟩) (xpreV hN hK hP hD pm_all 0 rfl rfl rfl) rfl rfl hl.1 rfl (lv_room (Nat.le_of_ble_eq_true rfl)) dX6_givesBack_29 ⟨Nat.le_of_ble_eq_true rfl, Nat.le_of_ble_eq_true rfl⟩) hP hD hS hA pm_all pm_all' (fun H locs hP hD hS => ?_)
  refine lv_istore (lv' := [(6, .int (gX6_works f a1 (gX6_of f a1 4))), (4, .long ((((gX6_of f a1 5)).toInt64) * (((gX6_works f a1 ((gX6_of f a1 4) - a2))).toInt64))), (3, .int (gX6_of f a1 4)), (0, .ref (ma 0)), (1, .int (nI a1)), (2, .int a2)]) hx hb dX6_givesBack_32 hl (by decide) rfl (fun ls hl => ?_)
  refine lv_aload_n hx hb dX6_givesBack_34 rfl (lv_at hl 3 rfl) ?_
  refine lv_iload_n hx hb dX6_givesBack_35 rfl (lv_at hl 4 rfl) ?_
  refine lv_iconst (v := 4) hx hb dX6_givesBack_36 (by decide) ?_
  refine lv_iload_n hx hb dX6_givesBack_37 rfl (lv_at hl 2 rfl) ?_
  refine lv_iload_n hx hb dX6_givesBack_38 rfl (lv_at hl 5 rfl) ?_
  refine lv_isub hx hb dX6_givesBack_39 ?_
  refine xretv (va_runV (As := [.int (nI a1), .int 4, .int ((gX6_of f a1 4) - a2)]) (rest := []) ⟨hx, hb, hml, hown, hts⟩ (mX6_sets l D ck ma M f (nI a1) a1 rfl (by omega) 4 4 rfl (by omega) ((gX6_of f a1 4) - a2)  _) (cwV 3 hts gX6_givesBack_X6_sets rfl rfl rfl (by decide +kernel) ⟨Nat.le_of_ble_eq_true rfl, Nat.le_of_ble_eq_true rfl⟩) (xpreV hN hK hP hD pm_all 0 rfl rfl rfl) rfl rfl hl.1 rfl (lv_room (Nat.le_of_ble_eq_true rfl)) dX6_givesBack_40 ⟨Nat.le_of_ble_eq_true rfl, Nat.le_of_ble_eq_true rfl⟩) hP hD hS hA pm_all pm_all' (fun H locs hP hD hS => ?_)
  have hP : va_P D vwCl (coreW ck ma M (gX6_sets f a1 4 ((gX6_of f a1 4) - a2))) H := hP
  have hD : va_D (va_A (coreW ck ma M f) s.heap.size) (coreW ck ma M (gX6_sets f a1 4 ((gX6_of f a1 4) - a2))) := hD
  refine lv_aload_n hx hb dX6_givesBack_43 rfl (lv_at hl 3 rfl) ?_
  refine lv_iload_n hx hb dX6_givesBack_44 rfl (lv_at hl 4 rfl) ?_
  refine lv_iconst (v := 5) hx hb dX6_givesBack_45 (by decide) ?_
  refine lv_lload hx hb dX6_givesBack_46 (lv_at hl 1 rfl) ?_
  refine lv_iload hx hb dX6_givesBack_48 (lv_at hl 0 rfl) ?_
  refine lv_i2l (v := ((gX6_works f a1 (gX6_of f a1 4))).toInt64) hx hb dX6_givesBack_50 rfl ?_
  refine lv_ladd hx hb dX6_givesBack_51 ?_
  refine lv_lconst (v := 1) hx hb dX6_givesBack_52 (by decide) ?_
  refine lv_lsub hx hb dX6_givesBack_53 ?_
  refine lv_iload hx hb dX6_givesBack_54 (lv_at hl 0 rfl) ?_
  refine lv_i2l (v := ((gX6_works f a1 (gX6_of f a1 4))).toInt64) hx hb dX6_givesBack_56 rfl ?_
  refine lv_ldiv hx hb dX6_givesBack_57 hz ?_
  refine lv_l2i (v := ((((((((gX6_of f a1 5)).toInt64) * (((gX6_works f a1 ((gX6_of f a1 4) - a2))).toInt64)) + (((gX6_works f a1 (gX6_of f a1 4))).toInt64)) - 1) / (((gX6_works f a1 (gX6_of f a1 4))).toInt64))).toInt32) hx hb dX6_givesBack_58 rfl ?_
  refine lv_iload_n hx hb dX6_givesBack_59 rfl (lv_at hl 5 rfl) ?_
  refine lv_iadd hx hb dX6_givesBack_60 ?_
  refine xretv (va_runV (As := [.int (nI a1), .int 5, .int ((((((((((gX6_of f a1 5)).toInt64) * (((gX6_works f a1 ((gX6_of f a1 4) - a2))).toInt64)) + (((gX6_works f a1 (gX6_of f a1 4))).toInt64)) - 1) / (((gX6_works f a1 (gX6_of f a1 4))).toInt64))).toInt32) + a2)]) (rest := []) ⟨hx, hb, hml, hown, hts⟩ (mX6_sets l D ck ma M (gX6_sets f a1 4 ((gX6_of f a1 4) - a2)) (nI a1) a1 rfl (by omega) 5 5 rfl (by omega) ((((((((((gX6_of f a1 5)).toInt64) * (((gX6_works f a1 ((gX6_of f a1 4) - a2))).toInt64)) + (((gX6_works f a1 (gX6_of f a1 4))).toInt64)) - 1) / (((gX6_works f a1 (gX6_of f a1 4))).toInt64))).toInt32) + a2)  _) (cwV 3 hts gX6_givesBack_X6_sets rfl rfl rfl (by decide +kernel) ⟨Nat.le_of_ble_eq_true rfl, Nat.le_of_ble_eq_true rfl⟩) (xpreV hN hK hP hD pm_all 0 rfl rfl rfl) rfl rfl hl.1 rfl (lv_room (Nat.le_of_ble_eq_true rfl)) dX6_givesBack_61 ⟨Nat.le_of_ble_eq_true rfl, Nat.le_of_ble_eq_true rfl⟩) hP hD hS hA pm_all pm_all' (fun H locs hP hD hS => ?_)
  have hP : va_P D vwCl (coreW ck ma M (gX6_sets (gX6_sets f a1 4 ((gX6_of f a1 4) - a2)) a1 5 ((((((((((gX6_of f a1 5)).toInt64) * (((gX6_works f a1 ((gX6_of f a1 4) - a2))).toInt64)) + (((gX6_works f a1 (gX6_of f a1 4))).toInt64)) - 1) / (((gX6_works f a1 (gX6_of f a1 4))).toInt64))).toInt32) + a2))) H := hP
  have hD : va_D (va_A (coreW ck ma M f) s.heap.size) (coreW ck ma M (gX6_sets (gX6_sets f a1 4 ((gX6_of f a1 4) - a2)) a1 5 ((((((((((gX6_of f a1 5)).toInt64) * (((gX6_works f a1 ((gX6_of f a1 4) - a2))).toInt64)) + (((gX6_works f a1 (gX6_of f a1 4))).toInt64)) - 1) / (((gX6_works f a1 (gX6_of f a1 4))).toInt64))).toInt32) + a2))) := hD
  refine lv_aload_n hx hb dX6_givesBack_64 rfl (lv_at hl 3 rfl) ?_
  refine lv_iload_n hx hb dX6_givesBack_65 rfl (lv_at hl 4 rfl) ?_
  refine lv_bipush (v := 8) hx hb dX6_givesBack_66 (by decide) ?_
  refine lv_aload_n hx hb dX6_givesBack_68 rfl (lv_at hl 3 rfl) ?_
  refine lv_iload_n hx hb dX6_givesBack_69 rfl (lv_at hl 4 rfl) ?_
  refine lv_bipush (v := 8) hx hb dX6_givesBack_70 (by decide) ?_
  refine xreti (va_runV (As := [.int (nI a1), .int 8]) (rest := [.int 8, .int (nI a1), .ref (ma 0)]) ⟨hx, hb, hml, hown, hts⟩ (mX6_of l D ck ma M (gX6_sets (gX6_sets f a1 4 ((gX6_of f a1 4) - a2)) a1 5 ((((((((((gX6_of f a1 5)).toInt64) * (((gX6_works f a1 ((gX6_of f a1 4) - a2))).toInt64)) + (((gX6_works f a1 (gX6_of f a1 4))).toInt64)) - 1) / (((gX6_works f a1 (gX6_of f a1 4))).toInt64))).toInt32) + a2)) (nI a1) a1 rfl (by omega) 8 8 rfl (by omega)  _) (cwV 2 hts gX6_givesBack_X6_of rfl rfl rfl (by decide +kernel) ⟨Nat.le_of_ble_eq_true rfl, Nat.le_of_ble_eq_true rfl⟩) (xpreV hN hK hP hD pm_all 0 rfl rfl rfl) rfl rfl hl.1 rfl (lv_room (Nat.le_of_ble_eq_true rfl)) dX6_givesBack_72 ⟨Nat.le_of_ble_eq_true rfl, Nat.le_of_ble_eq_true rfl⟩) hP hD hS hA pm_all pm_all' (fun H locs hP hD hS => ?_)
  refine lv_iload_n hx hb dX6_givesBack_75 rfl (lv_at hl 5 rfl) ?_
  refine lv_iadd hx hb dX6_givesBack_76 ?_
  refine xretv (va_runV (As := [.int (nI a1), .int 8, .int ((gX6_of (gX6_sets (gX6_sets f a1 4 ((gX6_of f a1 4) - a2)) a1 5 ((((((((((gX6_of f a1 5)).toInt64) * (((gX6_works f a1 ((gX6_of f a1 4) - a2))).toInt64)) + (((gX6_works f a1 (gX6_of f a1 4))).toInt64)) - 1) / (((gX6_works f a1 (gX6_of f a1 4))).toInt64))).toInt32) + a2)) a1 8) + a2)]) (rest := []) ⟨hx, hb, hml, hown, hts⟩ (mX6_sets l D ck ma M (gX6_sets (gX6_sets f a1 4 ((gX6_of f a1 4) - a2)) a1 5 ((((((((((gX6_of f a1 5)).toInt64) * (((gX6_works f a1 ((gX6_of f a1 4) - a2))).toInt64)) + (((gX6_works f a1 (gX6_of f a1 4))).toInt64)) - 1) / (((gX6_works f a1 (gX6_of f a1 4))).toInt64))).toInt32) + a2)) (nI a1) a1 rfl (by omega) 8 8 rfl (by omega) ((gX6_of (gX6_sets (gX6_sets f a1 4 ((gX6_of f a1 4) - a2)) a1 5 ((((((((((gX6_of f a1 5)).toInt64) * (((gX6_works f a1 ((gX6_of f a1 4) - a2))).toInt64)) + (((gX6_works f a1 (gX6_of f a1 4))).toInt64)) - 1) / (((gX6_works f a1 (gX6_of f a1 4))).toInt64))).toInt32) + a2)) a1 8) + a2)  _) (cwV 3 hts gX6_givesBack_X6_sets rfl rfl rfl (by decide +kernel) ⟨Nat.le_of_ble_eq_true rfl, Nat.le_of_ble_eq_true rfl⟩) (xpreV hN hK hP hD pm_all 0 rfl rfl rfl) rfl rfl hl.1 rfl (lv_room (Nat.le_of_ble_eq_true rfl)) dX6_givesBack_77 ⟨Nat.le_of_ble_eq_true rfl, Nat.le_of_ble_eq_true rfl⟩) hP hD hS hA pm_all pm_all' (fun H locs hP hD hS => ?_)
  have hP : va_P D vwCl (coreW ck ma M (gX6_sets (gX6_sets (gX6_sets f a1 4 ((gX6_of f a1 4) - a2)) a1 5 ((((((((((gX6_of f a1 5)).toInt64) * (((gX6_works f a1 ((gX6_of f a1 4) - a2))).toInt64)) + (((gX6_works f a1 (gX6_of f a1 4))).toInt64)) - 1) / (((gX6_works f a1 (gX6_of f a1 4))).toInt64))).toInt32) + a2)) a1 8 ((gX6_of (gX6_sets (gX6_sets f a1 4 ((gX6_of f a1 4) - a2)) a1 5 ((((((((((gX6_of f a1 5)).toInt64) * (((gX6_works f a1 ((gX6_of f a1 4) - a2))).toInt64)) + (((gX6_works f a1 (gX6_of f a1 4))).toInt64)) - 1) / (((gX6_works f a1 (gX6_of f a1 4))).toInt64))).toInt32) + a2)) a1 8) + a2))) H := hP
  have hD : va_D (va_A (coreW ck ma M f) s.heap.size) (coreW ck ma M (gX6_sets (gX6_sets (gX6_sets f a1 4 ((gX6_of f a1 4) - a2)) a1 5 ((((((((((gX6_of f a1 5)).toInt64) * (((gX6_works f a1 ((gX6_of f a1 4) - a2))).toInt64)) + (((gX6_works f a1 (gX6_of f a1 4))).toInt64)) - 1) / (((gX6_works f a1 (gX6_of f a1 4))).toInt64))).toInt32) + a2)) a1 8 ((gX6_of (gX6_sets (gX6_sets f a1 4 ((gX6_of f a1 4) - a2)) a1 5 ((((((((((gX6_of f a1 5)).toInt64) * (((gX6_works f a1 ((gX6_of f a1 4) - a2))).toInt64)) + (((gX6_works f a1 (gX6_of f a1 4))).toInt64)) - 1) / (((gX6_works f a1 (gX6_of f a1 4))).toInt64))).toInt32) + a2)) a1 8) + a2))) := hD
  refine lv_aload_n hx hb dX6_givesBack_80 rfl (lv_at hl 3 rfl) ?_
  refine va_get (D := D) (ci := 6) (v := .ref (ma 1)) (C := RX6) (T := TX6) (N := 13) hx hb hts hinX6 hown hK hP 0 rfl rfl 0 (by decide) (hts (.fieldLink RX6 7 "JoinGrantsModel" "all" "[I") (List.mem_of_getElem? (i := 1) rfl)) (fun _ h9 => h9) rfl dX6_givesBack_81 ?_
  refine lv_bipush (v := 8) hx hb dX6_givesBack_84 (by decide) ?_
  refine lv_dup2_11 hx hb dX6_givesBack_86 rfl rfl ?_
  refine xiald (j := 8) (by decide) hx hb hK hP 1 0 rfl rfl (show vp_in 8 153 from by unfold vp_in; decide) dX6_givesBack_87 ?_
  refine lv_iload_n hx hb dX6_givesBack_88 rfl (lv_at hl 5 rfl) ?_
  refine lv_iadd hx hb dX6_givesBack_89 ?_
  refine xiast (j := 8) (by decide) hx hb hK hP hD hS 1 0 rfl rfl (show vp_in 8 153 from by unfold vp_in; decide) dX6_givesBack_90 (fun H locs hP hD hS => ?_)
  have hP : va_P D vwCl (coreW ck ma M (upd (gX6_sets (gX6_sets (gX6_sets f a1 4 ((gX6_of f a1 4) - a2)) a1 5 ((((((((((gX6_of f a1 5)).toInt64) * (((gX6_works f a1 ((gX6_of f a1 4) - a2))).toInt64)) + (((gX6_works f a1 (gX6_of f a1 4))).toInt64)) - 1) / (((gX6_works f a1 (gX6_of f a1 4))).toInt64))).toInt32) + a2)) a1 8 ((gX6_of (gX6_sets (gX6_sets f a1 4 ((gX6_of f a1 4) - a2)) a1 5 ((((((((((gX6_of f a1 5)).toInt64) * (((gX6_works f a1 ((gX6_of f a1 4) - a2))).toInt64)) + (((gX6_works f a1 (gX6_of f a1 4))).toInt64)) - 1) / (((gX6_works f a1 (gX6_of f a1 4))).toInt64))).toInt32) + a2)) a1 8) + a2)) 8 (((gX6_sets (gX6_sets (gX6_sets f a1 4 ((gX6_of f a1 4) - a2)) a1 5 ((((((((((gX6_of f a1 5)).toInt64) * (((gX6_works f a1 ((gX6_of f a1 4) - a2))).toInt64)) + (((gX6_works f a1 (gX6_of f a1 4))).toInt64)) - 1) / (((gX6_works f a1 (gX6_of f a1 4))).toInt64))).toInt32) + a2)) a1 8 ((gX6_of (gX6_sets (gX6_sets f a1 4 ((gX6_of f a1 4) - a2)) a1 5 ((((((((((gX6_of f a1 5)).toInt64) * (((gX6_works f a1 ((gX6_of f a1 4) - a2))).toInt64)) + (((gX6_works f a1 (gX6_of f a1 4))).toInt64)) - 1) / (((gX6_works f a1 (gX6_of f a1 4))).toInt64))).toInt32) + a2)) a1 8) + a2)) 8) + a2))) H := hP
  have hD : va_D (va_A (coreW ck ma M f) s.heap.size) (coreW ck ma M (upd (gX6_sets (gX6_sets (gX6_sets f a1 4 ((gX6_of f a1 4) - a2)) a1 5 ((((((((((gX6_of f a1 5)).toInt64) * (((gX6_works f a1 ((gX6_of f a1 4) - a2))).toInt64)) + (((gX6_works f a1 (gX6_of f a1 4))).toInt64)) - 1) / (((gX6_works f a1 (gX6_of f a1 4))).toInt64))).toInt32) + a2)) a1 8 ((gX6_of (gX6_sets (gX6_sets f a1 4 ((gX6_of f a1 4) - a2)) a1 5 ((((((((((gX6_of f a1 5)).toInt64) * (((gX6_works f a1 ((gX6_of f a1 4) - a2))).toInt64)) + (((gX6_works f a1 (gX6_of f a1 4))).toInt64)) - 1) / (((gX6_works f a1 (gX6_of f a1 4))).toInt64))).toInt32) + a2)) a1 8) + a2)) 8 (((gX6_sets (gX6_sets (gX6_sets f a1 4 ((gX6_of f a1 4) - a2)) a1 5 ((((((((((gX6_of f a1 5)).toInt64) * (((gX6_works f a1 ((gX6_of f a1 4) - a2))).toInt64)) + (((gX6_works f a1 (gX6_of f a1 4))).toInt64)) - 1) / (((gX6_works f a1 (gX6_of f a1 4))).toInt64))).toInt32) + a2)) a1 8 ((gX6_of (gX6_sets (gX6_sets f a1 4 ((gX6_of f a1 4) - a2)) a1 5 ((((((((((gX6_of f a1 5)).toInt64) * (((gX6_works f a1 ((gX6_of f a1 4) - a2))).toInt64)) + (((gX6_works f a1 (gX6_of f a1 4))).toInt64)) - 1) / (((gX6_works f a1 (gX6_of f a1 4))).toInt64))).toInt32) + a2)) a1 8) + a2)) 8) + a2))) := hD
  exact xvret hx hb hr hlk hP hD hS (congrArg (fun z => coreW ck ma M z) (show gX6_givesBack f a1 a2 = (upd (gX6_sets (gX6_sets (gX6_sets f a1 4 ((gX6_of f a1 4) - a2)) a1 5 ((((((((((gX6_of f a1 5)).toInt64) * (((gX6_works f a1 ((gX6_of f a1 4) - a2))).toInt64)) + (((gX6_works f a1 (gX6_of f a1 4))).toInt64)) - 1) / (((gX6_works f a1 (gX6_of f a1 4))).toInt64))).toInt32) + a2)) a1 8 ((gX6_of (gX6_sets (gX6_sets f a1 4 ((gX6_of f a1 4) - a2)) a1 5 ((((((((((gX6_of f a1 5)).toInt64) * (((gX6_works f a1 ((gX6_of f a1 4) - a2))).toInt64)) + (((gX6_works f a1 (gX6_of f a1 4))).toInt64)) - 1) / (((gX6_works f a1 (gX6_of f a1 4))).toInt64))).toInt32) + a2)) a1 8) + a2)) 8 (((gX6_sets (gX6_sets (gX6_sets f a1 4 ((gX6_of f a1 4) - a2)) a1 5 ((((((((((gX6_of f a1 5)).toInt64) * (((gX6_works f a1 ((gX6_of f a1 4) - a2))).toInt64)) + (((gX6_works f a1 (gX6_of f a1 4))).toInt64)) - 1) / (((gX6_works f a1 (gX6_of f a1 4))).toInt64))).toInt32) + a2)) a1 8 ((gX6_of (gX6_sets (gX6_sets f a1 4 ((gX6_of f a1 4) - a2)) a1 5 ((((((((((gX6_of f a1 5)).toInt64) * (((gX6_works f a1 ((gX6_of f a1 4) - a2))).toInt64)) + (((gX6_works f a1 (gX6_of f a1 4))).toInt64)) - 1) / (((gX6_works f a1 (gX6_of f a1 4))).toInt64))).toInt32) + a2)) a1 8) + a2)) 8) + a2)) from rfl)).symm dX6_givesBack_91
