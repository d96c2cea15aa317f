def rmX3_copyFrom : Room := { frames := 0, cells := 0, slots := 0, locals := 0 }
def gX3_copyFrom (p p2 : Nat → Int32) : (Nat → Int32) := (upd (upd (upd (upd (upd p 0 (p2 0)) 1 (p2 1)) 2 (p2 2)) 3 (p2 3)) 4 (p2 4))
set_option maxHeartbeats 4000000 in
set_option maxRecDepth 100000 in
theorem mX3_copyFrom (l : Launch) (D : va_G) (ck : Nat → ClassId) (q : Nat) (p : Nat → Int32) (q2 : Nat) (p2 : Nat → Int32) : xMv l yX3_copyFrom wsX3_copyFrom rmX3_copyFrom D ck [.ref q, .ref q2] (pW q p ++ pW q2 p2) (pW q (gX3_copyFrom p p2) ++ pW q2 p2) 0 0 := by
  refine xMet (by decide) rfl (Nat.le_of_ble_eq_true rfl) ?_
  intro zp ze s zm zb zt zc hx hb hr hml hown hts hlk hnm hN hK hP hD ls hl
  have hown : s.vm.findClass RX3 = some zm.cls := hown
  have hl : lv_has ls 2 [(0, .ref q), (1, .ref q2)] := hl
  have hS : va_S (va_A (pW q p ++ pW q2 p2) s.heap.size) s.heap s.heap [] := va_S.rf
  have hA : ∀ zq : Nat, s.heap.size ≤ zq → va_A (pW q p ++ pW q2 p2) s.heap.size zq := fun zq h => Or.inr h
  have hinX3 : ∀ w ∈ u_ws RX3 TX3 5, w ∈ wsX3_copyFrom := by decide +kernel
  refine lv_aload_n hx hb dX3_copyFrom_0 rfl (lv_at hl 0 rfl) ?_
  refine lv_aload_n hx hb dX3_copyFrom_1 rfl (lv_at hl 1 rfl) ?_
  refine va_get (D := D) (ci := 3) (v := .int (p2 0)) (C := RX3) (T := TX3) (N := 5) hx hb hts hinX3 hown hK hP 1 rfl rfl 0 (by decide) (hts (.fieldLink RX3 29 "JoinGrants$Plan" "way" "I") (List.mem_of_getElem? (i := 1) rfl)) (fun _ h9 => h9) rfl dX3_copyFrom_2 ?_
  refine va_put (D := D) (ci := 3) (v := .int (p2 0)) (ty := .int) (C := RX3) (T := TX3) (N := 5) hx hb hts hinX3 tyX3 tyX3_ok nmX3 hown hK hP hD hS 0 rfl rfl 0 (by decide) (hts (.fieldLink RX3 29 "JoinGrants$Plan" "way" "I") (List.mem_of_getElem? (i := 1) rfl)) (fun _ h9 => h9) rfl (by decide +kernel) rfl rfl (Nat.le_of_ble_eq_true rfl) dX3_copyFrom_5 (fun H locs hP hD hS => ?_)
  have hP : va_P D vwCl (pW q (upd p 0 (p2 0)) ++ pW q2 p2) H := hP
  have hD : va_D (va_A (pW q p ++ pW q2 p2) s.heap.size) (pW q (upd p 0 (p2 0)) ++ pW q2 p2) := hD
  refine lv_aload_n hx hb dX3_copyFrom_8 rfl (lv_at hl 0 rfl) ?_
  refine lv_aload_n hx hb dX3_copyFrom_9 rfl (lv_at hl 1 rfl) ?_
  refine va_get (D := D) (ci := 3) (v := .int (p2 1)) (C := RX3) (T := TX3) (N := 5) hx hb hts hinX3 hown hK hP 1 rfl rfl 1 (by decide) (hts (.fieldLink RX3 18 "JoinGrants$Plan" "left" "I") (List.mem_of_getElem? (i := 2) rfl)) (fun _ h9 => h9) rfl dX3_copyFrom_10 ?_
  refine va_put (D := D) (ci := 3) (v := .int (p2 1)) (ty := .int) (C := RX3) (T := TX3) (N := 5) hx hb hts hinX3 tyX3 tyX3_ok nmX3 hown hK hP hD hS 0 rfl rfl 1 (by decide) (hts (.fieldLink RX3 18 "JoinGrants$Plan" "left" "I") (List.mem_of_getElem? (i := 2) rfl)) (fun _ h9 => h9) rfl (by decide +kernel) rfl rfl (Nat.le_of_ble_eq_true rfl) dX3_copyFrom_13 (fun H locs hP hD hS => ?_)
  have hP : va_P D vwCl (pW q (upd (upd p 0 (p2 0)) 1 (p2 1)) ++ pW q2 p2) H := hP
  have hD : va_D (va_A (pW q p ++ pW q2 p2) s.heap.size) (pW q (upd (upd p 0 (p2 0)) 1 (p2 1)) ++ pW q2 p2) := hD
  refine lv_aload_n hx hb dX3_copyFrom_16 rfl (lv_at hl 0 rfl) ?_
  refine lv_aload_n hx hb dX3_copyFrom_17 rfl (lv_at hl 1 rfl) ?_
  refine va_get (D := D) (ci := 3) (v := .int (p2 2)) (C := RX3) (T := TX3) (N := 5) hx hb hts hinX3 hown hK hP 1 rfl rfl 2 (by decide) (hts (.fieldLink RX3 22 "JoinGrants$Plan" "right" "I") (List.mem_of_getElem? (i := 3) rfl)) (fun _ h9 => h9) rfl dX3_copyFrom_18 ?_
  refine va_put (D := D) (ci := 3) (v := .int (p2 2)) (ty := .int) (C := RX3) (T := TX3) (N := 5) hx hb hts hinX3 tyX3 tyX3_ok nmX3 hown hK hP hD hS 0 rfl rfl 2 (by decide) (hts (.fieldLink RX3 22 "JoinGrants$Plan" "right" "I") (List.mem_of_getElem? (i := 3) rfl)) (fun _ h9 => h9) rfl (by decide +kernel) rfl rfl (Nat.le_of_ble_eq_true rfl) dX3_copyFrom_21 (fun H locs hP hD hS => ?_)
  have hP : va_P D vwCl (pW q (upd (upd (upd p 0 (p2 0)) 1 (p2 1)) 2 (p2 2)) ++ pW q2 p2) H := hP
  have hD : va_D (va_A (pW q p ++ pW q2 p2) s.heap.size) (pW q (upd (upd (upd p 0 (p2 0)) 1 (p2 1)) 2 (p2 2)) ++ pW q2 p2) := hD
  refine lv_aload_n hx hb dX3_copyFrom_24 rfl (lv_at hl 0 rfl) ?_
  refine lv_aload_n hx hb dX3_copyFrom_25 rfl (lv_at hl 1 rfl) ?_
  refine va_get (D := D) (ci := 3) (v := .int (p2 3)) (C := RX3) (T := TX3) (N := 5) hx hb hts hinX3 hown hK hP 1 rfl rfl 3 (by decide) (hts (.fieldLink RX3 36 "JoinGrants$Plan" "need" "I") (List.mem_of_getElem? (i := 4) rfl)) (fun _ h9 => h9) rfl dX3_copyFrom_26 ?_
  refine va_put (D := D) (ci := 3) (v := .int (p2 3)) (ty := .int) (C := RX3) (T := TX3) (N := 5) hx hb hts hinX3 tyX3 tyX3_ok nmX3 hown hK hP hD hS 0 rfl rfl 3 (by decide) (hts (.fieldLink RX3 36 "JoinGrants$Plan" "need" "I") (List.mem_of_getElem? (i := 4) rfl)) (fun _ h9 => h9) rfl (by decide +kernel) rfl rfl (Nat.le_of_ble_eq_true rfl) dX3_copyFrom_29 (fun H locs hP hD hS => ?_)
  have hP : va_P D vwCl (pW q (upd (upd (upd (upd p 0 (p2 0)) 1 (p2 1)) 2 (p2 2)) 3 (p2 3)) ++ pW q2 p2) H := hP
  have hD : va_D (va_A (pW q p ++ pW q2 p2) s.heap.size) (pW q (upd (upd (upd (upd p 0 (p2 0)) 1 (p2 1)) 2 (p2 2)) 3 (p2 3)) ++ pW q2 p2) := hD
  refine lv_aload_n hx hb dX3_copyFrom_32 rfl (lv_at hl 0 rfl) ?_
  refine lv_aload_n hx hb dX3_copyFrom_33 rfl (lv_at hl 1 rfl) ?_
  refine va_get (D := D) (ci := 3) (v := .int (p2 4)) (C := RX3) (T := TX3) (N := 5) hx hb hts hinX3 hown hK hP 1 rfl rfl 4 (by decide) (hts (.fieldLink RX3 48 "JoinGrants$Plan" "want" "I") (List.mem_of_getElem? (i := 5) rfl)) (fun _ h9 => h9) rfl dX3_copyFrom_34 ?_
  refine va_put (D := D) (ci := 3) (v := .int (p2 4)) (ty := .int) (C := RX3) (T := TX3) (N := 5) hx hb hts hinX3 tyX3 tyX3_ok nmX3 hown hK hP hD hS 0 rfl rfl 4 (by decide) (hts (.fieldLink RX3 48 "JoinGrants$Plan" "want" "I") (List.mem_of_getElem? (i := 5) rfl)) (fun _ h9 => h9) rfl (by decide +kernel) rfl rfl (Nat.le_of_ble_eq_true rfl) dX3_copyFrom_37 (fun H locs hP hD hS => ?_)
  have hP : va_P D vwCl (pW q (upd (upd (upd (upd (upd p 0 (p2 0)) 1 (p2 1)) 2 (p2 2)) 3 (p2 3)) 4 (p2 4)) ++ pW q2 p2) H := hP
  have hD : va_D (va_A (pW q p ++ pW q2 p2) s.heap.size) (pW q (upd (upd (upd (upd (upd p 0 (p2 0)) 1 (p2 1)) 2 (p2 2)) 3 (p2 3)) 4 (p2 4)) ++ pW q2 p2) := hD
  exact xvret hx hb hr hlk hP hD hS (congrArg (fun z => pW q z ++ pW q2 p2) (show gX3_copyFrom p p2 = (upd (upd (upd (upd (upd p 0 (p2 0)) 1 (p2 1)) 2 (p2 2)) 3 (p2 3)) 4 (p2 4)) from rfl)).symm dX3_copyFrom_40

def rmX1_come : Room := { frames := 4, cells := 0, slots := 0, locals := 85 }
def gX1_come (n : Int32) (v : Nat → Int32) (a1 : Int32) (a2 : Int32) (a3 : Int32) : (Nat → Int32) := (upd (hd6 v (gX3_make (tl6 v) a1 a2 a3)) 0 0)
set_option maxHeartbeats 4000000 in
set_option maxRecDepth 100000 in
theorem mX1_come (l : Launch) (D : va_G) (ck : Nat → ClassId) (h q : Nat) (n : Int32) (v : Nat → Int32) (a1 : Int32) (a2 : Int32) (a3 : Int32) : xMv l yX1_come wsX1_come rmX1_come D ck [.ref h, .int a1, .int a2, .int a3] (jW h q n v) (jW h q n (gX1_come n v a1 a2 a3)) 0 0 := by
  refine xMet (by decide) rfl (Nat.le_of_ble_eq_true rfl) ?_
  intro zp ze s zm zb zt zc hx hb hr hml hown hts hlk hnm hN hK hP hD ls hl
  have hown : s.vm.findClass RX1 = some zm.cls := hown
  have hl : lv_has ls 4 [(0, .ref h), (1, .int a1), (2, .int a2), (3, .int a3)] := hl
  have hS : va_S (va_A (jW h q n v) s.heap.size) s.heap s.heap [] := va_S.rf
  have hA : ∀ zq : Nat, s.heap.size ≤ zq → va_A (jW h q n v) s.heap.size zq := fun zq h => Or.inr h
  have hinX1 : ∀ w ∈ u_ws RX1 TX1 8, w ∈ wsX1_come := by decide +kernel
  refine lv_aload_n hx hb dX1_come_0 rfl (lv_at hl 0 rfl) ?_
  refine va_get (D := D) (ci := 1) (v := .ref q) (C := RX1) (T := TX1) (N := 8) hx hb hts hinX1 hown hK hP 0 rfl rfl 1 (by decide) (hts (.fieldLink RX1 10 "JoinGrants$Join" "plan" "LJoinGrants$Plan;") (List.mem_of_getElem? (i := 1) rfl)) (fun _ h9 => h9) rfl dX1_come_1 ?_
  refine lv_iload_n hx hb dX1_come_4 rfl (lv_at hl 1 rfl) ?_
  refine lv_iload_n hx hb dX1_come_5 rfl (lv_at hl 2 rfl) ?_
  refine lv_iload_n hx hb dX1_come_6 rfl (lv_at hl 3 rfl) ?_
  refine xretv (va_runV (As := [.int a1, .int a2, .int a3]) (rest := []) ⟨hx, hb, hml, hown, hts⟩ (mX3_make l D ck q (tl6 v) a1 a2 a3 _) (cwV 3 hts gX1_come_X3_make rfl rfl rfl (by decide +kernel) ⟨Nat.le_of_ble_eq_true rfl, Nat.le_of_ble_eq_true rfl⟩) (xpreV hN hK hP hD (pm_jp (v := v)) 0 rfl rfl rfl) rfl rfl hl.1 rfl (lv_room (Nat.le_of_ble_eq_true rfl)) dX1_come_7 ⟨Nat.le_of_ble_eq_true rfl, Nat.le_of_ble_eq_true rfl⟩) hP hD hS hA (pm_jp (v := v)) pm_jp' (fun H locs hP hD hS => ?_)
  have hP : va_P D vwCl (jW h q n (hd6 v (gX3_make (tl6 v) a1 a2 a3))) H := hP
  have hD : va_D (va_A (jW h q n v) s.heap.size) (jW h q n (hd6 v (gX3_make (tl6 v) a1 a2 a3))) := hD
  refine lv_aload_n hx hb dX1_come_10 rfl (lv_at hl 0 rfl) ?_
  refine lv_iconst (v := 0) hx hb dX1_come_11 (by decide) ?_
  refine va_put (D := D) (ci := 1) (v := .int 0) (ty := .int) (C := RX1) (T := TX1) (N := 8) hx hb hts hinX1 tyX1 tyX1_ok nmX1 hown hK hP hD hS 0 rfl rfl 2 (by decide) (hts (.fieldLink RX1 16 "JoinGrants$Join" "state" "I") (List.mem_of_getElem? (i := 2) rfl)) (fun _ h9 => h9) rfl (by decide +kernel) rfl rfl (Nat.le_of_ble_eq_true rfl) dX1_come_12 (fun H locs hP hD hS => ?_)
  have hP : va_P D vwCl (jW h q n (upd (hd6 v (gX3_make (tl6 v) a1 a2 a3)) 0 0)) H := hP
  have hD : va_D (va_A (jW h q n v) s.heap.size) (jW h q n (upd (hd6 v (gX3_make (tl6 v) a1 a2 a3)) 0 0)) := hD
  exact xvret hx hb hr hlk hP hD hS (congrArg (fun z => jW h q n z) (show gX1_come n v a1 a2 a3 = (upd (hd6 v (gX3_make (tl6 v) a1 a2 a3)) 0 0) from rfl)).symm dX1_come_15

def rmX1_changeWay : Room := { frames := 3, cells := 0, slots := 0, locals := 62 }
def gX1_changeWay (n : Int32) (v : Nat → Int32) (a1 : Int32) : (Nat → Int32) := (hd6 v (gX3_changeWay (tl6 v) a1))
set_option maxHeartbeats 4000000 in
set_option maxRecDepth 100000 in
theorem mX1_changeWay (l : Launch) (D : va_G) (ck : Nat → ClassId) (h q : Nat) (n : Int32) (v : Nat → Int32) (a1 : Int32) : xMv l yX1_changeWay wsX1_changeWay rmX1_changeWay D ck [.ref h, .int a1] (jW h q n v) (jW h q n (gX1_changeWay n v a1)) 0 0 := by
  refine xMet (by decide) rfl (Nat.le_of_ble_eq_true rfl) ?_
  intro zp ze s zm zb zt zc hx hb hr hml hown hts hlk hnm hN hK hP hD ls hl
  have hown : s.vm.findClass RX1 = some zm.cls := hown
  have hl : lv_has ls 2 [(0, .ref h), (1, .int a1)] := hl
  have hS : va_S (va_A (jW h q n v) s.heap.size) s.heap s.heap [] := va_S.rf
  have hA : ∀ zq : Nat, s.heap.size ≤ zq → va_A (jW h q n v) s.heap.size zq := fun zq h => Or.inr h
  have hinX1 : ∀ w ∈ u_ws RX1 TX1 8, w ∈ wsX1_changeWay := by decide +kernel
  refine lv_aload_n hx hb dX1_changeWay_0 rfl (lv_at hl 0 rfl) ?_
  refine va_get (D := D) (ci := 1) (v := .ref q) (C := RX1) (T := TX1) (N := 8) hx hb hts hinX1 hown hK hP 0 rfl rfl 1 (by decide) (hts (.fieldLink RX1 10 "JoinGrants$Join" "plan" "LJoinGrants$Plan;") (List.mem_of_getElem? (i := 1) rfl)) (fun _ h9 => h9) rfl dX1_changeWay_1 ?_
  refine lv_iload_n hx hb dX1_changeWay_4 rfl (lv_at hl 1 rfl) ?_
  refine xretv (va_runV (As := [.int a1]) (rest := []) ⟨hx, hb, hml, hown, hts⟩ (mX3_changeWay l D ck q (tl6 v) a1 _) (cwV 1 hts gX1_changeWay_X3_changeWay rfl rfl rfl (by decide +kernel) ⟨Nat.le_of_ble_eq_true rfl, Nat.le_of_ble_eq_true rfl⟩) (xpreV hN hK hP hD (pm_jp (v := v)) 0 rfl rfl rfl) rfl rfl hl.1 rfl (lv_room (Nat.le_of_ble_eq_true rfl)) dX1_changeWay_5 ⟨Nat.le_of_ble_eq_true rfl, Nat.le_of_ble_eq_true rfl⟩) hP hD hS hA (pm_jp (v := v)) pm_jp' (fun H locs hP hD hS => ?_)
  have hP : va_P D vwCl (jW h q n (hd6 v (gX3_changeWay (tl6 v) a1))) H := hP
  have hD : va_D (va_A (jW h q n v) s.heap.size) (jW h q n (hd6 v (gX3_changeWay (tl6 v) a1))) := hD
  exact xvret hx hb hr hlk hP hD hS (congrArg (fun z => jW h q n z) (show gX1_changeWay n v a1 = (hd6 v (gX3_changeWay (tl6 v) a1)) from rfl)).symm dX1_changeWay_8

def rmX1_start : Room := { frames := 1, cells := 0, slots := 0, locals := 24 }
def gX1_start (n : Int32) (v : Nat → Int32) (a1 : Int32) : (Nat → Int32) := (upd (upd (upd v 0 1) 1 a1) 2 (gX3_workWith (tl6 (upd (upd v 0 1) 1 a1)) a1))
set_option maxHeartbeats 4000000 in
set_option maxRecDepth 100000 in
theorem mX1_start (l : Launch) (D : va_G) (ck : Nat → ClassId) (h q : Nat) (n : Int32) (v : Nat → Int32) (a1 : Int32) : xMv l yX1_start wsX1_start rmX1_start D ck [.ref h, .int a1] (jW h q n v) (jW h q n (gX1_start n v a1)) 0 0 := by
  refine xMet (by decide) rfl (Nat.le_of_ble_eq_true rfl) ?_
  intro zp ze s zm zb zt zc hx hb hr hml hown hts hlk hnm hN hK hP hD ls hl
  have hown : s.vm.findClass RX1 = some zm.cls := hown
  have hl : lv_has ls 2 [(0, .ref h), (1, .int a1)] := hl
  have hS : va_S (va_A (jW h q n v) s.heap.size) s.heap s.heap [] := va_S.rf
  have hA : ∀ zq : Nat, s.heap.size ≤ zq → va_A (jW h q n v) s.heap.size zq := fun zq h => Or.inr h
  have hinX1 : ∀ w ∈ u_ws RX1 TX1 8, w ∈ wsX1_start := by decide +kernel
  refine lv_aload_n hx hb dX1_start_0 rfl (lv_at hl 0 rfl) ?_
  refine lv_iconst (v := 1) hx hb dX1_start_1 (by decide) ?_
  refine va_put (D := D) (ci := 1) (v := .int 1) (ty := .int) (C := RX1) (T := TX1) (N := 8) hx hb hts hinX1 tyX1 tyX1_ok nmX1 hown hK hP hD hS 0 rfl rfl 2 (by decide) (hts (.fieldLink RX1 16 "JoinGrants$Join" "state" "I") (List.mem_of_getElem? (i := 1) rfl)) (fun _ h9 => h9) rfl (by decide +kernel) rfl rfl (Nat.le_of_ble_eq_true rfl) dX1_start_2 (fun H locs hP hD hS => ?_)
  have hP : va_P D vwCl (jW h q n (upd v 0 1)) H := hP
  have hD : va_D (va_A (jW h q n v) s.heap.size) (jW h q n (upd v 0 1)) := hD
  refine lv_aload_n hx hb dX1_start_5 rfl (lv_at hl 0 rfl) ?_
  refine lv_iload_n hx hb dX1_start_6 rfl (lv_at hl 1 rfl) ?_
  refine va_put (D := D) (ci := 1) (v := .int a1) (ty := .int) (C := RX1) (T := TX1) (N := 8) hx hb hts hinX1 tyX1 tyX1_ok nmX1 hown hK hP hD hS 0 rfl rfl 3 (by decide) (hts (.fieldLink RX1 31 "JoinGrants$Join" "pages" "I") (List.mem_of_getElem? (i := 2) rfl)) (fun _ h9 => h9) rfl (by decide +kernel) rfl rfl (Nat.le_of_ble_eq_true rfl) dX1_start_7 (fun H locs hP hD hS => ?_)
  have hP : va_P D vwCl (jW h q n (upd (upd v 0 1) 1 a1)) H := hP
  have hD : va_D (va_A (jW h q n v) s.heap.size) (jW h q n (upd (upd v 0 1) 1 a1)) := hD
  refine lv_aload_n hx hb dX1_start_10 rfl (lv_at hl 0 rfl) ?_
  refine lv_aload_n hx hb dX1_start_11 rfl (lv_at hl 0 rfl) ?_
  refine va_get (D := D) (ci := 1) (v := .ref q) (C := RX1) (T := TX1) (N := 8) hx hb hts hinX1 hown hK hP 0 rfl rfl 1 (by decide) (hts (.fieldLink RX1 10 "JoinGrants$Join" "plan" "LJoinGrants$Plan;") (List.mem_of_getElem? (i := 3) rfl)) (fun _ h9 => h9) rfl dX1_start_12 ?_
  refine lv_iload_n hx hb dX1_start_15 rfl (lv_at hl 1 rfl) ?_
  refine xreti (va_runV (As := [.int a1]) (rest := [.ref h]) ⟨hx, hb, hml, hown, hts⟩ (mX3_workWith l D ck q (tl6 (upd (upd v 0 1) 1 a1)) a1 _) (cwV 1 hts gX1_start_X3_workWith rfl rfl rfl (by decide +kernel) ⟨Nat.le_of_ble_eq_true rfl, Nat.le_of_ble_eq_true rfl⟩) (xpreV hN hK hP hD (pm_jp (v := upd (upd v 0 1) 1 a1)) 0 rfl rfl rfl) rfl rfl hl.1 rfl (lv_room (Nat.le_of_ble_eq_true rfl)) dX1_start_16 ⟨Nat.le_of_ble_eq_true rfl, Nat.le_of_ble_eq_true rfl⟩) hP hD hS hA (pm_jp (v := upd (upd v 0 1) 1 a1)) (pm_jp (v := upd (upd v 0 1) 1 a1)).symm (fun H locs hP hD hS => ?_)
  refine va_put (D := D) (ci := 1) (v := .int (gX3_workWith (tl6 (upd (upd v 0 1) 1 a1)) a1)) (ty := .int) (C := RX1) (T := TX1) (N := 8) hx hb hts hinX1 tyX1 tyX1_ok nmX1 hown hK hP hD hS 0 rfl rfl 4 (by decide) (hts (.fieldLink RX1 38 "JoinGrants$Join" "workLeft" "I") (List.mem_of_getElem? (i := 4) rfl)) (fun _ h9 => h9) rfl (by decide +kernel) rfl rfl (Nat.le_of_ble_eq_true rfl) dX1_start_19 (fun H locs hP hD hS => ?_)
  have hP : va_P D vwCl (jW h q n (upd (upd (upd v 0 1) 1 a1) 2 (gX3_workWith (tl6 (upd (upd v 0 1) 1 a1)) a1))) H := hP
  have hD : va_D (va_A (jW h q n v) s.heap.size) (jW h q n (upd (upd (upd v 0 1) 1 a1) 2 (gX3_workWith (tl6 (upd (upd v 0 1) 1 a1)) a1))) := hD
  exact xvret hx hb hr hlk hP hD hS (congrArg (fun z => jW h q n z) (show gX1_start n v a1 = (upd (upd (upd v 0 1) 1 a1) 2 (gX3_workWith (tl6 (upd (upd v 0 1) 1 a1)) a1)) from rfl)).symm dX1_start_22

def rmX1_end : Room := { frames := 0, cells := 0, slots := 0, locals := 0 }
def gX1_end (n : Int32) (v : Nat → Int32) (a1 : Int32) : (Nat → Int32) := (upd (upd (upd v 0 a1) 1 0) 2 0)
set_option maxHeartbeats 4000000 in
set_option maxRecDepth 100000 in
theorem mX1_end (l : Launch) (D : va_G) (ck : Nat → ClassId) (h q : Nat) (n : Int32) (v : Nat → Int32) (a1 : Int32) : xMv l yX1_end wsX1_end rmX1_end D ck [.ref h, .int a1] (jW h q n v) (jW h q n (gX1_end n v a1)) 0 0 := by
  refine xMet (by decide) rfl (Nat.le_of_ble_eq_true rfl) ?_
  intro zp ze s zm zb zt zc hx hb hr hml hown hts hlk hnm hN hK hP hD ls hl
  have hown : s.vm.findClass RX1 = some zm.cls := hown
  have hl : lv_has ls 2 [(0, .ref h), (1, .int a1)] := hl
  have hS : va_S (va_A (jW h q n v) s.heap.size) s.heap s.heap [] := va_S.rf
  have hA : ∀ zq : Nat, s.heap.size ≤ zq → va_A (jW h q n v) s.heap.size zq := fun zq h => Or.inr h
  have hinX1 : ∀ w ∈ u_ws RX1 TX1 8, w ∈ wsX1_end := by decide +kernel
  refine lv_aload_n hx hb dX1_end_0 rfl (lv_at hl 0 rfl) ?_
  refine lv_iload_n hx hb dX1_end_1 rfl (lv_at hl 1 rfl) ?_
  refine va_put (D := D) (ci := 1) (v := .int a1) (ty := .int) (C := RX1) (T := TX1) (N := 8) hx hb hts hinX1 tyX1 tyX1_ok nmX1 hown hK hP hD hS 0 rfl rfl 2 (by decide) (hts (.fieldLink RX1 16 "JoinGrants$Join" "state" "I") (List.mem_of_getElem? (i := 1) rfl)) (fun _ h9 => h9) rfl (by decide +kernel) rfl rfl (Nat.le_of_ble_eq_true rfl) dX1_end_2 (fun H locs hP hD hS => ?_)
  have hP : va_P D vwCl (jW h q n (upd v 0 a1)) H := hP
  have hD : va_D (va_A (jW h q n v) s.heap.size) (jW h q n (upd v 0 a1)) := hD
  refine lv_aload_n hx hb dX1_end_5 rfl (lv_at hl 0 rfl) ?_
  refine lv_iconst (v := 0) hx hb dX1_end_6 (by decide) ?_
  refine va_put (D := D) (ci := 1) (v := .int 0) (ty := .int) (C := RX1) (T := TX1) (N := 8) hx hb hts hinX1 tyX1 tyX1_ok nmX1 hown hK hP hD hS 0 rfl rfl 3 (by decide) (hts (.fieldLink RX1 31 "JoinGrants$Join" "pages" "I") (List.mem_of_getElem? (i := 2) rfl)) (fun _ h9 => h9) rfl (by decide +kernel) rfl rfl (Nat.le_of_ble_eq_true rfl) dX1_end_7 (fun H locs hP hD hS => ?_)
  have hP : va_P D vwCl (jW h q n (upd (upd v 0 a1) 1 0)) H := hP
  have hD : va_D (va_A (jW h q n v) s.heap.size) (jW h q n (upd (upd v 0 a1) 1 0)) := hD
  refine lv_aload_n hx hb dX1_end_10 rfl (lv_at hl 0 rfl) ?_
  refine lv_iconst (v := 0) hx hb dX1_end_11 (by decide) ?_
  refine va_put (D := D) (ci := 1) (v := .int 0) (ty := .int) (C := RX1) (T := TX1) (N := 8) hx hb hts hinX1 tyX1 tyX1_ok nmX1 hown hK hP hD hS 0 rfl rfl 4 (by decide) (hts (.fieldLink RX1 38 "JoinGrants$Join" "workLeft" "I") (List.mem_of_getElem? (i := 3) rfl)) (fun _ h9 => h9) rfl (by decide +kernel) rfl rfl (Nat.le_of_ble_eq_true rfl) dX1_end_12 (fun H locs hP hD hS => ?_)
  have hP : va_P D vwCl (jW h q n (upd (upd (upd v 0 a1) 1 0) 2 0)) H := hP
  have hD : va_D (va_A (jW h q n v) s.heap.size) (jW h q n (upd (upd (upd v 0 a1) 1 0) 2 0)) := hD
  exact xvret hx hb hr hlk hP hD hS (congrArg (fun z => jW h q n z) (show gX1_end n v a1 = (upd (upd (upd v 0 a1) 1 0) 2 0) from rfl)).symm dX1_end_15

def rmX1_giveBack : Room := { frames := 1, cells := 0, slots := 0, locals := 24 }
def gX1_giveBack (n : Int32) (v : Nat → Int32) (a1 : Int32) : (Nat → Int32) := (if (lg_cmp (((gX3_workWith (tl6 v) (v 1))).toInt64) 0) ≤ 0 then (upd (upd v 1 ((v 1) - a1)) 5 ((v 5) + a1)) else (upd (upd (upd v 2 (((((((((v 2).toInt64) * (((gX3_workWith (tl6 v) ((v 1) - a1))).toInt64)) + (((gX3_workWith (tl6 v) (v 1))).toInt64)) - 1) / (((gX3_workWith (tl6 v) (v 1))).toInt64))).toInt32) + a1)) 1 ((v 1) - a1)) 5 ((v 5) + a1)))
set_option maxHeartbeats 4000000 in
set_option maxRecDepth 100000 in
theorem mX1_giveBack (l : Launch) (D : va_G) (ck : Nat → ClassId) (h q : Nat) (n : Int32) (v : Nat → Int32) (a1 : Int32) : xMv l yX1_giveBack wsX1_giveBack rmX1_giveBack D ck [.ref h, .int a1] (jW h q n v) (jW h q n (gX1_giveBack n v a1)) 0 0 := by
  refine xMet (by decide) rfl (Nat.le_of_ble_eq_true rfl) ?_
  intro zp ze s zm zb zt zc hx hb hr hml hown hts hlk hnm hN hK hP hD ls hl
  have hown : s.vm.findClass RX1 = some zm.cls := hown
  have hl : lv_has ls 6 [(0, .ref h), (1, .int a1)] := hl
  have hS : va_S (va_A (jW h q n v) s.heap.size) s.heap s.heap [] := va_S.rf
  have hA : ∀ zq : Nat, s.heap.size ≤ zq → va_A (jW h q n v) s.heap.size zq := fun zq h => Or.inr h
  have hinX1 : ∀ w ∈ u_ws RX1 TX1 8, w ∈ wsX1_giveBack := by decide +kernel
  refine lv_aload_n hx hb dX1_giveBack_0 rfl (lv_at hl 0 rfl) ?_
  refine va_get (D := D) (ci := 1) (v := .ref q) (C := RX1) (T := TX1) (N := 8) hx hb hts hinX1 hown hK hP 0 rfl rfl 1 (by decide) (hts (.fieldLink RX1 10 "JoinGrants$Join" "plan" "LJoinGrants$Plan;") (List.mem_of_getElem? (i := 1) rfl)) (fun _ h9 => h9) rfl dX1_giveBack_1 ?_
  refine lv_aload_n hx hb dX1_giveBack_4 rfl (lv_at hl 0 rfl) ?_
  refine va_get (D := D) (ci := 1) (v := .int (v 1)) (C := RX1) (T := TX1) (N := 8) hx hb hts hinX1 hown hK hP 0 rfl rfl 3 (by decide) (hts (.fieldLink RX1 31 "JoinGrants$Join" "pages" "I") (List.mem_of_getElem? (i := 2) rfl)) (fun _ h9 => h9) rfl dX1_giveBack_5 ?_
  refine xreti (va_runV (As := [.int (v 1)]) (rest := []) ⟨hx, hb, hml, hown, hts⟩ (mX3_workWith l D ck q (tl6 v) (v 1) _) (cwV 1 hts gX1_giveBack_X3_workWith rfl rfl rfl (by decide +kernel) ⟨Nat.le_of_ble_eq_true rfl, Nat.le_of_ble_eq_true rfl⟩) (xpreV hN hK hP hD (pm_jp (v := v)) 0 rfl rfl rfl) rfl rfl hl.1 rfl (lv_room (Nat.le_of_ble_eq_true rfl)) dX1_giveBack_8 ⟨Nat.le_of_ble_eq_true rfl, Nat.le_of_ble_eq_true rfl⟩) hP hD hS hA (pm_jp (v := v)) (pm_jp (v := v)).symm (fun H locs hP hD hS => ?_)
  refine lv_i2l (v := ((gX3_workWith (tl6 v) (v 1))).toInt64) hx hb dX1_giveBack_11 rfl ?_
  refine lv_lstore_n (lv' := [(2, .long (((gX3_workWith (tl6 v) (v 1))).toInt64)), (0, .ref h), (1, .int a1)]) hx hb dX1_giveBack_12 rfl hl (by decide) rfl (fun ls hl => ?_)
  refine lv_aload_n hx hb dX1_giveBack_13 rfl (lv_at hl 1 rfl) ?_
  refine va_get (D := D) (ci := 1) (v := .ref q) (C := RX1) (T := TX1) (N := 8) hx hb hts hinX1 hown hK hP 0 rfl rfl 1 (by decide) (hts (.fieldLink RX1 10 "JoinGrants$Join" "plan" "LJoinGrants$Plan;") (List.mem_of_getElem? (i := 1) rfl)) (fun _ h9 => h9) rfl dX1_giveBack_14 ?_
  refine lv_aload_n hx hb dX1_giveBack_17 rfl (lv_at hl 1 rfl) ?_
  refine va_get (D := D) (ci := 1) (v := .int (v 1)) (C := RX1) (T := TX1) (N := 8) hx hb hts hinX1 hown hK hP 0 rfl rfl 3 (by decide) (hts (.fieldLink RX1 31 "JoinGrants$Join" "pages" "I") (List.mem_of_getElem? (i := 2) rfl)) (fun _ h9 => h9) rfl dX1_giveBack_18 ?_
  refine lv_iload_n hx hb dX1_giveBack_21 rfl (lv_at hl 2 rfl) ?_
  refine lv_isub hx hb dX1_giveBack_22 ?_
  refine xreti (va_runV (As := [.int ((v 1) - a1)]) (rest := []) ⟨hx, hb, hml, hown, hts⟩ (mX3_workWith l D ck q (tl6 v) ((v 1) - a1) _) (cwV 1 hts gX1_giveBack_X3_workWith rfl rfl rfl (by decide +kernel) ⟨Nat.le_of_ble_eq_true rfl, Nat.le_of_ble_eq_true rfl⟩) (xpreV hN hK hP hD (pm_jp (v := v)) 0 rfl rfl rfl) rfl rfl hl.1 rfl (lv_room (Nat.le_of_ble_eq_true rfl)) dX1_giveBack_23 ⟨Nat.le_of_ble_eq_true rfl, Nat.le_of_ble_eq_true rfl⟩) hP hD hS hA (pm_jp (v := v)) (pm_jp (v := v)).symm (fun H locs hP hD hS => ?_)
  refine lv_i2l (v := ((gX3_workWith (tl6 v) ((v 1) - a1))).toInt64) hx hb dX1_giveBack_26 rfl ?_
  refine lv_lstore (lv' := [(4, .long (((gX3_workWith (tl6 v) ((v 1) - a1))).toInt64)), (2, .long (((gX3_workWith (tl6 v) (v 1))).toInt64)), (0, .ref h), (1, .int a1)]) hx hb dX1_giveBack_27 hl (by decide) rfl (fun ls hl => ?_)
  refine lv_lload_n hx hb dX1_giveBack_29 rfl (lv_at hl 1 rfl) ?_
  refine lv_lconst (v := 0) hx hb dX1_giveBack_30 (by decide) ?_
  refine W.lcmp hx hb dX1_giveBack_31 ?_
  refine lv_if_le (tgt := 56) hx hb dX1_giveBack_32 (by decide) (fun c_32 => ?_) (fun c_32 => ?_)
  · --t
    refine lv_aload_n hx hb dX1_giveBack_56 rfl (lv_at hl 2 rfl) ?_
    refine lv_dup hx hb dX1_giveBack_57 rfl ?_
    refine va_get (D := D) (ci := 1) (v := .int (v 1)) (C := RX1) (T := TX1) (N := 8) hx hb hts hinX1 hown hK hP 0 rfl rfl 3 (by decide) (hts (.fieldLink RX1 31 "JoinGrants$Join" "pages" "I") (List.mem_of_getElem? (i := 2) rfl)) (fun _ h9 => h9) rfl dX1_giveBack_58 ?_
    refine lv_iload_n hx hb dX1_giveBack_61 rfl (lv_at hl 3 rfl) ?_
    refine lv_isub hx hb dX1_giveBack_62 ?_
    refine va_put (D := D) (ci := 1) (v := .int ((v 1) - a1)) (ty := .int) (C := RX1) (T := TX1) (N := 8) hx hb hts hinX1 tyX1 tyX1_ok nmX1 hown hK hP hD hS 0 rfl rfl 3 (by decide) (hts (.fieldLink RX1 31 "JoinGrants$Join" "pages" "I") (List.mem_of_getElem? (i := 2) rfl)) (fun _ h9 => h9) rfl (by decide +kernel) rfl rfl (Nat.le_of_ble_eq_true rfl) dX1_giveBack_63 (fun H locs hP hD hS => ?_)
    have hP : va_P D vwCl (jW h q n (upd v 1 ((v 1) - a1))) H := hP
    have hD : va_D (va_A (jW h q n v) s.heap.size) (jW h q n (upd v 1 ((v 1) - a1))) := hD
    refine lv_aload_n hx hb dX1_giveBack_66 rfl (lv_at hl 2 rfl) ?_
    refine lv_dup hx hb dX1_giveBack_67 rfl ?_
    refine va_get (D := D) (ci := 1) (v := .int (v 5)) (C := RX1) (T := TX1) (N := 8) hx hb hts hinX1 hown hK hP 0 rfl rfl 7 (by decide) (hts (.fieldLink RX1 41 "JoinGrants$Join" "givenBack" "I") (List.mem_of_getElem? (i := 4) rfl)) (fun _ h9 => h9) rfl dX1_giveBack_68 ?_
    refine lv_iload_n hx hb dX1_giveBack_71 rfl (lv_at hl 3 rfl) ?_
    refine lv_iadd hx hb dX1_giveBack_72 ?_
    refine va_put (D := D) (ci := 1) (v := .int ((v 5) + a1)) (ty := .int) (C := RX1) (T := TX1) (N := 8) hx hb hts hinX1 tyX1 tyX1_ok nmX1 hown hK hP hD hS 0 rfl rfl 7 (by decide) (hts (.fieldLink RX1 41 "JoinGrants$Join" "givenBack" "I") (List.mem_of_getElem? (i := 4) rfl)) (fun _ h9 => h9) rfl (by decide +kernel) rfl rfl (Nat.le_of_ble_eq_true rfl) dX1_giveBack_73 (fun H locs hP hD hS => ?_)
    have hP : va_P D vwCl (jW h q n (upd (upd v 1 ((v 1) - a1)) 5 ((v 5) + a1))) H := hP
    have hD : va_D (va_A (jW h q n v) s.heap.size) (jW h q n (upd (upd v 1 ((v 1) - a1)) 5 ((v 5) + a1))) := hD
    exact xvret hx hb hr hlk hP hD hS (congrArg (fun z => jW h q n z) (show gX1_giveBack n v a1 = (upd (upd v 1 ((v 1) - a1)) 5 ((v 5) + a1)) from (Eq.trans (if_pos c_32) rfl))).symm dX1_giveBack_76
  · --f
    refine lv_aload_n hx hb dX1_giveBack_35 rfl (lv_at hl 2 rfl) ?_
    refine lv_aload_n hx hb dX1_giveBack_36 rfl (lv_at hl 2 rfl) ?_
    refine va_get (D := D) (ci := 1) (v := .int (v 2)) (C := RX1) (T := TX1) (N := 8) hx hb hts hinX1 hown hK hP 0 rfl rfl 4 (by decide) (hts (.fieldLink RX1 38 "JoinGrants$Join" "workLeft" "I") (List.mem_of_getElem? (i := 3) rfl)) (fun _ h9 => h9) rfl dX1_giveBack_37 ?_
    refine lv_i2l (v := (v 2).toInt64) hx hb dX1_giveBack_40 rfl ?_
    refine lv_lload hx hb dX1_giveBack_41 (lv_at hl 0 rfl) ?_
    refine lv_lmul hx hb dX1_giveBack_43 ?_
    refine lv_lload_n hx hb dX1_giveBack_44 rfl (lv_at hl 1 rfl) ?_
    refine lv_ladd hx hb dX1_giveBack_45 ?_
    refine lv_lconst (v := 1) hx hb dX1_giveBack_46 (by decide) ?_
    refine lv_lsub hx hb dX1_giveBack_47 ?_
    refine lv_lload_n hx hb dX1_giveBack_48 rfl (lv_at hl 1 rfl) ?_
    refine lv_ldiv hx hb dX1_giveBack_49 (x_lpos c_32) ?_
    refine lv_l2i (v := (((((((v 2).toInt64) * (((gX3_workWith (tl6 v) ((v 1) - a1))).toInt64)) + (((gX3_workWith (tl6 v) (v 1))).toInt64)) - 1) / (((gX3_workWith (tl6 v) (v 1))).toInt64))).toInt32) hx hb dX1_giveBack_50 rfl ?_
    refine lv_iload_n hx hb dX1_giveBack_51 rfl (lv_at hl 3 rfl) ?_
    refine lv_iadd hx hb dX1_giveBack_52 ?_
    refine va_put (D := D) (ci := 1) (v := .int (((((((((v 2).toInt64) * (((gX3_workWith (tl6 v) ((v 1) - a1))).toInt64)) + (((gX3_workWith (tl6 v) (v 1))).toInt64)) - 1) / (((gX3_workWith (tl6 v) (v 1))).toInt64))).toInt32) + a1)) (ty := .int) (C := RX1) (T := TX1) (N := 8) hx hb hts hinX1 tyX1 tyX1_ok nmX1 hown hK hP hD hS 0 rfl rfl 4 (by decide) (hts (.fieldLink RX1 38 "JoinGrants$Join" "workLeft" "I") (List.mem_of_getElem? (i := 3) rfl)) (fun _ h9 => h9) rfl (by decide +kernel) rfl rfl (Nat.le_of_ble_eq_true rfl) dX1_giveBack_53 (fun H locs hP hD hS => ?_)
    have hP : va_P D vwCl (jW h q n (upd v 2 (((((((((v 2).toInt64) * (((gX3_workWith (tl6 v) ((v 1) - a1))).toInt64)) + (((gX3_workWith (tl6 v) (v 1))).toInt64)) - 1) / (((gX3_workWith (tl6 v) (v 1))).toInt64))).toInt32) + a1))) H := hP
    have hD : va_D (va_A (jW h q n v) s.heap.size) (jW h q n (upd v 2 (((((((((v 2).toInt64) * (((gX3_workWith (tl6 v) ((v 1) - a1))).toInt64)) + (((gX3_workWith (tl6 v) (v 1))).toInt64)) - 1) / (((gX3_workWith (tl6 v) (v 1))).toInt64))).toInt32) + a1))) := hD
    refine lv_aload_n hx hb dX1_giveBack_56 rfl (lv_at hl 2 rfl) ?_
    refine lv_dup hx hb dX1_giveBack_57 rfl ?_
    refine va_get (D := D) (ci := 1) (v := .int (v 1)) (C := RX1) (T := TX1) (N := 8) hx hb hts hinX1 hown hK hP 0 rfl rfl 3 (by decide) (hts (.fieldLink RX1 31 "JoinGrants$Join" "pages" "I") (List.mem_of_getElem? (i := 2) rfl)) (fun _ h9 => h9) rfl dX1_giveBack_58 ?_
    refine lv_iload_n hx hb dX1_giveBack_61 rfl (lv_at hl 3 rfl) ?_
    refine lv_isub hx hb dX1_giveBack_62 ?_
    refine va_put (D := D) (ci := 1) (v := .int ((v 1) - a1)) (ty := .int) (C := RX1) (T := TX1) (N := 8) hx hb hts hinX1 tyX1 tyX1_ok nmX1 hown hK hP hD hS 0 rfl rfl 3 (by decide) (hts (.fieldLink RX1 31 "JoinGrants$Join" "pages" "I") (List.mem_of_getElem? (i := 2) rfl)) (fun _ h9 => h9) rfl (by decide +kernel) rfl rfl (Nat.le_of_ble_eq_true rfl) dX1_giveBack_63 (fun H locs hP hD hS => ?_)
    have hP : va_P D vwCl (jW h q n (upd (upd v 2 (((((((((v 2).toInt64) * (((gX3_workWith (tl6 v) ((v 1) - a1))).toInt64)) + (((gX3_workWith (tl6 v) (v 1))).toInt64)) - 1) / (((gX3_workWith (tl6 v) (v 1))).toInt64))).toInt32) + a1)) 1 ((v 1) - a1))) H := hP
    have hD : va_D (va_A (jW h q n v) s.heap.size) (jW h q n (upd (upd v 2 (((((((((v 2).toInt64) * (((gX3_workWith (tl6 v) ((v 1) - a1))).toInt64)) + (((gX3_workWith (tl6 v) (v 1))).toInt64)) - 1) / (((gX3_workWith (tl6 v) (v 1))).toInt64))).toInt32) + a1)) 1 ((v 1) - a1))) := hD
    refine lv_aload_n hx hb dX1_giveBack_66 rfl (lv_at hl 2 rfl) ?_
    refine lv_dup hx hb dX1_giveBack_67 rfl ?_
    refine va_get (D := D) (ci := 1) (v := .int (v 5)) (C := RX1) (T := TX1) (N := 8) hx hb hts hinX1 hown hK hP 0 rfl rfl 7 (by decide) (hts (.fieldLink RX1 41 "JoinGrants$Join" "givenBack" "I") (List.mem_of_getElem? (i := 4) rfl)) (fun _ h9 => h9) rfl dX1_giveBack_68 ?_
    refine lv_iload_n hx hb dX1_giveBack_71 rfl (lv_at hl 3 rfl) ?_
    refine lv_iadd hx hb dX1_giveBack_72 ?_
    refine va_put (D := D) (ci := 1) (v := .int ((v 5) + a1)) (ty := .int) (C := RX1) (T := TX1) (N := 8) hx hb hts hinX1 tyX1 tyX1_ok nmX1 hown hK hP hD hS 0 rfl rfl 7 (by decide) (hts (.fieldLink RX1 41 "JoinGrants$Join" "givenBack" "I") (List.mem_of_getElem? (i := 4) rfl)) (fun _ h9 => h9) rfl (by decide +kernel) rfl rfl (Nat.le_of_ble_eq_true rfl) dX1_giveBack_73 (fun H locs hP hD hS => ?_)
    have hP : va_P D vwCl (jW h q n (upd (upd (upd v 2 (((((((((v 2).toInt64) * (((gX3_workWith (tl6 v) ((v 1) - a1))).toInt64)) + (((gX3_workWith (tl6 v) (v 1))).toInt64)) - 1) / (((gX3_workWith (tl6 v) (v 1))).toInt64))).toInt32) + a1)) 1 ((v 1) - a1)) 5 ((v 5) + a1))) H := hP
    have hD : va_D (va_A (jW h q n v) s.heap.size) (jW h q n (upd (upd (upd v 2 (((((((((v 2).toInt64) * (((gX3_workWith (tl6 v) ((v 1) - a1))).toInt64)) + (((gX3_workWith (tl6 v) (v 1))).toInt64)) - 1) / (((gX3_workWith (tl6 v) (v 1))).toInt64))).toInt32) + a1)) 1 ((v 1) - a1)) 5 ((v 5) + a1))) := hD
    exact xvret hx hb hr hlk hP hD hS (congrArg (fun z => jW h q n z) (show gX1_giveBack n v a1 = (upd (upd (upd v 2 (((((((((v 2).toInt64) * (((gX3_workWith (tl6 v) ((v 1) - a1))).toInt64)) + (((gX3_workWith (tl6 v) (v 1))).toInt64)) - 1) / (((gX3_workWith (tl6 v) (v 1))).toInt64))).toInt32) + a1)) 1 ((v 1) - a1)) 5 ((v 5) + a1)) from (Eq.trans (if_neg c_32) rfl))).symm dX1_giveBack_76

def rmX1_pass : Room := { frames := 1, cells := 0, slots := 0, locals := 24 }
def gX1_pass (n : Int32) (v : Nat → Int32) (a1 : Int32) (a2 : Int32) : Int32 × (Nat → Int32) := (if (v 0) = 0 then (if (v 0) = 1 then ((if (a1 * a2) < (v 2) then (a1 * a2) else (v 2)), upd (upd (upd v 3 ((v 3) + a1)) 4 ((v 4) + a1)) 2 ((v 2) - (if (a1 * a2) < (v 2) then (a1 * a2) else (v 2)))) else (0, upd v 3 ((v 3) + a1))) else (if (v 0) = 1 then ((if (a1 * a2) < (v 2) then (a1 * a2) else (v 2)), upd (upd v 4 ((v 4) + a1)) 2 ((v 2) - (if (a1 * a2) < (v 2) then (a1 * a2) else (v 2)))) else (0, v)))
set_option maxHeartbeats 4000000 in
set_option maxRecDepth 100000 in
theorem mX1_pass (l : Launch) (D : va_G) (ck : Nat → ClassId) (h q : Nat) (n : Int32) (v : Nat → Int32) (a1 : Int32) (a2 : Int32) : xMi l yX1_pass wsX1_pass rmX1_pass D ck [.ref h, .int a1, .int a2] (jW h q n v) (jW h q n ((gX1_pass n v a1 a2).2)) ((gX1_pass n v a1 a2).1) 0 0 := by
  refine xMet (by decide) rfl (Nat.le_of_ble_eq_true rfl) ?_
  intro zp ze s zm zb zt zc hx hb hr hml hown hts hlk hnm hN hK hP hD ls hl
  have hown : s.vm.findClass RX1 = some zm.cls := hown
  have hl : lv_has ls 4 [(0, .ref h), (1, .int a1), (2, .int a2)] := hl
  have hS : va_S (va_A (jW h q n v) s.heap.size) s.heap s.heap [] := va_S.rf
  have hA : ∀ zq : Nat, s.heap.size ≤ zq → va_A (jW h q n v) s.heap.size zq := fun zq h => Or.inr h
  have hinX1 : ∀ w ∈ u_ws RX1 TX1 8, w ∈ wsX1_pass := by decide +kernel
  refine lv_aload_n hx hb dX1_pass_0 rfl (lv_at hl 0 rfl) ?_
  refine va_get (D := D) (ci := 1) (v := .int (v 0)) (C := RX1) (T := TX1) (N := 8) hx hb hts hinX1 hown hK hP 0 rfl rfl 2 (by decide) (hts (.fieldLink RX1 16 "JoinGrants$Join" "state" "I") (List.mem_of_getElem? (i := 1) rfl)) (fun _ h9 => h9) rfl dX1_pass_1 ?_
  refine lv_if_ne (tgt := 17) hx hb dX1_pass_4 (by decide) (fun c_4 => ?_) (fun c_4 => ?_)
  · --t
    refine lv_aload_n hx hb dX1_pass_17 rfl (lv_at hl 0 rfl) ?_
    refine va_get (D := D) (ci := 1) (v := .int (v 0)) (C := RX1) (T := TX1) (N := 8) hx hb hts hinX1 hown hK hP 0 rfl rfl 2 (by decide) (hts (.fieldLink RX1 16 "JoinGrants$Join" "state" "I") (List.mem_of_getElem? (i := 1) rfl)) (fun _ h9 => h9) rfl dX1_pass_18 ?_
    refine lv_iconst (v := 1) hx hb dX1_pass_21 (by decide) ?_
    refine lv_icmp_eq (tgt := 27) hx hb dX1_pass_22 (by decide) (fun c_22 => ?_) (fun c_22 => ?_)
    · --t
      refine lv_aload_n hx hb dX1_pass_27 rfl (lv_at hl 0 rfl) ?_
      refine lv_dup hx hb dX1_pass_28 rfl ?_
      refine va_get (D := D) (ci := 1) (v := .int (v 4)) (C := RX1) (T := TX1) (N := 8) hx hb hts hinX1 hown hK hP 0 rfl rfl 6 (by decide) (hts (.fieldLink RX1 47 "JoinGrants$Join" "stepsWorked" "I") (List.mem_of_getElem? (i := 3) rfl)) (fun _ h9 => h9) rfl dX1_pass_29 ?_
      refine lv_iload_n hx hb dX1_pass_32 rfl (lv_at hl 1 rfl) ?_
      refine lv_iadd hx hb dX1_pass_33 ?_
      refine va_put (D := D) (ci := 1) (v := .int ((v 4) + a1)) (ty := .int) (C := RX1) (T := TX1) (N := 8) hx hb hts hinX1 tyX1 tyX1_ok nmX1 hown hK hP hD hS 0 rfl rfl 6 (by decide) (hts (.fieldLink RX1 47 "JoinGrants$Join" "stepsWorked" "I") (List.mem_of_getElem? (i := 3) rfl)) (fun _ h9 => h9) rfl (by decide +kernel) rfl rfl (Nat.le_of_ble_eq_true rfl) dX1_pass_34 (fun H locs hP hD hS => ?_)
      have hP : va_P D vwCl (jW h q n (upd v 4 ((v 4) + a1))) H := hP
      have hD : va_D (va_A (jW h q n v) s.heap.size) (jW h q n (upd v 4 ((v 4) + a1))) := hD
      refine lv_aload_n hx hb dX1_pass_37 rfl (lv_at hl 0 rfl) ?_
      refine va_get (D := D) (ci := 1) (v := .int (v 2)) (C := RX1) (T := TX1) (N := 8) hx hb hts hinX1 hown hK hP 0 rfl rfl 4 (by decide) (hts (.fieldLink RX1 38 "JoinGrants$Join" "workLeft" "I") (List.mem_of_getElem? (i := 4) rfl)) (fun _ h9 => h9) rfl dX1_pass_38 ?_
      refine lv_iload_n hx hb dX1_pass_41 rfl (lv_at hl 1 rfl) ?_
      refine lv_iload_n hx hb dX1_pass_42 rfl (lv_at hl 2 rfl) ?_
      refine lv_imul hx hb dX1_pass_43 ?_
      refine va_mmin hx hb (hml.trans hl.1.symm) hown (hts (.methodLink RX1 50 Lib.Math.min.name) (List.mem_of_getElem? (i := 5) rfl)) (hts (.static Lib.Math.min.name) (List.mem_of_getElem? (i := 6) rfl)) (hts (.initialized "java/lang/Math") (List.mem_of_getElem? (i := 7) rfl)) (hts (.code Lib.Math.min.name Lib.Math.min.code 2 (some .int)) (List.mem_of_getElem? (i := 8) rfl)) (Nat.le_of_ble_eq_true rfl) (Nat.le_of_ble_eq_true rfl) (Nat.le_of_ble_eq_true rfl) (Nat.le_of_ble_eq_true rfl) dX1_pass_44 ?_
      refine lv_istore_n (lv' := [(3, .int (if (a1 * a2) < (v 2) then (a1 * a2) else (v 2))), (0, .ref h), (1, .int a1), (2, .int a2)]) hx hb dX1_pass_47 rfl hl (by decide) rfl (fun ls hl => ?_)
      refine lv_aload_n hx hb dX1_pass_48 rfl (lv_at hl 1 rfl) ?_
      refine lv_dup hx hb dX1_pass_49 rfl ?_
      refine va_get (D := D) (ci := 1) (v := .int (v 2)) (C := RX1) (T := TX1) (N := 8) hx hb hts hinX1 hown hK hP 0 rfl rfl 4 (by decide) (hts (.fieldLink RX1 38 "JoinGrants$Join" "workLeft" "I") (List.mem_of_getElem? (i := 4) rfl)) (fun _ h9 => h9) rfl dX1_pass_50 ?_
      refine lv_iload_n hx hb dX1_pass_53 rfl (lv_at hl 0 rfl) ?_
      refine lv_isub hx hb dX1_pass_54 ?_
      refine va_put (D := D) (ci := 1) (v := .int ((v 2) - (if (a1 * a2) < (v 2) then (a1 * a2) else (v 2)))) (ty := .int) (C := RX1) (T := TX1) (N := 8) hx hb hts hinX1 tyX1 tyX1_ok nmX1 hown hK hP hD hS 0 rfl rfl 4 (by decide) (hts (.fieldLink RX1 38 "JoinGrants$Join" "workLeft" "I") (List.mem_of_getElem? (i := 4) rfl)) (fun _ h9 => h9) rfl (by decide +kernel) rfl rfl (Nat.le_of_ble_eq_true rfl) dX1_pass_55 (fun H locs hP hD hS => ?_)
      have hP : va_P D vwCl (jW h q n (upd (upd v 4 ((v 4) + a1)) 2 ((v 2) - (if (a1 * a2) < (v 2) then (a1 * a2) else (v 2))))) H := hP
      have hD : va_D (va_A (jW h q n v) s.heap.size) (jW h q n (upd (upd v 4 ((v 4) + a1)) 2 ((v 2) - (if (a1 * a2) < (v 2) then (a1 * a2) else (v 2))))) := hD
      refine lv_iload_n hx hb dX1_pass_58 rfl (lv_at hl 0 rfl) ?_
      exact xiret hx hb hr hlk hP hD hS (congrArg (fun z => z.1) (show gX1_pass n v a1 a2 = ((if (a1 * a2) < (v 2) then (a1 * a2) else (v 2)), upd (upd v 4 ((v 4) + a1)) 2 ((v 2) - (if (a1 * a2) < (v 2) then (a1 * a2) else (v 2)))) from (Eq.trans (if_neg c_4) (Eq.trans (if_pos c_22) rfl)))).symm (congrArg (fun z => jW h q n z.2) (show gX1_pass n v a1 a2 = ((if (a1 * a2) < (v 2) then (a1 * a2) else (v 2)), upd (upd v 4 ((v 4) + a1)) 2 ((v 2) - (if (a1 * a2) < (v 2) then (a1 * a2) else (v 2)))) from (Eq.trans (if_neg c_4) (Eq.trans (if_pos c_22) rfl)))).symm dX1_pass_59
    · --f
      refine lv_iconst (v := 0) hx hb dX1_pass_25 (by decide) ?_
      exact xiret hx hb hr hlk hP hD hS (congrArg (fun z => z.1) (show gX1_pass n v a1 a2 = (0, v) from (Eq.trans (if_neg c_4) (Eq.trans (if_neg c_22) rfl)))).symm (congrArg (fun z => jW h q n z.2) (show gX1_pass n v a1 a2 = (0, v) from (Eq.trans (if_neg c_4) (Eq.trans (if_neg c_22) rfl)))).symm dX1_pass_26
  · --f
    refine lv_aload_n hx hb dX1_pass_7 rfl (lv_at hl 0 rfl) ?_
    refine lv_dup hx hb dX1_pass_8 rfl ?_
    refine va_get (D := D) (ci := 1) (v := .int (v 3)) (C := RX1) (T := TX1) (N := 8) hx hb hts hinX1 hown hK hP 0 rfl rfl 5 (by decide) (hts (.fieldLink RX1 44 "JoinGrants$Join" "stepsWaited" "I") (List.mem_of_getElem? (i := 2) rfl)) (fun _ h9 => h9) rfl dX1_pass_9 ?_
    refine lv_iload_n hx hb dX1_pass_12 rfl (lv_at hl 1 rfl) ?_
    refine lv_iadd hx hb dX1_pass_13 ?_
    refine va_put (D := D) (ci := 1) (v := .int ((v 3) + a1)) (ty := .int) (C := RX1) (T := TX1) (N := 8) hx hb hts hinX1 tyX1 tyX1_ok nmX1 hown hK hP hD hS 0 rfl rfl 5 (by decide) (hts (.fieldLink RX1 44 "JoinGrants$Join" "stepsWaited" "I") (List.mem_of_getElem? (i := 2) rfl)) (fun _ h9 => h9) rfl (by decide +kernel) rfl rfl (Nat.le_of_ble_eq_true rfl) dX1_pass_14 (fun H locs hP hD hS => ?_)
    have hP : va_P D vwCl (jW h q n (upd v 3 ((v 3) + a1))) H := hP
    have hD : va_D (va_A (jW h q n v) s.heap.size) (jW h q n (upd v 3 ((v 3) + a1))) := hD
    refine lv_aload_n hx hb dX1_pass_17 rfl (lv_at hl 0 rfl) ?_
    refine va_get (D := D) (ci := 1) (v := .int (v 0)) (C := RX1) (T := TX1) (N := 8) hx hb hts hinX1 hown hK hP 0 rfl rfl 2 (by decide) (hts (.fieldLink RX1 16 "JoinGrants$Join" "state" "I") (List.mem_of_getElem? (i := 1) rfl)) (fun _ h9 => h9) rfl dX1_pass_18 ?_
    refine lv_iconst (v := 1) hx hb dX1_pass_21 (by decide) ?_
    refine lv_icmp_eq (tgt := 27) hx hb dX1_pass_22 (by decide) (fun c_22 => ?_) (fun c_22 => ?_)
    · --t
      refine lv_aload_n hx hb dX1_pass_27 rfl (lv_at hl 0 rfl) ?_
      refine lv_dup hx hb dX1_pass_28 rfl ?_
      refine va_get (D := D) (ci := 1) (v := .int (v 4)) (C := RX1) (T := TX1) (N := 8) hx hb hts hinX1 hown hK hP 0 rfl rfl 6 (by decide) (hts (.fieldLink RX1 47 "JoinGrants$Join" "stepsWorked" "I") (List.mem_of_getElem? (i := 3) rfl)) (fun _ h9 => h9) rfl dX1_pass_29 ?_
      refine lv_iload_n hx hb dX1_pass_32 rfl (lv_at hl 1 rfl) ?_
      refine lv_iadd hx hb dX1_pass_33 ?_
      refine va_put (D := D) (ci := 1) (v := .int ((v 4) + a1)) (ty := .int) (C := RX1) (T := TX1) (N := 8) hx hb hts hinX1 tyX1 tyX1_ok nmX1 hown hK hP hD hS 0 rfl rfl 6 (by decide) (hts (.fieldLink RX1 47 "JoinGrants$Join" "stepsWorked" "I") (List.mem_of_getElem? (i := 3) rfl)) (fun _ h9 => h9) rfl (by decide +kernel) rfl rfl (Nat.le_of_ble_eq_true rfl) dX1_pass_34 (fun H locs hP hD hS => ?_)
      have hP : va_P D vwCl (jW h q n (upd (upd v 3 ((v 3) + a1)) 4 ((v 4) + a1))) H := hP
      have hD : va_D (va_A (jW h q n v) s.heap.size) (jW h q n (upd (upd v 3 ((v 3) + a1)) 4 ((v 4) + a1))) := hD
      refine lv_aload_n hx hb dX1_pass_37 rfl (lv_at hl 0 rfl) ?_
      refine va_get (D := D) (ci := 1) (v := .int (v 2)) (C := RX1) (T := TX1) (N := 8) hx hb hts hinX1 hown hK hP 0 rfl rfl 4 (by decide) (hts (.fieldLink RX1 38 "JoinGrants$Join" "workLeft" "I") (List.mem_of_getElem? (i := 4) rfl)) (fun _ h9 => h9) rfl dX1_pass_38 ?_
      refine lv_iload_n hx hb dX1_pass_41 rfl (lv_at hl 1 rfl) ?_
      refine lv_iload_n hx hb dX1_pass_42 rfl (lv_at hl 2 rfl) ?_
      refine lv_imul hx hb dX1_pass_43 ?_
      refine va_mmin hx hb (hml.trans hl.1.symm) hown (hts (.methodLink RX1 50 Lib.Math.min.name) (List.mem_of_getElem? (i := 5) rfl)) (hts (.static Lib.Math.min.name) (List.mem_of_getElem? (i := 6) rfl)) (hts (.initialized "java/lang/Math") (List.mem_of_getElem? (i := 7) rfl)) (hts (.code Lib.Math.min.name Lib.Math.min.code 2 (some .int)) (List.mem_of_getElem? (i := 8) rfl)) (Nat.le_of_ble_eq_true rfl) (Nat.le_of_ble_eq_true rfl) (Nat.le_of_ble_eq_true rfl) (Nat.le_of_ble_eq_true rfl) dX1_pass_44 ?_
      refine lv_istore_n (lv' := [(3, .int (if (a1 * a2) < (v 2) then (a1 * a2) else (v 2))), (0, .ref h), (1, .int a1), (2, .int a2)]) hx hb dX1_pass_47 rfl hl (by decide) rfl (fun ls hl => ?_)
      refine lv_aload_n hx hb dX1_pass_48 rfl (lv_at hl 1 rfl) ?_
      refine lv_dup hx hb dX1_pass_49 rfl ?_
      refine va_get (D := D) (ci := 1) (v := .int (v 2)) (C := RX1) (T := TX1) (N := 8) hx hb hts hinX1 hown hK hP 0 rfl rfl 4 (by decide) (hts (.fieldLink RX1 38 "JoinGrants$Join" "workLeft" "I") (List.mem_of_getElem? (i := 4) rfl)) (fun _ h9 => h9) rfl dX1_pass_50 ?_
      refine lv_iload_n hx hb dX1_pass_53 rfl (lv_at hl 0 rfl) ?_
      refine lv_isub hx hb dX1_pass_54 ?_
      refine va_put (D := D) (ci := 1) (v := .int ((v 2) - (if (a1 * a2) < (v 2) then (a1 * a2) else (v 2)))) (ty := .int) (C := RX1) (T := TX1) (N := 8) hx hb hts hinX1 tyX1 tyX1_ok nmX1 hown hK hP hD hS 0 rfl rfl 4 (by decide) (hts (.fieldLink RX1 38 "JoinGrants$Join" "workLeft" "I") (List.mem_of_getElem? (i := 4) rfl)) (fun _ h9 => h9) rfl (by decide +kernel) rfl rfl (Nat.le_of_ble_eq_true rfl) dX1_pass_55 (fun H locs hP hD hS => ?_)
      have hP : va_P D vwCl (jW h q n (upd (upd (upd v 3 ((v 3) + a1)) 4 ((v 4) + a1)) 2 ((v 2) - (if (a1 * a2) < (v 2) then (a1 * a2) else (v 2))))) H := hP
      have hD : va_D (va_A (jW h q n v) s.heap.size) (jW h q n (upd (upd (upd v 3 ((v 3) + a1)) 4 ((v 4) + a1)) 2 ((v 2) - (if (a1 * a2) < (v 2) then (a1 * a2) else (v 2))))) := hD
      refine lv_iload_n hx hb dX1_pass_58 rfl (lv_at hl 0 rfl) ?_
      exact xiret hx hb hr hlk hP hD hS (congrArg (fun z => z.1) (show gX1_pass n v a1 a2 = ((if (a1 * a2) < (v 2) then (a1 * a2) else (v 2)), upd (upd (upd v 3 ((v 3) + a1)) 4 ((v 4) + a1)) 2 ((v 2) - (if (a1 * a2) < (v 2) then (a1 * a2) else (v 2)))) from (Eq.trans (if_pos c_4) (Eq.trans (if_pos c_22) rfl)))).symm (congrArg (fun z => jW h q n z.2) (show gX1_pass n v a1 a2 = ((if (a1 * a2) < (v 2) then (a1 * a2) else (v 2)), upd (upd (upd v 3 ((v 3) + a1)) 4 ((v 4) + a1)) 2 ((v 2) - (if (a1 * a2) < (v 2) then (a1 * a2) else (v 2)))) from (Eq.trans (if_pos c_4) (Eq.trans (if_pos c_22) rfl)))).symm dX1_pass_59
    · --f
      refine lv_iconst (v := 0) hx hb dX1_pass_25 (by decide) ?_
      exact xiret hx hb hr hlk hP hD hS (congrArg (fun z => z.1) (show gX1_pass n v a1 a2 = (0, upd v 3 ((v 3) + a1)) from (Eq.trans (if_pos c_4) (Eq.trans (if_neg c_22) rfl)))).symm (congrArg (fun z => jW h q n z.2) (show gX1_pass n v a1 a2 = (0, upd v 3 ((v 3) + a1)) from (Eq.trans (if_pos c_4) (Eq.trans (if_neg c_22) rfl)))).symm dX1_pass_26

def rmX1_stepsLeft : Room := { frames := 0, cells := 0, slots := 0, locals := 0 }
def gX1_stepsLeft (n : Int32) (v : Nat → Int32) (a1 : Int32) : Int32 := (if 1 ≤ a1 then ((((v 2) + a1) - 1) / a1) else 1)
set_option maxHeartbeats 4000000 in
set_option maxRecDepth 100000 in
theorem mX1_stepsLeft (l : Launch) (D : va_G) (ck : Nat → ClassId) (h q : Nat) (n : Int32) (v : Nat → Int32) (a1 : Int32) : xMi l yX1_stepsLeft wsX1_stepsLeft rmX1_stepsLeft D ck [.ref h, .int a1] (jW h q n v) (jW h q n v) (gX1_stepsLeft n v a1) 0 0 := by
  refine xMet (by decide) rfl (Nat.le_of_ble_eq_true rfl) ?_
  intro zp ze s zm zb zt zc hx hb hr hml hown hts hlk hnm hN hK hP hD ls hl
  have hown : s.vm.findClass RX1 = some zm.cls := hown
  have hl : lv_has ls 2 [(0, .ref h), (1, .int a1)] := hl
  have hS : va_S (va_A (jW h q n v) s.heap.size) s.heap s.heap [] := va_S.rf
  have hA : ∀ zq : Nat, s.heap.size ≤ zq → va_A (jW h q n v) s.heap.size zq := fun zq h => Or.inr h
  have hinX1 : ∀ w ∈ u_ws RX1 TX1 8, w ∈ wsX1_stepsLeft := by decide +kernel
  refine lv_iload_n hx hb dX1_stepsLeft_0 rfl (lv_at hl 1 rfl) ?_
  refine lv_iconst (v := 1) hx hb dX1_stepsLeft_1 (by decide) ?_
  refine lv_icmp_ge (tgt := 9) hx hb dX1_stepsLeft_2 (by decide) (fun c_2 => ?_) (fun c_2 => ?_)
  · --t
    refine lv_aload_n hx hb dX1_stepsLeft_9 rfl (lv_at hl 0 rfl) ?_
    refine va_get (D := D) (ci := 1) (v := .int (v 2)) (C := RX1) (T := TX1) (N := 8) hx hb hts hinX1 hown hK hP 0 rfl rfl 4 (by decide) (hts (.fieldLink RX1 38 "JoinGrants$Join" "workLeft" "I") (List.mem_of_getElem? (i := 1) rfl)) (fun _ h9 => h9) rfl dX1_stepsLeft_10 ?_
    refine lv_iload_n hx hb dX1_stepsLeft_13 rfl (lv_at hl 1 rfl) ?_
    refine lv_iadd hx hb dX1_stepsLeft_14 ?_
    refine lv_iconst (v := 1) hx hb dX1_stepsLeft_15 (by decide) ?_
    refine lv_isub hx hb dX1_stepsLeft_16 ?_
    refine lv_iload_n hx hb dX1_stepsLeft_17 rfl (lv_at hl 1 rfl) ?_
    refine lv_idiv hx hb dX1_stepsLeft_18 (x_p1 c_2) ?_
    exact xiret hx hb hr hlk hP hD hS (show gX1_stepsLeft n v a1 = ((((v 2) + a1) - 1) / a1) from (Eq.trans (if_pos c_2) rfl)).symm rfl dX1_stepsLeft_19
  · --f
    refine lv_iconst (v := 1) hx hb dX1_stepsLeft_5 (by decide) ?_
    refine lv_goto (tgt := 19) hx hb dX1_stepsLeft_6 (by decide) ?_
    exact xiret hx hb hr hlk hP hD hS (show gX1_stepsLeft n v a1 = 1 from (Eq.trans (if_neg c_2) rfl)).symm rfl dX1_stepsLeft_19

def rmX1_hasWorkedAll : Room := { frames := 0, cells := 0, slots := 0, locals := 0 }
def gX1_hasWorkedAll (n : Int32) (v : Nat → Int32) : Int32 := (if (v 0) = 1 then (if (v 2) = 0 then 1 else 0) else 0)
set_option maxHeartbeats 4000000 in
set_option maxRecDepth 100000 in
theorem mX1_hasWorkedAll (l : Launch) (D : va_G) (ck : Nat → ClassId) (h q : Nat) (n : Int32) (v : Nat → Int32) : xMi l yX1_hasWorkedAll wsX1_hasWorkedAll rmX1_hasWorkedAll D ck [.ref h] (jW h q n v) (jW h q n v) (gX1_hasWorkedAll n v) 0 0 := by
  refine xMet (by decide) rfl (Nat.le_of_ble_eq_true rfl) ?_
  intro zp ze s zm zb zt zc hx hb hr hml hown hts hlk hnm hN hK hP hD ls hl
  have hown : s.vm.findClass RX1 = some zm.cls := hown
  have hl : lv_has ls 1 [(0, .ref h)] := hl
  have hS : va_S (va_A (jW h q n v) s.heap.size) s.heap s.heap [] := va_S.rf
  have hA : ∀ zq : Nat, s.heap.size ≤ zq → va_A (jW h q n v) s.heap.size zq := fun zq h => Or.inr h
  have hinX1 : ∀ w ∈ u_ws RX1 TX1 8, w ∈ wsX1_hasWorkedAll := by decide +kernel
  refine lv_aload_n hx hb dX1_hasWorkedAll_0 rfl (lv_at hl 0 rfl) ?_
  refine va_get (D := D) (ci := 1) (v := .int (v 0)) (C := RX1) (T := TX1) (N := 8) hx hb hts hinX1 hown hK hP 0 rfl rfl 2 (by decide) (hts (.fieldLink RX1 16 "JoinGrants$Join" "state" "I") (List.mem_of_getElem? (i := 1) rfl)) (fun _ h9 => h9) rfl dX1_hasWorkedAll_1 ?_
  refine lv_iconst (v := 1) hx hb dX1_hasWorkedAll_4 (by decide) ?_
  refine lv_icmp_ne (tgt := 19) hx hb dX1_hasWorkedAll_5 (by decide) (fun c_5 => ?_) (fun c_5 => ?_)
  · --t
    refine lv_iconst (v := 0) hx hb dX1_hasWorkedAll_19 (by decide) ?_
    exact xzret hx hb hr hlk hP hD hS (Or.inl rfl) (show gX1_hasWorkedAll n v = 0 from (Eq.trans (if_neg c_5) rfl)).symm rfl dX1_hasWorkedAll_20
  · --f
    refine lv_aload_n hx hb dX1_hasWorkedAll_8 rfl (lv_at hl 0 rfl) ?_
    refine va_get (D := D) (ci := 1) (v := .int (v 2)) (C := RX1) (T := TX1) (N := 8) hx hb hts hinX1 hown hK hP 0 rfl rfl 4 (by decide) (hts (.fieldLink RX1 38 "JoinGrants$Join" "workLeft" "I") (List.mem_of_getElem? (i := 2) rfl)) (fun _ h9 => h9) rfl dX1_hasWorkedAll_9 ?_
    refine lv_if_ne (tgt := 19) hx hb dX1_hasWorkedAll_12 (by decide) (fun c_12 => ?_) (fun c_12 => ?_)
    · --t
      refine lv_iconst (v := 0) hx hb dX1_hasWorkedAll_19 (by decide) ?_
      exact xzret hx hb hr hlk hP hD hS (Or.inl rfl) (show gX1_hasWorkedAll n v = 0 from (Eq.trans (if_pos c_5) (Eq.trans (if_neg c_12) rfl))).symm rfl dX1_hasWorkedAll_20
    · --f
      refine lv_iconst (v := 1) hx hb dX1_hasWorkedAll_15 (by decide) ?_
      refine lv_goto (tgt := 20) hx hb dX1_hasWorkedAll_16 (by decide) ?_
      exact xzret hx hb hr hlk hP hD hS (Or.inr rfl) (show gX1_hasWorkedAll n v = 1 from (Eq.trans (if_pos c_5) (Eq.trans (if_pos c_12) rfl))).symm rfl dX1_hasWorkedAll_20

def rmX1_surplus : Room := { frames := 0, cells := 0, slots := 0, locals := 0 }
def gX1_surplus (n : Int32) (v : Nat → Int32) : Int32 := (if (v 0) = 1 then ((v 1) - (v 9)) else 0)
set_option maxHeartbeats 4000000 in
set_option maxRecDepth 100000 in
theorem mX1_surplus (l : Launch) (D : va_G) (ck : Nat → ClassId) (h q : Nat) (n : Int32) (v : Nat → Int32) : xMi l yX1_surplus wsX1_surplus rmX1_surplus D ck [.ref h] (jW h q n v) (jW h q n v) (gX1_surplus n v) 0 0 := by
  refine xMet (by decide) rfl (Nat.le_of_ble_eq_true rfl) ?_
  intro zp ze s zm zb zt zc hx hb hr hml hown hts hlk hnm hN hK hP hD ls hl
  have hown : s.vm.findClass RX1 = some zm.cls := hown
  have hl : lv_has ls 1 [(0, .ref h)] := hl
  have hS : va_S (va_A (jW h q n v) s.heap.size) s.heap s.heap [] := va_S.rf
  have hA : ∀ zq : Nat, s.heap.size ≤ zq → va_A (jW h q n v) s.heap.size zq := fun zq h => Or.inr h
  have hinX1 : ∀ w ∈ u_ws RX1 TX1 8, w ∈ wsX1_surplus := by decide +kernel
  have hinX3 : ∀ w ∈ u_ws RX3 TX3 5, w ∈ wsX1_surplus := by decide +kernel
  refine lv_aload_n hx hb dX1_surplus_0 rfl (lv_at hl 0 rfl) ?_
  refine va_get (D := D) (ci := 1) (v := .int (v 0)) (C := RX1) (T := TX1) (N := 8) hx hb hts hinX1 hown hK hP 0 rfl rfl 2 (by decide) (hts (.fieldLink RX1 16 "JoinGrants$Join" "state" "I") (List.mem_of_getElem? (i := 1) rfl)) (fun _ h9 => h9) rfl dX1_surplus_1 ?_
  refine lv_iconst (v := 1) hx hb dX1_surplus_4 (by decide) ?_
  refine lv_icmp_ne (tgt := 23) hx hb dX1_surplus_5 (by decide) (fun c_5 => ?_) (fun c_5 => ?_)
  · --t
    refine lv_iconst (v := 0) hx hb dX1_surplus_23 (by decide) ?_
    exact xiret hx hb hr hlk hP hD hS (show gX1_surplus n v = 0 from (Eq.trans (if_neg c_5) rfl)).symm rfl dX1_surplus_24
  · --f
    refine lv_aload_n hx hb dX1_surplus_8 rfl (lv_at hl 0 rfl) ?_
    refine va_get (D := D) (ci := 1) (v := .int (v 1)) (C := RX1) (T := TX1) (N := 8) hx hb hts hinX1 hown hK hP 0 rfl rfl 3 (by decide) (hts (.fieldLink RX1 31 "JoinGrants$Join" "pages" "I") (List.mem_of_getElem? (i := 2) rfl)) (fun _ h9 => h9) rfl dX1_surplus_9 ?_
    refine lv_aload_n hx hb dX1_surplus_12 rfl (lv_at hl 0 rfl) ?_
    refine va_get (D := D) (ci := 1) (v := .ref q) (C := RX1) (T := TX1) (N := 8) hx hb hts hinX1 hown hK hP 0 rfl rfl 1 (by decide) (hts (.fieldLink RX1 10 "JoinGrants$Join" "plan" "LJoinGrants$Plan;") (List.mem_of_getElem? (i := 3) rfl)) (fun _ h9 => h9) rfl dX1_surplus_13 ?_
    refine va_getN (D := D) (ci := 3) (v := .int (v 9)) (C := RX3) (T := TX3) (N := 5) hx hb hts hinX3 hown hK hP 1 rfl rfl 3 (by decide) (va_Nw.use rfl hN.2.2.2.1) (fun _ h9 => h9) rfl dX1_surplus_16 ?_
    refine lv_isub hx hb dX1_surplus_19 ?_
    refine lv_goto (tgt := 24) hx hb dX1_surplus_20 (by decide) ?_
    exact xiret hx hb hr hlk hP hD hS (show gX1_surplus n v = ((v 1) - (v 9)) from (Eq.trans (if_pos c_5) rfl)).symm rfl dX1_surplus_24

def rmX1_spills : Room := { frames := 1, cells := 0, slots := 0, locals := 21 }
def gX1_spills (n : Int32) (v : Nat → Int32) : Int32 := (if (v 0) = 1 then (if (gX3_spillsWith (tl6 v) (v 1)) = 0 then 0 else 1) else 0)
set_option maxHeartbeats 4000000 in
set_option maxRecDepth 100000 in
theorem mX1_spills (l : Launch) (D : va_G) (ck : Nat → ClassId) (h q : Nat) (n : Int32) (v : Nat → Int32) : xMi l yX1_spills wsX1_spills rmX1_spills D ck [.ref h] (jW h q n v) (jW h q n v) (gX1_spills n v) 0 0 := by
  refine xMet (by decide) rfl (Nat.le_of_ble_eq_true rfl) ?_
  intro zp ze s zm zb zt zc hx hb hr hml hown hts hlk hnm hN hK hP hD ls hl
  have hown : s.vm.findClass RX1 = some zm.cls := hown
  have hl : lv_has ls 1 [(0, .ref h)] := hl
  have hS : va_S (va_A (jW h q n v) s.heap.size) s.heap s.heap [] := va_S.rf
  have hA : ∀ zq : Nat, s.heap.size ≤ zq → va_A (jW h q n v) s.heap.size zq := fun zq h => Or.inr h
  have hinX1 : ∀ w ∈ u_ws RX1 TX1 8, w ∈ wsX1_spills := by decide +kernel
  refine lv_aload_n hx hb dX1_spills_0 rfl (lv_at hl 0 rfl) ?_
  refine va_get (D := D) (ci := 1) (v := .int (v 0)) (C := RX1) (T := TX1) (N := 8) hx hb hts hinX1 hown hK hP 0 rfl rfl 2 (by decide) (hts (.fieldLink RX1 16 "JoinGrants$Join" "state" "I") (List.mem_of_getElem? (i := 1) rfl)) (fun _ h9 => h9) rfl dX1_spills_1 ?_
  refine lv_iconst (v := 1) hx hb dX1_spills_4 (by decide) ?_
  refine lv_icmp_ne (tgt := 26) hx hb dX1_spills_5 (by decide) (fun c_5 => ?_) (fun c_5 => ?_)
  · --t
    refine lv_iconst (v := 0) hx hb dX1_spills_26 (by decide) ?_
    exact xzret hx hb hr hlk hP hD hS (Or.inl rfl) (show gX1_spills n v = 0 from (Eq.trans (if_neg c_5) rfl)).symm rfl dX1_spills_27
  · --f
    refine lv_aload_n hx hb dX1_spills_8 rfl (lv_at hl 0 rfl) ?_
    refine va_get (D := D) (ci := 1) (v := .ref q) (C := RX1) (T := TX1) (N := 8) hx hb hts hinX1 hown hK hP 0 rfl rfl 1 (by decide) (hts (.fieldLink RX1 10 "JoinGrants$Join" "plan" "LJoinGrants$Plan;") (List.mem_of_getElem? (i := 2) rfl)) (fun _ h9 => h9) rfl dX1_spills_9 ?_
    refine lv_aload_n hx hb dX1_spills_12 rfl (lv_at hl 0 rfl) ?_
    refine va_get (D := D) (ci := 1) (v := .int (v 1)) (C := RX1) (T := TX1) (N := 8) hx hb hts hinX1 hown hK hP 0 rfl rfl 3 (by decide) (hts (.fieldLink RX1 31 "JoinGrants$Join" "pages" "I") (List.mem_of_getElem? (i := 3) rfl)) (fun _ h9 => h9) rfl dX1_spills_13 ?_
    refine xreti (va_runV (As := [.int (v 1)]) (rest := []) ⟨hx, hb, hml, hown, hts⟩ (mX3_spillsWith l D ck q (tl6 v) (v 1) _) (cwV 1 hts gX1_spills_X3_spillsWith rfl rfl rfl (by decide +kernel) ⟨Nat.le_of_ble_eq_true rfl, Nat.le_of_ble_eq_true rfl⟩) (xpreV hN hK hP hD (pm_jp (v := v)) 0 rfl rfl rfl) rfl rfl hl.1 rfl (lv_room (Nat.le_of_ble_eq_true rfl)) dX1_spills_16 ⟨Nat.le_of_ble_eq_true rfl, Nat.le_of_ble_eq_true rfl⟩) hP hD hS hA (pm_jp (v := v)) (pm_jp (v := v)).symm (fun H locs hP hD hS => ?_)
    refine lv_if_eq (tgt := 26) hx hb dX1_spills_19 (by decide) (fun c_19 => ?_) (fun c_19 => ?_)
    · --t
      refine lv_iconst (v := 0) hx hb dX1_spills_26 (by decide) ?_
      exact xzret hx hb hr hlk hP hD hS (Or.inl rfl) (show gX1_spills n v = 0 from (Eq.trans (if_pos c_5) (Eq.trans (if_pos c_19) rfl))).symm rfl dX1_spills_27
    · --f
      refine lv_iconst (v := 1) hx hb dX1_spills_22 (by decide) ?_
      refine lv_goto (tgt := 27) hx hb dX1_spills_23 (by decide) ?_
      exact xzret hx hb hr hlk hP hD hS (Or.inr rfl) (show gX1_spills n v = 1 from (Eq.trans (if_pos c_5) (Eq.trans (if_neg c_19) rfl))).symm rfl dX1_spills_27

def rmX1_isIn : Room := { frames := 0, cells := 0, slots := 0, locals := 0 }
def gX1_isIn (n : Int32) (v : Nat → Int32) (a1 : Int32) : Int32 := (if (v 0) = a1 then 1 else 0)
set_option maxHeartbeats 4000000 in
set_option maxRecDepth 100000 in
theorem mX1_isIn (l : Launch) (D : va_G) (ck : Nat → ClassId) (h q : Nat) (n : Int32) (v : Nat → Int32) (a1 : Int32) : xMi l yX1_isIn wsX1_isIn rmX1_isIn D ck [.ref h, .int a1] (jW h q n v) (jW h q n v) (gX1_isIn n v a1) 0 0 := by
  refine xMet (by decide) rfl (Nat.le_of_ble_eq_true rfl) ?_
  intro zp ze s zm zb zt zc hx hb hr hml hown hts hlk hnm hN hK hP hD ls hl
  have hown : s.vm.findClass RX1 = some zm.cls := hown
  have hl : lv_has ls 2 [(0, .ref h), (1, .int a1)] := hl
  have hS : va_S (va_A (jW h q n v) s.heap.size) s.heap s.heap [] := va_S.rf
  have hA : ∀ zq : Nat, s.heap.size ≤ zq → va_A (jW h q n v) s.heap.size zq := fun zq h => Or.inr h
  have hinX1 : ∀ w ∈ u_ws RX1 TX1 8, w ∈ wsX1_isIn := by decide +kernel
  refine lv_aload_n hx hb dX1_isIn_0 rfl (lv_at hl 0 rfl) ?_
  refine va_get (D := D) (ci := 1) (v := .int (v 0)) (C := RX1) (T := TX1) (N := 8) hx hb hts hinX1 hown hK hP 0 rfl rfl 2 (by decide) (hts (.fieldLink RX1 16 "JoinGrants$Join" "state" "I") (List.mem_of_getElem? (i := 1) rfl)) (fun _ h9 => h9) rfl dX1_isIn_1 ?_
  refine lv_iload_n hx hb dX1_isIn_4 rfl (lv_at hl 1 rfl) ?_
  refine lv_icmp_ne (tgt := 12) hx hb dX1_isIn_5 (by decide) (fun c_5 => ?_) (fun c_5 => ?_)
  · --t
    refine lv_iconst (v := 0) hx hb dX1_isIn_12 (by decide) ?_
    exact xzret hx hb hr hlk hP hD hS (Or.inl rfl) (show gX1_isIn n v a1 = 0 from (Eq.trans (if_neg c_5) rfl)).symm rfl dX1_isIn_13
  · --f
    refine lv_iconst (v := 1) hx hb dX1_isIn_8 (by decide) ?_
    refine lv_goto (tgt := 13) hx hb dX1_isIn_9 (by decide) ?_
    exact xzret hx hb hr hlk hP hD hS (Or.inr rfl) (show gX1_isIn n v a1 = 1 from (Eq.trans (if_pos c_5) rfl)).symm rfl dX1_isIn_13

def rmX1_number : Room := { frames := 0, cells := 0, slots := 0, locals := 0 }
def gX1_number (n : Int32) (v : Nat → Int32) : Int32 := n
set_option maxHeartbeats 4000000 in
set_option maxRecDepth 100000 in
theorem mX1_number (l : Launch) (D : va_G) (ck : Nat → ClassId) (h q : Nat) (n : Int32) (v : Nat → Int32) : xMi l yX1_number wsX1_number rmX1_number D ck [.ref h] (jW h q n v) (jW h q n v) (gX1_number n v) 0 0 := by
  refine xMet (by decide) rfl (Nat.le_of_ble_eq_true rfl) ?_
  intro zp ze s zm zb zt zc hx hb hr hml hown hts hlk hnm hN hK hP hD ls hl
  have hown : s.vm.findClass RX1 = some zm.cls := hown
  have hl : lv_has ls 1 [(0, .ref h)] := hl
  have hS : va_S (va_A (jW h q n v) s.heap.size) s.heap s.heap [] := va_S.rf
  have hA : ∀ zq : Nat, s.heap.size ≤ zq → va_A (jW h q n v) s.heap.size zq := fun zq h => Or.inr h
  have hinX1 : ∀ w ∈ u_ws RX1 TX1 8, w ∈ wsX1_number := by decide +kernel
  refine lv_aload_n hx hb dX1_number_0 rfl (lv_at hl 0 rfl) ?_
  refine va_get (D := D) (ci := 1) (v := .int n) (C := RX1) (T := TX1) (N := 8) hx hb hts hinX1 hown hK hP 0 rfl rfl 0 (by decide) (hts (.fieldLink RX1 20 "JoinGrants$Join" "number" "I") (List.mem_of_getElem? (i := 1) rfl)) (fun _ h9 => h9) rfl dX1_number_1 ?_
  exact xiret hx hb hr hlk hP hD hS (show gX1_number n v = n from rfl).symm rfl dX1_number_4

def rmX1_way : Room := { frames := 0, cells := 0, slots := 0, locals := 0 }
def gX1_way (n : Int32) (v : Nat → Int32) : Int32 := (v 6)
set_option maxHeartbeats 4000000 in
set_option maxRecDepth 100000 in
theorem mX1_way (l : Launch) (D : va_G) (ck : Nat → ClassId) (h q : Nat) (n : Int32) (v : Nat → Int32) : xMi l yX1_way wsX1_way rmX1_way D ck [.ref h] (jW h q n v) (jW h q n v) (gX1_way n v) 0 0 := by
  refine xMet (by decide) rfl (Nat.le_of_ble_eq_true rfl) ?_
  intro zp ze s zm zb zt zc hx hb hr hml hown hts hlk hnm hN hK hP hD ls hl
  have hown : s.vm.findClass RX1 = some zm.cls := hown
  have hl : lv_has ls 1 [(0, .ref h)] := hl
  have hS : va_S (va_A (jW h q n v) s.heap.size) s.heap s.heap [] := va_S.rf
  have hA : ∀ zq : Nat, s.heap.size ≤ zq → va_A (jW h q n v) s.heap.size zq := fun zq h => Or.inr h
  have hinX1 : ∀ w ∈ u_ws RX1 TX1 8, w ∈ wsX1_way := by decide +kernel
  have hinX3 : ∀ w ∈ u_ws RX3 TX3 5, w ∈ wsX1_way := by decide +kernel
  refine lv_aload_n hx hb dX1_way_0 rfl (lv_at hl 0 rfl) ?_
  refine va_get (D := D) (ci := 1) (v := .ref q) (C := RX1) (T := TX1) (N := 8) hx hb hts hinX1 hown hK hP 0 rfl rfl 1 (by decide) (hts (.fieldLink RX1 10 "JoinGrants$Join" "plan" "LJoinGrants$Plan;") (List.mem_of_getElem? (i := 1) rfl)) (fun _ h9 => h9) rfl dX1_way_1 ?_
  refine va_getN (D := D) (ci := 3) (v := .int (v 6)) (C := RX3) (T := TX3) (N := 5) hx hb hts hinX3 hown hK hP 1 rfl rfl 0 (by decide) (va_Nw.use rfl hN.2.2.2.2.1) (fun _ h9 => h9) rfl dX1_way_4 ?_
  exact xiret hx hb hr hlk hP hD hS (show gX1_way n v = (v 6) from rfl).symm rfl dX1_way_7

def rmX1_need : Room := { frames := 0, cells := 0, slots := 0, locals := 0 }
def gX1_need (n : Int32) (v : Nat → Int32) : Int32 := (v 9)
set_option maxHeartbeats 4000000 in
set_option maxRecDepth 100000 in
theorem mX1_need (l : Launch) (D : va_G) (ck : Nat → ClassId) (h q : Nat) (n : Int32) (v : Nat → Int32) : xMi l yX1_need wsX1_need rmX1_need D ck [.ref h] (jW h q n v) (jW h q n v) (gX1_need n v) 0 0 := by
  refine xMet (by decide) rfl (Nat.le_of_ble_eq_true rfl) ?_
  intro zp ze s zm zb zt zc hx hb hr hml hown hts hlk hnm hN hK hP hD ls hl
  have hown : s.vm.findClass RX1 = some zm.cls := hown
  have hl : lv_has ls 1 [(0, .ref h)] := hl
  have hS : va_S (va_A (jW h q n v) s.heap.size) s.heap s.heap [] := va_S.rf
  have hA : ∀ zq : Nat, s.heap.size ≤ zq → va_A (jW h q n v) s.heap.size zq := fun zq h => Or.inr h
  have hinX1 : ∀ w ∈ u_ws RX1 TX1 8, w ∈ wsX1_need := by decide +kernel
  have hinX3 : ∀ w ∈ u_ws RX3 TX3 5, w ∈ wsX1_need := by decide +kernel
  refine lv_aload_n hx hb dX1_need_0 rfl (lv_at hl 0 rfl) ?_
  refine va_get (D := D) (ci := 1) (v := .ref q) (C := RX1) (T := TX1) (N := 8) hx hb hts hinX1 hown hK hP 0 rfl rfl 1 (by decide) (hts (.fieldLink RX1 10 "JoinGrants$Join" "plan" "LJoinGrants$Plan;") (List.mem_of_getElem? (i := 1) rfl)) (fun _ h9 => h9) rfl dX1_need_1 ?_
  refine va_getN (D := D) (ci := 3) (v := .int (v 9)) (C := RX3) (T := TX3) (N := 5) hx hb hts hinX3 hown hK hP 1 rfl rfl 3 (by decide) (va_Nw.use rfl hN.2.2.2.1) (fun _ h9 => h9) rfl dX1_need_4 ?_
  exact xiret hx hb hr hlk hP hD hS (show gX1_need n v = (v 9) from rfl).symm rfl dX1_need_7

def rmX1_want : Room := { frames := 0, cells := 0, slots := 0, locals := 0 }
def gX1_want (n : Int32) (v : Nat → Int32) : Int32 := (v 10)
set_option maxHeartbeats 4000000 in
set_option maxRecDepth 100000 in
theorem mX1_want (l : Launch) (D : va_G) (ck : Nat → ClassId) (h q : Nat) (n : Int32) (v : Nat → Int32) : xMi l yX1_want wsX1_want rmX1_want D ck [.ref h] (jW h q n v) (jW h q n v) (gX1_want n v) 0 0 := by
  refine xMet (by decide) rfl (Nat.le_of_ble_eq_true rfl) ?_
  intro zp ze s zm zb zt zc hx hb hr hml hown hts hlk hnm hN hK hP hD ls hl
  have hown : s.vm.findClass RX1 = some zm.cls := hown
  have hl : lv_has ls 1 [(0, .ref h)] := hl
  have hS : va_S (va_A (jW h q n v) s.heap.size) s.heap s.heap [] := va_S.rf
  have hA : ∀ zq : Nat, s.heap.size ≤ zq → va_A (jW h q n v) s.heap.size zq := fun zq h => Or.inr h
  have hinX1 : ∀ w ∈ u_ws RX1 TX1 8, w ∈ wsX1_want := by decide +kernel
  have hinX3 : ∀ w ∈ u_ws RX3 TX3 5, w ∈ wsX1_want := by decide +kernel
  refine lv_aload_n hx hb dX1_want_0 rfl (lv_at hl 0 rfl) ?_
  refine va_get (D := D) (ci := 1) (v := .ref q) (C := RX1) (T := TX1) (N := 8) hx hb hts hinX1 hown hK hP 0 rfl rfl 1 (by decide) (hts (.fieldLink RX1 10 "JoinGrants$Join" "plan" "LJoinGrants$Plan;") (List.mem_of_getElem? (i := 1) rfl)) (fun _ h9 => h9) rfl dX1_want_1 ?_
  refine va_getN (D := D) (ci := 3) (v := .int (v 10)) (C := RX3) (T := TX3) (N := 5) hx hb hts hinX3 hown hK hP 1 rfl rfl 4 (by decide) (va_Nw.use rfl hN.2.2.2.2.2.1) (fun _ h9 => h9) rfl dX1_want_4 ?_
  exact xiret hx hb hr hlk hP hD hS (show gX1_want n v = (v 10) from rfl).symm rfl dX1_want_7

def rmX1_pages : Room := { frames := 0, cells := 0, slots := 0, locals := 0 }
def gX1_pages (n : Int32) (v : Nat → Int32) : Int32 := (v 1)
set_option maxHeartbeats 4000000 in
set_option maxRecDepth 100000 in
theorem mX1_pages (l : Launch) (D : va_G) (ck : Nat → ClassId) (h q : Nat) (n : Int32) (v : Nat → Int32) : xMi l yX1_pages wsX1_pages rmX1_pages D ck [.ref h] (jW h q n v) (jW h q n v) (gX1_pages n v) 0 0 := by
  refine xMet (by decide) rfl (Nat.le_of_ble_eq_true rfl) ?_
  intro zp ze s zm zb zt zc hx hb hr hml hown hts hlk hnm hN hK hP hD ls hl
  have hown : s.vm.findClass RX1 = some zm.cls := hown
  have hl : lv_has ls 1 [(0, .ref h)] := hl
  have hS : va_S (va_A (jW h q n v) s.heap.size) s.heap s.heap [] := va_S.rf
  have hA : ∀ zq : Nat, s.heap.size ≤ zq → va_A (jW h q n v) s.heap.size zq := fun zq h => Or.inr h
  have hinX1 : ∀ w ∈ u_ws RX1 TX1 8, w ∈ wsX1_pages := by decide +kernel
  refine lv_aload_n hx hb dX1_pages_0 rfl (lv_at hl 0 rfl) ?_
  refine va_get (D := D) (ci := 1) (v := .int (v 1)) (C := RX1) (T := TX1) (N := 8) hx hb hts hinX1 hown hK hP 0 rfl rfl 3 (by decide) (hts (.fieldLink RX1 31 "JoinGrants$Join" "pages" "I") (List.mem_of_getElem? (i := 1) rfl)) (fun _ h9 => h9) rfl dX1_pages_1 ?_
  exact xiret hx hb hr hlk hP hD hS (show gX1_pages n v = (v 1) from rfl).symm rfl dX1_pages_4

def rmX1_canTell : Room := { frames := 0, cells := 0, slots := 0, locals := 0 }
def gX1_canTell (a1 : Int32) : Int32 := (if a1 < 0 then 0 else (if 11 < a1 then 0 else 1))
set_option maxHeartbeats 4000000 in
set_option maxRecDepth 100000 in
theorem mX1_canTell (l : Launch) (D : va_G) (ck : Nat → ClassId) (a1 : Int32) : xMi l yX1_canTell wsX1_canTell rmX1_canTell D ck [.int a1] ([]) ([]) (gX1_canTell a1) 0 0 := by
  refine xMet (by decide) rfl (Nat.le_of_ble_eq_true rfl) ?_
  intro zp ze s zm zb zt zc hx hb hr hml hown hts hlk hnm hN hK hP hD ls hl
  have hown : s.vm.findClass RX1 = some zm.cls := hown
  have hl : lv_has ls 1 [(0, .int a1)] := hl
  have hS : va_S (va_A ([]) s.heap.size) s.heap s.heap [] := va_S.rf
  have hA : ∀ zq : Nat, s.heap.size ≤ zq → va_A ([]) s.heap.size zq := fun zq h => Or.inr h
  refine lv_iload_n hx hb dX1_canTell_0 rfl (lv_at hl 0 rfl) ?_
  refine lv_if_lt (tgt := 14) hx hb dX1_canTell_1 (by decide) (fun c_1 => ?_) (fun c_1 => ?_)
  · --t
    refine lv_iconst (v := 0) hx hb dX1_canTell_14 (by decide) ?_
    exact xzret hx hb hr hlk hP hD hS (Or.inl rfl) (show gX1_canTell a1 = 0 from (Eq.trans (if_pos c_1) rfl)).symm rfl dX1_canTell_15
  · --f
    refine lv_iload_n hx hb dX1_canTell_4 rfl (lv_at hl 0 rfl) ?_
    refine lv_bipush (v := 11) hx hb dX1_canTell_5 (by decide) ?_
    refine lv_icmp_gt (tgt := 14) hx hb dX1_canTell_7 (by decide) (fun c_7 => ?_) (fun c_7 => ?_)
    · --t
      refine lv_iconst (v := 0) hx hb dX1_canTell_14 (by decide) ?_
      exact xzret hx hb hr hlk hP hD hS (Or.inl rfl) (show gX1_canTell a1 = 0 from (Eq.trans (if_neg c_1) (Eq.trans (if_pos c_7) rfl))).symm rfl dX1_canTell_15
    · --f
      refine lv_iconst (v := 1) hx hb dX1_canTell_10 (by decide) ?_
      refine lv_goto (tgt := 15) hx hb dX1_canTell_11 (by decide) ?_
      exact xzret hx hb hr hlk hP hD hS (Or.inr rfl) (show gX1_canTell a1 = 1 from (Eq.trans (if_neg c_1) (Eq.trans (if_neg c_7) rfl))).symm rfl dX1_canTell_15

def rmX1_tell : Room := { frames := 2, cells := 0, slots := 0, locals := 41 }
def gX1_tell (n : Int32) (v : Nat → Int32) (a1 : Int32) : Int32 := (if a1 = 0 then (v 6) else (if a1 = 1 then (v 7) else (if a1 = 2 then (v 8) else (if a1 = 3 then (v 0) else (if a1 = 4 then (v 9) else (if a1 = 5 then (v 10) else (if a1 = 6 then (v 1) else (if a1 = 7 then (v 2) else (if a1 = 8 then (v 3) else (if a1 = 9 then (v 4) else (if a1 = 10 then (v 5) else (if (gX1_spills n v ) = 0 then 0 else 1))))))))))))
set_option maxHeartbeats 4000000 in
set_option maxRecDepth 100000 in
theorem mX1_tell (l : Launch) (D : va_G) (ck : Nat → ClassId) (h q : Nat) (n : Int32) (v : Nat → Int32) (a1 : Int32) : xMi l yX1_tell wsX1_tell rmX1_tell D ck [.ref h, .int a1] (jW h q n v) (jW h q n v) (gX1_tell n v a1) 0 0 := by
  refine xMet (by decide) rfl (Nat.le_of_ble_eq_true rfl) ?_
  intro zp ze s zm zb zt zc hx hb hr hml hown hts hlk hnm hN hK hP hD ls hl
  have hown : s.vm.findClass RX1 = some zm.cls := hown
  have hl : lv_has ls 2 [(0, .ref h), (1, .int a1)] := hl
  have hS : va_S (va_A (jW h q n v) s.heap.size) s.heap s.heap [] := va_S.rf
  have hA : ∀ zq : Nat, s.heap.size ≤ zq → va_A (jW h q n v) s.heap.size zq := fun zq h => Or.inr h
  have hinX1 : ∀ w ∈ u_ws RX1 TX1 8, w ∈ wsX1_tell := by decide +kernel
  have hinX3 : ∀ w ∈ u_ws RX3 TX3 5, w ∈ wsX1_tell := by decide +kernel
  refine lv_iload_n hx hb dX1_tell_0 rfl (lv_at hl 1 rfl) ?_
  by_cases c_1_0 : a1 = 0
  · --0
    refine lv_tableIn (tgt := 60) (off := 59) hx hb dX1_tell_1 (by rw [c_1_0]; decide) (by rw [c_1_0]; decide) (by rw [c_1_0]; decide) (by decide) ?_
    refine lv_aload_n hx hb dX1_tell_60 rfl (lv_at hl 0 rfl) ?_
    refine va_get (D := D) (ci := 1) (v := .ref q) (C := RX1) (T := TX1) (N := 8) hx hb hts hinX1 hown hK hP 0 rfl rfl 1 (by decide) (hts (.fieldLink RX1 10 "JoinGrants$Join" "plan" "LJoinGrants$Plan;") (List.mem_of_getElem? (i := 1) rfl)) (fun _ h9 => h9) rfl dX1_tell_61 ?_
    refine va_getN (D := D) (ci := 3) (v := .int (v 6)) (C := RX3) (T := TX3) (N := 5) hx hb hts hinX3 hown hK hP 1 rfl rfl 0 (by decide) (va_Nw.use rfl hN.2.2.2.2.1) (fun _ h9 => h9) rfl dX1_tell_64 ?_
    exact xiret hx hb hr hlk hP hD hS (show gX1_tell n v a1 = (v 6) from (Eq.trans (if_pos c_1_0) rfl)).symm rfl dX1_tell_67
  by_cases c_1_1 : a1 = 1
  · --1
    refine lv_tableIn (tgt := 68) (off := 67) hx hb dX1_tell_1 (by rw [c_1_1]; decide) (by rw [c_1_1]; decide) (by rw [c_1_1]; decide) (by decide) ?_
    refine lv_aload_n hx hb dX1_tell_68 rfl (lv_at hl 0 rfl) ?_
    refine va_get (D := D) (ci := 1) (v := .ref q) (C := RX1) (T := TX1) (N := 8) hx hb hts hinX1 hown hK hP 0 rfl rfl 1 (by decide) (hts (.fieldLink RX1 10 "JoinGrants$Join" "plan" "LJoinGrants$Plan;") (List.mem_of_getElem? (i := 1) rfl)) (fun _ h9 => h9) rfl dX1_tell_69 ?_
    refine va_getN (D := D) (ci := 3) (v := .int (v 7)) (C := RX3) (T := TX3) (N := 5) hx hb hts hinX3 hown hK hP 1 rfl rfl 1 (by decide) (va_Nw.use rfl hN.2.2.2.2.2.2.1) (fun _ h9 => h9) rfl dX1_tell_72 ?_
    exact xiret hx hb hr hlk hP hD hS (show gX1_tell n v a1 = (v 7) from (Eq.trans (if_neg c_1_0) (Eq.trans (if_pos c_1_1) rfl))).symm rfl dX1_tell_75
  by_cases c_1_2 : a1 = 2
  · --2
    refine lv_tableIn (tgt := 76) (off := 75) hx hb dX1_tell_1 (by rw [c_1_2]; decide) (by rw [c_1_2]; decide) (by rw [c_1_2]; decide) (by decide) ?_
    refine lv_aload_n hx hb dX1_tell_76 rfl (lv_at hl 0 rfl) ?_
    refine va_get (D := D) (ci := 1) (v := .ref q) (C := RX1) (T := TX1) (N := 8) hx hb hts hinX1 hown hK hP 0 rfl rfl 1 (by decide) (hts (.fieldLink RX1 10 "JoinGrants$Join" "plan" "LJoinGrants$Plan;") (List.mem_of_getElem? (i := 1) rfl)) (fun _ h9 => h9) rfl dX1_tell_77 ?_
    refine va_getN (D := D) (ci := 3) (v := .int (v 8)) (C := RX3) (T := TX3) (N := 5) hx hb hts hinX3 hown hK hP 1 rfl rfl 2 (by decide) (va_Nw.use rfl hN.2.2.2.2.2.2.2.1) (fun _ h9 => h9) rfl dX1_tell_80 ?_
    exact xiret hx hb hr hlk hP hD hS (show gX1_tell n v a1 = (v 8) from (Eq.trans (if_neg c_1_0) (Eq.trans (if_neg c_1_1) (Eq.trans (if_pos c_1_2) rfl)))).symm rfl dX1_tell_83
  by_cases c_1_3 : a1 = 3
  · --3
    refine lv_tableIn (tgt := 84) (off := 83) hx hb dX1_tell_1 (by rw [c_1_3]; decide) (by rw [c_1_3]; decide) (by rw [c_1_3]; decide) (by decide) ?_
    refine lv_aload_n hx hb dX1_tell_84 rfl (lv_at hl 0 rfl) ?_
    refine va_get (D := D) (ci := 1) (v := .int (v 0)) (C := RX1) (T := TX1) (N := 8) hx hb hts hinX1 hown hK hP 0 rfl rfl 2 (by decide) (hts (.fieldLink RX1 16 "JoinGrants$Join" "state" "I") (List.mem_of_getElem? (i := 2) rfl)) (fun _ h9 => h9) rfl dX1_tell_85 ?_
    exact xiret hx hb hr hlk hP hD hS (show gX1_tell n v a1 = (v 0) from (Eq.trans (if_neg c_1_0) (Eq.trans (if_neg c_1_1) (Eq.trans (if_neg c_1_2) (Eq.trans (if_pos c_1_3) rfl))))).symm rfl dX1_tell_88
  by_cases c_1_4 : a1 = 4
  · --4
    refine lv_tableIn (tgt := 89) (off := 88) hx hb dX1_tell_1 (by rw [c_1_4]; decide) (by rw [c_1_4]; decide) (by rw [c_1_4]; decide) (by decide) ?_
    refine lv_aload_n hx hb dX1_tell_89 rfl (lv_at hl 0 rfl) ?_
    refine va_get (D := D) (ci := 1) (v := .ref q) (C := RX1) (T := TX1) (N := 8) hx hb hts hinX1 hown hK hP 0 rfl rfl 1 (by decide) (hts (.fieldLink RX1 10 "JoinGrants$Join" "plan" "LJoinGrants$Plan;") (List.mem_of_getElem? (i := 1) rfl)) (fun _ h9 => h9) rfl dX1_tell_90 ?_
    refine va_getN (D := D) (ci := 3) (v := .int (v 9)) (C := RX3) (T := TX3) (N := 5) hx hb hts hinX3 hown hK hP 1 rfl rfl 3 (by decide) (va_Nw.use rfl hN.2.2.2.1) (fun _ h9 => h9) rfl dX1_tell_93 ?_
    exact xiret hx hb hr hlk hP hD hS (show gX1_tell n v a1 = (v 9) from (Eq.trans (if_neg c_1_0) (Eq.trans (if_neg c_1_1) (Eq.trans (if_neg c_1_2) (Eq.trans (if_neg c_1_3) (Eq.trans (if_pos c_1_4) rfl)))))).symm rfl dX1_tell_96
  by_cases c_1_5 : a1 = 5
  · --5
    refine lv_tableIn (tgt := 97) (off := 96) hx hb dX1_tell_1 (by rw [c_1_5]; decide) (by rw [c_1_5]; decide) (by rw [c_1_5]; decide) (by decide) ?_
    refine lv_aload_n hx hb dX1_tell_97 rfl (lv_at hl 0 rfl) ?_
    refine va_get (D := D) (ci := 1) (v := .ref q) (C := RX1) (T := TX1) (N := 8) hx hb hts hinX1 hown hK hP 0 rfl rfl 1 (by decide) (hts (.fieldLink RX1 10 "JoinGrants$Join" "plan" "LJoinGrants$Plan;") (List.mem_of_getElem? (i := 1) rfl)) (fun _ h9 => h9) rfl dX1_tell_98 ?_
    refine va_getN (D := D) (ci := 3) (v := .int (v 10)) (C := RX3) (T := TX3) (N := 5) hx hb hts hinX3 hown hK hP 1 rfl rfl 4 (by decide) (va_Nw.use rfl hN.2.2.2.2.2.1) (fun _ h9 => h9) rfl dX1_tell_101 ?_
    exact xiret hx hb hr hlk hP hD hS (show gX1_tell n v a1 = (v 10) from (Eq.trans (if_neg c_1_0) (Eq.trans (if_neg c_1_1) (Eq.trans (if_neg c_1_2) (Eq.trans (if_neg c_1_3) (Eq.trans (if_neg c_1_4) (Eq.trans (if_pos c_1_5) rfl))))))).symm rfl dX1_tell_104
  by_cases c_1_6 : a1 = 6
  · --6
    refine lv_tableIn (tgt := 105) (off := 104) hx hb dX1_tell_1 (by rw [c_1_6]; decide) (by rw [c_1_6]; decide) (by rw [c_1_6]; decide) (by decide) ?_
    refine lv_aload_n hx hb dX1_tell_105 rfl (lv_at hl 0 rfl) ?_
    refine va_get (D := D) (ci := 1) (v := .int (v 1)) (C := RX1) (T := TX1) (N := 8) hx hb hts hinX1 hown hK hP 0 rfl rfl 3 (by decide) (hts (.fieldLink RX1 31 "JoinGrants$Join" "pages" "I") (List.mem_of_getElem? (i := 3) rfl)) (fun _ h9 => h9) rfl dX1_tell_106 ?_
    exact xiret hx hb hr hlk hP hD hS (show gX1_tell n v a1 = (v 1) from (Eq.trans (if_neg c_1_0) (Eq.trans (if_neg c_1_1) (Eq.trans (if_neg c_1_2) (Eq.trans (if_neg c_1_3) (Eq.trans (if_neg c_1_4) (Eq.trans (if_neg c_1_5) (Eq.trans (if_pos c_1_6) rfl)))))))).symm rfl dX1_tell_109
  by_cases c_1_7 : a1 = 7
  · --7
    refine lv_tableIn (tgt := 110) (off := 109) hx hb dX1_tell_1 (by rw [c_1_7]; decide) (by rw [c_1_7]; decide) (by rw [c_1_7]; decide) (by decide) ?_
    refine lv_aload_n hx hb dX1_tell_110 rfl (lv_at hl 0 rfl) ?_
    refine va_get (D := D) (ci := 1) (v := .int (v 2)) (C := RX1) (T := TX1) (N := 8) hx hb hts hinX1 hown hK hP 0 rfl rfl 4 (by decide) (hts (.fieldLink RX1 38 "JoinGrants$Join" "workLeft" "I") (List.mem_of_getElem? (i := 4) rfl)) (fun _ h9 => h9) rfl dX1_tell_111 ?_
    exact xiret hx hb hr hlk hP hD hS (show gX1_tell n v a1 = (v 2) from (Eq.trans (if_neg c_1_0) (Eq.trans (if_neg c_1_1) (Eq.trans (if_neg c_1_2) (Eq.trans (if_neg c_1_3) (Eq.trans (if_neg c_1_4) (Eq.trans (if_neg c_1_5) (Eq.trans (if_neg c_1_6) (Eq.trans (if_pos c_1_7) rfl))))))))).symm rfl dX1_tell_114
  by_cases c_1_8 : a1 = 8
  · --8
    refine lv_tableIn (tgt := 115) (off := 114) hx hb dX1_tell_1 (by rw [c_1_8]; decide) (by rw [c_1_8]; decide) (by rw [c_1_8]; decide) (by decide) ?_
    refine lv_aload_n hx hb dX1_tell_115 rfl (lv_at hl 0 rfl) ?_
    refine va_get (D := D) (ci := 1) (v := .int (v 3)) (C := RX1) (T := TX1) (N := 8) hx hb hts hinX1 hown hK hP 0 rfl rfl 5 (by decide) (hts (.fieldLink RX1 44 "JoinGrants$Join" "stepsWaited" "I") (List.mem_of_getElem? (i := 5) rfl)) (fun _ h9 => h9) rfl dX1_tell_116 ?_
    exact xiret hx hb hr hlk hP hD hS (show gX1_tell n v a1 = (v 3) from (Eq.trans (if_neg c_1_0) (Eq.trans (if_neg c_1_1) (Eq.trans (if_neg c_1_2) (Eq.trans (if_neg c_1_3) (Eq.trans (if_neg c_1_4) (Eq.trans (if_neg c_1_5) (Eq.trans (if_neg c_1_6) (Eq.trans (if_neg c_1_7) (Eq.trans (if_pos c_1_8) rfl)))))))))).symm rfl dX1_tell_119
  by_cases c_1_9 : a1 = 9
  · --9
    refine lv_tableIn (tgt := 120) (off := 119) hx hb dX1_tell_1 (by rw [c_1_9]; decide) (by rw [c_1_9]; decide) (by rw [c_1_9]; decide) (by decide) ?_
    refine lv_aload_n hx hb dX1_tell_120 rfl (lv_at hl 0 rfl) ?_
    refine va_get (D := D) (ci := 1) (v := .int (v 4)) (C := RX1) (T := TX1) (N := 8) hx hb hts hinX1 hown hK hP 0 rfl rfl 6 (by decide) (hts (.fieldLink RX1 47 "JoinGrants$Join" "stepsWorked" "I") (List.mem_of_getElem? (i := 6) rfl)) (fun _ h9 => h9) rfl dX1_tell_121 ?_
    exact xiret hx hb hr hlk hP hD hS (show gX1_tell n v a1 = (v 4) from (Eq.trans (if_neg c_1_0) (Eq.trans (if_neg c_1_1) (Eq.trans (if_neg c_1_2) (Eq.trans (if_neg c_1_3) (Eq.trans (if_neg c_1_4) (Eq.trans (if_neg c_1_5) (Eq.trans (if_neg c_1_6) (Eq.trans (if_neg c_1_7) (Eq.trans (if_neg c_1_8) (Eq.trans (if_pos c_1_9) rfl))))))))))).symm rfl dX1_tell_124
  by_cases c_1_10 : a1 = 10
  · --10
    refine lv_tableIn (tgt := 125) (off := 124) hx hb dX1_tell_1 (by rw [c_1_10]; decide) (by rw [c_1_10]; decide) (by rw [c_1_10]; decide) (by decide) ?_
    refine lv_aload_n hx hb dX1_tell_125 rfl (lv_at hl 0 rfl) ?_
    refine va_get (D := D) (ci := 1) (v := .int (v 5)) (C := RX1) (T := TX1) (N := 8) hx hb hts hinX1 hown hK hP 0 rfl rfl 7 (by decide) (hts (.fieldLink RX1 41 "JoinGrants$Join" "givenBack" "I") (List.mem_of_getElem? (i := 7) rfl)) (fun _ h9 => h9) rfl dX1_tell_126 ?_
    exact xiret hx hb hr hlk hP hD hS (show gX1_tell n v a1 = (v 5) from (Eq.trans (if_neg c_1_0) (Eq.trans (if_neg c_1_1) (Eq.trans (if_neg c_1_2) (Eq.trans (if_neg c_1_3) (Eq.trans (if_neg c_1_4) (Eq.trans (if_neg c_1_5) (Eq.trans (if_neg c_1_6) (Eq.trans (if_neg c_1_7) (Eq.trans (if_neg c_1_8) (Eq.trans (if_neg c_1_9) (Eq.trans (if_pos c_1_10) rfl)))))))))))).symm rfl dX1_tell_129
  have z_c_1_0 : (a1).toInt ≠ 0 := fun e => c_1_0 (Int32.toInt_inj.mp e)
  have z_c_1_1 : (a1).toInt ≠ 1 := fun e => c_1_1 (Int32.toInt_inj.mp e)
  have z_c_1_2 : (a1).toInt ≠ 2 := fun e => c_1_2 (Int32.toInt_inj.mp e)
  have z_c_1_3 : (a1).toInt ≠ 3 := fun e => c_1_3 (Int32.toInt_inj.mp e)
  have z_c_1_4 : (a1).toInt ≠ 4 := fun e => c_1_4 (Int32.toInt_inj.mp e)
  have z_c_1_5 : (a1).toInt ≠ 5 := fun e => c_1_5 (Int32.toInt_inj.mp e)
  have z_c_1_6 : (a1).toInt ≠ 6 := fun e => c_1_6 (Int32.toInt_inj.mp e)
  have z_c_1_7 : (a1).toInt ≠ 7 := fun e => c_1_7 (Int32.toInt_inj.mp e)
  have z_c_1_8 : (a1).toInt ≠ 8 := fun e => c_1_8 (Int32.toInt_inj.mp e)
  have z_c_1_9 : (a1).toInt ≠ 9 := fun e => c_1_9 (Int32.toInt_inj.mp e)
  have z_c_1_10 : (a1).toInt ≠ 10 := fun e => c_1_10 (Int32.toInt_inj.mp e)
  refine lv_tableOut (tgt := 130) hx hb dX1_tell_1 (by omega) (by decide) ?_
  refine lv_aload_n hx hb dX1_tell_130 rfl (lv_at hl 0 rfl) ?_
  refine xreti (va_runV (As := []) (rest := []) ⟨hx, hb, hml, hown, hts⟩ (mX1_spills l D ck h q n v  _) (cwV 0 hts gX1_tell_X1_spills rfl rfl rfl (by decide +kernel) ⟨Nat.le_of_ble_eq_true rfl, Nat.le_of_ble_eq_true rfl⟩) (xpreV hN hK hP hD pm_all 0 rfl rfl rfl) rfl rfl hl.1 rfl (lv_room (Nat.le_of_ble_eq_true rfl)) dX1_tell_131 ⟨Nat.le_of_ble_eq_true rfl, Nat.le_of_ble_eq_true rfl⟩) hP hD hS hA pm_all pm_all' (fun H locs hP hD hS => ?_)
  refine lv_if_eq (tgt := 141) hx hb dX1_tell_134 (by decide) (fun c_134 => ?_) (fun c_134 => ?_)
  · --t
    refine lv_iconst (v := 0) hx hb dX1_tell_141 (by decide) ?_
    exact xiret hx hb hr hlk hP hD hS (show gX1_tell n v a1 = 0 from (Eq.trans (if_neg c_1_0) (Eq.trans (if_neg c_1_1) (Eq.trans (if_neg c_1_2) (Eq.trans (if_neg c_1_3) (Eq.trans (if_neg c_1_4) (Eq.trans (if_neg c_1_5) (Eq.trans (if_neg c_1_6) (Eq.trans (if_neg c_1_7) (Eq.trans (if_neg c_1_8) (Eq.trans (if_neg c_1_9) (Eq.trans (if_neg c_1_10) (Eq.trans (if_pos c_134) rfl))))))))))))).symm rfl dX1_tell_142
  · --f
    refine lv_iconst (v := 1) hx hb dX1_tell_137 (by decide) ?_
    refine lv_goto (tgt := 142) hx hb dX1_tell_138 (by decide) ?_
    exact xiret hx hb hr hlk hP hD hS (show gX1_tell n v a1 = 1 from (Eq.trans (if_neg c_1_0) (Eq.trans (if_neg c_1_1) (Eq.trans (if_neg c_1_2) (Eq.trans (if_neg c_1_3) (Eq.trans (if_neg c_1_4) (Eq.trans (if_neg c_1_5) (Eq.trans (if_neg c_1_6) (Eq.trans (if_neg c_1_7) (Eq.trans (if_neg c_1_8) (Eq.trans (if_neg c_1_9) (Eq.trans (if_neg c_1_10) (Eq.trans (if_neg c_134) rfl))))))))))))).symm rfl dX1_tell_142

def rmX1_copyFrom : Room := { frames := 1, cells := 0, slots := 0, locals := 21 }
def gX1_copyFrom (v v2 : Nat → Int32) : (Nat → Int32) := (upd (upd (upd (upd (upd (upd (hd6 v (gX3_copyFrom (tl6 v) (tl6 v2))) 0 (v2 0)) 1 (v2 1)) 2 (v2 2)) 3 (v2 3)) 4 (v2 4)) 5 (v2 5))
set_option maxHeartbeats 4000000 in
set_option maxRecDepth 100000 in
theorem mX1_copyFrom (l : Launch) (D : va_G) (ck : Nat → ClassId) (h q : Nat) (n : Int32) (h2 q2 : Nat) (n2 : Int32) (v v2 : Nat → Int32) : xMv l yX1_copyFrom wsX1_copyFrom rmX1_copyFrom D ck [.ref h, .ref h2] (jW h q n v ++ jW h2 q2 n2 v2) (jW h q n (gX1_copyFrom v v2) ++ jW h2 q2 n2 v2) 0 0 := by
  refine xMet (by decide) rfl (Nat.le_of_ble_eq_true rfl) ?_
  intro zp ze s zm zb zt zc hx hb hr hml hown hts hlk hnm hN hK hP hD ls hl
  have hown : s.vm.findClass RX1 = some zm.cls := hown
  have hl : lv_has ls 2 [(0, .ref h), (1, .ref h2)] := hl
  have hS : va_S (va_A (jW h q n v ++ jW h2 q2 n2 v2) s.heap.size) s.heap s.heap [] := va_S.rf
  have hA : ∀ zq : Nat, s.heap.size ≤ zq → va_A (jW h q n v ++ jW h2 q2 n2 v2) s.heap.size zq := fun zq h => Or.inr h
  have hinX1 : ∀ w ∈ u_ws RX1 TX1 8, w ∈ wsX1_copyFrom := by decide +kernel
  refine lv_aload_n hx hb dX1_copyFrom_0 rfl (lv_at hl 0 rfl) ?_
  refine va_get (D := D) (ci := 1) (v := .ref q) (C := RX1) (T := TX1) (N := 8) hx hb hts hinX1 hown hK hP 0 rfl rfl 1 (by decide) (hts (.fieldLink RX1 10 "JoinGrants$Join" "plan" "LJoinGrants$Plan;") (List.mem_of_getElem? (i := 1) rfl)) (fun _ h9 => h9) rfl dX1_copyFrom_1 ?_
  refine lv_aload_n hx hb dX1_copyFrom_4 rfl (lv_at hl 1 rfl) ?_
  refine va_get (D := D) (ci := 1) (v := .ref q2) (C := RX1) (T := TX1) (N := 8) hx hb hts hinX1 hown hK hP 2 rfl rfl 1 (by decide) (hts (.fieldLink RX1 10 "JoinGrants$Join" "plan" "LJoinGrants$Plan;") (List.mem_of_getElem? (i := 1) rfl)) (fun _ h9 => h9) rfl dX1_copyFrom_5 ?_
  refine xretv (va_runV (As := [.ref q2]) (rest := []) ⟨hx, hb, hml, hown, hts⟩ (mX3_copyFrom l D ck q (tl6 v) q2 (tl6 v2) _) (cwV 1 hts gX1_copyFrom_X3_copyFrom rfl rfl rfl (by decide +kernel) ⟨Nat.le_of_ble_eq_true rfl, Nat.le_of_ble_eq_true rfl⟩) (xpreV hN hK hP hD pm_jjp 0 rfl rfl rfl) rfl rfl hl.1 rfl (lv_room (Nat.le_of_ble_eq_true rfl)) dX1_copyFrom_8 ⟨Nat.le_of_ble_eq_true rfl, Nat.le_of_ble_eq_true rfl⟩) hP hD hS hA pm_jjp pm_jjp' (fun H locs hP hD hS => ?_)
  have hP : va_P D vwCl (jW h q n (hd6 v (gX3_copyFrom (tl6 v) (tl6 v2))) ++ jW h2 q2 n2 v2) H := hP
  have hD : va_D (va_A (jW h q n v ++ jW h2 q2 n2 v2) s.heap.size) (jW h q n (hd6 v (gX3_copyFrom (tl6 v) (tl6 v2))) ++ jW h2 q2 n2 v2) := hD
  refine lv_aload_n hx hb dX1_copyFrom_11 rfl (lv_at hl 0 rfl) ?_
  refine lv_aload_n hx hb dX1_copyFrom_12 rfl (lv_at hl 1 rfl) ?_
  refine va_get (D := D) (ci := 1) (v := .int (v2 0)) (C := RX1) (T := TX1) (N := 8) hx hb hts hinX1 hown hK hP 2 rfl rfl 2 (by decide) (hts (.fieldLink RX1 16 "JoinGrants$Join" "state" "I") (List.mem_of_getElem? (i := 2) rfl)) (fun _ h9 => h9) rfl dX1_copyFrom_13 ?_
  refine va_put (D := D) (ci := 1) (v := .int (v2 0)) (ty := .int) (C := RX1) (T := TX1) (N := 8) hx hb hts hinX1 tyX1 tyX1_ok nmX1 hown hK hP hD hS 0 rfl rfl 2 (by decide) (hts (.fieldLink RX1 16 "JoinGrants$Join" "state" "I") (List.mem_of_getElem? (i := 2) rfl)) (fun _ h9 => h9) rfl (by decide +kernel) rfl rfl (Nat.le_of_ble_eq_true rfl) dX1_copyFrom_16 (fun H locs hP hD hS => ?_)
  have hP : va_P D vwCl (jW h q n (upd (hd6 v (gX3_copyFrom (tl6 v) (tl6 v2))) 0 (v2 0)) ++ jW h2 q2 n2 v2) H := hP
  have hD : va_D (va_A (jW h q n v ++ jW h2 q2 n2 v2) s.heap.size) (jW h q n (upd (hd6 v (gX3_copyFrom (tl6 v) (tl6 v2))) 0 (v2 0)) ++ jW h2 q2 n2 v2) := hD
  refine lv_aload_n hx hb dX1_copyFrom_19 rfl (lv_at hl 0 rfl) ?_
  refine lv_aload_n hx hb dX1_copyFrom_20 rfl (lv_at hl 1 rfl) ?_
  refine va_get (D := D) (ci := 1) (v := .int (v2 1)) (C := RX1) (T := TX1) (N := 8) hx hb hts hinX1 hown hK hP 2 rfl rfl 3 (by decide) (hts (.fieldLink RX1 31 "JoinGrants$Join" "pages" "I") (List.mem_of_getElem? (i := 3) rfl)) (fun _ h9 => h9) rfl dX1_copyFrom_21 ?_
  refine va_put (D := D) (ci := 1) (v := .int (v2 1)) (ty := .int) (C := RX1) (T := TX1) (N := 8) hx hb hts hinX1 tyX1 tyX1_ok nmX1 hown hK hP hD hS 0 rfl rfl 3 (by decide) (hts (.fieldLink RX1 31 "JoinGrants$Join" "pages" "I") (List.mem_of_getElem? (i := 3) rfl)) (fun _ h9 => h9) rfl (by decide +kernel) rfl rfl (Nat.le_of_ble_eq_true rfl) dX1_copyFrom_24 (fun H locs hP hD hS => ?_)
  have hP : va_P D vwCl (jW h q n (upd (upd (hd6 v (gX3_copyFrom (tl6 v) (tl6 v2))) 0 (v2 0)) 1 (v2 1)) ++ jW h2 q2 n2 v2) H := hP
  have hD : va_D (va_A (jW h q n v ++ jW h2 q2 n2 v2) s.heap.size) (jW h q n (upd (upd (hd6 v (gX3_copyFrom (tl6 v) (tl6 v2))) 0 (v2 0)) 1 (v2 1)) ++ jW h2 q2 n2 v2) := hD
  refine lv_aload_n hx hb dX1_copyFrom_27 rfl (lv_at hl 0 rfl) ?_
  refine lv_aload_n hx hb dX1_copyFrom_28 rfl (lv_at hl 1 rfl) ?_
  refine va_get (D := D) (ci := 1) (v := .int (v2 2)) (C := RX1) (T := TX1) (N := 8) hx hb hts hinX1 hown hK hP 2 rfl rfl 4 (by decide) (hts (.fieldLink RX1 38 "JoinGrants$Join" "workLeft" "I") (List.mem_of_getElem? (i := 4) rfl)) (fun _ h9 => h9) rfl dX1_copyFrom_29 ?_
  refine va_put (D := D) (ci := 1) (v := .int (v2 2)) (ty := .int) (C := RX1) (T := TX1) (N := 8) hx hb hts hinX1 tyX1 tyX1_ok nmX1 hown hK hP hD hS 0 rfl rfl 4 (by decide) (hts (.fieldLink RX1 38 "JoinGrants$Join" "workLeft" "I") (List.mem_of_getElem? (i := 4) rfl)) (fun _ h9 => h9) rfl (by decide +kernel) rfl rfl (Nat.le_of_ble_eq_true rfl) dX1_copyFrom_32 (fun H locs hP hD hS => ?_)
  have hP : va_P D vwCl (jW h q n (upd (upd (upd (hd6 v (gX3_copyFrom (tl6 v) (tl6 v2))) 0 (v2 0)) 1 (v2 1)) 2 (v2 2)) ++ jW h2 q2 n2 v2) H := hP
  have hD : va_D (va_A (jW h q n v ++ jW h2 q2 n2 v2) s.heap.size) (jW h q n (upd (upd (upd (hd6 v (gX3_copyFrom (tl6 v) (tl6 v2))) 0 (v2 0)) 1 (v2 1)) 2 (v2 2)) ++ jW h2 q2 n2 v2) := hD
  refine lv_aload_n hx hb dX1_copyFrom_35 rfl (lv_at hl 0 rfl) ?_
  refine lv_aload_n hx hb dX1_copyFrom_36 rfl (lv_at hl 1 rfl) ?_
  refine va_get (D := D) (ci := 1) (v := .int (v2 3)) (C := RX1) (T := TX1) (N := 8) hx hb hts hinX1 hown hK hP 2 rfl rfl 5 (by decide) (hts (.fieldLink RX1 44 "JoinGrants$Join" "stepsWaited" "I") (List.mem_of_getElem? (i := 5) rfl)) (fun _ h9 => h9) rfl dX1_copyFrom_37 ?_
  refine va_put (D := D) (ci := 1) (v := .int (v2 3)) (ty := .int) (C := RX1) (T := TX1) (N := 8) hx hb hts hinX1 tyX1 tyX1_ok nmX1 hown hK hP hD hS 0 rfl rfl 5 (by decide) (hts (.fieldLink RX1 44 "JoinGrants$Join" "stepsWaited" "I") (List.mem_of_getElem? (i := 5) rfl)) (fun _ h9 => h9) rfl (by decide +kernel) rfl rfl (Nat.le_of_ble_eq_true rfl) dX1_copyFrom_40 (fun H locs hP hD hS => ?_)
  have hP : va_P D vwCl (jW h q n (upd (upd (upd (upd (hd6 v (gX3_copyFrom (tl6 v) (tl6 v2))) 0 (v2 0)) 1 (v2 1)) 2 (v2 2)) 3 (v2 3)) ++ jW h2 q2 n2 v2) H := hP
  have hD : va_D (va_A (jW h q n v ++ jW h2 q2 n2 v2) s.heap.size) (jW h q n (upd (upd (upd (upd (hd6 v (gX3_copyFrom (tl6 v) (tl6 v2))) 0 (v2 0)) 1 (v2 1)) 2 (v2 2)) 3 (v2 3)) ++ jW h2 q2 n2 v2) := hD
  refine lv_aload_n hx hb dX1_copyFrom_43 rfl (lv_at hl 0 rfl) ?_
  refine lv_aload_n hx hb dX1_copyFrom_44 rfl (lv_at hl 1 rfl) ?_
  refine va_get (D := D) (ci := 1) (v := .int (v2 4)) (C := RX1) (T := TX1) (N := 8) hx hb hts hinX1 hown hK hP 2 rfl rfl 6 (by decide) (hts (.fieldLink RX1 47 "JoinGrants$Join" "stepsWorked" "I") (List.mem_of_getElem? (i := 6) rfl)) (fun _ h9 => h9) rfl dX1_copyFrom_45 ?_
  refine va_put (D := D) (ci := 1) (v := .int (v2 4)) (ty := .int) (C := RX1) (T := TX1) (N := 8) hx hb hts hinX1 tyX1 tyX1_ok nmX1 hown hK hP hD hS 0 rfl rfl 6 (by decide) (hts (.fieldLink RX1 47 "JoinGrants$Join" "stepsWorked" "I") (List.mem_of_getElem? (i := 6) rfl)) (fun _ h9 => h9) rfl (by decide +kernel) rfl rfl (Nat.le_of_ble_eq_true rfl) dX1_copyFrom_48 (fun H locs hP hD hS => ?_)
  have hP : va_P D vwCl (jW h q n (upd (upd (upd (upd (upd (hd6 v (gX3_copyFrom (tl6 v) (tl6 v2))) 0 (v2 0)) 1 (v2 1)) 2 (v2 2)) 3 (v2 3)) 4 (v2 4)) ++ jW h2 q2 n2 v2) H := hP
  have hD : va_D (va_A (jW h q n v ++ jW h2 q2 n2 v2) s.heap.size) (jW h q n (upd (upd (upd (upd (upd (hd6 v (gX3_copyFrom (tl6 v) (tl6 v2))) 0 (v2 0)) 1 (v2 1)) 2 (v2 2)) 3 (v2 3)) 4 (v2 4)) ++ jW h2 q2 n2 v2) := hD
  refine lv_aload_n hx hb dX1_copyFrom_51 rfl (lv_at hl 0 rfl) ?_
  refine lv_aload_n hx hb dX1_copyFrom_52 rfl (lv_at hl 1 rfl) ?_
  refine va_get (D := D) (ci := 1) (v := .int (v2 5)) (C := RX1) (T := TX1) (N := 8) hx hb hts hinX1 hown hK hP 2 rfl rfl 7 (by decide) (hts (.fieldLink RX1 41 "JoinGrants$Join" "givenBack" "I") (List.mem_of_getElem? (i := 7) rfl)) (fun _ h9 => h9) rfl dX1_copyFrom_53 ?_
  refine va_put (D := D) (ci := 1) (v := .int (v2 5)) (ty := .int) (C := RX1) (T := TX1) (N := 8) hx hb hts hinX1 tyX1 tyX1_ok nmX1 hown hK hP hD hS 0 rfl rfl 7 (by decide) (hts (.fieldLink RX1 41 "JoinGrants$Join" "givenBack" "I") (List.mem_of_getElem? (i := 7) rfl)) (fun _ h9 => h9) rfl (by decide +kernel) rfl rfl (Nat.le_of_ble_eq_true rfl) dX1_copyFrom_56 (fun H locs hP hD hS => ?_)
  have hP : va_P D vwCl (jW h q n (upd (upd (upd (upd (upd (upd (hd6 v (gX3_copyFrom (tl6 v) (tl6 v2))) 0 (v2 0)) 1 (v2 1)) 2 (v2 2)) 3 (v2 3)) 4 (v2 4)) 5 (v2 5)) ++ jW h2 q2 n2 v2) H := hP
  have hD : va_D (va_A (jW h q n v ++ jW h2 q2 n2 v2) s.heap.size) (jW h q n (upd (upd (upd (upd (upd (upd (hd6 v (gX3_copyFrom (tl6 v) (tl6 v2))) 0 (v2 0)) 1 (v2 1)) 2 (v2 2)) 3 (v2 3)) 4 (v2 4)) 5 (v2 5)) ++ jW h2 q2 n2 v2) := hD
  exact xvret hx hb hr hlk hP hD hS (congrArg (fun z => jW h q n z ++ jW h2 q2 n2 v2) (show gX1_copyFrom v v2 = (upd (upd (upd (upd (upd (upd (hd6 v (gX3_copyFrom (tl6 v) (tl6 v2))) 0 (v2 0)) 1 (v2 1)) 2 (v2 2)) 3 (v2 3)) 4 (v2 4)) 5 (v2 5)) from rfl)).symm dX1_copyFrom_59
