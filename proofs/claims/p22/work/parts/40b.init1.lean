/-! ===== the constructors ===== -/

def rmX3_init : Room := { frames := 1, cells := 0, slots := 0, locals := 12 }
set_option maxHeartbeats 4000000 in
set_option maxRecDepth 100000 in
theorem mX3_init (l : Launch) (D : va_G) (ck : Nat → ClassId) (h : Nat) : xMv l yX3_init wsX3_init rmX3_init D ck [.ref h] (pW h (fun _ => 0)) (pW h (fun _ => 0)) 0 0 := by
  refine xMet (by decide) rfl (Nat.le_of_ble_eq_true rfl) ?_
  intro zp ze s zm zb zt zc hx hb hr hml hown hts hlk hnm hN hK hP hD ls hl
  have hown : s.vm.findClass RX3 = some zm.cls := hown
  have hl : lv_has ls 1 [(0, .ref h)] := hl
  have hS : va_S (va_A (pW h (fun _ => 0)) s.heap.size) s.heap s.heap [] := va_S.rf
  have hA : ∀ zq : Nat, s.heap.size ≤ zq → va_A (pW h (fun _ => 0)) s.heap.size zq := fun zq h => Or.inr h
  refine lv_aload_n hx hb dX3_init_0 rfl (lv_at hl 0 rfl) ?_
  refine W.objInit hx hb hown (hts (.methodLink RX3 3 objectInit) (List.mem_of_getElem? (i := 1) rfl)) (hts (.instanceMethod objectInit) (List.mem_of_getElem? (i := 2) rfl)) (hts (.code objectInit ⟨#[0xb1]⟩ 1 none) (List.mem_of_getElem? (i := 3) rfl)) rfl (by rw [hml]; exact hl.1) rfl dX3_init_1 (Nat.le_of_ble_eq_true rfl) (Nat.le_of_ble_eq_true rfl) ?_
  refine W.eq (g2 := F0 zm 4 ls []) rfl ?_
  exact xvret hx hb hr hlk hP hD hS rfl dX3_init_4
/-- a new join: no state yet, which is -1 -/
def v0 : Nat → Int32 := fun k => if k = 0 then -1 else 0
def rmX1_init : Room := { frames := 2, cells := 1, slots := 5, locals := 32 }
set_option maxHeartbeats 4000000 in
set_option maxRecDepth 100000 in
theorem mX1_init (l : Launch) (D : va_G) (ck : Nat → ClassId) (h : Nat) (a1 : Int32) : xMn (α := Nat) l yX1_init wsX1_init rmX1_init D ck [.ref h, .int a1] ((h, .inr (1, [.int 0, .null, .int 0, .int 0, .int 0, .int 0, .int 0, .int 0])) :: []) (fun u : Nat => jW h u a1 v0) 1 5 := by
  refine xMet (by decide) rfl (Nat.le_of_ble_eq_true rfl) ?_
  intro zp ze s zm zb zt zc hx hb hr hml hown hts hlk hnm hN hK hP hD ls hl
  have hown : s.vm.findClass RX1 = some zm.cls := hown
  have hl : lv_has ls 2 [(0, .ref h), (1, .int a1)] := hl
  have hS : va_S (va_A ((h, .inr (1, [.int 0, .null, .int 0, .int 0, .int 0, .int 0, .int 0, .int 0])) :: []) s.heap.size) s.heap s.heap [] := va_S.rf
  have hA : ∀ zq : Nat, s.heap.size ≤ zq → va_A ((h, .inr (1, [.int 0, .null, .int 0, .int 0, .int 0, .int 0, .int 0, .int 0])) :: []) s.heap.size zq := fun zq h => Or.inr h
  have hinX1 : ∀ w ∈ u_ws RX1 TX1 8, w ∈ wsX1_init := by decide +kernel
  have hinX3 : ∀ w ∈ u_ws RX3 TX3 5, w ∈ wsX1_init := by decide +kernel
  refine lv_aload_n hx hb dX1_init_0 rfl (lv_at hl 0 rfl) ?_
  refine W.objInit hx hb hown (hts (.methodLink RX1 1 objectInit) (List.mem_of_getElem? (i := 1) rfl)) (hts (.instanceMethod objectInit) (List.mem_of_getElem? (i := 2) rfl)) (hts (.code objectInit ⟨#[0xb1]⟩ 1 none) (List.mem_of_getElem? (i := 3) rfl)) rfl (by rw [hml]; exact hl.1) rfl dX1_init_1 (Nat.le_of_ble_eq_true rfl) (Nat.le_of_ble_eq_true rfl) ?_
  refine W.eq (g2 := F0 zm 4 ls []) rfl ?_
  refine lv_aload_n hx hb dX1_init_4 rfl (lv_at hl 0 rfl) ?_
  refine va_new (ci := 3) (fs := [.int 0, .int 0, .int 0, .int 0, .int 0]) (C := RX3) (T := TX3) (N := 5) hx hb hts hinX3 tyX3 tyX3_ok hown (hts (.classLink RX1 7 RX3) (List.mem_of_getElem? (i := 4) rfl)) (hts (.instantiable RX3 5) (List.mem_of_getElem? (i := 5) rfl)) (hts (.initialized RX3) (List.mem_of_getElem? (i := 6) rfl)) hK hP hD hS hA rfl (fun j hj => by rcases (show j = 0 ∨ j = 1 ∨ j = 2 ∨ j = 3 ∨ j = 4 by omega) with rfl | rfl | rfl | rfl | rfl <;> rfl) (Nat.le_of_ble_eq_true rfl) (Nat.le_of_ble_eq_true rfl) dX1_init_5 (fun q H hP hD hS => ?_)
  refine lv_dup hx hb dX1_init_8 rfl ?_
  refine xretv (va_runIN (As := []) (rest := [.ref q, .ref h]) ⟨hx, hb, hml, hown, hts⟩ (mX3_init l D ck q H.size) ⟨va_cnB 0 hts gX1_init_X3_init_n9 rfl rfl rfl hN.2.2.1 (hts (.initialized RX3) (List.mem_of_getElem? (i := 6) rfl)) (by decide +kernel) ⟨Nat.le_of_ble_eq_true rfl, Nat.le_of_ble_eq_true rfl⟩, rfl, (hts (.instanceMethod yX3_init) (List.mem_of_getElem? (i := 10) rfl))⟩ (xpreS (As := .ref q :: []) hN hK hP hD List.perm_append_comm) rfl rfl hl.1 rfl (lv_room (Nat.le_of_ble_eq_true rfl)) dX1_init_9 ⟨Nat.le_of_ble_eq_true rfl, Nat.le_of_ble_eq_true rfl⟩) hP hD hS hA List.perm_append_comm (List.perm_append_comm) (fun H locs hP hD hS => ?_)
  have hP : va_P D vwCl ((h, .inr (1, [.int 0, .null, .int 0, .int 0, .int 0, .int 0, .int 0, .int 0])) :: pW q (fun _ => 0)) H := hP
  have hD : va_D (va_A ((h, .inr (1, [.int 0, .null, .int 0, .int 0, .int 0, .int 0, .int 0, .int 0])) :: []) s.heap.size) ((h, .inr (1, [.int 0, .null, .int 0, .int 0, .int 0, .int 0, .int 0, .int 0])) :: pW q (fun _ => 0)) := hD
  refine va_putF (D := D) (ci := 1) (v := .ref q) (ty := (.object RX3)) (C := RX1) (T := TX1) (N := 8) hx hb hts hinX1 tyX1 tyX1_ok nmX1 hown hK hP hD hS 0 rfl rfl 1 (by decide) (hts (.fieldLink RX1 10 "JoinGrants$Join" "plan" "LJoinGrants$Plan;") (List.mem_of_getElem? (i := 7) rfl)) (fun _ h9 => h9) rfl hnm rfl (by decide +kernel) rfl rfl (Nat.le_of_ble_eq_true rfl) dX1_init_12 (fun H locs hP hD hS => ?_)
  have hP : va_P D vwCl ((h, .inr (1, [.int 0, .ref q, .int 0, .int 0, .int 0, .int 0, .int 0, .int 0])) :: pW q (fun _ => 0)) H := hP
  have hD : va_D (va_A ((h, .inr (1, [.int 0, .null, .int 0, .int 0, .int 0, .int 0, .int 0, .int 0])) :: []) s.heap.size) ((h, .inr (1, [.int 0, .ref q, .int 0, .int 0, .int 0, .int 0, .int 0, .int 0])) :: pW q (fun _ => 0)) := hD
  refine lv_aload_n hx hb dX1_init_15 rfl (lv_at hl 0 rfl) ?_
  refine lv_iconst (v := -1) hx hb dX1_init_16 (by decide) ?_
  refine va_put (D := D) (ci := 1) (v := .int (-1)) (ty := .int) (C := RX1) (T := TX1) (N := 8) hx hb hts hinX1 tyX1 tyX1_ok nmX1 hown hK hP hD hS 0 rfl rfl 2 (by decide) (hts (.fieldLink RX1 16 "JoinGrants$Join" "state" "I") (List.mem_of_getElem? (i := 8) rfl)) (fun _ h9 => h9) rfl (by decide +kernel) rfl rfl (Nat.le_of_ble_eq_true rfl) dX1_init_17 (fun H locs hP hD hS => ?_)
  have hP : va_P D vwCl ((h, .inr (1, [.int 0, .ref q, .int (-1), .int 0, .int 0, .int 0, .int 0, .int 0])) :: pW q (fun _ => 0)) H := hP
  have hD : va_D (va_A ((h, .inr (1, [.int 0, .null, .int 0, .int 0, .int 0, .int 0, .int 0, .int 0])) :: []) s.heap.size) ((h, .inr (1, [.int 0, .ref q, .int (-1), .int 0, .int 0, .int 0, .int 0, .int 0])) :: pW q (fun _ => 0)) := hD
  refine lv_aload_n hx hb dX1_init_20 rfl (lv_at hl 0 rfl) ?_
  refine lv_iload_n hx hb dX1_init_21 rfl (lv_at hl 1 rfl) ?_
  refine va_putF (D := D) (ci := 1) (v := .int a1) (ty := .int) (C := RX1) (T := TX1) (N := 8) hx hb hts hinX1 tyX1 tyX1_ok nmX1 hown hK hP hD hS 0 rfl rfl 0 (by decide) (hts (.fieldLink RX1 20 "JoinGrants$Join" "number" "I") (List.mem_of_getElem? (i := 9) rfl)) (fun _ h9 => h9) rfl hnm rfl (by decide +kernel) rfl rfl (Nat.le_of_ble_eq_true rfl) dX1_init_22 (fun H locs hP hD hS => ?_)
  have hP : va_P D vwCl ((h, .inr (1, [.int a1, .ref q, .int (-1), .int 0, .int 0, .int 0, .int 0, .int 0])) :: pW q (fun _ => 0)) H := hP
  have hD : va_D (va_A ((h, .inr (1, [.int 0, .null, .int 0, .int 0, .int 0, .int 0, .int 0, .int 0])) :: []) s.heap.size) ((h, .inr (1, [.int a1, .ref q, .int (-1), .int 0, .int 0, .int 0, .int 0, .int 0])) :: pW q (fun _ => 0)) := hD
  exact xnret q hx hb hr hlk hP hD hS rfl dX1_init_25
/-- addresses: the object first -/
def pf (h : Nat) (u : Nat → Nat) : Nat → Nat := fun k => if k = 0 then h else u k
def u4 (a b c d : Nat) : Nat → Nat := fun k => if k = 1 then a else if k = 2 then b else if k = 3 then c else d
def T0 : TS := (fun _ => 0, fun _ => 0, fun _ => 0, fun _ => 0, fun _ => 0)
def rmX2_init : Room := { frames := 1, cells := 4, slots := 96, locals := 24 }
set_option maxHeartbeats 4000000 in
set_option maxRecDepth 100000 in
theorem mX2_init (l : Launch) (D : va_G) (ck : Nat → ClassId) (h : Nat) : xMn (α := (Nat → Nat)) l yX2_init wsX2_init rmX2_init D ck [.ref h] ((h, .inr (2, [.null, .int 0, .null, .null, .null, .int 0, .int 0, .int 0, .int 0, .int 0])) :: []) (fun u : (Nat → Nat) => textW ck (pf h u) T0) 4 96 := by
  refine xMet (by decide) rfl (Nat.le_of_ble_eq_true rfl) ?_
  intro zp ze s zm zb zt zc hx hb hr hml hown hts hlk hnm hN hK hP hD ls hl
  have hown : s.vm.findClass RX2 = some zm.cls := hown
  have hl : lv_has ls 1 [(0, .ref h)] := hl
  have hS : va_S (va_A ((h, .inr (2, [.null, .int 0, .null, .null, .null, .int 0, .int 0, .int 0, .int 0, .int 0])) :: []) s.heap.size) s.heap s.heap [] := va_S.rf
  have hA : ∀ zq : Nat, s.heap.size ≤ zq → va_A ((h, .inr (2, [.null, .int 0, .null, .null, .null, .int 0, .int 0, .int 0, .int 0, .int 0])) :: []) s.heap.size zq := fun zq h => Or.inr h
  have hinX2 : ∀ w ∈ u_ws RX2 TX2 10, w ∈ wsX2_init := by decide +kernel
  refine lv_aload_n hx hb dX2_init_0 rfl (lv_at hl 0 rfl) ?_
  refine W.objInit hx hb hown (hts (.methodLink RX2 1 objectInit) (List.mem_of_getElem? (i := 1) rfl)) (hts (.instanceMethod objectInit) (List.mem_of_getElem? (i := 2) rfl)) (hts (.code objectInit ⟨#[0xb1]⟩ 1 none) (List.mem_of_getElem? (i := 3) rfl)) rfl (by rw [hml]; exact hl.1) rfl dX2_init_1 (Nat.le_of_ble_eq_true rfl) (Nat.le_of_ble_eq_true rfl) ?_
  refine W.eq (g2 := F0 zm 4 ls []) rfl ?_
  refine lv_aload_n hx hb dX2_init_4 rfl (lv_at hl 0 rfl) ?_
  refine lv_bipush (v := nI 60) hx hb dX2_init_5 (by decide) ?_
  refine xnewc (N := 60) hx hb (hts (.arrayClass .char) (List.mem_of_getElem? (i := 4) rfl)) hK hP hD hS hA (by decide) (by decide) (Nat.le_of_ble_eq_true rfl) (Nat.le_of_ble_eq_true rfl) (Nat.le_of_ble_eq_true rfl) dX2_init_7 (fun q1 H hP hD hS => ?_)
  have hP : va_P D vwCl ((h, .inr (2, [.null, .int 0, .null, .null, .null, .int 0, .int 0, .int 0, .int 0, .int 0])) :: [(q1, .inl (ck 1, 60, .inl (fun _ => 0)))]) H := hP
  have hD : va_D (va_A ((h, .inr (2, [.null, .int 0, .null, .null, .null, .int 0, .int 0, .int 0, .int 0, .int 0])) :: []) s.heap.size) ((h, .inr (2, [.null, .int 0, .null, .null, .null, .int 0, .int 0, .int 0, .int 0, .int 0])) :: [(q1, .inl (ck 1, 60, .inl (fun _ => 0)))]) := hD
  refine va_putF (D := D) (ci := 2) (v := .ref q1) (ty := (.array .char)) (C := RX2) (T := TX2) (N := 10) hx hb hts hinX2 tyX2 tyX2_ok nmX2 hown hK hP hD hS 0 rfl rfl 0 (by decide) (hts (.fieldLink RX2 9 "JoinGrants$JoinText" "characters" "[C") (List.mem_of_getElem? (i := 5) rfl)) (fun _ h9 => h9) rfl hnm rfl (by decide +kernel) rfl rfl (Nat.le_of_ble_eq_true rfl) dX2_init_9 (fun H locs hP hD hS => ?_)
  have hP : va_P D vwCl ((h, .inr (2, [.ref q1, .int 0, .null, .null, .null, .int 0, .int 0, .int 0, .int 0, .int 0])) :: [(q1, .inl (ck 1, 60, .inl (fun _ => 0)))]) H := hP
  have hD : va_D (va_A ((h, .inr (2, [.null, .int 0, .null, .null, .null, .int 0, .int 0, .int 0, .int 0, .int 0])) :: []) s.heap.size) ((h, .inr (2, [.ref q1, .int 0, .null, .null, .null, .int 0, .int 0, .int 0, .int 0, .int 0])) :: [(q1, .inl (ck 1, 60, .inl (fun _ => 0)))]) := hD
  refine lv_aload_n hx hb dX2_init_12 rfl (lv_at hl 0 rfl) ?_
  refine lv_bipush (v := nI 12) hx hb dX2_init_13 (by decide) ?_
  refine xnewi (N := 12) hx hb (hts (.arrayClass .int) (List.mem_of_getElem? (i := 6) rfl)) hK hP hD hS hA (by decide) (by decide) (Nat.le_of_ble_eq_true rfl) (Nat.le_of_ble_eq_true rfl) (Nat.le_of_ble_eq_true rfl) dX2_init_15 (fun q2 H hP hD hS => ?_)
  have hP : va_P D vwCl ((h, .inr (2, [.ref q1, .int 0, .null, .null, .null, .int 0, .int 0, .int 0, .int 0, .int 0])) :: ([(q1, .inl (ck 1, 60, .inl (fun _ => 0)))] ++ [(q2, .inl (ck 0, 12, .inl (fun _ => 0)))])) H := hP
  have hD : va_D (va_A ((h, .inr (2, [.null, .int 0, .null, .null, .null, .int 0, .int 0, .int 0, .int 0, .int 0])) :: []) s.heap.size) ((h, .inr (2, [.ref q1, .int 0, .null, .null, .null, .int 0, .int 0, .int 0, .int 0, .int 0])) :: ([(q1, .inl (ck 1, 60, .inl (fun _ => 0)))] ++ [(q2, .inl (ck 0, 12, .inl (fun _ => 0)))])) := hD
  refine va_putF (D := D) (ci := 2) (v := .ref q2) (ty := (.array .int)) (C := RX2) (T := TX2) (N := 10) hx hb hts hinX2 tyX2 tyX2_ok nmX2 hown hK hP hD hS 0 rfl rfl 2 (by decide) (hts (.fieldLink RX2 13 "JoinGrants$JoinText" "ways" "[I") (List.mem_of_getElem? (i := 7) rfl)) (fun _ h9 => h9) rfl hnm rfl (by decide +kernel) rfl rfl (Nat.le_of_ble_eq_true rfl) dX2_init_17 (fun H locs hP hD hS => ?_)
  have hP : va_P D vwCl ((h, .inr (2, [.ref q1, .int 0, .ref q2, .null, .null, .int 0, .int 0, .int 0, .int 0, .int 0])) :: ([(q1, .inl (ck 1, 60, .inl (fun _ => 0)))] ++ [(q2, .inl (ck 0, 12, .inl (fun _ => 0)))])) H := hP
  have hD : va_D (va_A ((h, .inr (2, [.null, .int 0, .null, .null, .null, .int 0, .int 0, .int 0, .int 0, .int 0])) :: []) s.heap.size) ((h, .inr (2, [.ref q1, .int 0, .ref q2, .null, .null, .int 0, .int 0, .int 0, .int 0, .int 0])) :: ([(q1, .inl (ck 1, 60, .inl (fun _ => 0)))] ++ [(q2, .inl (ck 0, 12, .inl (fun _ => 0)))])) := hD
  refine lv_aload_n hx hb dX2_init_20 rfl (lv_at hl 0 rfl) ?_
  refine lv_bipush (v := nI 12) hx hb dX2_init_21 (by decide) ?_
  refine xnewi (N := 12) hx hb (hts (.arrayClass .int) (List.mem_of_getElem? (i := 6) rfl)) hK hP hD hS hA (by decide) (by decide) (Nat.le_of_ble_eq_true rfl) (Nat.le_of_ble_eq_true rfl) (Nat.le_of_ble_eq_true rfl) dX2_init_23 (fun q3 H hP hD hS => ?_)
  have hP : va_P D vwCl ((h, .inr (2, [.ref q1, .int 0, .ref q2, .null, .null, .int 0, .int 0, .int 0, .int 0, .int 0])) :: (([(q1, .inl (ck 1, 60, .inl (fun _ => 0)))] ++ [(q2, .inl (ck 0, 12, .inl (fun _ => 0)))]) ++ [(q3, .inl (ck 0, 12, .inl (fun _ => 0)))])) H := hP
  have hD : va_D (va_A ((h, .inr (2, [.null, .int 0, .null, .null, .null, .int 0, .int 0, .int 0, .int 0, .int 0])) :: []) s.heap.size) ((h, .inr (2, [.ref q1, .int 0, .ref q2, .null, .null, .int 0, .int 0, .int 0, .int 0, .int 0])) :: (([(q1, .inl (ck 1, 60, .inl (fun _ => 0)))] ++ [(q2, .inl (ck 0, 12, .inl (fun _ => 0)))]) ++ [(q3, .inl (ck 0, 12, .inl (fun _ => 0)))])) := hD
  refine va_putF (D := D) (ci := 2) (v := .ref q3) (ty := (.array .int)) (C := RX2) (T := TX2) (N := 10) hx hb hts hinX2 tyX2 tyX2_ok nmX2 hown hK hP hD hS 0 rfl rfl 3 (by decide) (hts (.fieldLink RX2 17 "JoinGrants$JoinText" "lefts" "[I") (List.mem_of_getElem? (i := 8) rfl)) (fun _ h9 => h9) rfl hnm rfl (by decide +kernel) rfl rfl (Nat.le_of_ble_eq_true rfl) dX2_init_25 (fun H locs hP hD hS => ?_)
  have hP : va_P D vwCl ((h, .inr (2, [.ref q1, .int 0, .ref q2, .ref q3, .null, .int 0, .int 0, .int 0, .int 0, .int 0])) :: (([(q1, .inl (ck 1, 60, .inl (fun _ => 0)))] ++ [(q2, .inl (ck 0, 12, .inl (fun _ => 0)))]) ++ [(q3, .inl (ck 0, 12, .inl (fun _ => 0)))])) H := hP
  have hD : va_D (va_A ((h, .inr (2, [.null, .int 0, .null, .null, .null, .int 0, .int 0, .int 0, .int 0, .int 0])) :: []) s.heap.size) ((h, .inr (2, [.ref q1, .int 0, .ref q2, .ref q3, .null, .int 0, .int 0, .int 0, .int 0, .int 0])) :: (([(q1, .inl (ck 1, 60, .inl (fun _ => 0)))] ++ [(q2, .inl (ck 0, 12, .inl (fun _ => 0)))]) ++ [(q3, .inl (ck 0, 12, .inl (fun _ => 0)))])) := hD
  refine lv_aload_n hx hb dX2_init_28 rfl (lv_at hl 0 rfl) ?_
  refine lv_bipush (v := nI 12) hx hb dX2_init_29 (by decide) ?_
  refine xnewi (N := 12) hx hb (hts (.arrayClass .int) (List.mem_of_getElem? (i := 6) rfl)) hK hP hD hS hA (by decide) (by decide) (Nat.le_of_ble_eq_true rfl) (Nat.le_of_ble_eq_true rfl) (Nat.le_of_ble_eq_true rfl) dX2_init_31 (fun q4 H hP hD hS => ?_)
  have hP : va_P D vwCl ((h, .inr (2, [.ref q1, .int 0, .ref q2, .ref q3, .null, .int 0, .int 0, .int 0, .int 0, .int 0])) :: ((([(q1, .inl (ck 1, 60, .inl (fun _ => 0)))] ++ [(q2, .inl (ck 0, 12, .inl (fun _ => 0)))]) ++ [(q3, .inl (ck 0, 12, .inl (fun _ => 0)))]) ++ [(q4, .inl (ck 0, 12, .inl (fun _ => 0)))])) H := hP
  have hD : va_D (va_A ((h, .inr (2, [.null, .int 0, .null, .null, .null, .int 0, .int 0, .int 0, .int 0, .int 0])) :: []) s.heap.size) ((h, .inr (2, [.ref q1, .int 0, .ref q2, .ref q3, .null, .int 0, .int 0, .int 0, .int 0, .int 0])) :: ((([(q1, .inl (ck 1, 60, .inl (fun _ => 0)))] ++ [(q2, .inl (ck 0, 12, .inl (fun _ => 0)))]) ++ [(q3, .inl (ck 0, 12, .inl (fun _ => 0)))]) ++ [(q4, .inl (ck 0, 12, .inl (fun _ => 0)))])) := hD
  refine va_putF (D := D) (ci := 2) (v := .ref q4) (ty := (.array .int)) (C := RX2) (T := TX2) (N := 10) hx hb hts hinX2 tyX2 tyX2_ok nmX2 hown hK hP hD hS 0 rfl rfl 4 (by decide) (hts (.fieldLink RX2 20 "JoinGrants$JoinText" "rights" "[I") (List.mem_of_getElem? (i := 9) rfl)) (fun _ h9 => h9) rfl hnm rfl (by decide +kernel) rfl rfl (Nat.le_of_ble_eq_true rfl) dX2_init_33 (fun H locs hP hD hS => ?_)
  have hP : va_P D vwCl ((h, .inr (2, [.ref q1, .int 0, .ref q2, .ref q3, .ref q4, .int 0, .int 0, .int 0, .int 0, .int 0])) :: ((([(q1, .inl (ck 1, 60, .inl (fun _ => 0)))] ++ [(q2, .inl (ck 0, 12, .inl (fun _ => 0)))]) ++ [(q3, .inl (ck 0, 12, .inl (fun _ => 0)))]) ++ [(q4, .inl (ck 0, 12, .inl (fun _ => 0)))])) H := hP
  have hD : va_D (va_A ((h, .inr (2, [.null, .int 0, .null, .null, .null, .int 0, .int 0, .int 0, .int 0, .int 0])) :: []) s.heap.size) ((h, .inr (2, [.ref q1, .int 0, .ref q2, .ref q3, .ref q4, .int 0, .int 0, .int 0, .int 0, .int 0])) :: ((([(q1, .inl (ck 1, 60, .inl (fun _ => 0)))] ++ [(q2, .inl (ck 0, 12, .inl (fun _ => 0)))]) ++ [(q3, .inl (ck 0, 12, .inl (fun _ => 0)))]) ++ [(q4, .inl (ck 0, 12, .inl (fun _ => 0)))])) := hD
  exact xnret (u4 q1 q2 q3 q4) hx hb hr hlk hP hD hS rfl dX2_init_36
