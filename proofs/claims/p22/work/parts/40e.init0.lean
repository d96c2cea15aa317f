def hh2 (ck : Nat → ClassId) (h a : Nat) (f : Nat → Option Nat) : va_W := [(h, .inr (0, [.ref a, .int 0])), (a, .inl (ck 3, 4, .inr (.inr (.inr (.inr f)))))]
abbrev pF4 (ck : Nat → ClassId) (hb : Nat → Nat → Nat) : Nat → va_W := fun i => poolW ck (hb i) P0
theorem pF4_N {ck : Nat → ClassId} {hb : Nat → Nat → Nat} {i : Nat} {g : Nat → Nat} : (poolW ck g P0 ++ famW i (pF4 ck hb)).Perm (famW (i + 1) (pF4 ck (va_up hb i g))) := by
  have e1 : famW i (pF4 ck (va_up hb i g)) = famW i (pF4 ck hb) := famW_c fun t ht => by
    show poolW ck (va_up hb i g t) P0 = _
    unfold va_up
    rw [if_neg (Nat.ne_of_lt ht)]
  have e2 : pF4 ck (va_up hb i g) i = poolW ck g P0 := by
    show poolW ck (va_up hb i g i) P0 = _
    unfold va_up
    rw [if_pos rfl]
  rw [famW_s, e1, e2]
  exact List.perm_append_comm
/-- the history at its start -/
def S0 (hb : Nat → Nat → Nat) : HS3 := (0, hb, fun _ => P0)
theorem hist_eq {ck : Nat → ClassId} {h a : Nat} {hb : Nat → Nat → Nat} : hh2 ck h a (fun t => some (hb t 0)) ++ famW 4 (pF4 ck hb) = histW ck (pf h (fun _ => a)) (S0 hb) := rfl
def rmX0_init : Room := { frames := 4, cells := 141, slots := 944, locals := 74 }
set_option maxHeartbeats 4000000 in
set_option maxRecDepth 100000 in
theorem mX0_init (l : Launch) (D : va_G) (ck : Nat → ClassId) (tt : Nat → Nat) (h : Nat) : xMnC (α := ((Nat → Nat) × (Nat → Nat → Nat))) tt l yX0_init wsX0_init rmX0_init D ck [.ref h] ((h, .inr (0, [.null, .int 0])) :: []) (fun u : ((Nat → Nat) × (Nat → Nat → Nat)) => histW ck (pf h u.1) (S0 u.2)) 141 944 := by
  refine xMetC (by decide) rfl (Nat.le_of_ble_eq_true rfl) ?_
  intro zp ze s zm zb zt zc hx hb hr hml hown hts hlk hnm hN hK hP hD hC ls hl
  have hown : s.vm.findClass RX0 = some zm.cls := hown
  have hl : lv_has ls 2 [(0, .ref h)] := hl
  have hS : va_S (va_A ((h, .inr (0, [.null, .int 0])) :: []) s.heap.size) s.heap s.heap [] := va_S.rf
  have hA : ∀ zq : Nat, s.heap.size ≤ zq → va_A ((h, .inr (0, [.null, .int 0])) :: []) s.heap.size zq := fun zq h => Or.inr h
  have hinX0 : ∀ w ∈ u_ws RX0 TX0 2, w ∈ wsX0_init := by decide +kernel
  have hinX1 : ∀ w ∈ u_ws RX1 TX1 8, w ∈ wsX0_init := by decide +kernel
  have hinX3 : ∀ w ∈ u_ws RX3 TX3 5, w ∈ wsX0_init := by decide +kernel
  have hinX4 : ∀ w ∈ u_ws RX4 TX4 7, w ∈ wsX0_init := by decide +kernel
  refine lv_aload_n hx hb dX0_init_0 rfl (lv_at hl 0 rfl) ?_
  refine W.objInit hx hb hown (hts (.methodLink RX0 1 objectInit) (List.mem_of_getElem? (i := 1) rfl)) (hts (.instanceMethod objectInit) (List.mem_of_getElem? (i := 2) rfl)) (hts (.code objectInit ⟨#[0xb1]⟩ 1 none) (List.mem_of_getElem? (i := 3) rfl)) rfl (by rw [hml]; exact hl.1) rfl dX0_init_1 (Nat.le_of_ble_eq_true rfl) (Nat.le_of_ble_eq_true rfl) ?_
  refine W.eq (g2 := F0 zm 4 ls []) rfl ?_
  refine lv_aload_n hx hb dX0_init_4 rfl (lv_at hl 0 rfl) ?_
  refine lv_iconst (v := nI 4) hx hb dX0_init_5 (by decide) ?_
  refine xnewP (N := 4) hx hb hown (hts (.classLink RX0 9 RX4) (List.mem_of_getElem? (i := 4) rfl)) hC.2.2.2.2 hK hP hD hS hA (by decide) (by decide) (Nat.le_of_ble_eq_true rfl) (Nat.le_of_ble_eq_true rfl) (Nat.le_of_ble_eq_true rfl) dX0_init_6 (fun a H hP hD hS => ?_)
  have hP : va_P D vwCl ((h, .inr (0, [.null, .int 0])) :: [(a, .inl (ck 3, 4, .inr (.inr (.inr (.inr (fun _ => none))))))]) H := hP
  have hD : va_D (va_A ((h, .inr (0, [.null, .int 0])) :: []) s.heap.size) ((h, .inr (0, [.null, .int 0])) :: [(a, .inl (ck 3, 4, .inr (.inr (.inr (.inr (fun _ => none))))))]) := hD
  refine va_putF (D := D) (ci := 0) (v := .ref a) (ty := (.array (.object RX4))) (C := RX0) (T := TX0) (N := 2) hx hb hts hinX0 tyX0 tyX0_ok nmX0 hown hK hP hD hS 0 rfl rfl 0 (by decide) (hts (.fieldLink RX0 11 "JoinGrants$History" "states" "[LJoinGrants$Pool;") (List.mem_of_getElem? (i := 5) rfl)) (fun _ h9 => h9) rfl hnm rfl (by decide +kernel) rfl rfl (Nat.le_of_ble_eq_true rfl) dX0_init_9 (fun H locs hP hD hS => ?_)
  have hP : va_P D vwCl ((h, .inr (0, [.ref a, .int 0])) :: [(a, .inl (ck 3, 4, .inr (.inr (.inr (.inr (fun _ => none))))))]) H := hP
  have hD : va_D (va_A ((h, .inr (0, [.null, .int 0])) :: []) s.heap.size) ((h, .inr (0, [.ref a, .int 0])) :: [(a, .inl (ck 3, 4, .inr (.inr (.inr (.inr (fun _ => none))))))]) := hD
  have hP : va_P D vwCl (hh2 ck h a (fun _ => none) ++ famW 0 (pF4 ck (fun _ _ => 0))) H := hP
  have hD : va_D (va_A ((h, .inr (0, [.null, .int 0])) :: []) s.heap.size) (hh2 ck h a (fun _ => none) ++ famW 0 (pF4 ck (fun _ _ => 0))) := hD
  rw [fF_0 (g := fun _ => 0)] at hP hD
  refine lv_iconst (v := nI 0) hx hb dX0_init_12 (by decide) ?_
  refine lv_istore_n (lv' := [(1, .int (nI 0)), (0, .ref h)]) hx hb dX0_init_13 rfl hl (by decide) rfl (fun ls hl => ?_)
  have loop : ∀ (fu i : Nat) (hb : Nat → Nat → Nat), i + fu = 4 → ∀ (H : Heap) (locs : List Loc) (ls : Array Slot), va_P D vwCl (hh2 ck h a (fF i (fun t => hb t 0)) ++ famW i (pF4 ck hb)) H → va_D (va_A ((h, .inr (0, [.null, .int 0])) :: []) s.heap.size) (hh2 ck h a (fF i (fun t => hb t 0)) ++ famW i (pF4 ck hb)) → va_S (va_A ((h, .inr (0, [.null, .int 0])) :: []) s.heap.size) s.heap H locs → lv_has ls 2 [(1, .int (nI i)), (0, .ref h)] → W zp l ze rmX0_init s zm ([.ref h] : List Value).toArray zb zt zc H locs (1 + 35 * i) (4 + 235 * i) (MQ zb (xQn D ((h, .inr (0, [.null, .int 0])) :: []) (fun u : ((Nat → Nat) × (Nat → Nat → Nat)) => histW ck (pf h u.1) (S0 u.2)) s.heap.size) ([.ref h] : List Value).toArray s 141 944 (va_A ((h, .inr (0, [.null, .int 0])) :: []) s.heap.size)) (F0 zm 14 ls []) := by
    intro fu
    induction fu with
    | zero =>
      intro i hb4 hif H locs ls hP hD hS hl
      obtain rfl : i = 4 := by omega
      refine lv_iload_n hx hb dX0_init_14 rfl (lv_at hl 0 rfl) ?_
      refine lv_aload_n hx hb dX0_init_15 rfl (lv_at hl 1 rfl) ?_
      refine va_get (D := D) (ci := 0) (v := .ref a) (C := RX0) (T := TX0) (N := 2) hx hb hts hinX0 hown hK hP 0 rfl rfl 0 (by decide) (hts (.fieldLink RX0 11 "JoinGrants$History" "states" "[LJoinGrants$Pool;") (List.mem_of_getElem? (i := 5) rfl)) (fun _ h9 => h9) rfl dX0_init_16 ?_
      refine va_alen hx hb hK hP 1 3 rfl rfl (v := (nI 4)) rfl dX0_init_19 ?_
      refine lv_icmp_ge (tgt := 42) hx hb dX0_init_20 (by decide) (fun c_34 => ?_) (fun c_34 => ?_)
      · have hP := xP_arr (w1 := [(h, .inr (0, [.ref a, .int 0]))]) (w2 := famW 4 (pF4 ck hb4)) (g := fun t => some (hb4 t 0)) (fun j hj => if_pos hj) hP
        have hD := xD_arr (w1 := [(h, .inr (0, [.ref a, .int 0]))]) (w2 := famW 4 (pF4 ck hb4)) (y := .inl (ck 3, 4, .inr (.inr (.inr (.inr (fun t => some (hb4 t 0))))))) hD
        refine W.widen (k := 141) (n := 944) (by omega) (by omega) ?_
        exact xnret (fun _ => a, hb4) hx hb hr hlk hP hD hS hist_eq dX0_init_42
      · exact absurd (nI_le (by omega) (by omega)) c_34
    | succ fu ih =>
      intro i hb4 hif H locs ls hP hD hS hl
      refine lv_iload_n hx hb dX0_init_14 rfl (lv_at hl 0 rfl) ?_
      refine lv_aload_n hx hb dX0_init_15 rfl (lv_at hl 1 rfl) ?_
      refine va_get (D := D) (ci := 0) (v := .ref a) (C := RX0) (T := TX0) (N := 2) hx hb hts hinX0 hown hK hP 0 rfl rfl 0 (by decide) (hts (.fieldLink RX0 11 "JoinGrants$History" "states" "[LJoinGrants$Pool;") (List.mem_of_getElem? (i := 5) rfl)) (fun _ h9 => h9) rfl dX0_init_16 ?_
      refine va_alen hx hb hK hP 1 3 rfl rfl (v := (nI 4)) rfl dX0_init_19 ?_
      refine lv_icmp_ge (tgt := 42) hx hb dX0_init_20 (by decide) (fun c_34 => ?_) (fun c_34 => ?_)
      · exact absurd c_34 (nI_ge (by omega) (by omega))
      · --body
        refine lv_aload_n hx hb dX0_init_23 rfl (lv_at hl 1 rfl) ?_
        refine va_get (D := D) (ci := 0) (v := .ref a) (C := RX0) (T := TX0) (N := 2) hx hb hts hinX0 hown hK hP 0 rfl rfl 0 (by decide) (hts (.fieldLink RX0 11 "JoinGrants$History" "states" "[LJoinGrants$Pool;") (List.mem_of_getElem? (i := 5) rfl)) (fun _ h9 => h9) rfl dX0_init_24 ?_
        refine lv_iload_n hx hb dX0_init_27 rfl (lv_at hl 0 rfl) ?_
        have hk1 : 1 + 35 * i + 1 ≤ rmX0_init.cells ∧ 4 + 235 * i + 7 ≤ rmX0_init.slots := ⟨by show _ ≤ 141; omega, by show _ ≤ 944; omega⟩
        have hk2 : 1 + 35 * i + 1 + 34 ≤ rmX0_init.cells ∧ 4 + 235 * i + 7 + 228 ≤ rmX0_init.slots := ⟨by show _ ≤ 141; omega, by show _ ≤ 944; omega⟩
        refine va_new (ci := 4) (fs := [.null, .null, .int 0, .int 0, .int 0, .int 0, .int 0]) (C := RX4) (T := TX4) (N := 7) hx hb hts hinX4 tyX4 tyX4_ok hown (hts (.classLink RX0 9 RX4) (List.mem_of_getElem? (i := 4) rfl)) (hts (.instantiable RX4 7) (List.mem_of_getElem? (i := 6) rfl)) (hts (.initialized RX4) (List.mem_of_getElem? (i := 7) rfl)) hK hP hD hS hA rfl (fun j hj => by rcases (show j = 0 ∨ j = 1 ∨ j = 2 ∨ j = 3 ∨ j = 4 ∨ j = 5 ∨ j = 6 by omega) with rfl | rfl | rfl | rfl | rfl | rfl | rfl <;> rfl) (hk1.1) (hk1.2) dX0_init_28 (fun q H hP hD hS => ?_)
        refine lv_dup hx hb dX0_init_31 rfl ?_
        refine xretn (va_runI (As := []) (rest := [.ref q, .int (nI i), .ref a]) ⟨hx, hb, hml, hown, hts⟩ (mX4_init l D ck tt q H.size) (cwI 0 hts gX0_init_X4_init rfl rfl rfl (hts (.initialized RX4) (List.mem_of_getElem? (i := 7) rfl)) (hts (.methodLink RX0 15 yX4_init) (List.mem_of_getElem? (i := 8) rfl)) (hts (.instanceMethod yX4_init) (List.mem_of_getElem? (i := 9) rfl)) rfl (by decide +kernel) ⟨Nat.le_of_ble_eq_true rfl, Nat.le_of_ble_eq_true rfl⟩) (xpreSC (As := .ref q :: []) hC hS hA hN hK hP hD List.perm_append_comm) rfl rfl hl.1 rfl (lv_room (Nat.le_of_ble_eq_true rfl)) dX0_init_32 hk2) hP hD hS hA List.perm_append_comm (fun u => (List.perm_append_comm_assoc _ _ _)) (fun u H locs hP hD hS => ?_)
        have hP : va_P D vwCl (hh2 ck h a (fF i (fun t => hb4 t 0)) ++ (poolW ck (pf q u) P0 ++ famW i (pF4 ck hb4))) H := hP
        refine xastq (j := i) (nI_clamp (by omega)) hx hb hK hP hD hS 1 3 2 4 rfl rfl rfl rfl (vp_in_nI (by omega) (by decide)) dX0_init_35 (fun H locs hP hD hS => ?_)
        have hP : va_P D vwCl (hh2 ck h a (va_up (fF i (fun t => hb4 t 0)) i (some q)) ++ (poolW ck (pf q u) P0 ++ famW i (pF4 ck hb4))) H := hP
        have hD : va_D (va_A ((h, .inr (0, [.null, .int 0])) :: []) s.heap.size) (hh2 ck h a (va_up (fF i (fun t => hb4 t 0)) i (some q)) ++ (poolW ck (pf q u) P0 ++ famW i (pF4 ck hb4))) := hD
        rw [fF_s (g' := fun t => va_up hb4 i (pf q u) t 0) (fun t ht => by unfold va_up; rw [if_neg (Nat.ne_of_lt ht)]) (by unfold va_up; rw [if_pos rfl]; rfl)] at hP hD
        have hP := xP_perm (List.Perm.append_left _ pF4_N) hP
        have hD := xD_perm (List.Perm.append_left _ pF4_N) hD
        refine lv_iinc (v := (nI (i + 1))) (lv' := [(1, .int (nI (i + 1))), (0, .ref h)]) hx hb dX0_init_36 hl (k := 0) rfl (nI_1 i) (by decide) rfl (fun ls hl => ?_)
        refine lv_goto (tgt := 14) hx hb dX0_init_39 (by decide) ?_
        refine W.widen (k := 1 + 35 * (i + 1)) (n := 4 + 235 * (i + 1)) (by omega) (by omega) ?_
        exact ih (i + 1) (va_up hb4 i (pf q u)) (by omega) _ _ _ hP hD hS hl
  exact loop 4 0 (fun _ _ => 0) (by omega) _ _ _ hP hD hS hl
