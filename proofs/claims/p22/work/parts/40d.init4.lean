abbrev J0 : Nat → Nat → Int32 := fun _ => v0
/-- a pool at its start -/
def P0 : PS := (fiF, fun _ => 0, J0)
def hp3 (ck : Nat → ClassId) (h a b : Nat) (f : Nat → Option Nat) : va_W := [(h, .inr (4, [.ref a, .ref b, .int 0, .int 0, .int 0, .int 0, .int 0])), (a, .inl (ck 0, 4, .inl fiF)), (b, .inl (ck 2, 16, .inr (.inr (.inr (.inr f)))))]
def fF (i : Nat) (g : Nat → Nat) : Nat → Option Nat := fun t => if t < i then some (g t) else none
theorem fF_0 {g : Nat → Nat} : (fun _ => none) = fF 0 g := funext fun t => (if_neg (Nat.not_lt_zero t)).symm
theorem fF_s {i q : Nat} {g g' : Nat → Nat} (h : ∀ t, t < i → g' t = g t) (hq : g' i = q) : va_up (fF i g) i (some q) = fF (i + 1) g' := by
  funext t
  unfold va_up fF
  by_cases h1 : t = i
  · subst h1
    rw [if_pos rfl, if_pos (show t < t + 1 by omega), hq]
  · rw [if_neg h1]
    by_cases h2 : t < i
    · rw [if_pos h2, if_pos (show t < i + 1 by omega), h t h2]
    · rw [if_neg h2, if_neg (show ¬ t < i + 1 by omega)]
def pN (pa : Nat → Nat) (i q u : Nat) : Nat → Nat := fun k => if k = 2 * i + 3 then q else if k = 2 * i + 4 then u else pa k
theorem jA_N {pa : Nat → Nat} {i q u t : Nat} (h : t < i) : jA (pN pa i q u) t = jA pa t := by
  unfold jA pN
  rw [if_neg (show ¬ 2 * t + 3 = 2 * i + 3 by omega), if_neg (show ¬ 2 * t + 3 = 2 * i + 4 by omega)]
theorem qA_N {pa : Nat → Nat} {i q u t : Nat} (h : t < i) : qA (pN pa i q u) t = qA pa t := by
  unfold qA pN
  rw [if_neg (show ¬ 2 * t + 4 = 2 * i + 3 by omega), if_neg (show ¬ 2 * t + 4 = 2 * i + 4 by omega)]
theorem jA_Ni {pa : Nat → Nat} {i q u : Nat} : jA (pN pa i q u) i = q := if_pos rfl
theorem qA_Ni {pa : Nat → Nat} {i q u : Nat} : qA (pN pa i q u) i = u := by
  unfold qA pN
  rw [if_neg (show ¬ 2 * i + 4 = 2 * i + 3 by omega), if_pos rfl]
theorem jsW_N {pa : Nat → Nat} {i q u : Nat} : (jW q u (nI i) v0 ++ famW i (jsW pa J0)).Perm (famW (i + 1) (jsW (pN pa i q u) J0)) := by
  have e1 : famW i (jsW (pN pa i q u) J0) = famW i (jsW pa J0) := famW_c fun t ht => by unfold jsW; rw [jA_N ht, qA_N ht]
  have e2 : jsW (pN pa i q u) J0 i = jW q u (nI i) v0 := by unfold jsW; rw [jA_Ni, qA_Ni]
  rw [famW_s, e1, e2]
  exact List.perm_append_comm
def uP (a b : Nat) (pa : Nat → Nat) : Nat → Nat := fun k => if k = 1 then a else if k = 2 then b else pa k
theorem jA_uP {h a b : Nat} {pa : Nat → Nat} : jA (pf h (uP a b pa)) = jA pa := by
  funext t
  unfold jA pf uP
  rw [if_neg (show ¬ 2 * t + 3 = 0 by omega), if_neg (show ¬ 2 * t + 3 = 1 by omega), if_neg (show ¬ 2 * t + 3 = 2 by omega)]
theorem qA_uP {h a b : Nat} {pa : Nat → Nat} : qA (pf h (uP a b pa)) = qA pa := by
  funext t
  unfold qA pf uP
  rw [if_neg (show ¬ 2 * t + 4 = 0 by omega), if_neg (show ¬ 2 * t + 4 = 1 by omega), if_neg (show ¬ 2 * t + 4 = 2 by omega)]
theorem pool_eq {ck : Nat → ClassId} {h a b : Nat} {pa : Nat → Nat} : hp3 ck h a b (fun t => some (jA pa t)) ++ famW 16 (jsW pa J0) = poolW ck (pf h (uP a b pa)) P0 := by
  have e : jsW (pf h (uP a b pa)) J0 = jsW pa J0 := by
    funext t
    unfold jsW
    rw [jA_uP, qA_uP]
  show _ = hp3 ck h a b (fun t => some (jA (pf h (uP a b pa)) t)) ++ famW 16 (jsW (pf h (uP a b pa)) J0)
  rw [e, jA_uP]
def rmX4_init : Room := { frames := 3, cells := 34, slots := 228, locals := 53 }
set_option maxHeartbeats 4000000 in
set_option maxRecDepth 100000 in
theorem mX4_init (l : Launch) (D : va_G) (ck : Nat → ClassId) (tt : Nat → Nat) (h : Nat) : xMnC (α := (Nat → Nat)) tt l yX4_init wsX4_init rmX4_init D ck [.ref h] ((h, .inr (4, [.null, .null, .int 0, .int 0, .int 0, .int 0, .int 0])) :: []) (fun u : (Nat → Nat) => poolW ck (pf h u) P0) 34 228 := by
  refine xMetC (by decide) rfl (Nat.le_of_ble_eq_true rfl) ?_
  intro zp ze s zm zb zt zc hx hb hr hml hown hts hlk hnm hN hK hP hD hC ls hl
  have hown : s.vm.findClass RX4 = some zm.cls := hown
  have hl : lv_has ls 2 [(0, .ref h)] := hl
  have hS : va_S (va_A ((h, .inr (4, [.null, .null, .int 0, .int 0, .int 0, .int 0, .int 0])) :: []) s.heap.size) s.heap s.heap [] := va_S.rf
  have hA : ∀ zq : Nat, s.heap.size ≤ zq → va_A ((h, .inr (4, [.null, .null, .int 0, .int 0, .int 0, .int 0, .int 0])) :: []) s.heap.size zq := fun zq h => Or.inr h
  have hinX1 : ∀ w ∈ u_ws RX1 TX1 8, w ∈ wsX4_init := by decide +kernel
  have hinX3 : ∀ w ∈ u_ws RX3 TX3 5, w ∈ wsX4_init := by decide +kernel
  have hinX4 : ∀ w ∈ u_ws RX4 TX4 7, w ∈ wsX4_init := by decide +kernel
  refine lv_aload_n hx hb dX4_init_0 rfl (lv_at hl 0 rfl) ?_
  refine W.objInit hx hb hown (hts (.methodLink RX4 3 objectInit) (List.mem_of_getElem? (i := 1) rfl)) (hts (.instanceMethod objectInit) (List.mem_of_getElem? (i := 2) rfl)) (hts (.code objectInit ⟨#[0xb1]⟩ 1 none) (List.mem_of_getElem? (i := 3) rfl)) rfl (by rw [hml]; exact hl.1) rfl dX4_init_1 (Nat.le_of_ble_eq_true rfl) (Nat.le_of_ble_eq_true rfl) ?_
  refine W.eq (g2 := F0 zm 4 ls []) rfl ?_
  refine lv_aload_n hx hb dX4_init_4 rfl (lv_at hl 0 rfl) ?_
  refine va_gets (C := RX4) hx hb hC.1 hS hown (hts (.fieldLink RX4 9 "JoinGrants$Pool" "FIRST" "[I") (List.mem_of_getElem? (i := 4) rfl)) (fun _ h9 => h9) dX4_init_5 ?_
  refine xclone (rest := [.ref h]) hx hb (by rw [hml]; exact hl.1.symm) hown (hts (.methodLink RX4 15 ⟨"[I", "clone", "()Ljava/lang/Object;"⟩) (List.mem_of_getElem? (i := 5) rfl)) (hts (.sameMethod "[I" "java/lang/Object" "clone" "()Ljava/lang/Object;") (List.mem_of_getElem? (i := 6) rfl)) (hts (.native ⟨"java/lang/Object", "clone", "()Ljava/lang/Object;"⟩) (List.mem_of_getElem? (i := 7) rfl)) (hts (.instanceMethod ⟨"java/lang/Object", "clone", "()Ljava/lang/Object;"⟩) (List.mem_of_getElem? (i := 8) rfl)) (hts (.selects "[I" ⟨"[I", "clone", "()Ljava/lang/Object;"⟩ ⟨"java/lang/Object", "clone", "()Ljava/lang/Object;"⟩) (List.mem_of_getElem? (i := 9) rfl)) hC.2.2.1 hC.2.1 hK hP hD hS hA (Nat.le_of_ble_eq_true rfl) (Nat.le_of_ble_eq_true rfl) (Nat.le_of_ble_eq_true rfl) (Nat.le_of_ble_eq_true rfl) dX4_init_8 (fun a H hP hD hS => ?_)
  have hP : va_P D vwCl ((h, .inr (4, [.null, .null, .int 0, .int 0, .int 0, .int 0, .int 0])) :: [(a, .inl (ck 0, 4, .inl fiF))]) H := hP
  have hD : va_D (va_A ((h, .inr (4, [.null, .null, .int 0, .int 0, .int 0, .int 0, .int 0])) :: []) s.heap.size) ((h, .inr (4, [.null, .null, .int 0, .int 0, .int 0, .int 0, .int 0])) :: [(a, .inl (ck 0, 4, .inl fiF))]) := hD
  refine va_castA hx hb hown (hts (.classLink RX4 16 "[I") (List.mem_of_getElem? (i := 10) rfl)) hP 1 rfl (va_nm_int (hK.2 0 _ rfl).2) dX4_init_11 ?_
  refine va_putF (D := D) (ci := 4) (v := .ref a) (ty := (.array .int)) (C := RX4) (T := TX4) (N := 7) hx hb hts hinX4 tyX4 tyX4_ok nmX4 hown hK hP hD hS 0 rfl rfl 0 (by decide) (hts (.fieldLink RX4 20 "JoinGrants$Pool" "settings" "[I") (List.mem_of_getElem? (i := 11) rfl)) (fun _ h9 => h9) rfl hnm rfl (by decide +kernel) rfl rfl (Nat.le_of_ble_eq_true rfl) dX4_init_14 (fun H locs hP hD hS => ?_)
  have hP : va_P D vwCl ((h, .inr (4, [.ref a, .null, .int 0, .int 0, .int 0, .int 0, .int 0])) :: [(a, .inl (ck 0, 4, .inl fiF))]) H := hP
  have hD : va_D (va_A ((h, .inr (4, [.null, .null, .int 0, .int 0, .int 0, .int 0, .int 0])) :: []) s.heap.size) ((h, .inr (4, [.ref a, .null, .int 0, .int 0, .int 0, .int 0, .int 0])) :: [(a, .inl (ck 0, 4, .inl fiF))]) := hD
  refine lv_aload_n hx hb dX4_init_17 rfl (lv_at hl 0 rfl) ?_
  refine lv_bipush (v := nI 16) hx hb dX4_init_18 (by decide) ?_
  refine xnewJ (N := 16) hx hb hown (hts (.classLink RX4 23 RX1) (List.mem_of_getElem? (i := 12) rfl)) hC.2.2.2.1 hK hP hD hS hA (by decide) (by decide) (Nat.le_of_ble_eq_true rfl) (Nat.le_of_ble_eq_true rfl) (Nat.le_of_ble_eq_true rfl) dX4_init_20 (fun b H hP hD hS => ?_)
  have hP : va_P D vwCl ((h, .inr (4, [.ref a, .null, .int 0, .int 0, .int 0, .int 0, .int 0])) :: ([(a, .inl (ck 0, 4, .inl fiF))] ++ [(b, .inl (ck 2, 16, .inr (.inr (.inr (.inr (fun _ => none))))))])) H := hP
  have hD : va_D (va_A ((h, .inr (4, [.null, .null, .int 0, .int 0, .int 0, .int 0, .int 0])) :: []) s.heap.size) ((h, .inr (4, [.ref a, .null, .int 0, .int 0, .int 0, .int 0, .int 0])) :: ([(a, .inl (ck 0, 4, .inl fiF))] ++ [(b, .inl (ck 2, 16, .inr (.inr (.inr (.inr (fun _ => none))))))])) := hD
  refine va_putF (D := D) (ci := 4) (v := .ref b) (ty := (.array (.object RX1))) (C := RX4) (T := TX4) (N := 7) hx hb hts hinX4 tyX4 tyX4_ok nmX4 hown hK hP hD hS 0 rfl rfl 1 (by decide) (hts (.fieldLink RX4 25 "JoinGrants$Pool" "joins" "[LJoinGrants$Join;") (List.mem_of_getElem? (i := 13) rfl)) (fun _ h9 => h9) rfl hnm rfl (by decide +kernel) rfl rfl (Nat.le_of_ble_eq_true rfl) dX4_init_23 (fun H locs hP hD hS => ?_)
  have hP : va_P D vwCl ((h, .inr (4, [.ref a, .ref b, .int 0, .int 0, .int 0, .int 0, .int 0])) :: ([(a, .inl (ck 0, 4, .inl fiF))] ++ [(b, .inl (ck 2, 16, .inr (.inr (.inr (.inr (fun _ => none))))))])) H := hP
  have hD : va_D (va_A ((h, .inr (4, [.null, .null, .int 0, .int 0, .int 0, .int 0, .int 0])) :: []) s.heap.size) ((h, .inr (4, [.ref a, .ref b, .int 0, .int 0, .int 0, .int 0, .int 0])) :: ([(a, .inl (ck 0, 4, .inl fiF))] ++ [(b, .inl (ck 2, 16, .inr (.inr (.inr (.inr (fun _ => none))))))])) := hD
  have hP : va_P D vwCl (hp3 ck h a b (fun _ => none) ++ famW 0 (jsW (fun _ => 0) J0)) H := hP
  have hD : va_D (va_A ((h, .inr (4, [.null, .null, .int 0, .int 0, .int 0, .int 0, .int 0])) :: []) s.heap.size) (hp3 ck h a b (fun _ => none) ++ famW 0 (jsW (fun _ => 0) J0)) := hD
  rw [fF_0 (g := jA (fun _ => 0))] at hP hD
  refine lv_iconst (v := nI 0) hx hb dX4_init_26 (by decide) ?_
  refine lv_istore_n (lv' := [(1, .int (nI 0)), (0, .ref h)]) hx hb dX4_init_27 rfl hl (by decide) rfl (fun ls hl => ?_)
  have loop : ∀ (fu i : Nat) (pa : Nat → Nat), i + fu = 16 → ∀ (H : Heap) (locs : List Loc) (ls : Array Slot), va_P D vwCl (hp3 ck h a b (fF i (jA pa)) ++ famW i (jsW pa J0)) H → va_D (va_A ((h, .inr (4, [.null, .null, .int 0, .int 0, .int 0, .int 0, .int 0])) :: []) s.heap.size) (hp3 ck h a b (fF i (jA pa)) ++ famW i (jsW pa J0)) → va_S (va_A ((h, .inr (4, [.null, .null, .int 0, .int 0, .int 0, .int 0, .int 0])) :: []) s.heap.size) s.heap H locs → lv_has ls 2 [(1, .int (nI i)), (0, .ref h)] → W zp l ze rmX4_init s zm ([.ref h] : List Value).toArray zb zt zc H locs (2 + 2 * i) (20 + 13 * i) (MQ zb (xQn D ((h, .inr (4, [.null, .null, .int 0, .int 0, .int 0, .int 0, .int 0])) :: []) (fun u : (Nat → Nat) => poolW ck (pf h u) P0) s.heap.size) ([.ref h] : List Value).toArray s 34 228 (va_A ((h, .inr (4, [.null, .null, .int 0, .int 0, .int 0, .int 0, .int 0])) :: []) s.heap.size)) (F0 zm 28 ls []) := by
    intro fu
    induction fu with
    | zero =>
      intro i pa hif H locs ls hP hD hS hl
      obtain rfl : i = 16 := by omega
      refine lv_iload_n hx hb dX4_init_28 rfl (lv_at hl 0 rfl) ?_
      refine lv_aload_n hx hb dX4_init_29 rfl (lv_at hl 1 rfl) ?_
      refine va_get (D := D) (ci := 4) (v := .ref b) (C := RX4) (T := TX4) (N := 7) hx hb hts hinX4 hown hK hP 0 rfl rfl 1 (by decide) (hts (.fieldLink RX4 25 "JoinGrants$Pool" "joins" "[LJoinGrants$Join;") (List.mem_of_getElem? (i := 13) rfl)) (fun _ h9 => h9) rfl dX4_init_30 ?_
      refine va_alen hx hb hK hP 2 2 rfl rfl (v := (nI 16)) rfl dX4_init_33 ?_
      refine lv_icmp_ge (tgt := 57) hx hb dX4_init_34 (by decide) (fun c_34 => ?_) (fun c_34 => ?_)
      · have hP := xP_arr (w1 := [(h, .inr (4, [.ref a, .ref b, .int 0, .int 0, .int 0, .int 0, .int 0])), (a, .inl (ck 0, 4, .inl fiF))]) (w2 := famW 16 (jsW pa J0)) (g := fun t => some (jA pa t)) (fun j hj => if_pos hj) hP
        have hD := xD_arr (w1 := [(h, .inr (4, [.ref a, .ref b, .int 0, .int 0, .int 0, .int 0, .int 0])), (a, .inl (ck 0, 4, .inl fiF))]) (w2 := famW 16 (jsW pa J0)) (y := .inl (ck 2, 16, .inr (.inr (.inr (.inr (fun t => some (jA pa t))))))) hD
        refine W.widen (k := 34) (n := 228) (by omega) (by omega) ?_
        exact xnret (uP a b pa) hx hb hr hlk hP hD hS pool_eq dX4_init_57
      · exact absurd (nI_le (by omega) (by omega)) c_34
    | succ fu ih =>
      intro i pa hif H locs ls hP hD hS hl
      refine lv_iload_n hx hb dX4_init_28 rfl (lv_at hl 0 rfl) ?_
      refine lv_aload_n hx hb dX4_init_29 rfl (lv_at hl 1 rfl) ?_
      refine va_get (D := D) (ci := 4) (v := .ref b) (C := RX4) (T := TX4) (N := 7) hx hb hts hinX4 hown hK hP 0 rfl rfl 1 (by decide) (hts (.fieldLink RX4 25 "JoinGrants$Pool" "joins" "[LJoinGrants$Join;") (List.mem_of_getElem? (i := 13) rfl)) (fun _ h9 => h9) rfl dX4_init_30 ?_
      refine va_alen hx hb hK hP 2 2 rfl rfl (v := (nI 16)) rfl dX4_init_33 ?_
      refine lv_icmp_ge (tgt := 57) hx hb dX4_init_34 (by decide) (fun c_34 => ?_) (fun c_34 => ?_)
      · exact absurd c_34 (nI_ge (by omega) (by omega))
      · --body
        refine lv_aload_n hx hb dX4_init_37 rfl (lv_at hl 1 rfl) ?_
        refine va_get (D := D) (ci := 4) (v := .ref b) (C := RX4) (T := TX4) (N := 7) hx hb hts hinX4 hown hK hP 0 rfl rfl 1 (by decide) (hts (.fieldLink RX4 25 "JoinGrants$Pool" "joins" "[LJoinGrants$Join;") (List.mem_of_getElem? (i := 13) rfl)) (fun _ h9 => h9) rfl dX4_init_38 ?_
        refine lv_iload_n hx hb dX4_init_41 rfl (lv_at hl 0 rfl) ?_
        have hk1 : 2 + 2 * i + 1 ≤ rmX4_init.cells ∧ 20 + 13 * i + 8 ≤ rmX4_init.slots := ⟨by show _ ≤ 34; omega, by show _ ≤ 228; omega⟩
        have hk2 : 2 + 2 * i + 1 + 1 ≤ rmX4_init.cells ∧ 20 + 13 * i + 8 + 5 ≤ rmX4_init.slots := ⟨by show _ ≤ 34; omega, by show _ ≤ 228; omega⟩
        refine va_new (ci := 1) (fs := [.int 0, .null, .int 0, .int 0, .int 0, .int 0, .int 0, .int 0]) (C := RX1) (T := TX1) (N := 8) hx hb hts hinX1 tyX1 tyX1_ok hown (hts (.classLink RX4 23 RX1) (List.mem_of_getElem? (i := 12) rfl)) (hts (.instantiable RX1 8) (List.mem_of_getElem? (i := 14) rfl)) (hts (.initialized RX1) (List.mem_of_getElem? (i := 15) rfl)) hK hP hD hS hA rfl (fun j hj => by rcases (show j = 0 ∨ j = 1 ∨ j = 2 ∨ j = 3 ∨ j = 4 ∨ j = 5 ∨ j = 6 ∨ j = 7 by omega) with rfl | rfl | rfl | rfl | rfl | rfl | rfl | rfl <;> rfl) (hk1.1) (hk1.2) dX4_init_42 (fun q H hP hD hS => ?_)
        refine lv_dup hx hb dX4_init_45 rfl ?_
        refine lv_iload_n hx hb dX4_init_46 rfl (lv_at hl 0 rfl) ?_
        refine xretn (va_runI (As := [.int (nI i)]) (rest := [.ref q, .int (nI i), .ref b]) ⟨hx, hb, hml, hown, hts⟩ (mX1_init l D ck q (nI i) H.size) (cwI 1 hts gX4_init_X1_init rfl rfl rfl (hts (.initialized RX1) (List.mem_of_getElem? (i := 15) rfl)) (hts (.methodLink RX4 29 yX1_init) (List.mem_of_getElem? (i := 16) rfl)) (hts (.instanceMethod yX1_init) (List.mem_of_getElem? (i := 17) rfl)) rfl (by decide +kernel) ⟨Nat.le_of_ble_eq_true rfl, Nat.le_of_ble_eq_true rfl⟩) (xpreS (As := .ref q :: [.int (nI i)]) hN hK hP hD List.perm_append_comm) rfl rfl hl.1 rfl (lv_room (Nat.le_of_ble_eq_true rfl)) dX4_init_47 hk2) hP hD hS hA List.perm_append_comm (fun u => (List.perm_append_comm_assoc _ _ _)) (fun u H locs hP hD hS => ?_)
        have hP : va_P D vwCl (hp3 ck h a b (fF i (jA pa)) ++ (jW q u (nI i) v0 ++ famW i (jsW pa J0))) H := hP
        refine xastq (j := i) (nI_clamp (by omega)) hx hb hK hP hD hS 2 2 3 1 rfl rfl rfl rfl (vp_in_nI (by omega) (by decide)) dX4_init_50 (fun H locs hP hD hS => ?_)
        have hP : va_P D vwCl (hp3 ck h a b (va_up (fF i (jA pa)) i (some q)) ++ (jW q u (nI i) v0 ++ famW i (jsW pa J0))) H := hP
        have hD : va_D (va_A ((h, .inr (4, [.null, .null, .int 0, .int 0, .int 0, .int 0, .int 0])) :: []) s.heap.size) (hp3 ck h a b (va_up (fF i (jA pa)) i (some q)) ++ (jW q u (nI i) v0 ++ famW i (jsW pa J0))) := hD
        rw [fF_s (g' := jA (pN pa i q u)) (fun t ht => jA_N ht) jA_Ni] at hP hD
        have hP := xP_perm (List.Perm.append_left _ jsW_N) hP
        have hD := xD_perm (List.Perm.append_left _ jsW_N) hD
        refine lv_iinc (v := (nI (i + 1))) (lv' := [(1, .int (nI (i + 1))), (0, .ref h)]) hx hb dX4_init_51 hl (k := 0) rfl (nI_1 i) (by decide) rfl (fun ls hl => ?_)
        refine lv_goto (tgt := 28) hx hb dX4_init_54 (by decide) ?_
        refine W.widen (k := 2 + 2 * (i + 1)) (n := 20 + 13 * (i + 1)) (by omega) (by omega) ?_
        exact ih (i + 1) (pN pa i q u) (by omega) _ _ _ hP hD hS hl
  exact loop 16 0 (fun _ => 0) (by omega) _ _ _ hP hD hS hl
