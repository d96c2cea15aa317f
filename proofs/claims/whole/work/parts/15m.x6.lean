def rmX6_copy : Room := { frames := 0, cells := 0, slots := 0, locals := 0 }
set_option maxHeartbeats 4000000 in
set_option maxRecDepth 100000 in
theorem mX6_copy (l : Launch) (D : va_G) (ck : Nat → ClassId) (b1 : Nat) (a1 : FS) (b2 : Nat) (a2 : FS) : xMv l yX6_copy wsX6_copy rmX6_copy D ck [.ref b1, .ref b2] (twoR ck b1 b2 a1 a2) (twoR ck b1 b2 a1 (gX6_copy a1 a2)) 0 0 := by
  refine xMet (by decide) rfl (Nat.le_of_ble_eq_true rfl) ?_
  intro zp ze s zm zb zt zc hx hb hr hml hown hts hlk hnm hN hK hP hD ls hl
  have hown : s.vm.findClass RX6 = some zm.cls := hown
  have hl : lv_has ls 3 [(0, .ref b1), (1, .ref b2)] := hl
  have hS : va_S (va_A (twoR ck b1 b2 a1 a2) s.heap.size) s.heap s.heap [] := va_S.rf
  have hA : ∀ zq : Nat, s.heap.size ≤ zq → va_A (twoR ck b1 b2 a1 a2) s.heap.size zq := fun zq h => Or.inr h
  refine lv_iconst (v := (nI 0)) hx hb dX6_copy_0 (by decide) ?_
  refine lv_istore_n (lv' := [(2, .int (nI 0)), (0, .ref b1), (1, .ref b2)]) hx hb dX6_copy_1 rfl hl (by decide) rfl (fun ls hl => ?_)
  have loop2 : ∀ (fu : Nat) (i : Nat) (f1 : FS), (i + fu = 153) → gX6_copy a1 a2 = gX6_copy_L2 a1 a2 fu i f1 → ∀ (H : Heap) (locs : List Loc) (ls : Array Slot), va_P D vwCl (twoR ck b1 b2 a1 f1) H → va_D (va_A (twoR ck b1 b2 a1 a2) s.heap.size) (twoR ck b1 b2 a1 f1) → va_S (va_A (twoR ck b1 b2 a1 a2) s.heap.size) s.heap H locs → lv_has ls 3 [(0, .ref b1), (1, .ref b2), (2, .int (nI i))] → W zp l ze rmX6_copy s zm ([.ref b1, .ref b2] : List Value).toArray zb zt zc H locs 0 0 (MQ zb (xQv D (twoR ck b1 b2 a1 a2) (twoR ck b1 b2 a1 (gX6_copy a1 a2)) s.heap.size) ([.ref b1, .ref b2] : List Value).toArray s 0 0 (va_A (twoR ck b1 b2 a1 a2) s.heap.size)) (F0 zm 2 ls []) := by
    intro fu
    induction fu with
    | zero =>
      intro i f1 hif hg H locs ls hP hD hS hl
      refine lv_iload_n hx hb dX6_copy_2 rfl (lv_at hl 2 rfl) ?_
      refine lv_sipush (v := (nI 153)) hx hb dX6_copy_3 (by decide) ?_
      refine lv_icmp_ge (tgt := 21) hx hb dX6_copy_6 (by decide) (fun c_6 => ?_) (fun c_6 => ?_)
      · --t
        exact xvret hx hb hr hlk hP hD hS (congrArg (fun z => twoR ck b1 b2 a1 z) (hg.trans (show gX6_copy_L2 a1 a2 0 i f1 = f1 from rfl))).symm dX6_copy_21
      · --f
        exact absurd (nI_le (by omega) (by omega)) c_6
    | succ fu ih2 =>
      intro i f1 hif hg H locs ls hP hD hS hl
      refine lv_iload_n hx hb dX6_copy_2 rfl (lv_at hl 2 rfl) ?_
      refine lv_sipush (v := (nI 153)) hx hb dX6_copy_3 (by decide) ?_
      refine lv_icmp_ge (tgt := 21) hx hb dX6_copy_6 (by decide) (fun c_6 => ?_) (fun c_6 => ?_)
      · --t
        exact absurd c_6 (nI_ge (by omega) (by omega))
      · --f
        refine lv_aload_n hx hb dX6_copy_9 rfl (lv_at hl 1 rfl) ?_
        refine lv_iload_n hx hb dX6_copy_10 rfl (lv_at hl 2 rfl) ?_
        refine lv_aload_n hx hb dX6_copy_11 rfl (lv_at hl 0 rfl) ?_
        refine lv_iload_n hx hb dX6_copy_12 rfl (lv_at hl 2 rfl) ?_
        refine xiald (j := i) (nI_clamp (by omega)) hx hb hK hP 0 0 rfl rfl (vp_in_nI (by omega) (by omega)) dX6_copy_13 ?_
        refine xiast (j := i) (nI_clamp (by omega)) hx hb hK hP hD hS 1 0 rfl rfl (vp_in_nI (by omega) (by omega)) dX6_copy_14 (fun H locs hP hD hS => ?_)
        have hP : va_P D vwCl (twoR ck b1 b2 a1 (upd f1 i (a1 i))) H := hP
        have hD : va_D (va_A (twoR ck b1 b2 a1 a2) s.heap.size) (twoR ck b1 b2 a1 (upd f1 i (a1 i))) := hD
        refine lv_iinc (v := (nI (i + 1))) (lv' := [(2, .int (nI (i + 1))), (0, .ref b1), (1, .ref b2)]) hx hb dX6_copy_15 hl (k := 2) rfl (nI_1 i) (by decide) rfl (fun ls hl => ?_)
        refine lv_goto (tgt := 2) hx hb dX6_copy_18 (by decide) ?_
        exact ih2 (i + 1) (upd f1 i (a1 i)) (by omega) (hg.trans (show gX6_copy_L2 a1 a2 (fu + 1) i f1 = (gX6_copy_L2 a1 a2 fu (i + 1) (upd f1 i (a1 i))) from rfl)) _ _ _ hP hD hS (lv_sub hl [1, 2, 0] rfl)
  exact loop2 153 0 a2 (by omega) (show gX6_copy a1 a2 = (gX6_copy_L2 a1 a2 153 0 a2) from rfl) _ _ _ hP hD hS (lv_sub hl [1, 2, 0] rfl)

def rmX6_remember : Room := { frames := 1, cells := 0, slots := 0, locals := 22 }
set_option maxHeartbeats 4000000 in
set_option maxRecDepth 100000 in
theorem mX6_remember (l : Launch) (D : va_G) (ck : Nat → ClassId) (ma : Nat → Nat) (Z : MS) : xMv l yX6_remember wsX6_remember rmX6_remember D ck [.ref (ma 0)] (modW ck ma Z) (modW ck ma (gX6_remember Z)) 0 0 := by
  refine xMet (by decide) rfl (Nat.le_of_ble_eq_true rfl) ?_
  intro zp ze s zm zb zt zc hx hb hr hml hown hts hlk hnm hN hK hP hD ls hl
  have hown : s.vm.findClass RX6 = some zm.cls := hown
  have hl : lv_has ls 1 [(0, .ref (ma 0))] := hl
  have hS : va_S (va_A (modW ck ma Z) s.heap.size) s.heap s.heap [] := va_S.rf
  have hA : ∀ zq : Nat, s.heap.size ≤ zq → va_A (modW ck ma Z) s.heap.size zq := fun zq h => Or.inr h
  have hinX6 : ∀ w ∈ u_ws RX6 TX6 13, w ∈ wsX6_remember := by decide +kernel
  refine lv_aload_n hx hb dX6_remember_0 rfl (lv_at hl 0 rfl) ?_
  refine va_get (D := D) (ci := 6) (v := .ref (ma 1)) (C := RX6) (T := TX6) (N := 13) hx hb hts hinX6 hown hK hP 0 rfl rfl 0 (by decide) (hts (.fieldLink RX6 7 "JoinGrantsModel" "all" "[I") (List.mem_of_getElem? (i := 1) rfl)) (fun _ h9 => h9) rfl dX6_remember_1 ?_
  refine lv_aload_n hx hb dX6_remember_4 rfl (lv_at hl 0 rfl) ?_
  refine va_get (D := D) (ci := 6) (v := .ref (ma 2)) (C := RX6) (T := TX6) (N := 13) hx hb hts hinX6 hown hK hP 0 rfl rfl 1 (by decide) (hts (.fieldLink RX6 13 "JoinGrantsModel" "kept" "[I") (List.mem_of_getElem? (i := 2) rfl)) (fun _ h9 => h9) rfl dX6_remember_5 ?_
  refine xretv (va_runS (As := [.ref (ma 1), .ref (ma 2)]) (rest := []) ⟨hx, hb, hml, hown, hts⟩ (mX6_copy l D ck (ma 1) Z.2.1 (ma 2) Z.2.2.1 _) (va_cwS 2 hts gX6_remember_X6_copy rfl rfl rfl (by decide +kernel) ⟨Nat.le_of_ble_eq_true rfl, Nat.le_of_ble_eq_true rfl⟩) (xpreS hN hK hP hD (pm_12 Z)) rfl rfl hl.1 rfl (lv_room (Nat.le_of_ble_eq_true rfl)) dX6_remember_8 ⟨Nat.le_of_ble_eq_true rfl, Nat.le_of_ble_eq_true rfl⟩) hP hD hS hA (pm_12 Z) (pm_12' Z) (fun H locs hP hD hS => ?_)
  have hP : va_P D vwCl (modW ck ma (Z.1, Z.2.1, gX6_copy Z.2.1 Z.2.2.1, Z.2.2.2.1, Z.2.2.2.2.1, Z.2.2.2.2.2.1, Z.2.2.2.2.2.2.1, Z.2.2.2.2.2.2.2)) H := hP
  have hD : va_D (va_A (modW ck ma Z) s.heap.size) (modW ck ma (Z.1, Z.2.1, gX6_copy Z.2.1 Z.2.2.1, Z.2.2.2.1, Z.2.2.2.2.1, Z.2.2.2.2.2.1, Z.2.2.2.2.2.2.1, Z.2.2.2.2.2.2.2)) := hD
  exact xvret hx hb hr hlk hP hD hS (congrArg (fun z => modW ck ma z) (show gX6_remember Z = (Z.1, Z.2.1, gX6_copy Z.2.1 Z.2.2.1, Z.2.2.2.1, Z.2.2.2.2.1, Z.2.2.2.2.2.1, Z.2.2.2.2.2.2.1, Z.2.2.2.2.2.2.2) from rfl)).symm dX6_remember_11

def rmX6_acted : Room := { frames := 0, cells := 0, slots := 0, locals := 0 }
set_option maxHeartbeats 4000000 in
set_option maxRecDepth 100000 in
theorem mX6_acted (l : Launch) (D : va_G) (ck : Nat → ClassId) (ma : Nat → Nat) (Z : MS) (a1 : Int32) (hh : hx4 (Z.1 0)) : xMi l yX6_acted wsX6_acted rmX6_acted D ck [.ref (ma 0), .int a1] (modW ck ma Z) (modW ck ma ((gX6_acted Z a1).2)) ((gX6_acted Z a1).1) 0 0 := by
  refine xMet (by decide) rfl (Nat.le_of_ble_eq_true rfl) ?_
  intro zp ze s zm zb zt zc hx hb hr hml hown hts hlk hnm hN hK hP hD ls hl
  have hown : s.vm.findClass RX6 = some zm.cls := hown
  have hl : lv_has ls 3 [(0, .ref (ma 0)), (1, .int a1)] := hl
  have hS : va_S (va_A (modW ck ma Z) s.heap.size) s.heap s.heap [] := va_S.rf
  have hA : ∀ zq : Nat, s.heap.size ≤ zq → va_A (modW ck ma Z) s.heap.size zq := fun zq h => Or.inr h
  have hinX6 : ∀ w ∈ u_ws RX6 TX6 13, w ∈ wsX6_acted := by decide +kernel
  refine lv_aload_n hx hb dX6_acted_0 rfl (lv_at hl 0 rfl) ?_
  refine va_get (D := D) (ci := 6) (v := .int (Z.1 0)) (C := RX6) (T := TX6) (N := 13) hx hb hts hinX6 hown hK hP 0 rfl rfl 4 (by decide) (hts (.fieldLink RX6 35 "JoinGrantsModel" "historyLong" "I") (List.mem_of_getElem? (i := 1) rfl)) (fun _ h9 => h9) rfl dX6_acted_1 ?_
  refine lv_iconst (v := 4) hx hb dX6_acted_4 (by decide) ?_
  refine lv_icmp_ne (tgt := 49) hx hb dX6_acted_5 (by decide) (fun c_5 => ?_) (fun c_5 => ?_)
  · --t
    refine lv_iconst (v := (nI 0)) hx hb dX6_acted_49 (by decide) ?_
    refine lv_istore_n (lv' := [(2, .int (nI 0)), (0, .ref (ma 0)), (1, .int a1)]) hx hb dX6_acted_50 rfl hl (by decide) rfl (fun ls hl => ?_)
    have loop51 : ∀ (fu : Nat) (i : Nat) (Z1 : MS), (i + fu = 153) → (hx3 (Z1.1 0)) → gX6_acted Z a1 = gX6_acted_L51 Z a1 fu i Z1 → ∀ (H : Heap) (locs : List Loc) (ls : Array Slot), va_P D vwCl (modW ck ma Z1) H → va_D (va_A (modW ck ma Z) s.heap.size) (modW ck ma Z1) → va_S (va_A (modW ck ma Z) s.heap.size) s.heap H locs → lv_has ls 3 [(0, .ref (ma 0)), (1, .int a1), (2, .int (nI i))] → W zp l ze rmX6_acted s zm ([.ref (ma 0), .int a1] : List Value).toArray zb zt zc H locs 0 0 (MQ zb (xQi D (modW ck ma Z) (modW ck ma ((gX6_acted Z a1).2)) ((gX6_acted Z a1).1) s.heap.size) ([.ref (ma 0), .int a1] : List Value).toArray s 0 0 (va_A (modW ck ma Z) s.heap.size)) (F0 zm 51 ls []) := by
      intro fu
      induction fu with
      | zero =>
        intro i Z1 hif hq hg H locs ls hP hD hS hl
        refine lv_iload_n hx hb dX6_acted_51 rfl (lv_at hl 2 rfl) ?_
        refine lv_sipush (v := (nI 153)) hx hb dX6_acted_52 (by decide) ?_
        refine lv_icmp_ge (tgt := 85) hx hb dX6_acted_55 (by decide) (fun c_55 => ?_) (fun c_55 => ?_)
        · --t
          refine lv_aload_n hx hb dX6_acted_85 rfl (lv_at hl 0 rfl) ?_
          refine lv_dup hx hb dX6_acted_86 rfl ?_
          refine va_get (D := D) (ci := 6) (v := .int (Z1.1 0)) (C := RX6) (T := TX6) (N := 13) hx hb hts hinX6 hown hK hP 0 rfl rfl 4 (by decide) (hts (.fieldLink RX6 35 "JoinGrantsModel" "historyLong" "I") (List.mem_of_getElem? (i := 1) rfl)) (fun _ h9 => h9) rfl dX6_acted_87 ?_
          refine lv_iconst (v := 1) hx hb dX6_acted_90 (by decide) ?_
          refine lv_iadd hx hb dX6_acted_91 ?_
          refine va_put (D := D) (ci := 6) (v := .int ((Z1.1 0) + 1)) (ty := .int) (C := RX6) (T := TX6) (N := 13) hx hb hts hinX6 tyX6 tyX6_ok nmX6 hown hK hP hD hS 0 rfl rfl 4 (by decide) (hts (.fieldLink RX6 35 "JoinGrantsModel" "historyLong" "I") (List.mem_of_getElem? (i := 1) rfl)) (fun _ h9 => h9) rfl (by decide +kernel) rfl rfl (Nat.le_of_ble_eq_true rfl) dX6_acted_92 (fun H locs hP hD hS => ?_)
          have hP : va_P D vwCl (modW ck ma (upd Z1.1 0 ((Z1.1 0) + 1), Z1.2.1, Z1.2.2.1, Z1.2.2.2.1, Z1.2.2.2.2.1, Z1.2.2.2.2.2.1, Z1.2.2.2.2.2.2.1, Z1.2.2.2.2.2.2.2)) H := hP
          have hD : va_D (va_A (modW ck ma Z) s.heap.size) (modW ck ma (upd Z1.1 0 ((Z1.1 0) + 1), Z1.2.1, Z1.2.2.1, Z1.2.2.2.1, Z1.2.2.2.2.1, Z1.2.2.2.2.2.1, Z1.2.2.2.2.2.2.1, Z1.2.2.2.2.2.2.2)) := hD
          refine lv_iload_n hx hb dX6_acted_95 rfl (lv_at hl 1 rfl) ?_
          exact xiret hx hb hr hlk hP hD hS (congrArg (fun z => z.1) (hg.trans (show gX6_acted_L51 Z a1 0 i Z1 = (a1, (upd Z1.1 0 ((Z1.1 0) + 1), Z1.2.1, Z1.2.2.1, Z1.2.2.2.1, Z1.2.2.2.2.1, Z1.2.2.2.2.2.1, Z1.2.2.2.2.2.2.1, Z1.2.2.2.2.2.2.2)) from rfl))).symm (congrArg (fun z => modW ck ma z.2) (hg.trans (show gX6_acted_L51 Z a1 0 i Z1 = (a1, (upd Z1.1 0 ((Z1.1 0) + 1), Z1.2.1, Z1.2.2.1, Z1.2.2.2.1, Z1.2.2.2.2.1, Z1.2.2.2.2.2.1, Z1.2.2.2.2.2.2.1, Z1.2.2.2.2.2.2.2)) from rfl))).symm dX6_acted_96
        · --f
          exact absurd (nI_le (by omega) (by omega)) c_55
      | succ fu ih51 =>
        intro i Z1 hif hq hg H locs ls hP hD hS hl
        refine lv_iload_n hx hb dX6_acted_51 rfl (lv_at hl 2 rfl) ?_
        refine lv_sipush (v := (nI 153)) hx hb dX6_acted_52 (by decide) ?_
        refine lv_icmp_ge (tgt := 85) hx hb dX6_acted_55 (by decide) (fun c_55 => ?_) (fun c_55 => ?_)
        · --t
          exact absurd c_55 (nI_ge (by omega) (by omega))
        · --f
          refine lv_aload_n hx hb dX6_acted_58 rfl (lv_at hl 0 rfl) ?_
          refine va_get (D := D) (ci := 6) (v := .ref (ma 4)) (C := RX6) (T := TX6) (N := 13) hx hb hts hinX6 hown hK hP 0 rfl rfl 3 (by decide) (hts (.fieldLink RX6 19 "JoinGrantsModel" "history" "[I") (List.mem_of_getElem? (i := 2) rfl)) (fun _ h9 => h9) rfl dX6_acted_59 ?_
          refine lv_sipush (v := (nI 153)) hx hb dX6_acted_62 (by decide) ?_
          refine lv_aload_n hx hb dX6_acted_65 rfl (lv_at hl 0 rfl) ?_
          refine va_get (D := D) (ci := 6) (v := .int (Z1.1 0)) (C := RX6) (T := TX6) (N := 13) hx hb hts hinX6 hown hK hP 0 rfl rfl 4 (by decide) (hts (.fieldLink RX6 35 "JoinGrantsModel" "historyLong" "I") (List.mem_of_getElem? (i := 1) rfl)) (fun _ h9 => h9) rfl dX6_acted_66 ?_
          refine lv_imul hx hb dX6_acted_69 ?_
          refine lv_iload_n hx hb dX6_acted_70 rfl (lv_at hl 2 rfl) ?_
          refine lv_iadd hx hb dX6_acted_71 ?_
          refine lv_aload_n hx hb dX6_acted_72 rfl (lv_at hl 0 rfl) ?_
          refine va_get (D := D) (ci := 6) (v := .ref (ma 2)) (C := RX6) (T := TX6) (N := 13) hx hb hts hinX6 hown hK hP 0 rfl rfl 1 (by decide) (hts (.fieldLink RX6 13 "JoinGrantsModel" "kept" "[I") (List.mem_of_getElem? (i := 3) rfl)) (fun _ h9 => h9) rfl dX6_acted_73 ?_
          refine lv_iload_n hx hb dX6_acted_76 rfl (lv_at hl 2 rfl) ?_
          refine xiald (j := i) (nI_clamp (by omega)) hx hb hK hP 2 0 rfl rfl (vp_in_nI (by omega) (by omega)) dX6_acted_77 ?_
          refine xiast (j := (153 * (Z1.1 0).toNatClampNeg + i)) (hs_c2 hq (by omega)) hx hb hK hP hD hS 4 0 rfl rfl (hs_i2 hq (by omega)) dX6_acted_78 (fun H locs hP hD hS => ?_)
          have hP : va_P D vwCl (modW ck ma (Z1.1, Z1.2.1, Z1.2.2.1, Z1.2.2.2.1, upd Z1.2.2.2.2.1 (153 * (Z1.1 0).toNatClampNeg + i) (Z1.2.2.1 i), Z1.2.2.2.2.2.1, Z1.2.2.2.2.2.2.1, Z1.2.2.2.2.2.2.2)) H := hP
          have hD : va_D (va_A (modW ck ma Z) s.heap.size) (modW ck ma (Z1.1, Z1.2.1, Z1.2.2.1, Z1.2.2.2.1, upd Z1.2.2.2.2.1 (153 * (Z1.1 0).toNatClampNeg + i) (Z1.2.2.1 i), Z1.2.2.2.2.2.1, Z1.2.2.2.2.2.2.1, Z1.2.2.2.2.2.2.2)) := hD
          refine lv_iinc (v := (nI (i + 1))) (lv' := [(2, .int (nI (i + 1))), (0, .ref (ma 0)), (1, .int a1)]) hx hb dX6_acted_79 hl (k := 2) rfl (nI_1 i) (by decide) rfl (fun ls hl => ?_)
          refine lv_goto (tgt := 51) hx hb dX6_acted_82 (by decide) ?_
          exact ih51 (i + 1) (Z1.1, Z1.2.1, Z1.2.2.1, Z1.2.2.2.1, upd Z1.2.2.2.2.1 (153 * (Z1.1 0).toNatClampNeg + i) (Z1.2.2.1 i), Z1.2.2.2.2.2.1, Z1.2.2.2.2.2.2.1, Z1.2.2.2.2.2.2.2) (by omega) hq (hg.trans (show gX6_acted_L51 Z a1 (fu + 1) i Z1 = (gX6_acted_L51 Z a1 fu (i + 1) (Z1.1, Z1.2.1, Z1.2.2.1, Z1.2.2.2.1, upd Z1.2.2.2.2.1 (153 * (Z1.1 0).toNatClampNeg + i) (Z1.2.2.1 i), Z1.2.2.2.2.2.1, Z1.2.2.2.2.2.2.1, Z1.2.2.2.2.2.2.2)) from rfl)) _ _ _ hP hD hS (lv_sub hl [1, 2, 0] rfl)
    exact loop51 153 0 Z (by omega) (hs_n hh c_5) (show gX6_acted Z a1 = (gX6_acted_L51 Z a1 153 0 Z) from (Eq.trans (if_neg c_5) rfl)) _ _ _ hP hD hS (lv_sub hl [1, 2, 0] rfl)
  · --f
    refine lv_iconst (v := (nI 0)) hx hb dX6_acted_8 (by decide) ?_
    refine lv_istore_n (lv' := [(2, .int (nI 0)), (0, .ref (ma 0)), (1, .int a1)]) hx hb dX6_acted_9 rfl hl (by decide) rfl (fun ls hl => ?_)
    have loop10 : ∀ (fu : Nat) (i : Nat) (Z1 : MS), (i + fu = 459) → (Z1.1 0 = 4) → gX6_acted Z a1 = gX6_acted_L10 Z a1 fu i Z1 → ∀ (H : Heap) (locs : List Loc) (ls : Array Slot), va_P D vwCl (modW ck ma Z1) H → va_D (va_A (modW ck ma Z) s.heap.size) (modW ck ma Z1) → va_S (va_A (modW ck ma Z) s.heap.size) s.heap H locs → lv_has ls 3 [(0, .ref (ma 0)), (1, .int a1), (2, .int (nI i))] → W zp l ze rmX6_acted s zm ([.ref (ma 0), .int a1] : List Value).toArray zb zt zc H locs 0 0 (MQ zb (xQi D (modW ck ma Z) (modW ck ma ((gX6_acted Z a1).2)) ((gX6_acted Z a1).1) s.heap.size) ([.ref (ma 0), .int a1] : List Value).toArray s 0 0 (va_A (modW ck ma Z) s.heap.size)) (F0 zm 10 ls []) := by
      intro fu
      induction fu with
      | zero =>
        intro i Z1 hif hz hg H locs ls hP hD hS hl
        refine lv_iload_n hx hb dX6_acted_10 rfl (lv_at hl 2 rfl) ?_
        refine lv_sipush (v := (nI 459)) hx hb dX6_acted_11 (by decide) ?_
        refine lv_icmp_ge (tgt := 39) hx hb dX6_acted_14 (by decide) (fun c_14 => ?_) (fun c_14 => ?_)
        · --t
          refine lv_aload_n hx hb dX6_acted_39 rfl (lv_at hl 0 rfl) ?_
          refine lv_dup hx hb dX6_acted_40 rfl ?_
          refine va_get (D := D) (ci := 6) (v := .int (Z1.1 0)) (C := RX6) (T := TX6) (N := 13) hx hb hts hinX6 hown hK hP 0 rfl rfl 4 (by decide) (hts (.fieldLink RX6 35 "JoinGrantsModel" "historyLong" "I") (List.mem_of_getElem? (i := 1) rfl)) (fun _ h9 => h9) rfl dX6_acted_41 ?_
          refine lv_iconst (v := 1) hx hb dX6_acted_44 (by decide) ?_
          refine lv_isub hx hb dX6_acted_45 ?_
          refine va_put (D := D) (ci := 6) (v := .int ((Z1.1 0) - 1)) (ty := .int) (C := RX6) (T := TX6) (N := 13) hx hb hts hinX6 tyX6 tyX6_ok nmX6 hown hK hP hD hS 0 rfl rfl 4 (by decide) (hts (.fieldLink RX6 35 "JoinGrantsModel" "historyLong" "I") (List.mem_of_getElem? (i := 1) rfl)) (fun _ h9 => h9) rfl (by decide +kernel) rfl rfl (Nat.le_of_ble_eq_true rfl) dX6_acted_46 (fun H locs hP hD hS => ?_)
          have hP : va_P D vwCl (modW ck ma (upd Z1.1 0 ((Z1.1 0) - 1), Z1.2.1, Z1.2.2.1, Z1.2.2.2.1, Z1.2.2.2.2.1, Z1.2.2.2.2.2.1, Z1.2.2.2.2.2.2.1, Z1.2.2.2.2.2.2.2)) H := hP
          have hD : va_D (va_A (modW ck ma Z) s.heap.size) (modW ck ma (upd Z1.1 0 ((Z1.1 0) - 1), Z1.2.1, Z1.2.2.1, Z1.2.2.2.1, Z1.2.2.2.2.1, Z1.2.2.2.2.2.1, Z1.2.2.2.2.2.2.1, Z1.2.2.2.2.2.2.2)) := hD
          refine lv_iconst (v := (nI 0)) hx hb dX6_acted_49 (by decide) ?_
          refine lv_istore_n (lv' := [(2, .int (nI 0)), (0, .ref (ma 0)), (1, .int a1)]) hx hb dX6_acted_50 rfl hl (by decide) rfl (fun ls hl => ?_)
          have loop51 : ∀ (fu : Nat) (i : Nat) (Z1 : MS), (i + fu = 153) → (hx3 (Z1.1 0)) → gX6_acted Z a1 = gX6_acted_L51 Z a1 fu i Z1 → ∀ (H : Heap) (locs : List Loc) (ls : Array Slot), va_P D vwCl (modW ck ma Z1) H → va_D (va_A (modW ck ma Z) s.heap.size) (modW ck ma Z1) → va_S (va_A (modW ck ma Z) s.heap.size) s.heap H locs → lv_has ls 3 [(0, .ref (ma 0)), (1, .int a1), (2, .int (nI i))] → W zp l ze rmX6_acted s zm ([.ref (ma 0), .int a1] : List Value).toArray zb zt zc H locs 0 0 (MQ zb (xQi D (modW ck ma Z) (modW ck ma ((gX6_acted Z a1).2)) ((gX6_acted Z a1).1) s.heap.size) ([.ref (ma 0), .int a1] : List Value).toArray s 0 0 (va_A (modW ck ma Z) s.heap.size)) (F0 zm 51 ls []) := by
            intro fu
            induction fu with
            | zero =>
              intro i Z1 hif hq hg H locs ls hP hD hS hl
              refine lv_iload_n hx hb dX6_acted_51 rfl (lv_at hl 2 rfl) ?_
              refine lv_sipush (v := (nI 153)) hx hb dX6_acted_52 (by decide) ?_
              refine lv_icmp_ge (tgt := 85) hx hb dX6_acted_55 (by decide) (fun c_55 => ?_) (fun c_55 => ?_)
              · --t
                refine lv_aload_n hx hb dX6_acted_85 rfl (lv_at hl 0 rfl) ?_
                refine lv_dup hx hb dX6_acted_86 rfl ?_
                refine va_get (D := D) (ci := 6) (v := .int (Z1.1 0)) (C := RX6) (T := TX6) (N := 13) hx hb hts hinX6 hown hK hP 0 rfl rfl 4 (by decide) (hts (.fieldLink RX6 35 "JoinGrantsModel" "historyLong" "I") (List.mem_of_getElem? (i := 1) rfl)) (fun _ h9 => h9) rfl dX6_acted_87 ?_
                refine lv_iconst (v := 1) hx hb dX6_acted_90 (by decide) ?_
                refine lv_iadd hx hb dX6_acted_91 ?_
                refine va_put (D := D) (ci := 6) (v := .int ((Z1.1 0) + 1)) (ty := .int) (C := RX6) (T := TX6) (N := 13) hx hb hts hinX6 tyX6 tyX6_ok nmX6 hown hK hP hD hS 0 rfl rfl 4 (by decide) (hts (.fieldLink RX6 35 "JoinGrantsModel" "historyLong" "I") (List.mem_of_getElem? (i := 1) rfl)) (fun _ h9 => h9) rfl (by decide +kernel) rfl rfl (Nat.le_of_ble_eq_true rfl) dX6_acted_92 (fun H locs hP hD hS => ?_)
                have hP : va_P D vwCl (modW ck ma (upd Z1.1 0 ((Z1.1 0) + 1), Z1.2.1, Z1.2.2.1, Z1.2.2.2.1, Z1.2.2.2.2.1, Z1.2.2.2.2.2.1, Z1.2.2.2.2.2.2.1, Z1.2.2.2.2.2.2.2)) H := hP
                have hD : va_D (va_A (modW ck ma Z) s.heap.size) (modW ck ma (upd Z1.1 0 ((Z1.1 0) + 1), Z1.2.1, Z1.2.2.1, Z1.2.2.2.1, Z1.2.2.2.2.1, Z1.2.2.2.2.2.1, Z1.2.2.2.2.2.2.1, Z1.2.2.2.2.2.2.2)) := hD
                refine lv_iload_n hx hb dX6_acted_95 rfl (lv_at hl 1 rfl) ?_
                exact xiret hx hb hr hlk hP hD hS (congrArg (fun z => z.1) (hg.trans (show gX6_acted_L51 Z a1 0 i Z1 = (a1, (upd Z1.1 0 ((Z1.1 0) + 1), Z1.2.1, Z1.2.2.1, Z1.2.2.2.1, Z1.2.2.2.2.1, Z1.2.2.2.2.2.1, Z1.2.2.2.2.2.2.1, Z1.2.2.2.2.2.2.2)) from rfl))).symm (congrArg (fun z => modW ck ma z.2) (hg.trans (show gX6_acted_L51 Z a1 0 i Z1 = (a1, (upd Z1.1 0 ((Z1.1 0) + 1), Z1.2.1, Z1.2.2.1, Z1.2.2.2.1, Z1.2.2.2.2.1, Z1.2.2.2.2.2.1, Z1.2.2.2.2.2.2.1, Z1.2.2.2.2.2.2.2)) from rfl))).symm dX6_acted_96
              · --f
                exact absurd (nI_le (by omega) (by omega)) c_55
            | succ fu ih51 =>
              intro i Z1 hif hq hg H locs ls hP hD hS hl
              refine lv_iload_n hx hb dX6_acted_51 rfl (lv_at hl 2 rfl) ?_
              refine lv_sipush (v := (nI 153)) hx hb dX6_acted_52 (by decide) ?_
              refine lv_icmp_ge (tgt := 85) hx hb dX6_acted_55 (by decide) (fun c_55 => ?_) (fun c_55 => ?_)
              · --t
                exact absurd c_55 (nI_ge (by omega) (by omega))
              · --f
                refine lv_aload_n hx hb dX6_acted_58 rfl (lv_at hl 0 rfl) ?_
                refine va_get (D := D) (ci := 6) (v := .ref (ma 4)) (C := RX6) (T := TX6) (N := 13) hx hb hts hinX6 hown hK hP 0 rfl rfl 3 (by decide) (hts (.fieldLink RX6 19 "JoinGrantsModel" "history" "[I") (List.mem_of_getElem? (i := 2) rfl)) (fun _ h9 => h9) rfl dX6_acted_59 ?_
                refine lv_sipush (v := (nI 153)) hx hb dX6_acted_62 (by decide) ?_
                refine lv_aload_n hx hb dX6_acted_65 rfl (lv_at hl 0 rfl) ?_
                refine va_get (D := D) (ci := 6) (v := .int (Z1.1 0)) (C := RX6) (T := TX6) (N := 13) hx hb hts hinX6 hown hK hP 0 rfl rfl 4 (by decide) (hts (.fieldLink RX6 35 "JoinGrantsModel" "historyLong" "I") (List.mem_of_getElem? (i := 1) rfl)) (fun _ h9 => h9) rfl dX6_acted_66 ?_
                refine lv_imul hx hb dX6_acted_69 ?_
                refine lv_iload_n hx hb dX6_acted_70 rfl (lv_at hl 2 rfl) ?_
                refine lv_iadd hx hb dX6_acted_71 ?_
                refine lv_aload_n hx hb dX6_acted_72 rfl (lv_at hl 0 rfl) ?_
                refine va_get (D := D) (ci := 6) (v := .ref (ma 2)) (C := RX6) (T := TX6) (N := 13) hx hb hts hinX6 hown hK hP 0 rfl rfl 1 (by decide) (hts (.fieldLink RX6 13 "JoinGrantsModel" "kept" "[I") (List.mem_of_getElem? (i := 3) rfl)) (fun _ h9 => h9) rfl dX6_acted_73 ?_
                refine lv_iload_n hx hb dX6_acted_76 rfl (lv_at hl 2 rfl) ?_
                refine xiald (j := i) (nI_clamp (by omega)) hx hb hK hP 2 0 rfl rfl (vp_in_nI (by omega) (by omega)) dX6_acted_77 ?_
                refine xiast (j := (153 * (Z1.1 0).toNatClampNeg + i)) (hs_c2 hq (by omega)) hx hb hK hP hD hS 4 0 rfl rfl (hs_i2 hq (by omega)) dX6_acted_78 (fun H locs hP hD hS => ?_)
                have hP : va_P D vwCl (modW ck ma (Z1.1, Z1.2.1, Z1.2.2.1, Z1.2.2.2.1, upd Z1.2.2.2.2.1 (153 * (Z1.1 0).toNatClampNeg + i) (Z1.2.2.1 i), Z1.2.2.2.2.2.1, Z1.2.2.2.2.2.2.1, Z1.2.2.2.2.2.2.2)) H := hP
                have hD : va_D (va_A (modW ck ma Z) s.heap.size) (modW ck ma (Z1.1, Z1.2.1, Z1.2.2.1, Z1.2.2.2.1, upd Z1.2.2.2.2.1 (153 * (Z1.1 0).toNatClampNeg + i) (Z1.2.2.1 i), Z1.2.2.2.2.2.1, Z1.2.2.2.2.2.2.1, Z1.2.2.2.2.2.2.2)) := hD
                refine lv_iinc (v := (nI (i + 1))) (lv' := [(2, .int (nI (i + 1))), (0, .ref (ma 0)), (1, .int a1)]) hx hb dX6_acted_79 hl (k := 2) rfl (nI_1 i) (by decide) rfl (fun ls hl => ?_)
                refine lv_goto (tgt := 51) hx hb dX6_acted_82 (by decide) ?_
                exact ih51 (i + 1) (Z1.1, Z1.2.1, Z1.2.2.1, Z1.2.2.2.1, upd Z1.2.2.2.2.1 (153 * (Z1.1 0).toNatClampNeg + i) (Z1.2.2.1 i), Z1.2.2.2.2.2.1, Z1.2.2.2.2.2.2.1, Z1.2.2.2.2.2.2.2) (by omega) hq (hg.trans (show gX6_acted_L51 Z a1 (fu + 1) i Z1 = (gX6_acted_L51 Z a1 fu (i + 1) (Z1.1, Z1.2.1, Z1.2.2.1, Z1.2.2.2.1, upd Z1.2.2.2.2.1 (153 * (Z1.1 0).toNatClampNeg + i) (Z1.2.2.1 i), Z1.2.2.2.2.2.1, Z1.2.2.2.2.2.2.1, Z1.2.2.2.2.2.2.2)) from rfl)) _ _ _ hP hD hS (lv_sub hl [1, 2, 0] rfl)
          exact loop51 153 0 (upd Z1.1 0 ((Z1.1 0) - 1), Z1.2.1, Z1.2.2.1, Z1.2.2.2.1, Z1.2.2.2.2.1, Z1.2.2.2.2.2.1, Z1.2.2.2.2.2.2.1, Z1.2.2.2.2.2.2.2) (by omega) (hs_4 hz) (hg.trans (show gX6_acted_L10 Z a1 0 i Z1 = (gX6_acted_L51 Z a1 153 0 (upd Z1.1 0 ((Z1.1 0) - 1), Z1.2.1, Z1.2.2.1, Z1.2.2.2.1, Z1.2.2.2.2.1, Z1.2.2.2.2.2.1, Z1.2.2.2.2.2.2.1, Z1.2.2.2.2.2.2.2)) from rfl)) _ _ _ hP hD hS (lv_sub hl [1, 2, 0] rfl)
        · --f
          exact absurd (nI_le (by omega) (by omega)) c_14
      | succ fu ih10 =>
        intro i Z1 hif hz hg H locs ls hP hD hS hl
        refine lv_iload_n hx hb dX6_acted_10 rfl (lv_at hl 2 rfl) ?_
        refine lv_sipush (v := (nI 459)) hx hb dX6_acted_11 (by decide) ?_
        refine lv_icmp_ge (tgt := 39) hx hb dX6_acted_14 (by decide) (fun c_14 => ?_) (fun c_14 => ?_)
        · --t
          exact absurd c_14 (nI_ge (by omega) (by omega))
        · --f
          refine lv_aload_n hx hb dX6_acted_17 rfl (lv_at hl 0 rfl) ?_
          refine va_get (D := D) (ci := 6) (v := .ref (ma 4)) (C := RX6) (T := TX6) (N := 13) hx hb hts hinX6 hown hK hP 0 rfl rfl 3 (by decide) (hts (.fieldLink RX6 19 "JoinGrantsModel" "history" "[I") (List.mem_of_getElem? (i := 2) rfl)) (fun _ h9 => h9) rfl dX6_acted_18 ?_
          refine lv_iload_n hx hb dX6_acted_21 rfl (lv_at hl 2 rfl) ?_
          refine lv_aload_n hx hb dX6_acted_22 rfl (lv_at hl 0 rfl) ?_
          refine va_get (D := D) (ci := 6) (v := .ref (ma 4)) (C := RX6) (T := TX6) (N := 13) hx hb hts hinX6 hown hK hP 0 rfl rfl 3 (by decide) (hts (.fieldLink RX6 19 "JoinGrantsModel" "history" "[I") (List.mem_of_getElem? (i := 2) rfl)) (fun _ h9 => h9) rfl dX6_acted_23 ?_
          refine lv_iload_n hx hb dX6_acted_26 rfl (lv_at hl 2 rfl) ?_
          refine lv_sipush (v := (nI 153)) hx hb dX6_acted_27 (by decide) ?_
          refine lv_iadd hx hb dX6_acted_30 ?_
          refine xiald (j := (i + 153)) (hs_c1 (by omega)) hx hb hK hP 4 0 rfl rfl (hs_i1 (by omega)) dX6_acted_31 ?_
          refine xiast (j := i) (nI_clamp (by omega)) hx hb hK hP hD hS 4 0 rfl rfl (vp_in_nI (by omega) (by omega)) dX6_acted_32 (fun H locs hP hD hS => ?_)
          have hP : va_P D vwCl (modW ck ma (Z1.1, Z1.2.1, Z1.2.2.1, Z1.2.2.2.1, upd Z1.2.2.2.2.1 i (Z1.2.2.2.2.1 (i + 153)), Z1.2.2.2.2.2.1, Z1.2.2.2.2.2.2.1, Z1.2.2.2.2.2.2.2)) H := hP
          have hD : va_D (va_A (modW ck ma Z) s.heap.size) (modW ck ma (Z1.1, Z1.2.1, Z1.2.2.1, Z1.2.2.2.1, upd Z1.2.2.2.2.1 i (Z1.2.2.2.2.1 (i + 153)), Z1.2.2.2.2.2.1, Z1.2.2.2.2.2.2.1, Z1.2.2.2.2.2.2.2)) := hD
          refine lv_iinc (v := (nI (i + 1))) (lv' := [(2, .int (nI (i + 1))), (0, .ref (ma 0)), (1, .int a1)]) hx hb dX6_acted_33 hl (k := 2) rfl (nI_1 i) (by decide) rfl (fun ls hl => ?_)
          refine lv_goto (tgt := 10) hx hb dX6_acted_36 (by decide) ?_
          exact ih10 (i + 1) (Z1.1, Z1.2.1, Z1.2.2.1, Z1.2.2.2.1, upd Z1.2.2.2.2.1 i (Z1.2.2.2.2.1 (i + 153)), Z1.2.2.2.2.2.1, Z1.2.2.2.2.2.2.1, Z1.2.2.2.2.2.2.2) (by omega) hz (hg.trans (show gX6_acted_L10 Z a1 (fu + 1) i Z1 = (gX6_acted_L10 Z a1 fu (i + 1) (Z1.1, Z1.2.1, Z1.2.2.1, Z1.2.2.2.1, upd Z1.2.2.2.2.1 i (Z1.2.2.2.2.1 (i + 153)), Z1.2.2.2.2.2.1, Z1.2.2.2.2.2.2.1, Z1.2.2.2.2.2.2.2)) from rfl)) _ _ _ hP hD hS (lv_sub hl [1, 2, 0] rfl)
    exact loop10 459 0 Z (by omega) c_5 (show gX6_acted Z a1 = (gX6_acted_L10 Z a1 459 0 Z) from (Eq.trans (if_pos c_5) rfl)) _ _ _ hP hD hS (lv_sub hl [1, 2, 0] rfl)

def rmX6_ask : Room := { frames := 10, cells := 0, slots := 0, locals := 235 }
set_option maxHeartbeats 4000000 in
set_option maxRecDepth 100000 in
theorem mX6_ask (l : Launch) (D : va_G) (ck : Nat → ClassId) (ma : Nat → Nat) (Z : MS) (a1 : Int32) (a2 : Int32) (a3 : Int32) (hm : mInv Z.2.1) (hh : hx4 (Z.1 0)) : xMi l yX6_ask wsX6_ask rmX6_ask D ck [.ref (ma 0), .int a1, .int a2, .int a3] (modW ck ma Z) (modW ck ma ((gX6_ask Z a1 a2 a3).2)) ((gX6_ask Z a1 a2 a3).1) 0 0 := by
  refine xMet (by decide) rfl (Nat.le_of_ble_eq_true rfl) ?_
  intro zp ze s zm zb zt zc hx hb hr hml hown hts hlk hnm hN hK hP hD ls hl
  have hown : s.vm.findClass RX6 = some zm.cls := hown
  have hl : lv_has ls 4 [(0, .ref (ma 0)), (1, .int a1), (2, .int a2), (3, .int a3)] := hl
  have hS : va_S (va_A (modW ck ma Z) s.heap.size) s.heap s.heap [] := va_S.rf
  have hA : ∀ zq : Nat, s.heap.size ≤ zq → va_A (modW ck ma Z) s.heap.size zq := fun zq h => Or.inr h
  have hinX6 : ∀ w ∈ u_ws RX6 TX6 13, w ∈ wsX6_ask := by decide +kernel
  refine lv_iload_n hx hb dX6_ask_0 rfl (lv_at hl 1 rfl) ?_
  refine lv_i2l (v := (a1).toInt64) hx hb dX6_ask_1 rfl ?_
  refine lv_lconst (v := 0) hx hb dX6_ask_2 (by decide) ?_
  refine lv_ldc2 (v := 2) hx hb hown (hts (.constantLong RX6 124 (2)) (List.mem_of_getElem? (i := 1) rfl)) dX6_ask_3 ?_
  refine xreti (va_runS (As := [.long ((a1).toInt64), .long 0, .long 2]) (rest := []) ⟨hx, hb, hml, hown, hts⟩ (mX6_in l D ck ((a1).toInt64) 0 2  _) (va_cwS 3 hts gX6_ask_X6_in rfl rfl rfl (by decide +kernel) ⟨Nat.le_of_ble_eq_true rfl, Nat.le_of_ble_eq_true rfl⟩) (xpreS hN hK hP hD pm_none) rfl rfl hl.1 rfl (lv_room (Nat.le_of_ble_eq_true rfl)) dX6_ask_6 ⟨Nat.le_of_ble_eq_true rfl, Nat.le_of_ble_eq_true rfl⟩) hP hD hS hA pm_none pm_none (fun H locs hP hD hS => ?_)
  have hP : va_P D vwCl (modW ck ma Z) H := hP
  have hD : va_D (va_A (modW ck ma Z) s.heap.size) (modW ck ma Z) := hD
  refine lv_if_eq (tgt := 26) hx hb dX6_ask_9 (by decide) (fun c_9 => ?_) (fun c_9 => ?_)
  · --t
    refine lv_bipush (v := (-2)) hx hb dX6_ask_26 (by decide) ?_
    exact xiret hx hb hr hlk hP hD hS (congrArg (fun z => z.1) (show gX6_ask Z a1 a2 a3 = ((-2), Z) from (Eq.trans (if_pos c_9) rfl))).symm (congrArg (fun z => modW ck ma z.2) (show gX6_ask Z a1 a2 a3 = ((-2), Z) from (Eq.trans (if_pos c_9) rfl))).symm dX6_ask_28
  · --f
    refine lv_iload_n hx hb dX6_ask_12 rfl (lv_at hl 2 rfl) ?_
    refine xreti (va_runS (As := [.int a2]) (rest := []) ⟨hx, hb, hml, hown, hts⟩ (mX6_isTable l D ck a2  _) (va_cwS 1 hts gX6_ask_X6_isTable rfl rfl rfl (by decide +kernel) ⟨Nat.le_of_ble_eq_true rfl, Nat.le_of_ble_eq_true rfl⟩) (xpreS hN hK hP hD pm_none) rfl rfl hl.1 rfl (lv_room (Nat.le_of_ble_eq_true rfl)) dX6_ask_13 ⟨Nat.le_of_ble_eq_true rfl, Nat.le_of_ble_eq_true rfl⟩) hP hD hS hA pm_none pm_none (fun H locs hP hD hS => ?_)
    have hP : va_P D vwCl (modW ck ma Z) H := hP
    have hD : va_D (va_A (modW ck ma Z) s.heap.size) (modW ck ma Z) := hD
    refine lv_if_eq (tgt := 26) hx hb dX6_ask_16 (by decide) (fun c_16 => ?_) (fun c_16 => ?_)
    · --t
      refine lv_bipush (v := (-2)) hx hb dX6_ask_26 (by decide) ?_
      exact xiret hx hb hr hlk hP hD hS (congrArg (fun z => z.1) (show gX6_ask Z a1 a2 a3 = ((-2), Z) from (Eq.trans (if_neg c_9) (Eq.trans (if_pos c_16) rfl)))).symm (congrArg (fun z => modW ck ma z.2) (show gX6_ask Z a1 a2 a3 = ((-2), Z) from (Eq.trans (if_neg c_9) (Eq.trans (if_pos c_16) rfl)))).symm dX6_ask_28
    · --f
      refine lv_iload_n hx hb dX6_ask_19 rfl (lv_at hl 3 rfl) ?_
      refine xreti (va_runS (As := [.int a3]) (rest := []) ⟨hx, hb, hml, hown, hts⟩ (mX6_isTable l D ck a3  _) (va_cwS 1 hts gX6_ask_X6_isTable rfl rfl rfl (by decide +kernel) ⟨Nat.le_of_ble_eq_true rfl, Nat.le_of_ble_eq_true rfl⟩) (xpreS hN hK hP hD pm_none) rfl rfl hl.1 rfl (lv_room (Nat.le_of_ble_eq_true rfl)) dX6_ask_20 ⟨Nat.le_of_ble_eq_true rfl, Nat.le_of_ble_eq_true rfl⟩) hP hD hS hA pm_none pm_none (fun H locs hP hD hS => ?_)
      have hP : va_P D vwCl (modW ck ma Z) H := hP
      have hD : va_D (va_A (modW ck ma Z) s.heap.size) (modW ck ma Z) := hD
      refine lv_if_ne (tgt := 29) hx hb dX6_ask_23 (by decide) (fun c_23 => ?_) (fun c_23 => ?_)
      · --t
        refine lv_aload_n hx hb dX6_ask_29 rfl (lv_at hl 0 rfl) ?_
        refine va_get (D := D) (ci := 6) (v := .ref (ma 1)) (C := RX6) (T := TX6) (N := 13) hx hb hts hinX6 hown hK hP 0 rfl rfl 0 (by decide) (hts (.fieldLink RX6 7 "JoinGrantsModel" "all" "[I") (List.mem_of_getElem? (i := 2) rfl)) (fun _ h9 => h9) rfl dX6_ask_30 ?_
        refine lv_iconst (v := 4) hx hb dX6_ask_33 (by decide) ?_
        refine xiald (j := 4) (by decide) hx hb hK hP 1 0 rfl rfl (show vp_in 4 153 from by unfold vp_in; decide) dX6_ask_34 ?_
        refine lv_bipush (v := 16) hx hb dX6_ask_35 (by decide) ?_
        refine lv_icmp_ne (tgt := 43) hx hb dX6_ask_37 (by decide) (fun c_37 => ?_) (fun c_37 => ?_)
        · --t
          refine lv_aload_n hx hb dX6_ask_43 rfl (lv_at hl 0 rfl) ?_
          refine xretv (va_runV (As := []) (rest := []) ⟨hx, hb, hml, hown, hts⟩ (mX6_remember l D ck ma Z   _) (cwV 0 hts gX6_ask_X6_remember rfl rfl rfl (by decide +kernel) ⟨Nat.le_of_ble_eq_true rfl, Nat.le_of_ble_eq_true rfl⟩) (xpreV hN hK hP hD pm_all 0 rfl rfl rfl) rfl rfl hl.1 rfl (lv_room (Nat.le_of_ble_eq_true rfl)) dX6_ask_44 ⟨Nat.le_of_ble_eq_true rfl, Nat.le_of_ble_eq_true rfl⟩) hP hD hS hA pm_all pm_all' (fun H locs hP hD hS => ?_)
          have hP : va_P D vwCl (modW ck ma (Z.1, Z.2.1, gX6_copy Z.2.1 Z.2.2.1, Z.2.2.2.1, Z.2.2.2.2.1, Z.2.2.2.2.2.1, Z.2.2.2.2.2.2.1, Z.2.2.2.2.2.2.2)) H := hP
          have hD : va_D (va_A (modW ck ma Z) s.heap.size) (modW ck ma (Z.1, Z.2.1, gX6_copy Z.2.1 Z.2.2.1, Z.2.2.2.1, Z.2.2.2.2.1, Z.2.2.2.2.2.1, Z.2.2.2.2.2.2.1, Z.2.2.2.2.2.2.2)) := hD
          refine lv_aload_n hx hb dX6_ask_47 rfl (lv_at hl 0 rfl) ?_
          refine lv_iload_n hx hb dX6_ask_48 rfl (lv_at hl 1 rfl) ?_
          refine lv_iload_n hx hb dX6_ask_49 rfl (lv_at hl 2 rfl) ?_
          refine lv_iload_n hx hb dX6_ask_50 rfl (lv_at hl 3 rfl) ?_
          refine xretv (va_runV (As := [.int a1, .int a2, .int a3]) (rest := []) ⟨hx, hb, hml, hown, hts⟩ (mX6_comes l D ck ma Z.1 Z.2.1 a1 a2 a3 hm c_37 (okJ_in c_9 c_16 c_23) _) (cwV 3 hts gX6_ask_X6_comes rfl rfl rfl (by decide +kernel) ⟨Nat.le_of_ble_eq_true rfl, Nat.le_of_ble_eq_true rfl⟩) (xpreV hN hK hP hD (pm_core (Z.1, Z.2.1, gX6_copy Z.2.1 Z.2.2.1, Z.2.2.2.1, Z.2.2.2.2.1, Z.2.2.2.2.2.1, Z.2.2.2.2.2.2.1, Z.2.2.2.2.2.2.2)) 0 rfl rfl rfl) rfl rfl hl.1 rfl (lv_room (Nat.le_of_ble_eq_true rfl)) dX6_ask_51 ⟨Nat.le_of_ble_eq_true rfl, Nat.le_of_ble_eq_true rfl⟩) hP hD hS hA (pm_core (Z.1, Z.2.1, gX6_copy Z.2.1 Z.2.2.1, Z.2.2.2.1, Z.2.2.2.2.1, Z.2.2.2.2.2.1, Z.2.2.2.2.2.2.1, Z.2.2.2.2.2.2.2)) (pm_core' (Z.1, Z.2.1, gX6_copy Z.2.1 Z.2.2.1, Z.2.2.2.1, Z.2.2.2.2.1, Z.2.2.2.2.2.1, Z.2.2.2.2.2.2.1, Z.2.2.2.2.2.2.2)) (fun H locs hP hD hS => ?_)
          have hP : va_P D vwCl (modW ck ma (Z.1, (gX6_comes Z.2.1 a1 a2 a3), gX6_copy Z.2.1 Z.2.2.1, Z.2.2.2.1, Z.2.2.2.2.1, Z.2.2.2.2.2.1, Z.2.2.2.2.2.2.1, Z.2.2.2.2.2.2.2)) H := hP
          have hD : va_D (va_A (modW ck ma Z) s.heap.size) (modW ck ma (Z.1, (gX6_comes Z.2.1 a1 a2 a3), gX6_copy Z.2.1 Z.2.2.1, Z.2.2.2.1, Z.2.2.2.2.1, Z.2.2.2.2.2.1, Z.2.2.2.2.2.2.1, Z.2.2.2.2.2.2.2)) := hD
          generalize hr_51 : gX6_comes Z.2.1 a1 a2 a3 = r_51 at hP hD ⊢
          refine lv_aload_n hx hb dX6_ask_54 rfl (lv_at hl 0 rfl) ?_
          refine lv_aload_n hx hb dX6_ask_55 rfl (lv_at hl 0 rfl) ?_
          refine va_get (D := D) (ci := 6) (v := .ref (ma 1)) (C := RX6) (T := TX6) (N := 13) hx hb hts hinX6 hown hK hP 0 rfl rfl 0 (by decide) (hts (.fieldLink RX6 7 "JoinGrantsModel" "all" "[I") (List.mem_of_getElem? (i := 2) rfl)) (fun _ h9 => h9) rfl dX6_ask_56 ?_
          refine lv_iconst (v := 4) hx hb dX6_ask_59 (by decide) ?_
          refine xiald (j := 4) (by decide) hx hb hK hP 1 0 rfl rfl (show vp_in 4 153 from by unfold vp_in; decide) dX6_ask_60 ?_
          refine lv_iconst (v := 1) hx hb dX6_ask_61 (by decide) ?_
          refine lv_isub hx hb dX6_ask_62 ?_
          refine xreti (va_runV (As := [.int ((r_51 4) - 1)]) (rest := []) ⟨hx, hb, hml, hown, hts⟩ (mX6_acted l D ck ma (Z.1, r_51, gX6_copy Z.2.1 Z.2.2.1, Z.2.2.2.1, Z.2.2.2.2.1, Z.2.2.2.2.2.1, Z.2.2.2.2.2.2.1, Z.2.2.2.2.2.2.2) ((r_51 4) - 1) hh _) (cwV 1 hts gX6_ask_X6_acted rfl rfl rfl (by decide +kernel) ⟨Nat.le_of_ble_eq_true rfl, Nat.le_of_ble_eq_true rfl⟩) (xpreV hN hK hP hD pm_all 0 rfl rfl rfl) rfl rfl hl.1 rfl (lv_room (Nat.le_of_ble_eq_true rfl)) dX6_ask_63 ⟨Nat.le_of_ble_eq_true rfl, Nat.le_of_ble_eq_true rfl⟩) hP hD hS hA pm_all pm_all' (fun H locs hP hD hS => ?_)
          have hP : va_P D vwCl (modW ck ma ((gX6_acted (Z.1, r_51, gX6_copy Z.2.1 Z.2.2.1, Z.2.2.2.1, Z.2.2.2.2.1, Z.2.2.2.2.2.1, Z.2.2.2.2.2.2.1, Z.2.2.2.2.2.2.2) ((r_51 4) - 1)).2)) H := hP
          have hD : va_D (va_A (modW ck ma Z) s.heap.size) (modW ck ma ((gX6_acted (Z.1, r_51, gX6_copy Z.2.1 Z.2.2.1, Z.2.2.2.1, Z.2.2.2.2.1, Z.2.2.2.2.2.1, Z.2.2.2.2.2.2.1, Z.2.2.2.2.2.2.2) ((r_51 4) - 1)).2)) := hD
          subst hr_51
          have hg9 : gX6_ask Z a1 a2 a3 = ((gX6_acted (Z.1, (gX6_comes Z.2.1 a1 a2 a3), gX6_copy Z.2.1 Z.2.2.1, Z.2.2.2.1, Z.2.2.2.2.1, Z.2.2.2.2.2.1, Z.2.2.2.2.2.2.1, Z.2.2.2.2.2.2.2) (((gX6_comes Z.2.1 a1 a2 a3) 4) - 1)).1, (gX6_acted (Z.1, (gX6_comes Z.2.1 a1 a2 a3), gX6_copy Z.2.1 Z.2.2.1, Z.2.2.2.1, Z.2.2.2.2.1, Z.2.2.2.2.2.1, Z.2.2.2.2.2.2.1, Z.2.2.2.2.2.2.2) (((gX6_comes Z.2.1 a1 a2 a3) 4) - 1)).2) := by rw [gX6_ask, if_neg c_9, if_neg c_16, if_neg c_23, if_neg c_37]
          have hv9 : (gX6_acted (Z.1, (gX6_comes Z.2.1 a1 a2 a3), gX6_copy Z.2.1 Z.2.2.1, Z.2.2.2.1, Z.2.2.2.2.1, Z.2.2.2.2.2.1, Z.2.2.2.2.2.2.1, Z.2.2.2.2.2.2.2) (((gX6_comes Z.2.1 a1 a2 a3) 4) - 1)).1 = (gX6_ask Z a1 a2 a3).1 := by rw [hg9]
          have hw9 : modW ck ma ((gX6_acted (Z.1, (gX6_comes Z.2.1 a1 a2 a3), gX6_copy Z.2.1 Z.2.2.1, Z.2.2.2.1, Z.2.2.2.2.1, Z.2.2.2.2.2.1, Z.2.2.2.2.2.2.1, Z.2.2.2.2.2.2.2) (((gX6_comes Z.2.1 a1 a2 a3) 4) - 1)).2) = modW ck ma ((gX6_ask Z a1 a2 a3).2) := by rw [hg9]
          exact xiret hx hb hr hlk hP hD hS hv9 hw9 dX6_ask_66
        · --f
          refine lv_bipush (v := (-3)) hx hb dX6_ask_40 (by decide) ?_
          exact xiret hx hb hr hlk hP hD hS (congrArg (fun z => z.1) (show gX6_ask Z a1 a2 a3 = ((-3), Z) from (Eq.trans (if_neg c_9) (Eq.trans (if_neg c_16) (Eq.trans (if_neg c_23) (Eq.trans (if_pos c_37) rfl)))))).symm (congrArg (fun z => modW ck ma z.2) (show gX6_ask Z a1 a2 a3 = ((-3), Z) from (Eq.trans (if_neg c_9) (Eq.trans (if_neg c_16) (Eq.trans (if_neg c_23) (Eq.trans (if_pos c_37) rfl)))))).symm dX6_ask_42
      · --f
        refine lv_bipush (v := (-2)) hx hb dX6_ask_26 (by decide) ?_
        exact xiret hx hb hr hlk hP hD hS (congrArg (fun z => z.1) (show gX6_ask Z a1 a2 a3 = ((-2), Z) from (Eq.trans (if_neg c_9) (Eq.trans (if_neg c_16) (Eq.trans (if_pos c_23) rfl))))).symm (congrArg (fun z => modW ck ma z.2) (show gX6_ask Z a1 a2 a3 = ((-2), Z) from (Eq.trans (if_neg c_9) (Eq.trans (if_neg c_16) (Eq.trans (if_pos c_23) rfl))))).symm dX6_ask_28

def rmX6_cancel : Room := { frames := 9, cells := 0, slots := 0, locals := 211 }
set_option maxHeartbeats 4000000 in
set_option maxRecDepth 100000 in
theorem mX6_cancel (l : Launch) (D : va_G) (ck : Nat → ClassId) (ma : Nat → Nat) (Z : MS) (a1 : Int32) (hm : mInv Z.2.1) (hh : hx4 (Z.1 0)) : xMi l yX6_cancel wsX6_cancel rmX6_cancel D ck [.ref (ma 0), .int a1] (modW ck ma Z) (modW ck ma ((gX6_cancel Z a1).2)) ((gX6_cancel Z a1).1) 0 0 := by
  refine xMet (by decide) rfl (Nat.le_of_ble_eq_true rfl) ?_
  intro zp ze s zm zb zt zc hx hb hr hml hown hts hlk hnm hN hK hP hD ls hl
  have hown : s.vm.findClass RX6 = some zm.cls := hown
  have hl : lv_has ls 3 [(0, .ref (ma 0)), (1, .int a1)] := hl
  have hS : va_S (va_A (modW ck ma Z) s.heap.size) s.heap s.heap [] := va_S.rf
  have hA : ∀ zq : Nat, s.heap.size ≤ zq → va_A (modW ck ma Z) s.heap.size zq := fun zq h => Or.inr h
  refine lv_aload_n hx hb dX6_cancel_0 rfl (lv_at hl 0 rfl) ?_
  refine lv_iload_n hx hb dX6_cancel_1 rfl (lv_at hl 1 rfl) ?_
  refine xreti (va_runV (As := [.int a1]) (rest := []) ⟨hx, hb, hml, hown, hts⟩ (mX6_isJoin l D ck ma Z.1 Z.2.1 a1  _) (cwV 1 hts gX6_cancel_X6_isJoin rfl rfl rfl (by decide +kernel) ⟨Nat.le_of_ble_eq_true rfl, Nat.le_of_ble_eq_true rfl⟩) (xpreV hN hK hP hD (pm_core Z) 0 rfl rfl rfl) rfl rfl hl.1 rfl (lv_room (Nat.le_of_ble_eq_true rfl)) dX6_cancel_2 ⟨Nat.le_of_ble_eq_true rfl, Nat.le_of_ble_eq_true rfl⟩) hP hD hS hA (pm_core Z) (pm_core Z).symm (fun H locs hP hD hS => ?_)
  refine lv_if_ne (tgt := 10) hx hb dX6_cancel_5 (by decide) (fun c_5 => ?_) (fun c_5 => ?_)
  · --t
    obtain ⟨hjx, hjn⟩ := ij_of hm c_5
    have hj16 : a1.toNatClampNeg < 16 := Nat.lt_of_lt_of_le hjn (n_le hm)
    refine lv_aload_n hx hb dX6_cancel_10 rfl (lv_at hl 0 rfl) ?_
    refine lv_iload_n hx hb dX6_cancel_11 rfl (lv_at hl 1 rfl) ?_
    refine lv_iconst (v := 3) hx hb dX6_cancel_12 (by decide) ?_
    refine xreti (va_runV (As := [.int a1, .int 3]) (rest := []) ⟨hx, hb, hml, hown, hts⟩ (mX6_of l D ck ma Z.1 Z.2.1 a1 a1.toNatClampNeg hjx (by omega) 3 3 rfl (by omega)  _) (cwV 2 hts gX6_cancel_X6_of rfl rfl rfl (by decide +kernel) ⟨Nat.le_of_ble_eq_true rfl, Nat.le_of_ble_eq_true rfl⟩) (xpreV hN hK hP hD (pm_core Z) 0 rfl rfl rfl) rfl rfl hl.1 rfl (lv_room (Nat.le_of_ble_eq_true rfl)) dX6_cancel_13 ⟨Nat.le_of_ble_eq_true rfl, Nat.le_of_ble_eq_true rfl⟩) hP hD hS hA (pm_core Z) (pm_core Z).symm (fun H locs hP hD hS => ?_)
    refine lv_iconst (v := 1) hx hb dX6_cancel_16 (by decide) ?_
    refine lv_icmp_le (tgt := 23) hx hb dX6_cancel_17 (by decide) (fun c_17 => ?_) (fun c_17 => ?_)
    · --t
      refine lv_aload_n hx hb dX6_cancel_23 rfl (lv_at hl 0 rfl) ?_
      refine xretv (va_runV (As := []) (rest := []) ⟨hx, hb, hml, hown, hts⟩ (mX6_remember l D ck ma Z   _) (cwV 0 hts gX6_cancel_X6_remember rfl rfl rfl (by decide +kernel) ⟨Nat.le_of_ble_eq_true rfl, Nat.le_of_ble_eq_true rfl⟩) (xpreV hN hK hP hD pm_all 0 rfl rfl rfl) rfl rfl hl.1 rfl (lv_room (Nat.le_of_ble_eq_true rfl)) dX6_cancel_24 ⟨Nat.le_of_ble_eq_true rfl, Nat.le_of_ble_eq_true rfl⟩) hP hD hS hA pm_all pm_all' (fun H locs hP hD hS => ?_)
      have hP : va_P D vwCl (modW ck ma (Z.1, Z.2.1, gX6_copy Z.2.1 Z.2.2.1, Z.2.2.2.1, Z.2.2.2.2.1, Z.2.2.2.2.2.1, Z.2.2.2.2.2.2.1, Z.2.2.2.2.2.2.2)) H := hP
      have hD : va_D (va_A (modW ck ma Z) s.heap.size) (modW ck ma (Z.1, Z.2.1, gX6_copy Z.2.1 Z.2.2.1, Z.2.2.2.1, Z.2.2.2.2.1, Z.2.2.2.2.2.1, Z.2.2.2.2.2.2.1, Z.2.2.2.2.2.2.2)) := hD
      refine lv_aload_n hx hb dX6_cancel_27 rfl (lv_at hl 0 rfl) ?_
      refine lv_iload_n hx hb dX6_cancel_28 rfl (lv_at hl 1 rfl) ?_
      refine lv_iconst (v := 4) hx hb dX6_cancel_29 (by decide) ?_
      refine xreti (va_runV (As := [.int a1, .int 4]) (rest := []) ⟨hx, hb, hml, hown, hts⟩ (mX6_of l D ck ma Z.1 Z.2.1 a1 a1.toNatClampNeg hjx (by omega) 4 4 rfl (by omega)  _) (cwV 2 hts gX6_cancel_X6_of rfl rfl rfl (by decide +kernel) ⟨Nat.le_of_ble_eq_true rfl, Nat.le_of_ble_eq_true rfl⟩) (xpreV hN hK hP hD (pm_core (Z.1, Z.2.1, gX6_copy Z.2.1 Z.2.2.1, Z.2.2.2.1, Z.2.2.2.2.1, Z.2.2.2.2.2.1, Z.2.2.2.2.2.2.1, Z.2.2.2.2.2.2.2)) 0 rfl rfl rfl) rfl rfl hl.1 rfl (lv_room (Nat.le_of_ble_eq_true rfl)) dX6_cancel_30 ⟨Nat.le_of_ble_eq_true rfl, Nat.le_of_ble_eq_true rfl⟩) hP hD hS hA (pm_core (Z.1, Z.2.1, gX6_copy Z.2.1 Z.2.2.1, Z.2.2.2.1, Z.2.2.2.2.1, Z.2.2.2.2.2.1, Z.2.2.2.2.2.2.1, Z.2.2.2.2.2.2.2)) (pm_core (Z.1, Z.2.1, gX6_copy Z.2.1 Z.2.2.1, Z.2.2.2.1, Z.2.2.2.2.1, Z.2.2.2.2.2.1, Z.2.2.2.2.2.2.1, Z.2.2.2.2.2.2.2)).symm (fun H locs hP hD hS => ?_)
      refine lv_istore_n (lv' := [(2, .int (gX6_of Z.2.1 a1.toNatClampNeg 4)), (0, .ref (ma 0)), (1, .int a1)]) hx hb dX6_cancel_33 rfl hl (by decide) rfl (fun ls hl => ?_)
      refine lv_aload_n hx hb dX6_cancel_34 rfl (lv_at hl 1 rfl) ?_
      refine lv_iload_n hx hb dX6_cancel_35 rfl (lv_at hl 2 rfl) ?_
      refine lv_iconst (v := 3) hx hb dX6_cancel_36 (by decide) ?_
      refine xretv (va_runV (As := [.int a1, .int 3]) (rest := []) ⟨hx, hb, hml, hown, hts⟩ (mX6_ends l D ck ma Z.1 Z.2.1 a1 a1.toNatClampNeg hjx (by omega) 3  _) (cwV 2 hts gX6_cancel_X6_ends rfl rfl rfl (by decide +kernel) ⟨Nat.le_of_ble_eq_true rfl, Nat.le_of_ble_eq_true rfl⟩) (xpreV hN hK hP hD (pm_core (Z.1, Z.2.1, gX6_copy Z.2.1 Z.2.2.1, Z.2.2.2.1, Z.2.2.2.2.1, Z.2.2.2.2.2.1, Z.2.2.2.2.2.2.1, Z.2.2.2.2.2.2.2)) 0 rfl rfl rfl) rfl rfl hl.1 rfl (lv_room (Nat.le_of_ble_eq_true rfl)) dX6_cancel_37 ⟨Nat.le_of_ble_eq_true rfl, Nat.le_of_ble_eq_true rfl⟩) hP hD hS hA (pm_core (Z.1, Z.2.1, gX6_copy Z.2.1 Z.2.2.1, Z.2.2.2.1, Z.2.2.2.2.1, Z.2.2.2.2.2.1, Z.2.2.2.2.2.2.1, Z.2.2.2.2.2.2.2)) (pm_core' (Z.1, Z.2.1, gX6_copy Z.2.1 Z.2.2.1, Z.2.2.2.1, Z.2.2.2.2.1, Z.2.2.2.2.2.1, Z.2.2.2.2.2.2.1, Z.2.2.2.2.2.2.2)) (fun H locs hP hD hS => ?_)
      have hP : va_P D vwCl (modW ck ma (Z.1, (gX6_ends Z.2.1 a1.toNatClampNeg 3), gX6_copy Z.2.1 Z.2.2.1, Z.2.2.2.1, Z.2.2.2.2.1, Z.2.2.2.2.2.1, Z.2.2.2.2.2.2.1, Z.2.2.2.2.2.2.2)) H := hP
      have hD : va_D (va_A (modW ck ma Z) s.heap.size) (modW ck ma (Z.1, (gX6_ends Z.2.1 a1.toNatClampNeg 3), gX6_copy Z.2.1 Z.2.2.1, Z.2.2.2.1, Z.2.2.2.2.1, Z.2.2.2.2.2.1, Z.2.2.2.2.2.2.1, Z.2.2.2.2.2.2.2)) := hD
      generalize hr_37 : gX6_ends Z.2.1 a1.toNatClampNeg 3 = r_37 at hP hD ⊢
      have hm_37 : mInv r_37 := by rw [← hr_37]; exact en_ok hm hjn (Or.inr rfl)
      refine lv_aload_n hx hb dX6_cancel_40 rfl (lv_at hl 1 rfl) ?_
      refine xretv (va_runV (As := []) (rest := []) ⟨hx, hb, hml, hown, hts⟩ (mX6_goesThrough l D ck ma Z.1 r_37  hm_37 _) (cwV 0 hts gX6_cancel_X6_goesThrough rfl rfl rfl (by decide +kernel) ⟨Nat.le_of_ble_eq_true rfl, Nat.le_of_ble_eq_true rfl⟩) (xpreV hN hK hP hD (pm_core (Z.1, r_37, gX6_copy Z.2.1 Z.2.2.1, Z.2.2.2.1, Z.2.2.2.2.1, Z.2.2.2.2.2.1, Z.2.2.2.2.2.2.1, Z.2.2.2.2.2.2.2)) 0 rfl rfl rfl) rfl rfl hl.1 rfl (lv_room (Nat.le_of_ble_eq_true rfl)) dX6_cancel_41 ⟨Nat.le_of_ble_eq_true rfl, Nat.le_of_ble_eq_true rfl⟩) hP hD hS hA (pm_core (Z.1, r_37, gX6_copy Z.2.1 Z.2.2.1, Z.2.2.2.1, Z.2.2.2.2.1, Z.2.2.2.2.2.1, Z.2.2.2.2.2.2.1, Z.2.2.2.2.2.2.2)) (pm_core' (Z.1, r_37, gX6_copy Z.2.1 Z.2.2.1, Z.2.2.2.1, Z.2.2.2.2.1, Z.2.2.2.2.2.1, Z.2.2.2.2.2.2.1, Z.2.2.2.2.2.2.2)) (fun H locs hP hD hS => ?_)
      have hP : va_P D vwCl (modW ck ma (Z.1, (gX6_goesThrough r_37 ), gX6_copy Z.2.1 Z.2.2.1, Z.2.2.2.1, Z.2.2.2.2.1, Z.2.2.2.2.2.1, Z.2.2.2.2.2.2.1, Z.2.2.2.2.2.2.2)) H := hP
      have hD : va_D (va_A (modW ck ma Z) s.heap.size) (modW ck ma (Z.1, (gX6_goesThrough r_37 ), gX6_copy Z.2.1 Z.2.2.1, Z.2.2.2.1, Z.2.2.2.2.1, Z.2.2.2.2.2.1, Z.2.2.2.2.2.2.1, Z.2.2.2.2.2.2.2)) := hD
      generalize hr_41 : gX6_goesThrough r_37  = r_41 at hP hD ⊢
      refine lv_aload_n hx hb dX6_cancel_44 rfl (lv_at hl 1 rfl) ?_
      refine lv_iload_n hx hb dX6_cancel_45 rfl (lv_at hl 0 rfl) ?_
      refine xreti (va_runV (As := [.int (gX6_of Z.2.1 a1.toNatClampNeg 4)]) (rest := []) ⟨hx, hb, hml, hown, hts⟩ (mX6_acted l D ck ma (Z.1, r_41, gX6_copy Z.2.1 Z.2.2.1, Z.2.2.2.1, Z.2.2.2.2.1, Z.2.2.2.2.2.1, Z.2.2.2.2.2.2.1, Z.2.2.2.2.2.2.2) (gX6_of Z.2.1 a1.toNatClampNeg 4) hh _) (cwV 1 hts gX6_cancel_X6_acted rfl rfl rfl (by decide +kernel) ⟨Nat.le_of_ble_eq_true rfl, Nat.le_of_ble_eq_true rfl⟩) (xpreV hN hK hP hD pm_all 0 rfl rfl rfl) rfl rfl hl.1 rfl (lv_room (Nat.le_of_ble_eq_true rfl)) dX6_cancel_46 ⟨Nat.le_of_ble_eq_true rfl, Nat.le_of_ble_eq_true rfl⟩) hP hD hS hA pm_all pm_all' (fun H locs hP hD hS => ?_)
      have hP : va_P D vwCl (modW ck ma ((gX6_acted (Z.1, r_41, gX6_copy Z.2.1 Z.2.2.1, Z.2.2.2.1, Z.2.2.2.2.1, Z.2.2.2.2.2.1, Z.2.2.2.2.2.2.1, Z.2.2.2.2.2.2.2) (gX6_of Z.2.1 a1.toNatClampNeg 4)).2)) H := hP
      have hD : va_D (va_A (modW ck ma Z) s.heap.size) (modW ck ma ((gX6_acted (Z.1, r_41, gX6_copy Z.2.1 Z.2.2.1, Z.2.2.2.1, Z.2.2.2.2.1, Z.2.2.2.2.2.1, Z.2.2.2.2.2.2.1, Z.2.2.2.2.2.2.2) (gX6_of Z.2.1 a1.toNatClampNeg 4)).2)) := hD
      subst hr_41 hr_37
      have hg9 : gX6_cancel Z a1 = ((gX6_acted (Z.1, (gX6_goesThrough (gX6_ends Z.2.1 a1.toNatClampNeg 3)), gX6_copy Z.2.1 Z.2.2.1, Z.2.2.2.1, Z.2.2.2.2.1, Z.2.2.2.2.2.1, Z.2.2.2.2.2.2.1, Z.2.2.2.2.2.2.2) (gX6_of Z.2.1 a1.toNatClampNeg 4)).1, (gX6_acted (Z.1, (gX6_goesThrough (gX6_ends Z.2.1 a1.toNatClampNeg 3)), gX6_copy Z.2.1 Z.2.2.1, Z.2.2.2.1, Z.2.2.2.2.1, Z.2.2.2.2.2.1, Z.2.2.2.2.2.2.1, Z.2.2.2.2.2.2.2) (gX6_of Z.2.1 a1.toNatClampNeg 4)).2) := by rw [gX6_cancel, if_neg c_5, if_pos c_17]
      have hv9 : (gX6_acted (Z.1, (gX6_goesThrough (gX6_ends Z.2.1 a1.toNatClampNeg 3)), gX6_copy Z.2.1 Z.2.2.1, Z.2.2.2.1, Z.2.2.2.2.1, Z.2.2.2.2.2.1, Z.2.2.2.2.2.2.1, Z.2.2.2.2.2.2.2) (gX6_of Z.2.1 a1.toNatClampNeg 4)).1 = (gX6_cancel Z a1).1 := by rw [hg9]
      have hw9 : modW ck ma ((gX6_acted (Z.1, (gX6_goesThrough (gX6_ends Z.2.1 a1.toNatClampNeg 3)), gX6_copy Z.2.1 Z.2.2.1, Z.2.2.2.1, Z.2.2.2.2.1, Z.2.2.2.2.2.1, Z.2.2.2.2.2.2.1, Z.2.2.2.2.2.2.2) (gX6_of Z.2.1 a1.toNatClampNeg 4)).2) = modW ck ma ((gX6_cancel Z a1).2) := by rw [hg9]
      exact xiret hx hb hr hlk hP hD hS hv9 hw9 dX6_cancel_49
    · --f
      refine lv_bipush (v := (-4)) hx hb dX6_cancel_20 (by decide) ?_
      exact xiret hx hb hr hlk hP hD hS (congrArg (fun z => z.1) (show gX6_cancel Z a1 = ((-4), Z) from (Eq.trans (if_neg c_5) (Eq.trans (if_neg c_17) rfl)))).symm (congrArg (fun z => modW ck ma z.2) (show gX6_cancel Z a1 = ((-4), Z) from (Eq.trans (if_neg c_5) (Eq.trans (if_neg c_17) rfl)))).symm dX6_cancel_22
  · --f
    refine lv_iconst (v := (-1)) hx hb dX6_cancel_8 (by decide) ?_
    exact xiret hx hb hr hlk hP hD hS (congrArg (fun z => z.1) (show gX6_cancel Z a1 = ((-1), Z) from (Eq.trans (if_pos c_5) rfl))).symm (congrArg (fun z => modW ck ma z.2) (show gX6_cancel Z a1 = ((-1), Z) from (Eq.trans (if_pos c_5) rfl))).symm dX6_cancel_9

def rmX6_change : Room := { frames := 9, cells := 0, slots := 0, locals := 211 }
set_option maxHeartbeats 4000000 in
set_option maxRecDepth 100000 in
theorem mX6_change (l : Launch) (D : va_G) (ck : Nat → ClassId) (ma : Nat → Nat) (Z : MS) (a1 : Int32) (a2 : Int32) (hm : mInv Z.2.1) (hh : hx4 (Z.1 0)) : xMi l yX6_change wsX6_change rmX6_change D ck [.ref (ma 0), .int a1, .int a2] (modW ck ma Z) (modW ck ma ((gX6_change Z a1 a2).2)) ((gX6_change Z a1 a2).1) 0 0 := by
  refine xMet (by decide) rfl (Nat.le_of_ble_eq_true rfl) ?_
  intro zp ze s zm zb zt zc hx hb hr hml hown hts hlk hnm hN hK hP hD ls hl
  have hown : s.vm.findClass RX6 = some zm.cls := hown
  have hl : lv_has ls 4 [(0, .ref (ma 0)), (1, .int a1), (2, .int a2)] := hl
  have hS : va_S (va_A (modW ck ma Z) s.heap.size) s.heap s.heap [] := va_S.rf
  have hA : ∀ zq : Nat, s.heap.size ≤ zq → va_A (modW ck ma Z) s.heap.size zq := fun zq h => Or.inr h
  refine lv_aload_n hx hb dX6_change_0 rfl (lv_at hl 0 rfl) ?_
  refine lv_iload_n hx hb dX6_change_1 rfl (lv_at hl 1 rfl) ?_
  refine xreti (va_runV (As := [.int a1]) (rest := []) ⟨hx, hb, hml, hown, hts⟩ (mX6_isJoin l D ck ma Z.1 Z.2.1 a1  _) (cwV 1 hts gX6_change_X6_isJoin rfl rfl rfl (by decide +kernel) ⟨Nat.le_of_ble_eq_true rfl, Nat.le_of_ble_eq_true rfl⟩) (xpreV hN hK hP hD (pm_core Z) 0 rfl rfl rfl) rfl rfl hl.1 rfl (lv_room (Nat.le_of_ble_eq_true rfl)) dX6_change_2 ⟨Nat.le_of_ble_eq_true rfl, Nat.le_of_ble_eq_true rfl⟩) hP hD hS hA (pm_core Z) (pm_core Z).symm (fun H locs hP hD hS => ?_)
  refine lv_if_ne (tgt := 10) hx hb dX6_change_5 (by decide) (fun c_5 => ?_) (fun c_5 => ?_)
  · --t
    obtain ⟨hjx, hjn⟩ := ij_of hm c_5
    have hj16 : a1.toNatClampNeg < 16 := Nat.lt_of_lt_of_le hjn (n_le hm)
    refine lv_iload_n hx hb dX6_change_10 rfl (lv_at hl 2 rfl) ?_
    refine lv_i2l (v := (a2).toInt64) hx hb dX6_change_11 rfl ?_
    refine lv_lconst (v := 0) hx hb dX6_change_12 (by decide) ?_
    refine lv_ldc2 (v := 2) hx hb hown (hts (.constantLong RX6 124 (2)) (List.mem_of_getElem? (i := 1) rfl)) dX6_change_13 ?_
    refine xreti (va_runS (As := [.long ((a2).toInt64), .long 0, .long 2]) (rest := []) ⟨hx, hb, hml, hown, hts⟩ (mX6_in l D ck ((a2).toInt64) 0 2  _) (va_cwS 3 hts gX6_change_X6_in rfl rfl rfl (by decide +kernel) ⟨Nat.le_of_ble_eq_true rfl, Nat.le_of_ble_eq_true rfl⟩) (xpreS hN hK hP hD pm_none) rfl rfl hl.1 rfl (lv_room (Nat.le_of_ble_eq_true rfl)) dX6_change_16 ⟨Nat.le_of_ble_eq_true rfl, Nat.le_of_ble_eq_true rfl⟩) hP hD hS hA pm_none pm_none (fun H locs hP hD hS => ?_)
    have hP : va_P D vwCl (modW ck ma Z) H := hP
    have hD : va_D (va_A (modW ck ma Z) s.heap.size) (modW ck ma Z) := hD
    refine lv_if_ne (tgt := 25) hx hb dX6_change_19 (by decide) (fun c_19 => ?_) (fun c_19 => ?_)
    · --t
      refine lv_aload_n hx hb dX6_change_25 rfl (lv_at hl 0 rfl) ?_
      refine lv_iload_n hx hb dX6_change_26 rfl (lv_at hl 1 rfl) ?_
      refine lv_iconst (v := 0) hx hb dX6_change_27 (by decide) ?_
      refine xreti (va_runV (As := [.int a1, .int 0]) (rest := []) ⟨hx, hb, hml, hown, hts⟩ (mX6_is l D ck ma Z.1 Z.2.1 a1 a1.toNatClampNeg hjx (by omega) 0  _) (cwV 2 hts gX6_change_X6_is rfl rfl rfl (by decide +kernel) ⟨Nat.le_of_ble_eq_true rfl, Nat.le_of_ble_eq_true rfl⟩) (xpreV hN hK hP hD (pm_core Z) 0 rfl rfl rfl) rfl rfl hl.1 rfl (lv_room (Nat.le_of_ble_eq_true rfl)) dX6_change_28 ⟨Nat.le_of_ble_eq_true rfl, Nat.le_of_ble_eq_true rfl⟩) hP hD hS hA (pm_core Z) (pm_core Z).symm (fun H locs hP hD hS => ?_)
      refine lv_if_ne (tgt := 37) hx hb dX6_change_31 (by decide) (fun c_31 => ?_) (fun c_31 => ?_)
      · --t
        refine lv_aload_n hx hb dX6_change_37 rfl (lv_at hl 0 rfl) ?_
        refine lv_iload_n hx hb dX6_change_38 rfl (lv_at hl 1 rfl) ?_
        refine lv_iconst (v := 0) hx hb dX6_change_39 (by decide) ?_
        refine xreti (va_runV (As := [.int a1, .int 0]) (rest := []) ⟨hx, hb, hml, hown, hts⟩ (mX6_of l D ck ma Z.1 Z.2.1 a1 a1.toNatClampNeg hjx (by omega) 0 0 rfl (by omega)  _) (cwV 2 hts gX6_change_X6_of rfl rfl rfl (by decide +kernel) ⟨Nat.le_of_ble_eq_true rfl, Nat.le_of_ble_eq_true rfl⟩) (xpreV hN hK hP hD (pm_core Z) 0 rfl rfl rfl) rfl rfl hl.1 rfl (lv_room (Nat.le_of_ble_eq_true rfl)) dX6_change_40 ⟨Nat.le_of_ble_eq_true rfl, Nat.le_of_ble_eq_true rfl⟩) hP hD hS hA (pm_core Z) (pm_core Z).symm (fun H locs hP hD hS => ?_)
        refine lv_istore_n (lv' := [(3, .int (gX6_of Z.2.1 a1.toNatClampNeg 0)), (0, .ref (ma 0)), (1, .int a1), (2, .int a2)]) hx hb dX6_change_43 rfl hl (by decide) rfl (fun ls hl => ?_)
        refine lv_iload_n hx hb dX6_change_44 rfl (lv_at hl 0 rfl) ?_
        refine lv_iload_n hx hb dX6_change_45 rfl (lv_at hl 3 rfl) ?_
        refine lv_icmp_ne (tgt := 52) hx hb dX6_change_46 (by decide) (fun c_46 => ?_) (fun c_46 => ?_)
        · --t
          refine lv_aload_n hx hb dX6_change_52 rfl (lv_at hl 1 rfl) ?_
          refine xretv (va_runV (As := []) (rest := []) ⟨hx, hb, hml, hown, hts⟩ (mX6_remember l D ck ma Z   _) (cwV 0 hts gX6_change_X6_remember rfl rfl rfl (by decide +kernel) ⟨Nat.le_of_ble_eq_true rfl, Nat.le_of_ble_eq_true rfl⟩) (xpreV hN hK hP hD pm_all 0 rfl rfl rfl) rfl rfl hl.1 rfl (lv_room (Nat.le_of_ble_eq_true rfl)) dX6_change_53 ⟨Nat.le_of_ble_eq_true rfl, Nat.le_of_ble_eq_true rfl⟩) hP hD hS hA pm_all pm_all' (fun H locs hP hD hS => ?_)
          have hP : va_P D vwCl (modW ck ma (Z.1, Z.2.1, gX6_copy Z.2.1 Z.2.2.1, Z.2.2.2.1, Z.2.2.2.2.1, Z.2.2.2.2.2.1, Z.2.2.2.2.2.2.1, Z.2.2.2.2.2.2.2)) H := hP
          have hD : va_D (va_A (modW ck ma Z) s.heap.size) (modW ck ma (Z.1, Z.2.1, gX6_copy Z.2.1 Z.2.2.1, Z.2.2.2.1, Z.2.2.2.2.1, Z.2.2.2.2.2.1, Z.2.2.2.2.2.2.1, Z.2.2.2.2.2.2.2)) := hD
          refine lv_aload_n hx hb dX6_change_56 rfl (lv_at hl 1 rfl) ?_
          refine lv_iload_n hx hb dX6_change_57 rfl (lv_at hl 2 rfl) ?_
          refine lv_iconst (v := 0) hx hb dX6_change_58 (by decide) ?_
          refine lv_iload_n hx hb dX6_change_59 rfl (lv_at hl 3 rfl) ?_
          refine xretv (va_runV (As := [.int a1, .int 0, .int a2]) (rest := []) ⟨hx, hb, hml, hown, hts⟩ (mX6_sets l D ck ma Z.1 Z.2.1 a1 a1.toNatClampNeg hjx (by omega) 0 0 rfl (by omega) a2  _) (cwV 3 hts gX6_change_X6_sets rfl rfl rfl (by decide +kernel) ⟨Nat.le_of_ble_eq_true rfl, Nat.le_of_ble_eq_true rfl⟩) (xpreV hN hK hP hD (pm_core (Z.1, Z.2.1, gX6_copy Z.2.1 Z.2.2.1, Z.2.2.2.1, Z.2.2.2.2.1, Z.2.2.2.2.2.1, Z.2.2.2.2.2.2.1, Z.2.2.2.2.2.2.2)) 0 rfl rfl rfl) rfl rfl hl.1 rfl (lv_room (Nat.le_of_ble_eq_true rfl)) dX6_change_60 ⟨Nat.le_of_ble_eq_true rfl, Nat.le_of_ble_eq_true rfl⟩) hP hD hS hA (pm_core (Z.1, Z.2.1, gX6_copy Z.2.1 Z.2.2.1, Z.2.2.2.1, Z.2.2.2.2.1, Z.2.2.2.2.2.1, Z.2.2.2.2.2.2.1, Z.2.2.2.2.2.2.2)) (pm_core' (Z.1, Z.2.1, gX6_copy Z.2.1 Z.2.2.1, Z.2.2.2.1, Z.2.2.2.2.1, Z.2.2.2.2.2.1, Z.2.2.2.2.2.2.1, Z.2.2.2.2.2.2.2)) (fun H locs hP hD hS => ?_)
          have hP : va_P D vwCl (modW ck ma (Z.1, (gX6_sets Z.2.1 a1.toNatClampNeg 0 a2), gX6_copy Z.2.1 Z.2.2.1, Z.2.2.2.1, Z.2.2.2.2.1, Z.2.2.2.2.2.1, Z.2.2.2.2.2.2.1, Z.2.2.2.2.2.2.2)) H := hP
          have hD : va_D (va_A (modW ck ma Z) s.heap.size) (modW ck ma (Z.1, (gX6_sets Z.2.1 a1.toNatClampNeg 0 a2), gX6_copy Z.2.1 Z.2.2.1, Z.2.2.2.1, Z.2.2.2.2.1, Z.2.2.2.2.2.1, Z.2.2.2.2.2.2.1, Z.2.2.2.2.2.2.2)) := hD
          generalize hr_60 : gX6_sets Z.2.1 a1.toNatClampNeg 0 a2 = r_60 at hP hD ⊢
          have hm_60 : mInv r_60 := by rw [← hr_60]; exact ch_ok hm hjn c_31 c_19
          refine lv_aload_n hx hb dX6_change_63 rfl (lv_at hl 1 rfl) ?_
          refine xretv (va_runV (As := []) (rest := []) ⟨hx, hb, hml, hown, hts⟩ (mX6_goesThrough l D ck ma Z.1 r_60  hm_60 _) (cwV 0 hts gX6_change_X6_goesThrough rfl rfl rfl (by decide +kernel) ⟨Nat.le_of_ble_eq_true rfl, Nat.le_of_ble_eq_true rfl⟩) (xpreV hN hK hP hD (pm_core (Z.1, r_60, gX6_copy Z.2.1 Z.2.2.1, Z.2.2.2.1, Z.2.2.2.2.1, Z.2.2.2.2.2.1, Z.2.2.2.2.2.2.1, Z.2.2.2.2.2.2.2)) 0 rfl rfl rfl) rfl rfl hl.1 rfl (lv_room (Nat.le_of_ble_eq_true rfl)) dX6_change_64 ⟨Nat.le_of_ble_eq_true rfl, Nat.le_of_ble_eq_true rfl⟩) hP hD hS hA (pm_core (Z.1, r_60, gX6_copy Z.2.1 Z.2.2.1, Z.2.2.2.1, Z.2.2.2.2.1, Z.2.2.2.2.2.1, Z.2.2.2.2.2.2.1, Z.2.2.2.2.2.2.2)) (pm_core' (Z.1, r_60, gX6_copy Z.2.1 Z.2.2.1, Z.2.2.2.1, Z.2.2.2.2.1, Z.2.2.2.2.2.1, Z.2.2.2.2.2.2.1, Z.2.2.2.2.2.2.2)) (fun H locs hP hD hS => ?_)
          have hP : va_P D vwCl (modW ck ma (Z.1, (gX6_goesThrough r_60 ), gX6_copy Z.2.1 Z.2.2.1, Z.2.2.2.1, Z.2.2.2.2.1, Z.2.2.2.2.2.1, Z.2.2.2.2.2.2.1, Z.2.2.2.2.2.2.2)) H := hP
          have hD : va_D (va_A (modW ck ma Z) s.heap.size) (modW ck ma (Z.1, (gX6_goesThrough r_60 ), gX6_copy Z.2.1 Z.2.2.1, Z.2.2.2.1, Z.2.2.2.2.1, Z.2.2.2.2.2.1, Z.2.2.2.2.2.2.1, Z.2.2.2.2.2.2.2)) := hD
          generalize hr_64 : gX6_goesThrough r_60  = r_64 at hP hD ⊢
          refine lv_aload_n hx hb dX6_change_67 rfl (lv_at hl 1 rfl) ?_
          refine lv_iload_n hx hb dX6_change_68 rfl (lv_at hl 0 rfl) ?_
          refine xreti (va_runV (As := [.int (gX6_of Z.2.1 a1.toNatClampNeg 0)]) (rest := []) ⟨hx, hb, hml, hown, hts⟩ (mX6_acted l D ck ma (Z.1, r_64, gX6_copy Z.2.1 Z.2.2.1, Z.2.2.2.1, Z.2.2.2.2.1, Z.2.2.2.2.2.1, Z.2.2.2.2.2.2.1, Z.2.2.2.2.2.2.2) (gX6_of Z.2.1 a1.toNatClampNeg 0) hh _) (cwV 1 hts gX6_change_X6_acted rfl rfl rfl (by decide +kernel) ⟨Nat.le_of_ble_eq_true rfl, Nat.le_of_ble_eq_true rfl⟩) (xpreV hN hK hP hD pm_all 0 rfl rfl rfl) rfl rfl hl.1 rfl (lv_room (Nat.le_of_ble_eq_true rfl)) dX6_change_69 ⟨Nat.le_of_ble_eq_true rfl, Nat.le_of_ble_eq_true rfl⟩) hP hD hS hA pm_all pm_all' (fun H locs hP hD hS => ?_)
          have hP : va_P D vwCl (modW ck ma ((gX6_acted (Z.1, r_64, gX6_copy Z.2.1 Z.2.2.1, Z.2.2.2.1, Z.2.2.2.2.1, Z.2.2.2.2.2.1, Z.2.2.2.2.2.2.1, Z.2.2.2.2.2.2.2) (gX6_of Z.2.1 a1.toNatClampNeg 0)).2)) H := hP
          have hD : va_D (va_A (modW ck ma Z) s.heap.size) (modW ck ma ((gX6_acted (Z.1, r_64, gX6_copy Z.2.1 Z.2.2.1, Z.2.2.2.1, Z.2.2.2.2.1, Z.2.2.2.2.2.1, Z.2.2.2.2.2.2.1, Z.2.2.2.2.2.2.2) (gX6_of Z.2.1 a1.toNatClampNeg 0)).2)) := hD
          subst hr_64 hr_60
          have hg9 : gX6_change Z a1 a2 = ((gX6_acted (Z.1, (gX6_goesThrough (gX6_sets Z.2.1 a1.toNatClampNeg 0 a2)), gX6_copy Z.2.1 Z.2.2.1, Z.2.2.2.1, Z.2.2.2.2.1, Z.2.2.2.2.2.1, Z.2.2.2.2.2.2.1, Z.2.2.2.2.2.2.2) (gX6_of Z.2.1 a1.toNatClampNeg 0)).1, (gX6_acted (Z.1, (gX6_goesThrough (gX6_sets Z.2.1 a1.toNatClampNeg 0 a2)), gX6_copy Z.2.1 Z.2.2.1, Z.2.2.2.1, Z.2.2.2.2.1, Z.2.2.2.2.2.1, Z.2.2.2.2.2.2.1, Z.2.2.2.2.2.2.2) (gX6_of Z.2.1 a1.toNatClampNeg 0)).2) := by rw [gX6_change, if_neg c_5, if_neg c_19, if_neg c_31, if_neg c_46]
          have hv9 : (gX6_acted (Z.1, (gX6_goesThrough (gX6_sets Z.2.1 a1.toNatClampNeg 0 a2)), gX6_copy Z.2.1 Z.2.2.1, Z.2.2.2.1, Z.2.2.2.2.1, Z.2.2.2.2.2.1, Z.2.2.2.2.2.2.1, Z.2.2.2.2.2.2.2) (gX6_of Z.2.1 a1.toNatClampNeg 0)).1 = (gX6_change Z a1 a2).1 := by rw [hg9]
          have hw9 : modW ck ma ((gX6_acted (Z.1, (gX6_goesThrough (gX6_sets Z.2.1 a1.toNatClampNeg 0 a2)), gX6_copy Z.2.1 Z.2.2.1, Z.2.2.2.1, Z.2.2.2.2.1, Z.2.2.2.2.2.1, Z.2.2.2.2.2.2.1, Z.2.2.2.2.2.2.2) (gX6_of Z.2.1 a1.toNatClampNeg 0)).2) = modW ck ma ((gX6_change Z a1 a2).2) := by rw [hg9]
          exact xiret hx hb hr hlk hP hD hS hv9 hw9 dX6_change_72
        · --f
          refine lv_bipush (v := (-5)) hx hb dX6_change_49 (by decide) ?_
          exact xiret hx hb hr hlk hP hD hS (congrArg (fun z => z.1) (show gX6_change Z a1 a2 = ((-5), Z) from (Eq.trans (if_neg c_5) (Eq.trans (if_neg c_19) (Eq.trans (if_neg c_31) (Eq.trans (if_pos c_46) rfl)))))).symm (congrArg (fun z => modW ck ma z.2) (show gX6_change Z a1 a2 = ((-5), Z) from (Eq.trans (if_neg c_5) (Eq.trans (if_neg c_19) (Eq.trans (if_neg c_31) (Eq.trans (if_pos c_46) rfl)))))).symm dX6_change_51
      · --f
        refine lv_bipush (v := (-4)) hx hb dX6_change_34 (by decide) ?_
        exact xiret hx hb hr hlk hP hD hS (congrArg (fun z => z.1) (show gX6_change Z a1 a2 = ((-4), Z) from (Eq.trans (if_neg c_5) (Eq.trans (if_neg c_19) (Eq.trans (if_pos c_31) rfl))))).symm (congrArg (fun z => modW ck ma z.2) (show gX6_change Z a1 a2 = ((-4), Z) from (Eq.trans (if_neg c_5) (Eq.trans (if_neg c_19) (Eq.trans (if_pos c_31) rfl))))).symm dX6_change_36
    · --f
      refine lv_bipush (v := (-2)) hx hb dX6_change_22 (by decide) ?_
      exact xiret hx hb hr hlk hP hD hS (congrArg (fun z => z.1) (show gX6_change Z a1 a2 = ((-2), Z) from (Eq.trans (if_neg c_5) (Eq.trans (if_pos c_19) rfl)))).symm (congrArg (fun z => modW ck ma z.2) (show gX6_change Z a1 a2 = ((-2), Z) from (Eq.trans (if_neg c_5) (Eq.trans (if_pos c_19) rfl)))).symm dX6_change_24
  · --f
    refine lv_iconst (v := (-1)) hx hb dX6_change_8 (by decide) ?_
    exact xiret hx hb hr hlk hP hD hS (congrArg (fun z => z.1) (show gX6_change Z a1 a2 = ((-1), Z) from (Eq.trans (if_pos c_5) rfl))).symm (congrArg (fun z => modW ck ma z.2) (show gX6_change Z a1 a2 = ((-1), Z) from (Eq.trans (if_pos c_5) rfl))).symm dX6_change_9

def rmX6_step : Room := { frames := 10, cells := 0, slots := 0, locals := 234 }
set_option maxHeartbeats 4000000 in
set_option maxRecDepth 100000 in
theorem mX6_step (l : Launch) (D : va_G) (ck : Nat → ClassId) (ma : Nat → Nat) (Z : MS) (a1 : Int32) (hm : mInv Z.2.1) (hh : hx4 (Z.1 0)) : xMi l yX6_step wsX6_step rmX6_step D ck [.ref (ma 0), .int a1] (modW ck ma Z) (modW ck ma ((gX6_step Z a1).2)) ((gX6_step Z a1).1) 0 0 := by
  refine xMet (by decide) rfl (Nat.le_of_ble_eq_true rfl) ?_
  intro zp ze s zm zb zt zc hx hb hr hml hown hts hlk hnm hN hK hP hD ls hl
  have hown : s.vm.findClass RX6 = some zm.cls := hown
  have hl : lv_has ls 4 [(0, .ref (ma 0)), (1, .int a1)] := hl
  have hS : va_S (va_A (modW ck ma Z) s.heap.size) s.heap s.heap [] := va_S.rf
  have hA : ∀ zq : Nat, s.heap.size ≤ zq → va_A (modW ck ma Z) s.heap.size zq := fun zq h => Or.inr h
  refine lv_iload_n hx hb dX6_step_0 rfl (lv_at hl 1 rfl) ?_
  refine lv_i2l (v := (a1).toInt64) hx hb dX6_step_1 rfl ?_
  refine lv_lconst (v := 1) hx hb dX6_step_2 (by decide) ?_
  refine lv_ldc2 (v := 1000) hx hb hown (hts (.constantLong RX6 141 (1000)) (List.mem_of_getElem? (i := 1) rfl)) dX6_step_3 ?_
  refine xreti (va_runS (As := [.long ((a1).toInt64), .long 1, .long 1000]) (rest := []) ⟨hx, hb, hml, hown, hts⟩ (mX6_in l D ck ((a1).toInt64) 1 1000  _) (va_cwS 3 hts gX6_step_X6_in rfl rfl rfl (by decide +kernel) ⟨Nat.le_of_ble_eq_true rfl, Nat.le_of_ble_eq_true rfl⟩) (xpreS hN hK hP hD pm_none) rfl rfl hl.1 rfl (lv_room (Nat.le_of_ble_eq_true rfl)) dX6_step_6 ⟨Nat.le_of_ble_eq_true rfl, Nat.le_of_ble_eq_true rfl⟩) hP hD hS hA pm_none pm_none (fun H locs hP hD hS => ?_)
  have hP : va_P D vwCl (modW ck ma Z) H := hP
  have hD : va_D (va_A (modW ck ma Z) s.heap.size) (modW ck ma Z) := hD
  refine lv_if_ne (tgt := 15) hx hb dX6_step_9 (by decide) (fun c_9 => ?_) (fun c_9 => ?_)
  · --t
    have hk : a1.toNatClampNeg ≤ 1000 := in_cl c_9 (by decide) rfl
    refine lv_aload_n hx hb dX6_step_15 rfl (lv_at hl 0 rfl) ?_
    refine xretv (va_runV (As := []) (rest := []) ⟨hx, hb, hml, hown, hts⟩ (mX6_remember l D ck ma Z   _) (cwV 0 hts gX6_step_X6_remember rfl rfl rfl (by decide +kernel) ⟨Nat.le_of_ble_eq_true rfl, Nat.le_of_ble_eq_true rfl⟩) (xpreV hN hK hP hD pm_all 0 rfl rfl rfl) rfl rfl hl.1 rfl (lv_room (Nat.le_of_ble_eq_true rfl)) dX6_step_16 ⟨Nat.le_of_ble_eq_true rfl, Nat.le_of_ble_eq_true rfl⟩) hP hD hS hA pm_all pm_all' (fun H locs hP hD hS => ?_)
    have hP : va_P D vwCl (modW ck ma (Z.1, Z.2.1, gX6_copy Z.2.1 Z.2.2.1, Z.2.2.2.1, Z.2.2.2.2.1, Z.2.2.2.2.2.1, Z.2.2.2.2.2.2.1, Z.2.2.2.2.2.2.2)) H := hP
    have hD : va_D (va_A (modW ck ma Z) s.heap.size) (modW ck ma (Z.1, Z.2.1, gX6_copy Z.2.1 Z.2.2.1, Z.2.2.2.1, Z.2.2.2.2.1, Z.2.2.2.2.2.1, Z.2.2.2.2.2.2.1, Z.2.2.2.2.2.2.2)) := hD
    refine lv_iconst (v := 0) hx hb dX6_step_19 (by decide) ?_
    refine lv_istore_n (lv' := [(2, .int 0), (0, .ref (ma 0)), (1, .int a1)]) hx hb dX6_step_20 rfl hl (by decide) rfl (fun ls hl => ?_)
    refine lv_iconst (v := (nI 0)) hx hb dX6_step_21 (by decide) ?_
    refine lv_istore_n (lv' := [(3, .int (nI 0)), (2, .int 0), (0, .ref (ma 0)), (1, .int a1)]) hx hb dX6_step_22 rfl hl (by decide) rfl (fun ls hl => ?_)
    have loop23 : ∀ (fu : Nat) (i : Nat) (x2 : Int32) (Z1 : MS), (i + fu = a1.toNatClampNeg) → (mInv Z1.2.1) → (hx4 (Z1.1 0)) → gX6_step Z a1 = gX6_step_L23 Z a1 fu i x2 Z1 → ∀ (H : Heap) (locs : List Loc) (ls : Array Slot), va_P D vwCl (modW ck ma Z1) H → va_D (va_A (modW ck ma Z) s.heap.size) (modW ck ma Z1) → va_S (va_A (modW ck ma Z) s.heap.size) s.heap H locs → lv_has ls 4 [(0, .ref (ma 0)), (1, .int a1), (2, .int x2), (3, .int (nI i))] → W zp l ze rmX6_step s zm ([.ref (ma 0), .int a1] : List Value).toArray zb zt zc H locs 0 0 (MQ zb (xQi D (modW ck ma Z) (modW ck ma ((gX6_step Z a1).2)) ((gX6_step Z a1).1) s.heap.size) ([.ref (ma 0), .int a1] : List Value).toArray s 0 0 (va_A (modW ck ma Z) s.heap.size)) (F0 zm 23 ls []) := by
      intro fu
      induction fu with
      | zero =>
        intro i x2 Z1 hif hm hh hg H locs ls hP hD hS hl
        refine lv_iload_n hx hb dX6_step_23 rfl (lv_at hl 3 rfl) ?_
        refine lv_iload_n hx hb dX6_step_24 rfl (lv_at hl 1 rfl) ?_
        refine lv_icmp_ge (tgt := 41) hx hb dX6_step_25 (by decide) (fun c_25 => ?_) (fun c_25 => ?_)
        · --t
          refine lv_aload_n hx hb dX6_step_41 rfl (lv_at hl 0 rfl) ?_
          refine lv_iload_n hx hb dX6_step_42 rfl (lv_at hl 2 rfl) ?_
          refine xreti (va_runV (As := [.int x2]) (rest := []) ⟨hx, hb, hml, hown, hts⟩ (mX6_acted l D ck ma Z1 x2 hh _) (cwV 1 hts gX6_step_X6_acted rfl rfl rfl (by decide +kernel) ⟨Nat.le_of_ble_eq_true rfl, Nat.le_of_ble_eq_true rfl⟩) (xpreV hN hK hP hD pm_all 0 rfl rfl rfl) rfl rfl hl.1 rfl (lv_room (Nat.le_of_ble_eq_true rfl)) dX6_step_43 ⟨Nat.le_of_ble_eq_true rfl, Nat.le_of_ble_eq_true rfl⟩) hP hD hS hA pm_all pm_all' (fun H locs hP hD hS => ?_)
          have hP : va_P D vwCl (modW ck ma ((gX6_acted Z1 x2).2)) H := hP
          have hD : va_D (va_A (modW ck ma Z) s.heap.size) (modW ck ma ((gX6_acted Z1 x2).2)) := hD
          exact xiret hx hb hr hlk hP hD hS (congrArg (fun z => z.1) (hg.trans (show gX6_step_L23 Z a1 0 i x2 Z1 = ((gX6_acted Z1 x2).1, (gX6_acted Z1 x2).2) from rfl))).symm (congrArg (fun z => modW ck ma z.2) (hg.trans (show gX6_step_L23 Z a1 0 i x2 Z1 = ((gX6_acted Z1 x2).1, (gX6_acted Z1 x2).2) from rfl))).symm dX6_step_46
        · --f
          exact absurd (cl_le (by omega) (by omega)) c_25
      | succ fu ih23 =>
        intro i x2 Z1 hif hm hh hg H locs ls hP hD hS hl
        refine lv_iload_n hx hb dX6_step_23 rfl (lv_at hl 3 rfl) ?_
        refine lv_iload_n hx hb dX6_step_24 rfl (lv_at hl 1 rfl) ?_
        refine lv_icmp_ge (tgt := 41) hx hb dX6_step_25 (by decide) (fun c_25 => ?_) (fun c_25 => ?_)
        · --t
          exact absurd c_25 (cl_lt (by omega))
        · --f
          refine lv_iload_n hx hb dX6_step_28 rfl (lv_at hl 2 rfl) ?_
          refine lv_aload_n hx hb dX6_step_29 rfl (lv_at hl 0 rfl) ?_
          refine xreti (va_runV (As := []) (rest := [.int x2]) ⟨hx, hb, hml, hown, hts⟩ (mX6_steps l D ck ma Z1.1 Z1.2.1  hm _) (cwV 0 hts gX6_step_X6_steps rfl rfl rfl (by decide +kernel) ⟨Nat.le_of_ble_eq_true rfl, Nat.le_of_ble_eq_true rfl⟩) (xpreV hN hK hP hD (pm_core Z1) 0 rfl rfl rfl) rfl rfl hl.1 rfl (lv_room (Nat.le_of_ble_eq_true rfl)) dX6_step_30 ⟨Nat.le_of_ble_eq_true rfl, Nat.le_of_ble_eq_true rfl⟩) hP hD hS hA (pm_core Z1) (pm_core' Z1) (fun H locs hP hD hS => ?_)
          have hP : va_P D vwCl (modW ck ma (Z1.1, (gX6_steps Z1.2.1 ).2, Z1.2.2.1, Z1.2.2.2.1, Z1.2.2.2.2.1, Z1.2.2.2.2.2.1, Z1.2.2.2.2.2.2.1, Z1.2.2.2.2.2.2.2)) H := hP
          have hD : va_D (va_A (modW ck ma Z) s.heap.size) (modW ck ma (Z1.1, (gX6_steps Z1.2.1 ).2, Z1.2.2.1, Z1.2.2.2.1, Z1.2.2.2.2.1, Z1.2.2.2.2.2.1, Z1.2.2.2.2.2.2.1, Z1.2.2.2.2.2.2.2)) := hD
          refine lv_iadd hx hb dX6_step_33 ?_
          refine lv_istore_n (lv' := [(2, .int (x2 + ((gX6_steps Z1.2.1 ).1))), (0, .ref (ma 0)), (1, .int a1), (3, .int (nI i))]) hx hb dX6_step_34 rfl hl (by decide) rfl (fun ls hl => ?_)
          refine lv_iinc (v := (nI (i + 1))) (lv' := [(3, .int (nI (i + 1))), (2, .int (x2 + ((gX6_steps Z1.2.1 ).1))), (0, .ref (ma 0)), (1, .int a1)]) hx hb dX6_step_35 hl (k := 3) rfl (nI_1 i) (by decide) rfl (fun ls hl => ?_)
          refine lv_goto (tgt := 23) hx hb dX6_step_38 (by decide) ?_
          exact ih23 (i + 1) (x2 + ((gX6_steps Z1.2.1 ).1)) (Z1.1, (gX6_steps Z1.2.1 ).2, Z1.2.2.1, Z1.2.2.2.1, Z1.2.2.2.2.1, Z1.2.2.2.2.2.1, Z1.2.2.2.2.2.2.1, Z1.2.2.2.2.2.2.2) (by omega) (sp_ok hm).1 hh (hg.trans (show gX6_step_L23 Z a1 (fu + 1) i x2 Z1 = (gX6_step_L23 Z a1 fu (i + 1) (x2 + ((gX6_steps Z1.2.1 ).1)) (Z1.1, (gX6_steps Z1.2.1 ).2, Z1.2.2.1, Z1.2.2.2.1, Z1.2.2.2.2.1, Z1.2.2.2.2.2.1, Z1.2.2.2.2.2.2.1, Z1.2.2.2.2.2.2.2)) from rfl)) _ _ _ hP hD hS (lv_sub hl [2, 3, 1, 0] rfl)
    exact loop23 a1.toNatClampNeg 0 0 (Z.1, Z.2.1, gX6_copy Z.2.1 Z.2.2.1, Z.2.2.2.1, Z.2.2.2.2.1, Z.2.2.2.2.2.1, Z.2.2.2.2.2.2.1, Z.2.2.2.2.2.2.2) (by omega) hm hh (show gX6_step Z a1 = (gX6_step_L23 Z a1 a1.toNatClampNeg 0 0 (Z.1, Z.2.1, gX6_copy Z.2.1 Z.2.2.1, Z.2.2.2.1, Z.2.2.2.2.1, Z.2.2.2.2.2.1, Z.2.2.2.2.2.2.1, Z.2.2.2.2.2.2.2)) from (Eq.trans (if_neg c_9) rfl)) _ _ _ hP hD hS (lv_sub hl [2, 3, 1, 0] rfl)
  · --f
    refine lv_bipush (v := (-2)) hx hb dX6_step_12 (by decide) ?_
    exact xiret hx hb hr hlk hP hD hS (congrArg (fun z => z.1) (show gX6_step Z a1 = ((-2), Z) from (Eq.trans (if_pos c_9) rfl))).symm (congrArg (fun z => modW ck ma z.2) (show gX6_step Z a1 = ((-2), Z) from (Eq.trans (if_pos c_9) rfl))).symm dX6_step_14

def rmX6_set : Room := { frames := 9, cells := 0, slots := 0, locals := 211 }
set_option maxHeartbeats 4000000 in
set_option maxRecDepth 100000 in
theorem mX6_set (l : Launch) (D : va_G) (ck : Nat → ClassId) (ma : Nat → Nat) (Z : MS) (a1 : Int32) (a2 : Int32) (hm : mInv Z.2.1) (hh : hx4 (Z.1 0)) : xMi l yX6_set wsX6_set rmX6_set D ck [.ref (ma 0), .int a1, .int a2] (modW ck ma Z) (modW ck ma ((gX6_set Z a1 a2).2)) ((gX6_set Z a1 a2).1) 0 0 := by
  refine xMet (by decide) rfl (Nat.le_of_ble_eq_true rfl) ?_
  intro zp ze s zm zb zt zc hx hb hr hml hown hts hlk hnm hN hK hP hD ls hl
  have hown : s.vm.findClass RX6 = some zm.cls := hown
  have hl : lv_has ls 4 [(0, .ref (ma 0)), (1, .int a1), (2, .int a2)] := hl
  have hS : va_S (va_A (modW ck ma Z) s.heap.size) s.heap s.heap [] := va_S.rf
  have hA : ∀ zq : Nat, s.heap.size ≤ zq → va_A (modW ck ma Z) s.heap.size zq := fun zq h => Or.inr h
  have hinX6 : ∀ w ∈ u_ws RX6 TX6 13, w ∈ wsX6_set := by decide +kernel
  refine lv_iload_n hx hb dX6_set_0 rfl (lv_at hl 1 rfl) ?_
  refine lv_iload_n hx hb dX6_set_1 rfl (lv_at hl 2 rfl) ?_
  refine xreti (va_runS (As := [.int a1, .int a2]) (rest := []) ⟨hx, hb, hml, hown, hts⟩ (mX6_isSetting l D ck a1 a2  _) (va_cwS 2 hts gX6_set_X6_isSetting rfl rfl rfl (by decide +kernel) ⟨Nat.le_of_ble_eq_true rfl, Nat.le_of_ble_eq_true rfl⟩) (xpreS hN hK hP hD pm_none) rfl rfl hl.1 rfl (lv_room (Nat.le_of_ble_eq_true rfl)) dX6_set_2 ⟨Nat.le_of_ble_eq_true rfl, Nat.le_of_ble_eq_true rfl⟩) hP hD hS hA pm_none pm_none (fun H locs hP hD hS => ?_)
  have hP : va_P D vwCl (modW ck ma Z) H := hP
  have hD : va_D (va_A (modW ck ma Z) s.heap.size) (modW ck ma Z) := hD
  refine lv_if_ne (tgt := 11) hx hb dX6_set_5 (by decide) (fun c_5 => ?_) (fun c_5 => ?_)
  · --t
    refine lv_aload_n hx hb dX6_set_11 rfl (lv_at hl 0 rfl) ?_
    refine va_get (D := D) (ci := 6) (v := .ref (ma 1)) (C := RX6) (T := TX6) (N := 13) hx hb hts hinX6 hown hK hP 0 rfl rfl 0 (by decide) (hts (.fieldLink RX6 7 "JoinGrantsModel" "all" "[I") (List.mem_of_getElem? (i := 1) rfl)) (fun _ h9 => h9) rfl dX6_set_12 ?_
    refine lv_iconst (v := 0) hx hb dX6_set_15 (by decide) ?_
    refine lv_iload_n hx hb dX6_set_16 rfl (lv_at hl 1 rfl) ?_
    refine lv_iadd hx hb dX6_set_17 ?_
    refine va_iald hx hb hK hP 1 0 rfl rfl (se_in c_5).1 dX6_set_18 ?_
    refine lv_istore_n (lv' := [(3, .int (Z.2.1 (0 + a1).toNatClampNeg)), (0, .ref (ma 0)), (1, .int a1), (2, .int a2)]) hx hb dX6_set_19 rfl hl (by decide) rfl (fun ls hl => ?_)
    refine lv_iload_n hx hb dX6_set_20 rfl (lv_at hl 0 rfl) ?_
    refine lv_iload_n hx hb dX6_set_21 rfl (lv_at hl 3 rfl) ?_
    refine lv_icmp_ne (tgt := 28) hx hb dX6_set_22 (by decide) (fun c_22 => ?_) (fun c_22 => ?_)
    · --t
      refine lv_aload_n hx hb dX6_set_28 rfl (lv_at hl 1 rfl) ?_
      refine xretv (va_runV (As := []) (rest := []) ⟨hx, hb, hml, hown, hts⟩ (mX6_remember l D ck ma Z   _) (cwV 0 hts gX6_set_X6_remember rfl rfl rfl (by decide +kernel) ⟨Nat.le_of_ble_eq_true rfl, Nat.le_of_ble_eq_true rfl⟩) (xpreV hN hK hP hD pm_all 0 rfl rfl rfl) rfl rfl hl.1 rfl (lv_room (Nat.le_of_ble_eq_true rfl)) dX6_set_29 ⟨Nat.le_of_ble_eq_true rfl, Nat.le_of_ble_eq_true rfl⟩) hP hD hS hA pm_all pm_all' (fun H locs hP hD hS => ?_)
      have hP : va_P D vwCl (modW ck ma (Z.1, Z.2.1, gX6_copy Z.2.1 Z.2.2.1, Z.2.2.2.1, Z.2.2.2.2.1, Z.2.2.2.2.2.1, Z.2.2.2.2.2.2.1, Z.2.2.2.2.2.2.2)) H := hP
      have hD : va_D (va_A (modW ck ma Z) s.heap.size) (modW ck ma (Z.1, Z.2.1, gX6_copy Z.2.1 Z.2.2.1, Z.2.2.2.1, Z.2.2.2.2.1, Z.2.2.2.2.2.1, Z.2.2.2.2.2.2.1, Z.2.2.2.2.2.2.2)) := hD
      refine lv_aload_n hx hb dX6_set_32 rfl (lv_at hl 1 rfl) ?_
      refine va_get (D := D) (ci := 6) (v := .ref (ma 1)) (C := RX6) (T := TX6) (N := 13) hx hb hts hinX6 hown hK hP 0 rfl rfl 0 (by decide) (hts (.fieldLink RX6 7 "JoinGrantsModel" "all" "[I") (List.mem_of_getElem? (i := 1) rfl)) (fun _ h9 => h9) rfl dX6_set_33 ?_
      refine lv_iconst (v := 0) hx hb dX6_set_36 (by decide) ?_
      refine lv_iload_n hx hb dX6_set_37 rfl (lv_at hl 2 rfl) ?_
      refine lv_iadd hx hb dX6_set_38 ?_
      refine lv_iload_n hx hb dX6_set_39 rfl (lv_at hl 3 rfl) ?_
      refine va_iast hx hb hK hP hD hS 1 0 rfl rfl (se_in c_5).1 dX6_set_40 (fun H locs hP hD hS => ?_)
      have hP : va_P D vwCl (modW ck ma (Z.1, upd Z.2.1 ((0 + a1).toNatClampNeg) a2, gX6_copy Z.2.1 Z.2.2.1, Z.2.2.2.1, Z.2.2.2.2.1, Z.2.2.2.2.2.1, Z.2.2.2.2.2.2.1, Z.2.2.2.2.2.2.2)) H := hP
      have hD : va_D (va_A (modW ck ma Z) s.heap.size) (modW ck ma (Z.1, upd Z.2.1 ((0 + a1).toNatClampNeg) a2, gX6_copy Z.2.1 Z.2.2.1, Z.2.2.2.1, Z.2.2.2.2.1, Z.2.2.2.2.2.1, Z.2.2.2.2.2.2.1, Z.2.2.2.2.2.2.2)) := hD
      refine lv_aload_n hx hb dX6_set_41 rfl (lv_at hl 1 rfl) ?_
      refine xretv (va_runV (As := []) (rest := []) ⟨hx, hb, hml, hown, hts⟩ (mX6_goesThrough l D ck ma Z.1 (upd Z.2.1 ((0 + a1).toNatClampNeg) a2)  (set_ok hm c_5) _) (cwV 0 hts gX6_set_X6_goesThrough rfl rfl rfl (by decide +kernel) ⟨Nat.le_of_ble_eq_true rfl, Nat.le_of_ble_eq_true rfl⟩) (xpreV hN hK hP hD (pm_core (Z.1, upd Z.2.1 ((0 + a1).toNatClampNeg) a2, gX6_copy Z.2.1 Z.2.2.1, Z.2.2.2.1, Z.2.2.2.2.1, Z.2.2.2.2.2.1, Z.2.2.2.2.2.2.1, Z.2.2.2.2.2.2.2)) 0 rfl rfl rfl) rfl rfl hl.1 rfl (lv_room (Nat.le_of_ble_eq_true rfl)) dX6_set_42 ⟨Nat.le_of_ble_eq_true rfl, Nat.le_of_ble_eq_true rfl⟩) hP hD hS hA (pm_core (Z.1, upd Z.2.1 ((0 + a1).toNatClampNeg) a2, gX6_copy Z.2.1 Z.2.2.1, Z.2.2.2.1, Z.2.2.2.2.1, Z.2.2.2.2.2.1, Z.2.2.2.2.2.2.1, Z.2.2.2.2.2.2.2)) (pm_core' (Z.1, upd Z.2.1 ((0 + a1).toNatClampNeg) a2, gX6_copy Z.2.1 Z.2.2.1, Z.2.2.2.1, Z.2.2.2.2.1, Z.2.2.2.2.2.1, Z.2.2.2.2.2.2.1, Z.2.2.2.2.2.2.2)) (fun H locs hP hD hS => ?_)
      have hP : va_P D vwCl (modW ck ma (Z.1, (gX6_goesThrough (upd Z.2.1 ((0 + a1).toNatClampNeg) a2) ), gX6_copy Z.2.1 Z.2.2.1, Z.2.2.2.1, Z.2.2.2.2.1, Z.2.2.2.2.2.1, Z.2.2.2.2.2.2.1, Z.2.2.2.2.2.2.2)) H := hP
      have hD : va_D (va_A (modW ck ma Z) s.heap.size) (modW ck ma (Z.1, (gX6_goesThrough (upd Z.2.1 ((0 + a1).toNatClampNeg) a2) ), gX6_copy Z.2.1 Z.2.2.1, Z.2.2.2.1, Z.2.2.2.2.1, Z.2.2.2.2.2.1, Z.2.2.2.2.2.2.1, Z.2.2.2.2.2.2.2)) := hD
      generalize hr_42 : gX6_goesThrough (upd Z.2.1 ((0 + a1).toNatClampNeg) a2)  = r_42 at hP hD ⊢
      refine lv_aload_n hx hb dX6_set_45 rfl (lv_at hl 1 rfl) ?_
      refine lv_iload_n hx hb dX6_set_46 rfl (lv_at hl 0 rfl) ?_
      refine xreti (va_runV (As := [.int (Z.2.1 (0 + a1).toNatClampNeg)]) (rest := []) ⟨hx, hb, hml, hown, hts⟩ (mX6_acted l D ck ma (Z.1, r_42, gX6_copy Z.2.1 Z.2.2.1, Z.2.2.2.1, Z.2.2.2.2.1, Z.2.2.2.2.2.1, Z.2.2.2.2.2.2.1, Z.2.2.2.2.2.2.2) (Z.2.1 (0 + a1).toNatClampNeg) hh _) (cwV 1 hts gX6_set_X6_acted rfl rfl rfl (by decide +kernel) ⟨Nat.le_of_ble_eq_true rfl, Nat.le_of_ble_eq_true rfl⟩) (xpreV hN hK hP hD pm_all 0 rfl rfl rfl) rfl rfl hl.1 rfl (lv_room (Nat.le_of_ble_eq_true rfl)) dX6_set_47 ⟨Nat.le_of_ble_eq_true rfl, Nat.le_of_ble_eq_true rfl⟩) hP hD hS hA pm_all pm_all' (fun H locs hP hD hS => ?_)
      have hP : va_P D vwCl (modW ck ma ((gX6_acted (Z.1, r_42, gX6_copy Z.2.1 Z.2.2.1, Z.2.2.2.1, Z.2.2.2.2.1, Z.2.2.2.2.2.1, Z.2.2.2.2.2.2.1, Z.2.2.2.2.2.2.2) (Z.2.1 (0 + a1).toNatClampNeg)).2)) H := hP
      have hD : va_D (va_A (modW ck ma Z) s.heap.size) (modW ck ma ((gX6_acted (Z.1, r_42, gX6_copy Z.2.1 Z.2.2.1, Z.2.2.2.1, Z.2.2.2.2.1, Z.2.2.2.2.2.1, Z.2.2.2.2.2.2.1, Z.2.2.2.2.2.2.2) (Z.2.1 (0 + a1).toNatClampNeg)).2)) := hD
      subst hr_42
      have hg9 : gX6_set Z a1 a2 = ((gX6_acted (Z.1, (gX6_goesThrough (upd Z.2.1 ((0 + a1).toNatClampNeg) a2)), gX6_copy Z.2.1 Z.2.2.1, Z.2.2.2.1, Z.2.2.2.2.1, Z.2.2.2.2.2.1, Z.2.2.2.2.2.2.1, Z.2.2.2.2.2.2.2) (Z.2.1 (0 + a1).toNatClampNeg)).1, (gX6_acted (Z.1, (gX6_goesThrough (upd Z.2.1 ((0 + a1).toNatClampNeg) a2)), gX6_copy Z.2.1 Z.2.2.1, Z.2.2.2.1, Z.2.2.2.2.1, Z.2.2.2.2.2.1, Z.2.2.2.2.2.2.1, Z.2.2.2.2.2.2.2) (Z.2.1 (0 + a1).toNatClampNeg)).2) := by rw [gX6_set, if_neg c_5, if_neg c_22]
      have hv9 : (gX6_acted (Z.1, (gX6_goesThrough (upd Z.2.1 ((0 + a1).toNatClampNeg) a2)), gX6_copy Z.2.1 Z.2.2.1, Z.2.2.2.1, Z.2.2.2.2.1, Z.2.2.2.2.2.1, Z.2.2.2.2.2.2.1, Z.2.2.2.2.2.2.2) (Z.2.1 (0 + a1).toNatClampNeg)).1 = (gX6_set Z a1 a2).1 := by rw [hg9]
      have hw9 : modW ck ma ((gX6_acted (Z.1, (gX6_goesThrough (upd Z.2.1 ((0 + a1).toNatClampNeg) a2)), gX6_copy Z.2.1 Z.2.2.1, Z.2.2.2.1, Z.2.2.2.2.1, Z.2.2.2.2.2.1, Z.2.2.2.2.2.2.1, Z.2.2.2.2.2.2.2) (Z.2.1 (0 + a1).toNatClampNeg)).2) = modW ck ma ((gX6_set Z a1 a2).2) := by rw [hg9]
      exact xiret hx hb hr hlk hP hD hS hv9 hw9 dX6_set_50
    · --f
      refine lv_bipush (v := (-5)) hx hb dX6_set_25 (by decide) ?_
      exact xiret hx hb hr hlk hP hD hS (congrArg (fun z => z.1) (show gX6_set Z a1 a2 = ((-5), Z) from (Eq.trans (if_neg c_5) (Eq.trans (if_pos c_22) rfl)))).symm (congrArg (fun z => modW ck ma z.2) (show gX6_set Z a1 a2 = ((-5), Z) from (Eq.trans (if_neg c_5) (Eq.trans (if_pos c_22) rfl)))).symm dX6_set_27
  · --f
    refine lv_bipush (v := (-2)) hx hb dX6_set_8 (by decide) ?_
    exact xiret hx hb hr hlk hP hD hS (congrArg (fun z => z.1) (show gX6_set Z a1 a2 = ((-2), Z) from (Eq.trans (if_pos c_5) rfl))).symm (congrArg (fun z => modW ck ma z.2) (show gX6_set Z a1 a2 = ((-2), Z) from (Eq.trans (if_pos c_5) rfl))).symm dX6_set_10

def rmX6_type : Room := { frames := 0, cells := 0, slots := 0, locals := 0 }
set_option maxHeartbeats 4000000 in
set_option maxRecDepth 100000 in
theorem mX6_type (l : Launch) (D : va_G) (ck : Nat → ClassId) (ma : Nat → Nat) (Y : YS) (a1 : Int32) (hL : 0 ≤ (Y.1 2).toInt ∧ (Y.1 2).toInt ≤ 60) : xMi l yX6_type wsX6_type rmX6_type D ck [.ref (ma 0), .int a1] (mtxW ck ma Y) (mtxW ck ma ((gX6_type Y a1).2)) ((gX6_type Y a1).1) 0 0 := by
  refine xMet (by decide) rfl (Nat.le_of_ble_eq_true rfl) ?_
  intro zp ze s zm zb zt zc hx hb hr hml hown hts hlk hnm hN hK hP hD ls hl
  have hown : s.vm.findClass RX6 = some zm.cls := hown
  have hl : lv_has ls 2 [(0, .ref (ma 0)), (1, .int a1)] := hl
  have hS : va_S (va_A (mtxW ck ma Y) s.heap.size) s.heap s.heap [] := va_S.rf
  have hA : ∀ zq : Nat, s.heap.size ≤ zq → va_A (mtxW ck ma Y) s.heap.size zq := fun zq h => Or.inr h
  have hinX6 : ∀ w ∈ u_ws RX6 TX6 13, w ∈ wsX6_type := by decide +kernel
  refine lv_aload_n hx hb dX6_type_0 rfl (lv_at hl 0 rfl) ?_
  refine va_get (D := D) (ci := 6) (v := .int (Y.1 2)) (C := RX6) (T := TX6) (N := 13) hx hb hts hinX6 hown hK hP 0 rfl rfl 8 (by decide) (hts (.fieldLink RX6 155 "JoinGrantsModel" "textLong" "I") (List.mem_of_getElem? (i := 1) rfl)) (fun _ h9 => h9) rfl dX6_type_1 ?_
  refine lv_bipush (v := 60) hx hb dX6_type_4 (by decide) ?_
  refine lv_icmp_ne (tgt := 12) hx hb dX6_type_6 (by decide) (fun c_6 => ?_) (fun c_6 => ?_)
  · --t
    refine lv_aload_n hx hb dX6_type_12 rfl (lv_at hl 0 rfl) ?_
    refine va_get (D := D) (ci := 6) (v := .ref (ma 6)) (C := RX6) (T := TX6) (N := 13) hx hb hts hinX6 hown hK hP 0 rfl rfl 7 (by decide) (hts (.fieldLink RX6 25 "JoinGrantsModel" "text" "[I") (List.mem_of_getElem? (i := 2) rfl)) (fun _ h9 => h9) rfl dX6_type_13 ?_
    refine lv_aload_n hx hb dX6_type_16 rfl (lv_at hl 0 rfl) ?_
    refine va_get (D := D) (ci := 6) (v := .int (Y.1 2)) (C := RX6) (T := TX6) (N := 13) hx hb hts hinX6 hown hK hP 0 rfl rfl 8 (by decide) (hts (.fieldLink RX6 155 "JoinGrantsModel" "textLong" "I") (List.mem_of_getElem? (i := 1) rfl)) (fun _ h9 => h9) rfl dX6_type_17 ?_
    refine lv_iload_n hx hb dX6_type_20 rfl (lv_at hl 1 rfl) ?_
    refine va_iast hx hb hK hP hD hS 1 0 rfl rfl (ty_in hL c_6) dX6_type_21 (fun H locs hP hD hS => ?_)
    have hP : va_P D vwCl (mtxW ck ma (Y.1, upd Y.2.1 ((Y.1 2).toNatClampNeg) a1, Y.2.2)) H := hP
    have hD : va_D (va_A (mtxW ck ma Y) s.heap.size) (mtxW ck ma (Y.1, upd Y.2.1 ((Y.1 2).toNatClampNeg) a1, Y.2.2)) := hD
    refine lv_aload_n hx hb dX6_type_22 rfl (lv_at hl 0 rfl) ?_
    refine lv_dup hx hb dX6_type_23 rfl ?_
    refine va_get (D := D) (ci := 6) (v := .int (Y.1 2)) (C := RX6) (T := TX6) (N := 13) hx hb hts hinX6 hown hK hP 0 rfl rfl 8 (by decide) (hts (.fieldLink RX6 155 "JoinGrantsModel" "textLong" "I") (List.mem_of_getElem? (i := 1) rfl)) (fun _ h9 => h9) rfl dX6_type_24 ?_
    refine lv_iconst (v := 1) hx hb dX6_type_27 (by decide) ?_
    refine lv_iadd hx hb dX6_type_28 ?_
    refine va_put (D := D) (ci := 6) (v := .int ((Y.1 2) + 1)) (ty := .int) (C := RX6) (T := TX6) (N := 13) hx hb hts hinX6 tyX6 tyX6_ok nmX6 hown hK hP hD hS 0 rfl rfl 8 (by decide) (hts (.fieldLink RX6 155 "JoinGrantsModel" "textLong" "I") (List.mem_of_getElem? (i := 1) rfl)) (fun _ h9 => h9) rfl (by decide +kernel) rfl rfl (Nat.le_of_ble_eq_true rfl) dX6_type_29 (fun H locs hP hD hS => ?_)
    have hP : va_P D vwCl (mtxW ck ma (upd Y.1 2 ((Y.1 2) + 1), upd Y.2.1 ((Y.1 2).toNatClampNeg) a1, Y.2.2)) H := hP
    have hD : va_D (va_A (mtxW ck ma Y) s.heap.size) (mtxW ck ma (upd Y.1 2 ((Y.1 2) + 1), upd Y.2.1 ((Y.1 2).toNatClampNeg) a1, Y.2.2)) := hD
    refine lv_aload_n hx hb dX6_type_32 rfl (lv_at hl 0 rfl) ?_
    refine va_get (D := D) (ci := 6) (v := .int ((Y.1 2) + 1)) (C := RX6) (T := TX6) (N := 13) hx hb hts hinX6 hown hK hP 0 rfl rfl 8 (by decide) (hts (.fieldLink RX6 155 "JoinGrantsModel" "textLong" "I") (List.mem_of_getElem? (i := 1) rfl)) (fun _ h9 => h9) rfl dX6_type_33 ?_
    exact xiret hx hb hr hlk hP hD hS (congrArg (fun z => z.1) (show gX6_type Y a1 = (((Y.1 2) + 1), (upd Y.1 2 ((Y.1 2) + 1), upd Y.2.1 ((Y.1 2).toNatClampNeg) a1, Y.2.2)) from (Eq.trans (if_neg c_6) rfl))).symm (congrArg (fun z => mtxW ck ma z.2) (show gX6_type Y a1 = (((Y.1 2) + 1), (upd Y.1 2 ((Y.1 2) + 1), upd Y.2.1 ((Y.1 2).toNatClampNeg) a1, Y.2.2)) from (Eq.trans (if_neg c_6) rfl))).symm dX6_type_36
  · --f
    refine lv_bipush (v := (-3)) hx hb dX6_type_9 (by decide) ?_
    exact xiret hx hb hr hlk hP hD hS (congrArg (fun z => z.1) (show gX6_type Y a1 = ((-3), Y) from (Eq.trans (if_pos c_6) rfl))).symm (congrArg (fun z => mtxW ck ma z.2) (show gX6_type Y a1 = ((-3), Y) from (Eq.trans (if_pos c_6) rfl))).symm dX6_type_11

def rmX6_clearText : Room := { frames := 0, cells := 0, slots := 0, locals := 0 }
set_option maxHeartbeats 4000000 in
set_option maxRecDepth 100000 in
theorem mX6_clearText (l : Launch) (D : va_G) (ck : Nat → ClassId) (ma : Nat → Nat) (Y : YS) : xMi l yX6_clearText wsX6_clearText rmX6_clearText D ck [.ref (ma 0)] (mtxW ck ma Y) (mtxW ck ma ((gX6_clearText Y).2)) ((gX6_clearText Y).1) 0 0 := by
  refine xMet (by decide) rfl (Nat.le_of_ble_eq_true rfl) ?_
  intro zp ze s zm zb zt zc hx hb hr hml hown hts hlk hnm hN hK hP hD ls hl
  have hown : s.vm.findClass RX6 = some zm.cls := hown
  have hl : lv_has ls 2 [(0, .ref (ma 0))] := hl
  have hS : va_S (va_A (mtxW ck ma Y) s.heap.size) s.heap s.heap [] := va_S.rf
  have hA : ∀ zq : Nat, s.heap.size ≤ zq → va_A (mtxW ck ma Y) s.heap.size zq := fun zq h => Or.inr h
  have hinX6 : ∀ w ∈ u_ws RX6 TX6 13, w ∈ wsX6_clearText := by decide +kernel
  refine lv_aload_n hx hb dX6_clearText_0 rfl (lv_at hl 0 rfl) ?_
  refine va_get (D := D) (ci := 6) (v := .int (Y.1 2)) (C := RX6) (T := TX6) (N := 13) hx hb hts hinX6 hown hK hP 0 rfl rfl 8 (by decide) (hts (.fieldLink RX6 155 "JoinGrantsModel" "textLong" "I") (List.mem_of_getElem? (i := 1) rfl)) (fun _ h9 => h9) rfl dX6_clearText_1 ?_
  refine lv_istore_n (lv' := [(1, .int (Y.1 2)), (0, .ref (ma 0))]) hx hb dX6_clearText_4 rfl hl (by decide) rfl (fun ls hl => ?_)
  refine lv_aload_n hx hb dX6_clearText_5 rfl (lv_at hl 1 rfl) ?_
  refine lv_iconst (v := 0) hx hb dX6_clearText_6 (by decide) ?_
  refine va_put (D := D) (ci := 6) (v := .int 0) (ty := .int) (C := RX6) (T := TX6) (N := 13) hx hb hts hinX6 tyX6 tyX6_ok nmX6 hown hK hP hD hS 0 rfl rfl 8 (by decide) (hts (.fieldLink RX6 155 "JoinGrantsModel" "textLong" "I") (List.mem_of_getElem? (i := 1) rfl)) (fun _ h9 => h9) rfl (by decide +kernel) rfl rfl (Nat.le_of_ble_eq_true rfl) dX6_clearText_7 (fun H locs hP hD hS => ?_)
  have hP : va_P D vwCl (mtxW ck ma (upd Y.1 2 0, Y.2.1, Y.2.2)) H := hP
  have hD : va_D (va_A (mtxW ck ma Y) s.heap.size) (mtxW ck ma (upd Y.1 2 0, Y.2.1, Y.2.2)) := hD
  refine lv_iload_n hx hb dX6_clearText_10 rfl (lv_at hl 0 rfl) ?_
  exact xiret hx hb hr hlk hP hD hS (congrArg (fun z => z.1) (show gX6_clearText Y = (Y.1 2, (upd Y.1 2 0, Y.2.1, Y.2.2)) from rfl)).symm (congrArg (fun z => mtxW ck ma z.2) (show gX6_clearText Y = (Y.1 2, (upd Y.1 2 0, Y.2.1, Y.2.2)) from rfl)).symm dX6_clearText_11

def rmX6_askAll : Room := { frames := 10, cells := 0, slots := 0, locals := 235 }
set_option maxHeartbeats 4000000 in
set_option maxRecDepth 100000 in
theorem mX6_askAll (l : Launch) (D : va_G) (ck : Nat → ClassId) (ma : Nat → Nat) (Z : MS)  (hm : mInv Z.2.1) (hh : hx4 (Z.1 0)) (hL : 0 ≤ (Z.1 2).toInt ∧ (Z.1 2).toInt ≤ 60) : xMi l yX6_askAll wsX6_askAll rmX6_askAll D ck [.ref (ma 0)] (modW ck ma Z) (modW ck ma ((gX6_askAll Z).2)) ((gX6_askAll Z).1) 0 0 := by
  refine xMet (by decide) rfl (Nat.le_of_ble_eq_true rfl) ?_
  intro zp ze s zm zb zt zc hx hb hr hml hown hts hlk hnm hN hK hP hD ls hl
  have hown : s.vm.findClass RX6 = some zm.cls := hown
  have hl : lv_has ls 3 [(0, .ref (ma 0))] := hl
  have hS : va_S (va_A (modW ck ma Z) s.heap.size) s.heap s.heap [] := va_S.rf
  have hA : ∀ zq : Nat, s.heap.size ≤ zq → va_A (modW ck ma Z) s.heap.size zq := fun zq h => Or.inr h
  have hinX6 : ∀ w ∈ u_ws RX6 TX6 13, w ∈ wsX6_askAll := by decide +kernel
  refine lv_aload_n hx hb dX6_askAll_0 rfl (lv_at hl 0 rfl) ?_
  refine xreti (va_runV (As := []) (rest := []) ⟨hx, hb, hml, hown, hts⟩ (mX6_fault l D ck ma (Z.1, Z.2.2.2.2.2.2.1, Z.2.2.2.2.2.2.2)  hL _) (cwV 0 hts gX6_askAll_X6_fault rfl rfl rfl (by decide +kernel) ⟨Nat.le_of_ble_eq_true rfl, Nat.le_of_ble_eq_true rfl⟩) (xpreV hN hK hP hD (pm_mtx Z) 0 rfl rfl rfl) rfl rfl hl.1 rfl (lv_room (Nat.le_of_ble_eq_true rfl)) dX6_askAll_1 ⟨Nat.le_of_ble_eq_true rfl, Nat.le_of_ble_eq_true rfl⟩) hP hD hS hA (pm_mtx Z) (pm_mtx' Z) (fun H locs hP hD hS => ?_)
  have hP : va_P D vwCl (modW ck ma ((gX6_fault (Z.1, Z.2.2.2.2.2.2.1, Z.2.2.2.2.2.2.2) ).2.1, Z.2.1, Z.2.2.1, Z.2.2.2.1, Z.2.2.2.2.1, Z.2.2.2.2.2.1, (gX6_fault (Z.1, Z.2.2.2.2.2.2.1, Z.2.2.2.2.2.2.2) ).2.2.1, (gX6_fault (Z.1, Z.2.2.2.2.2.2.1, Z.2.2.2.2.2.2.2) ).2.2.2)) H := hP
  have hD : va_D (va_A (modW ck ma Z) s.heap.size) (modW ck ma ((gX6_fault (Z.1, Z.2.2.2.2.2.2.1, Z.2.2.2.2.2.2.2) ).2.1, Z.2.1, Z.2.2.1, Z.2.2.2.1, Z.2.2.2.2.1, Z.2.2.2.2.2.1, (gX6_fault (Z.1, Z.2.2.2.2.2.2.1, Z.2.2.2.2.2.2.2) ).2.2.1, (gX6_fault (Z.1, Z.2.2.2.2.2.2.1, Z.2.2.2.2.2.2.2) ).2.2.2)) := hD
  generalize hr_1 : gX6_fault (Z.1, Z.2.2.2.2.2.2.1, Z.2.2.2.2.2.2.2)  = r_1 at hP hD ⊢
  have hfa : faI (Z.1, Z.2.2.2.2.2.2.1, Z.2.2.2.2.2.2.2) r_1.2 := by rw [← hr_1]; exact fa_ok hL
  refine lv_istore_n (lv' := [(1, .int r_1.1), (0, .ref (ma 0))]) hx hb dX6_askAll_4 rfl hl (by decide) rfl (fun ls hl => ?_)
  refine lv_iload_n hx hb dX6_askAll_5 rfl (lv_at hl 0 rfl) ?_
  refine lv_bipush (v := (-5)) hx hb dX6_askAll_6 (by decide) ?_
  refine lv_icmp_eq (tgt := 16) hx hb dX6_askAll_8 (by decide) (fun c_8 => ?_) (fun c_8 => ?_)
  · --t
    have h5 := aa_5 hfa.2.2.1
    have hh1 : hx4 (r_1.2.1 0) := by rw [hfa.1 0 (by decide) (by decide) (by decide)]; exact hh
    refine lv_aload_n hx hb dX6_askAll_16 rfl (lv_at hl 1 rfl) ?_
    refine va_get (D := D) (ci := 6) (v := .ref (ma 1)) (C := RX6) (T := TX6) (N := 13) hx hb hts hinX6 hown hK hP 0 rfl rfl 0 (by decide) (hts (.fieldLink RX6 7 "JoinGrantsModel" "all" "[I") (List.mem_of_getElem? (i := 1) rfl)) (fun _ h9 => h9) rfl dX6_askAll_17 ?_
    refine lv_iconst (v := 4) hx hb dX6_askAll_20 (by decide) ?_
    refine xiald (j := 4) (by decide) hx hb hK hP 1 0 rfl rfl (show vp_in 4 153 from by unfold vp_in; decide) dX6_askAll_21 ?_
    refine lv_aload_n hx hb dX6_askAll_22 rfl (lv_at hl 1 rfl) ?_
    refine va_get (D := D) (ci := 6) (v := .int (r_1.2.1 5)) (C := RX6) (T := TX6) (N := 13) hx hb hts hinX6 hown hK hP 0 rfl rfl 12 (by decide) (hts (.fieldLink RX6 174 "JoinGrantsModel" "readMany" "I") (List.mem_of_getElem? (i := 2) rfl)) (fun _ h9 => h9) rfl dX6_askAll_23 ?_
    refine lv_iadd hx hb dX6_askAll_26 ?_
    refine lv_bipush (v := 16) hx hb dX6_askAll_27 (by decide) ?_
    refine lv_icmp_le (tgt := 35) hx hb dX6_askAll_29 (by decide) (fun c_29 => ?_) (fun c_29 => ?_)
    · --t
      refine lv_aload_n hx hb dX6_askAll_35 rfl (lv_at hl 1 rfl) ?_
      refine xretv (va_runV (As := []) (rest := []) ⟨hx, hb, hml, hown, hts⟩ (mX6_remember l D ck ma (r_1.2.1, Z.2.1, Z.2.2.1, Z.2.2.2.1, Z.2.2.2.2.1, Z.2.2.2.2.2.1, r_1.2.2.1, r_1.2.2.2)   _) (cwV 0 hts gX6_askAll_X6_remember rfl rfl rfl (by decide +kernel) ⟨Nat.le_of_ble_eq_true rfl, Nat.le_of_ble_eq_true rfl⟩) (xpreV hN hK hP hD pm_all 0 rfl rfl rfl) rfl rfl hl.1 rfl (lv_room (Nat.le_of_ble_eq_true rfl)) dX6_askAll_36 ⟨Nat.le_of_ble_eq_true rfl, Nat.le_of_ble_eq_true rfl⟩) hP hD hS hA pm_all pm_all' (fun H locs hP hD hS => ?_)
      have hP : va_P D vwCl (modW ck ma (r_1.2.1, Z.2.1, gX6_copy Z.2.1 Z.2.2.1, Z.2.2.2.1, Z.2.2.2.2.1, Z.2.2.2.2.2.1, r_1.2.2.1, r_1.2.2.2)) H := hP
      have hD : va_D (va_A (modW ck ma Z) s.heap.size) (modW ck ma (r_1.2.1, Z.2.1, gX6_copy Z.2.1 Z.2.2.1, Z.2.2.2.1, Z.2.2.2.2.1, Z.2.2.2.2.2.1, r_1.2.2.1, r_1.2.2.2)) := hD
      refine lv_iconst (v := (nI (3 * 0))) hx hb dX6_askAll_39 (by decide) ?_
      refine lv_istore_n (lv' := [(2, .int (nI (3 * 0))), (1, .int r_1.1), (0, .ref (ma 0))]) hx hb dX6_askAll_40 rfl hl (by decide) rfl (fun ls hl => ?_)
      have loop41 : ∀ (fu : Nat) (i : Nat) (Z1 : MS), (mInv Z1.2.1) → (hx4 (Z1.1 0)) → (Z1.1 5 = nI (Z1.1 5).toNatClampNeg ∧ (Z1.1 5).toNatClampNeg ≤ 15) → (i + fu = (Z1.1 5).toNatClampNeg) → (nF Z1.2.1 + fu ≤ 16) → (entP (Z1.1, Z1.2.2.2.2.2.2.1, Z1.2.2.2.2.2.2.2)) → gX6_askAll Z = gX6_askAll_L41 Z fu i Z1 → ∀ (H : Heap) (locs : List Loc) (ls : Array Slot), va_P D vwCl (modW ck ma Z1) H → va_D (va_A (modW ck ma Z) s.heap.size) (modW ck ma Z1) → va_S (va_A (modW ck ma Z) s.heap.size) s.heap H locs → lv_has ls 3 [(0, .ref (ma 0)), (2, .int (nI (3 * i)))] → W zp l ze rmX6_askAll s zm ([.ref (ma 0)] : List Value).toArray zb zt zc H locs 0 0 (MQ zb (xQi D (modW ck ma Z) (modW ck ma ((gX6_askAll Z).2)) ((gX6_askAll Z).1) s.heap.size) ([.ref (ma 0)] : List Value).toArray s 0 0 (va_A (modW ck ma Z) s.heap.size)) (F0 zm 41 ls []) := by
        intro fu
        induction fu with
        | zero =>
          intro i Z1 hm hh h5 hif hn16 hok hg H locs ls hP hD hS hl
          refine lv_iload_n hx hb dX6_askAll_41 rfl (lv_at hl 1 rfl) ?_
          refine lv_iconst (v := 3) hx hb dX6_askAll_42 (by decide) ?_
          refine lv_aload_n hx hb dX6_askAll_43 rfl (lv_at hl 0 rfl) ?_
          refine va_get (D := D) (ci := 6) (v := .int (Z1.1 5)) (C := RX6) (T := TX6) (N := 13) hx hb hts hinX6 hown hK hP 0 rfl rfl 12 (by decide) (hts (.fieldLink RX6 174 "JoinGrantsModel" "readMany" "I") (List.mem_of_getElem? (i := 2) rfl)) (fun _ h9 => h9) rfl dX6_askAll_44 ?_
          refine lv_imul hx hb dX6_askAll_47 ?_
          refine lv_icmp_ge (tgt := 83) hx hb dX6_askAll_48 (by decide) (fun c_48 => ?_) (fun c_48 => ?_)
          · --t
            refine lv_aload_n hx hb dX6_askAll_83 rfl (lv_at hl 0 rfl) ?_
            refine lv_aload_n hx hb dX6_askAll_84 rfl (lv_at hl 0 rfl) ?_
            refine va_get (D := D) (ci := 6) (v := .int (Z1.1 5)) (C := RX6) (T := TX6) (N := 13) hx hb hts hinX6 hown hK hP 0 rfl rfl 12 (by decide) (hts (.fieldLink RX6 174 "JoinGrantsModel" "readMany" "I") (List.mem_of_getElem? (i := 2) rfl)) (fun _ h9 => h9) rfl dX6_askAll_85 ?_
            refine xreti (va_runV (As := [.int (Z1.1 5)]) (rest := []) ⟨hx, hb, hml, hown, hts⟩ (mX6_acted l D ck ma Z1 (Z1.1 5) hh _) (cwV 1 hts gX6_askAll_X6_acted rfl rfl rfl (by decide +kernel) ⟨Nat.le_of_ble_eq_true rfl, Nat.le_of_ble_eq_true rfl⟩) (xpreV hN hK hP hD pm_all 0 rfl rfl rfl) rfl rfl hl.1 rfl (lv_room (Nat.le_of_ble_eq_true rfl)) dX6_askAll_88 ⟨Nat.le_of_ble_eq_true rfl, Nat.le_of_ble_eq_true rfl⟩) hP hD hS hA pm_all pm_all' (fun H locs hP hD hS => ?_)
            have hP : va_P D vwCl (modW ck ma ((gX6_acted Z1 (Z1.1 5)).2)) H := hP
            have hD : va_D (va_A (modW ck ma Z) s.heap.size) (modW ck ma ((gX6_acted Z1 (Z1.1 5)).2)) := hD
            exact xiret hx hb hr hlk hP hD hS (congrArg (fun z => z.1) (hg.trans (show gX6_askAll_L41 Z 0 i Z1 = ((gX6_acted Z1 (Z1.1 5)).1, (gX6_acted Z1 (Z1.1 5)).2) from rfl))).symm (congrArg (fun z => modW ck ma z.2) (hg.trans (show gX6_askAll_L41 Z 0 i Z1 = ((gX6_acted Z1 (Z1.1 5)).1, (gX6_acted Z1 (Z1.1 5)).2) from rfl))).symm dX6_askAll_91
          · --f
            exact absurd (aa_le h5 (by omega) (by omega)) c_48
        | succ fu ih41 =>
          intro i Z1 hm hh h5 hif hn16 hok hg H locs ls hP hD hS hl
          refine lv_iload_n hx hb dX6_askAll_41 rfl (lv_at hl 1 rfl) ?_
          refine lv_iconst (v := 3) hx hb dX6_askAll_42 (by decide) ?_
          refine lv_aload_n hx hb dX6_askAll_43 rfl (lv_at hl 0 rfl) ?_
          refine va_get (D := D) (ci := 6) (v := .int (Z1.1 5)) (C := RX6) (T := TX6) (N := 13) hx hb hts hinX6 hown hK hP 0 rfl rfl 12 (by decide) (hts (.fieldLink RX6 174 "JoinGrantsModel" "readMany" "I") (List.mem_of_getElem? (i := 2) rfl)) (fun _ h9 => h9) rfl dX6_askAll_44 ?_
          refine lv_imul hx hb dX6_askAll_47 ?_
          refine lv_icmp_ge (tgt := 83) hx hb dX6_askAll_48 (by decide) (fun c_48 => ?_) (fun c_48 => ?_)
          · --t
            exact absurd c_48 (aa_gt h5 (by omega))
          · --f
            refine lv_aload_n hx hb dX6_askAll_51 rfl (lv_at hl 0 rfl) ?_
            refine lv_aload_n hx hb dX6_askAll_52 rfl (lv_at hl 0 rfl) ?_
            refine va_get (D := D) (ci := 6) (v := .ref (ma 7)) (C := RX6) (T := TX6) (N := 13) hx hb hts hinX6 hown hK hP 0 rfl rfl 11 (by decide) (hts (.fieldLink RX6 28 "JoinGrantsModel" "read" "[I") (List.mem_of_getElem? (i := 3) rfl)) (fun _ h9 => h9) rfl dX6_askAll_53 ?_
            refine lv_iload_n hx hb dX6_askAll_56 rfl (lv_at hl 1 rfl) ?_
            refine xiald (j := (3 * i)) (nI_clamp (by omega)) hx hb hK hP 7 0 rfl rfl (vp_in_nI (by omega) (by omega)) dX6_askAll_57 ?_
            refine lv_aload_n hx hb dX6_askAll_58 rfl (lv_at hl 0 rfl) ?_
            refine va_get (D := D) (ci := 6) (v := .ref (ma 7)) (C := RX6) (T := TX6) (N := 13) hx hb hts hinX6 hown hK hP 0 rfl rfl 11 (by decide) (hts (.fieldLink RX6 28 "JoinGrantsModel" "read" "[I") (List.mem_of_getElem? (i := 3) rfl)) (fun _ h9 => h9) rfl dX6_askAll_59 ?_
            refine lv_iload_n hx hb dX6_askAll_62 rfl (lv_at hl 1 rfl) ?_
            refine lv_iconst (v := 1) hx hb dX6_askAll_63 (by decide) ?_
            refine lv_iadd hx hb dX6_askAll_64 ?_
            refine xiald (j := (3 * i + 1)) (aa_c1 (by omega)) hx hb hK hP 7 0 rfl rfl (aa_i1 (by omega)) dX6_askAll_65 ?_
            refine lv_aload_n hx hb dX6_askAll_66 rfl (lv_at hl 0 rfl) ?_
            refine va_get (D := D) (ci := 6) (v := .ref (ma 7)) (C := RX6) (T := TX6) (N := 13) hx hb hts hinX6 hown hK hP 0 rfl rfl 11 (by decide) (hts (.fieldLink RX6 28 "JoinGrantsModel" "read" "[I") (List.mem_of_getElem? (i := 3) rfl)) (fun _ h9 => h9) rfl dX6_askAll_67 ?_
            refine lv_iload_n hx hb dX6_askAll_70 rfl (lv_at hl 1 rfl) ?_
            refine lv_iconst (v := 2) hx hb dX6_askAll_71 (by decide) ?_
            refine lv_iadd hx hb dX6_askAll_72 ?_
            refine xiald (j := (3 * i + 2)) (aa_c2 (by omega)) hx hb hK hP 7 0 rfl rfl (aa_i2 (by omega)) dX6_askAll_73 ?_
            refine xretv (va_runV (As := [.int (Z1.2.2.2.2.2.2.2 (3 * i)), .int (Z1.2.2.2.2.2.2.2 (3 * i + 1)), .int (Z1.2.2.2.2.2.2.2 (3 * i + 2))]) (rest := []) ⟨hx, hb, hml, hown, hts⟩ (mX6_comes l D ck ma Z1.1 Z1.2.1 (Z1.2.2.2.2.2.2.2 (3 * i)) (Z1.2.2.2.2.2.2.2 (3 * i + 1)) (Z1.2.2.2.2.2.2.2 (3 * i + 2)) hm (aa_16 hm (by omega)) (hok i (show i < (Z1.1 5).toNatClampNeg by omega)) _) (cwV 3 hts gX6_askAll_X6_comes rfl rfl rfl (by decide +kernel) ⟨Nat.le_of_ble_eq_true rfl, Nat.le_of_ble_eq_true rfl⟩) (xpreV hN hK hP hD (pm_core Z1) 0 rfl rfl rfl) rfl rfl hl.1 rfl (lv_room (Nat.le_of_ble_eq_true rfl)) dX6_askAll_74 ⟨Nat.le_of_ble_eq_true rfl, Nat.le_of_ble_eq_true rfl⟩) hP hD hS hA (pm_core Z1) (pm_core' Z1) (fun H locs hP hD hS => ?_)
            have hP : va_P D vwCl (modW ck ma (Z1.1, (gX6_comes Z1.2.1 (Z1.2.2.2.2.2.2.2 (3 * i)) (Z1.2.2.2.2.2.2.2 (3 * i + 1)) (Z1.2.2.2.2.2.2.2 (3 * i + 2))), Z1.2.2.1, Z1.2.2.2.1, Z1.2.2.2.2.1, Z1.2.2.2.2.2.1, Z1.2.2.2.2.2.2.1, Z1.2.2.2.2.2.2.2)) H := hP
            have hD : va_D (va_A (modW ck ma Z) s.heap.size) (modW ck ma (Z1.1, (gX6_comes Z1.2.1 (Z1.2.2.2.2.2.2.2 (3 * i)) (Z1.2.2.2.2.2.2.2 (3 * i + 1)) (Z1.2.2.2.2.2.2.2 (3 * i + 2))), Z1.2.2.1, Z1.2.2.2.1, Z1.2.2.2.2.1, Z1.2.2.2.2.2.1, Z1.2.2.2.2.2.2.1, Z1.2.2.2.2.2.2.2)) := hD
            refine lv_iinc (v := (nI (3 * (i + 1)))) (lv' := [(2, .int (nI (3 * (i + 1)))), (0, .ref (ma 0))]) hx hb dX6_askAll_77 hl (k := 1) rfl aa_inc (by decide) rfl (fun ls hl => ?_)
            refine lv_goto (tgt := 41) hx hb dX6_askAll_80 (by decide) ?_
            exact ih41 (i + 1) (Z1.1, (gX6_comes Z1.2.1 (Z1.2.2.2.2.2.2.2 (3 * i)) (Z1.2.2.2.2.2.2.2 (3 * i + 1)) (Z1.2.2.2.2.2.2.2 (3 * i + 2))), Z1.2.2.1, Z1.2.2.2.1, Z1.2.2.2.2.1, Z1.2.2.2.2.2.1, Z1.2.2.2.2.2.2.1, Z1.2.2.2.2.2.2.2) (cm_ok hm (aa_16 hm (by omega)) (hok i (show i < (Z1.1 5).toNatClampNeg by omega))).1 hh h5 (show i + 1 + fu = (Z1.1 5).toNatClampNeg by omega) (by rw [(cm_ok hm (aa_16 hm (by omega)) (hok i (show i < (Z1.1 5).toNatClampNeg by omega))).2]; omega) hok (hg.trans (show gX6_askAll_L41 Z (fu + 1) i Z1 = (gX6_askAll_L41 Z fu (i + 1) (Z1.1, (gX6_comes Z1.2.1 (Z1.2.2.2.2.2.2.2 (3 * i)) (Z1.2.2.2.2.2.2.2 (3 * i + 1)) (Z1.2.2.2.2.2.2.2 (3 * i + 2))), Z1.2.2.1, Z1.2.2.2.1, Z1.2.2.2.2.1, Z1.2.2.2.2.2.1, Z1.2.2.2.2.2.2.1, Z1.2.2.2.2.2.2.2)) from rfl)) _ _ _ hP hD hS (lv_sub hl [1, 0] rfl)
      have he9 : gX6_askAll Z = (gX6_askAll_L41 Z ((r_1.2.1 5).toNatClampNeg) 0 (r_1.2.1, Z.2.1, gX6_copy Z.2.1 Z.2.2.1, Z.2.2.2.1, Z.2.2.2.2.1, Z.2.2.2.2.2.1, r_1.2.2.1, r_1.2.2.2)) := by
        subst hr_1
        rw [gX6_askAll, if_pos c_8, if_pos c_29]
      exact loop41 ((r_1.2.1 5).toNatClampNeg) 0 (r_1.2.1, Z.2.1, gX6_copy Z.2.1 Z.2.2.1, Z.2.2.2.1, Z.2.2.2.2.1, Z.2.2.2.2.2.1, r_1.2.2.1, r_1.2.2.2) hm hh1 h5 (show 0 + (r_1.2.1 5).toNatClampNeg = (r_1.2.1 5).toNatClampNeg by omega) (aa_n hm h5 c_29) hfa.2.2.2 he9 _ _ _ hP hD hS (lv_sub hl [2, 0] rfl)
    · --f
      refine lv_bipush (v := (-3)) hx hb dX6_askAll_32 (by decide) ?_
      subst hr_1
      have hg9 : gX6_askAll Z = ((-3), ((gX6_fault (Z.1, Z.2.2.2.2.2.2.1, Z.2.2.2.2.2.2.2)).2.1, Z.2.1, Z.2.2.1, Z.2.2.2.1, Z.2.2.2.2.1, Z.2.2.2.2.2.1, (gX6_fault (Z.1, Z.2.2.2.2.2.2.1, Z.2.2.2.2.2.2.2)).2.2.1, (gX6_fault (Z.1, Z.2.2.2.2.2.2.1, Z.2.2.2.2.2.2.2)).2.2.2)) := by rw [gX6_askAll, if_pos c_8, if_neg c_29]
      have hv9 : (-3) = (gX6_askAll Z).1 := by rw [hg9]
      have hw9 : modW ck ma ((gX6_fault (Z.1, Z.2.2.2.2.2.2.1, Z.2.2.2.2.2.2.2)).2.1, Z.2.1, Z.2.2.1, Z.2.2.2.1, Z.2.2.2.2.1, Z.2.2.2.2.2.1, (gX6_fault (Z.1, Z.2.2.2.2.2.2.1, Z.2.2.2.2.2.2.2)).2.2.1, (gX6_fault (Z.1, Z.2.2.2.2.2.2.1, Z.2.2.2.2.2.2.2)).2.2.2) = modW ck ma ((gX6_askAll Z).2) := by rw [hg9]
      exact xiret hx hb hr hlk hP hD hS hv9 hw9 dX6_askAll_34
  · --f
    refine lv_bipush (v := (-100)) hx hb dX6_askAll_11 (by decide) ?_
    refine lv_iload_n hx hb dX6_askAll_13 rfl (lv_at hl 0 rfl) ?_
    refine lv_isub hx hb dX6_askAll_14 ?_
    subst hr_1
    have hg9 : gX6_askAll Z = (((-100) - (gX6_fault (Z.1, Z.2.2.2.2.2.2.1, Z.2.2.2.2.2.2.2)).1), ((gX6_fault (Z.1, Z.2.2.2.2.2.2.1, Z.2.2.2.2.2.2.2)).2.1, Z.2.1, Z.2.2.1, Z.2.2.2.1, Z.2.2.2.2.1, Z.2.2.2.2.2.1, (gX6_fault (Z.1, Z.2.2.2.2.2.2.1, Z.2.2.2.2.2.2.2)).2.2.1, (gX6_fault (Z.1, Z.2.2.2.2.2.2.1, Z.2.2.2.2.2.2.2)).2.2.2)) := by rw [gX6_askAll, if_neg c_8]
    have hv9 : ((-100) - (gX6_fault (Z.1, Z.2.2.2.2.2.2.1, Z.2.2.2.2.2.2.2)).1) = (gX6_askAll Z).1 := by rw [hg9]
    have hw9 : modW ck ma ((gX6_fault (Z.1, Z.2.2.2.2.2.2.1, Z.2.2.2.2.2.2.2)).2.1, Z.2.1, Z.2.2.1, Z.2.2.2.1, Z.2.2.2.2.1, Z.2.2.2.2.2.1, (gX6_fault (Z.1, Z.2.2.2.2.2.2.1, Z.2.2.2.2.2.2.2)).2.2.1, (gX6_fault (Z.1, Z.2.2.2.2.2.2.1, Z.2.2.2.2.2.2.2)).2.2.2) = modW ck ma ((gX6_askAll Z).2) := by rw [hg9]
    exact xiret hx hb hr hlk hP hD hS hv9 hw9 dX6_askAll_15

def rmX6_undo : Room := { frames := 0, cells := 0, slots := 0, locals := 0 }
set_option maxHeartbeats 4000000 in
set_option maxRecDepth 100000 in
theorem mX6_undo (l : Launch) (D : va_G) (ck : Nat → ClassId) (ma : Nat → Nat) (Z : MS)  (hh : hx4 (Z.1 0)) : xMi l yX6_undo wsX6_undo rmX6_undo D ck [.ref (ma 0)] (modW ck ma Z) (modW ck ma ((gX6_undo Z).2)) ((gX6_undo Z).1) 0 0 := by
  refine xMet (by decide) rfl (Nat.le_of_ble_eq_true rfl) ?_
  intro zp ze s zm zb zt zc hx hb hr hml hown hts hlk hnm hN hK hP hD ls hl
  have hown : s.vm.findClass RX6 = some zm.cls := hown
  have hl : lv_has ls 2 [(0, .ref (ma 0))] := hl
  have hS : va_S (va_A (modW ck ma Z) s.heap.size) s.heap s.heap [] := va_S.rf
  have hA : ∀ zq : Nat, s.heap.size ≤ zq → va_A (modW ck ma Z) s.heap.size zq := fun zq h => Or.inr h
  have hinX6 : ∀ w ∈ u_ws RX6 TX6 13, w ∈ wsX6_undo := by decide +kernel
  refine lv_aload_n hx hb dX6_undo_0 rfl (lv_at hl 0 rfl) ?_
  refine va_get (D := D) (ci := 6) (v := .int (Z.1 0)) (C := RX6) (T := TX6) (N := 13) hx hb hts hinX6 hown hK hP 0 rfl rfl 4 (by decide) (hts (.fieldLink RX6 35 "JoinGrantsModel" "historyLong" "I") (List.mem_of_getElem? (i := 1) rfl)) (fun _ h9 => h9) rfl dX6_undo_1 ?_
  refine lv_if_ne (tgt := 10) hx hb dX6_undo_4 (by decide) (fun c_4 => ?_) (fun c_4 => ?_)
  · --t
    refine lv_aload_n hx hb dX6_undo_10 rfl (lv_at hl 0 rfl) ?_
    refine lv_dup hx hb dX6_undo_11 rfl ?_
    refine va_get (D := D) (ci := 6) (v := .int (Z.1 0)) (C := RX6) (T := TX6) (N := 13) hx hb hts hinX6 hown hK hP 0 rfl rfl 4 (by decide) (hts (.fieldLink RX6 35 "JoinGrantsModel" "historyLong" "I") (List.mem_of_getElem? (i := 1) rfl)) (fun _ h9 => h9) rfl dX6_undo_12 ?_
    refine lv_iconst (v := 1) hx hb dX6_undo_15 (by decide) ?_
    refine lv_isub hx hb dX6_undo_16 ?_
    refine va_put (D := D) (ci := 6) (v := .int ((Z.1 0) - 1)) (ty := .int) (C := RX6) (T := TX6) (N := 13) hx hb hts hinX6 tyX6 tyX6_ok nmX6 hown hK hP hD hS 0 rfl rfl 4 (by decide) (hts (.fieldLink RX6 35 "JoinGrantsModel" "historyLong" "I") (List.mem_of_getElem? (i := 1) rfl)) (fun _ h9 => h9) rfl (by decide +kernel) rfl rfl (Nat.le_of_ble_eq_true rfl) dX6_undo_17 (fun H locs hP hD hS => ?_)
    have hP : va_P D vwCl (modW ck ma (upd Z.1 0 ((Z.1 0) - 1), Z.2.1, Z.2.2.1, Z.2.2.2.1, Z.2.2.2.2.1, Z.2.2.2.2.2.1, Z.2.2.2.2.2.2.1, Z.2.2.2.2.2.2.2)) H := hP
    have hD : va_D (va_A (modW ck ma Z) s.heap.size) (modW ck ma (upd Z.1 0 ((Z.1 0) - 1), Z.2.1, Z.2.2.1, Z.2.2.2.1, Z.2.2.2.2.1, Z.2.2.2.2.2.1, Z.2.2.2.2.2.2.1, Z.2.2.2.2.2.2.2)) := hD
    refine lv_iconst (v := (nI 0)) hx hb dX6_undo_20 (by decide) ?_
    refine lv_istore_n (lv' := [(1, .int (nI 0)), (0, .ref (ma 0))]) hx hb dX6_undo_21 rfl hl (by decide) rfl (fun ls hl => ?_)
    have loop22 : ∀ (fu : Nat) (i : Nat) (Z1 : MS), (i + fu = 153) → (hx3 (Z1.1 0)) → gX6_undo Z = gX6_undo_L22 Z fu i Z1 → ∀ (H : Heap) (locs : List Loc) (ls : Array Slot), va_P D vwCl (modW ck ma Z1) H → va_D (va_A (modW ck ma Z) s.heap.size) (modW ck ma Z1) → va_S (va_A (modW ck ma Z) s.heap.size) s.heap H locs → lv_has ls 2 [(0, .ref (ma 0)), (1, .int (nI i))] → W zp l ze rmX6_undo s zm ([.ref (ma 0)] : List Value).toArray zb zt zc H locs 0 0 (MQ zb (xQi D (modW ck ma Z) (modW ck ma ((gX6_undo Z).2)) ((gX6_undo Z).1) s.heap.size) ([.ref (ma 0)] : List Value).toArray s 0 0 (va_A (modW ck ma Z) s.heap.size)) (F0 zm 22 ls []) := by
      intro fu
      induction fu with
      | zero =>
        intro i Z1 hif hq hg H locs ls hP hD hS hl
        refine lv_iload_n hx hb dX6_undo_22 rfl (lv_at hl 1 rfl) ?_
        refine lv_sipush (v := (nI 153)) hx hb dX6_undo_23 (by decide) ?_
        refine lv_icmp_ge (tgt := 56) hx hb dX6_undo_26 (by decide) (fun c_26 => ?_) (fun c_26 => ?_)
        · --t
          refine lv_aload_n hx hb dX6_undo_56 rfl (lv_at hl 0 rfl) ?_
          refine va_get (D := D) (ci := 6) (v := .int (Z1.1 0)) (C := RX6) (T := TX6) (N := 13) hx hb hts hinX6 hown hK hP 0 rfl rfl 4 (by decide) (hts (.fieldLink RX6 35 "JoinGrantsModel" "historyLong" "I") (List.mem_of_getElem? (i := 1) rfl)) (fun _ h9 => h9) rfl dX6_undo_57 ?_
          exact xiret hx hb hr hlk hP hD hS (congrArg (fun z => z.1) (hg.trans (show gX6_undo_L22 Z 0 i Z1 = (Z1.1 0, Z1) from rfl))).symm (congrArg (fun z => modW ck ma z.2) (hg.trans (show gX6_undo_L22 Z 0 i Z1 = (Z1.1 0, Z1) from rfl))).symm dX6_undo_60
        · --f
          exact absurd (nI_le (by omega) (by omega)) c_26
      | succ fu ih22 =>
        intro i Z1 hif hq hg H locs ls hP hD hS hl
        refine lv_iload_n hx hb dX6_undo_22 rfl (lv_at hl 1 rfl) ?_
        refine lv_sipush (v := (nI 153)) hx hb dX6_undo_23 (by decide) ?_
        refine lv_icmp_ge (tgt := 56) hx hb dX6_undo_26 (by decide) (fun c_26 => ?_) (fun c_26 => ?_)
        · --t
          exact absurd c_26 (nI_ge (by omega) (by omega))
        · --f
          refine lv_aload_n hx hb dX6_undo_29 rfl (lv_at hl 0 rfl) ?_
          refine va_get (D := D) (ci := 6) (v := .ref (ma 1)) (C := RX6) (T := TX6) (N := 13) hx hb hts hinX6 hown hK hP 0 rfl rfl 0 (by decide) (hts (.fieldLink RX6 7 "JoinGrantsModel" "all" "[I") (List.mem_of_getElem? (i := 2) rfl)) (fun _ h9 => h9) rfl dX6_undo_30 ?_
          refine lv_iload_n hx hb dX6_undo_33 rfl (lv_at hl 1 rfl) ?_
          refine lv_aload_n hx hb dX6_undo_34 rfl (lv_at hl 0 rfl) ?_
          refine va_get (D := D) (ci := 6) (v := .ref (ma 4)) (C := RX6) (T := TX6) (N := 13) hx hb hts hinX6 hown hK hP 0 rfl rfl 3 (by decide) (hts (.fieldLink RX6 19 "JoinGrantsModel" "history" "[I") (List.mem_of_getElem? (i := 3) rfl)) (fun _ h9 => h9) rfl dX6_undo_35 ?_
          refine lv_sipush (v := (nI 153)) hx hb dX6_undo_38 (by decide) ?_
          refine lv_aload_n hx hb dX6_undo_41 rfl (lv_at hl 0 rfl) ?_
          refine va_get (D := D) (ci := 6) (v := .int (Z1.1 0)) (C := RX6) (T := TX6) (N := 13) hx hb hts hinX6 hown hK hP 0 rfl rfl 4 (by decide) (hts (.fieldLink RX6 35 "JoinGrantsModel" "historyLong" "I") (List.mem_of_getElem? (i := 1) rfl)) (fun _ h9 => h9) rfl dX6_undo_42 ?_
          refine lv_imul hx hb dX6_undo_45 ?_
          refine lv_iload_n hx hb dX6_undo_46 rfl (lv_at hl 1 rfl) ?_
          refine lv_iadd hx hb dX6_undo_47 ?_
          refine xiald (j := (153 * (Z1.1 0).toNatClampNeg + i)) (hs_c2 hq (by omega)) hx hb hK hP 4 0 rfl rfl (hs_i2 hq (by omega)) dX6_undo_48 ?_
          refine xiast (j := i) (nI_clamp (by omega)) hx hb hK hP hD hS 1 0 rfl rfl (vp_in_nI (by omega) (by omega)) dX6_undo_49 (fun H locs hP hD hS => ?_)
          have hP : va_P D vwCl (modW ck ma (Z1.1, upd Z1.2.1 i (Z1.2.2.2.2.1 (153 * (Z1.1 0).toNatClampNeg + i)), Z1.2.2.1, Z1.2.2.2.1, Z1.2.2.2.2.1, Z1.2.2.2.2.2.1, Z1.2.2.2.2.2.2.1, Z1.2.2.2.2.2.2.2)) H := hP
          have hD : va_D (va_A (modW ck ma Z) s.heap.size) (modW ck ma (Z1.1, upd Z1.2.1 i (Z1.2.2.2.2.1 (153 * (Z1.1 0).toNatClampNeg + i)), Z1.2.2.1, Z1.2.2.2.1, Z1.2.2.2.2.1, Z1.2.2.2.2.2.1, Z1.2.2.2.2.2.2.1, Z1.2.2.2.2.2.2.2)) := hD
          refine lv_iinc (v := (nI (i + 1))) (lv' := [(1, .int (nI (i + 1))), (0, .ref (ma 0))]) hx hb dX6_undo_50 hl (k := 1) rfl (nI_1 i) (by decide) rfl (fun ls hl => ?_)
          refine lv_goto (tgt := 22) hx hb dX6_undo_53 (by decide) ?_
          exact ih22 (i + 1) (Z1.1, upd Z1.2.1 i (Z1.2.2.2.2.1 (153 * (Z1.1 0).toNatClampNeg + i)), Z1.2.2.1, Z1.2.2.2.1, Z1.2.2.2.2.1, Z1.2.2.2.2.2.1, Z1.2.2.2.2.2.2.1, Z1.2.2.2.2.2.2.2) (by omega) hq (hg.trans (show gX6_undo_L22 Z (fu + 1) i Z1 = (gX6_undo_L22 Z fu (i + 1) (Z1.1, upd Z1.2.1 i (Z1.2.2.2.2.1 (153 * (Z1.1 0).toNatClampNeg + i)), Z1.2.2.1, Z1.2.2.2.1, Z1.2.2.2.2.1, Z1.2.2.2.2.2.1, Z1.2.2.2.2.2.2.1, Z1.2.2.2.2.2.2.2)) from rfl)) _ _ _ hP hD hS (lv_sub hl [1, 0] rfl)
    exact loop22 153 0 (upd Z.1 0 ((Z.1 0) - 1), Z.2.1, Z.2.2.1, Z.2.2.2.1, Z.2.2.2.2.1, Z.2.2.2.2.2.1, Z.2.2.2.2.2.2.1, Z.2.2.2.2.2.2.2) (by omega) (hs_u hh c_4) (show gX6_undo Z = (gX6_undo_L22 Z 153 0 (upd Z.1 0 ((Z.1 0) - 1), Z.2.1, Z.2.2.1, Z.2.2.2.1, Z.2.2.2.2.1, Z.2.2.2.2.2.1, Z.2.2.2.2.2.2.1, Z.2.2.2.2.2.2.2)) from (Eq.trans (if_neg c_4) rfl)) _ _ _ hP hD hS (lv_sub hl [1, 0] rfl)
  · --f
    refine lv_bipush (v := (-5)) hx hb dX6_undo_7 (by decide) ?_
    exact xiret hx hb hr hlk hP hD hS (congrArg (fun z => z.1) (show gX6_undo Z = ((-5), Z) from (Eq.trans (if_pos c_4) rfl))).symm (congrArg (fun z => modW ck ma z.2) (show gX6_undo Z = ((-5), Z) from (Eq.trans (if_pos c_4) rfl))).symm dX6_undo_9

def rmX6_keep : Room := { frames := 1, cells := 0, slots := 0, locals := 22 }
set_option maxHeartbeats 4000000 in
set_option maxRecDepth 100000 in
theorem mX6_keep (l : Launch) (D : va_G) (ck : Nat → ClassId) (ma : Nat → Nat) (Z : MS) : xMi l yX6_keep wsX6_keep rmX6_keep D ck [.ref (ma 0)] (modW ck ma Z) (modW ck ma ((gX6_keep Z).2)) ((gX6_keep Z).1) 0 0 := by
  refine xMet (by decide) rfl (Nat.le_of_ble_eq_true rfl) ?_
  intro zp ze s zm zb zt zc hx hb hr hml hown hts hlk hnm hN hK hP hD ls hl
  have hown : s.vm.findClass RX6 = some zm.cls := hown
  have hl : lv_has ls 1 [(0, .ref (ma 0))] := hl
  have hS : va_S (va_A (modW ck ma Z) s.heap.size) s.heap s.heap [] := va_S.rf
  have hA : ∀ zq : Nat, s.heap.size ≤ zq → va_A (modW ck ma Z) s.heap.size zq := fun zq h => Or.inr h
  have hinX6 : ∀ w ∈ u_ws RX6 TX6 13, w ∈ wsX6_keep := by decide +kernel
  refine lv_aload_n hx hb dX6_keep_0 rfl (lv_at hl 0 rfl) ?_
  refine va_get (D := D) (ci := 6) (v := .ref (ma 1)) (C := RX6) (T := TX6) (N := 13) hx hb hts hinX6 hown hK hP 0 rfl rfl 0 (by decide) (hts (.fieldLink RX6 7 "JoinGrantsModel" "all" "[I") (List.mem_of_getElem? (i := 1) rfl)) (fun _ h9 => h9) rfl dX6_keep_1 ?_
  refine lv_aload_n hx hb dX6_keep_4 rfl (lv_at hl 0 rfl) ?_
  refine va_get (D := D) (ci := 6) (v := .ref (ma 5)) (C := RX6) (T := TX6) (N := 13) hx hb hts hinX6 hown hK hP 0 rfl rfl 5 (by decide) (hts (.fieldLink RX6 22 "JoinGrantsModel" "snapshot" "[I") (List.mem_of_getElem? (i := 2) rfl)) (fun _ h9 => h9) rfl dX6_keep_5 ?_
  refine xretv (va_runS (As := [.ref (ma 1), .ref (ma 5)]) (rest := []) ⟨hx, hb, hml, hown, hts⟩ (mX6_copy l D ck (ma 1) Z.2.1 (ma 5) Z.2.2.2.2.2.1 _) (va_cwS 2 hts gX6_keep_X6_copy rfl rfl rfl (by decide +kernel) ⟨Nat.le_of_ble_eq_true rfl, Nat.le_of_ble_eq_true rfl⟩) (xpreS hN hK hP hD (pm_15 Z)) rfl rfl hl.1 rfl (lv_room (Nat.le_of_ble_eq_true rfl)) dX6_keep_8 ⟨Nat.le_of_ble_eq_true rfl, Nat.le_of_ble_eq_true rfl⟩) hP hD hS hA (pm_15 Z) (pm_15' Z) (fun H locs hP hD hS => ?_)
  have hP : va_P D vwCl (modW ck ma (Z.1, Z.2.1, Z.2.2.1, Z.2.2.2.1, Z.2.2.2.2.1, gX6_copy Z.2.1 Z.2.2.2.2.2.1, Z.2.2.2.2.2.2.1, Z.2.2.2.2.2.2.2)) H := hP
  have hD : va_D (va_A (modW ck ma Z) s.heap.size) (modW ck ma (Z.1, Z.2.1, Z.2.2.1, Z.2.2.2.1, Z.2.2.2.2.1, gX6_copy Z.2.1 Z.2.2.2.2.2.1, Z.2.2.2.2.2.2.1, Z.2.2.2.2.2.2.2)) := hD
  refine lv_aload_n hx hb dX6_keep_11 rfl (lv_at hl 0 rfl) ?_
  refine lv_iconst (v := 1) hx hb dX6_keep_12 (by decide) ?_
  refine va_put (D := D) (ci := 6) (v := .int 1) (ty := .int) (C := RX6) (T := TX6) (N := 13) hx hb hts hinX6 tyX6 tyX6_ok nmX6 hown hK hP hD hS 0 rfl rfl 6 (by decide) (hts (.fieldLink RX6 183 "JoinGrantsModel" "isTaken" "I") (List.mem_of_getElem? (i := 3) rfl)) (fun _ h9 => h9) rfl (by decide +kernel) rfl rfl (Nat.le_of_ble_eq_true rfl) dX6_keep_13 (fun H locs hP hD hS => ?_)
  have hP : va_P D vwCl (modW ck ma (upd Z.1 1 1, Z.2.1, Z.2.2.1, Z.2.2.2.1, Z.2.2.2.2.1, gX6_copy Z.2.1 Z.2.2.2.2.2.1, Z.2.2.2.2.2.2.1, Z.2.2.2.2.2.2.2)) H := hP
  have hD : va_D (va_A (modW ck ma Z) s.heap.size) (modW ck ma (upd Z.1 1 1, Z.2.1, Z.2.2.1, Z.2.2.2.1, Z.2.2.2.2.1, gX6_copy Z.2.1 Z.2.2.2.2.2.1, Z.2.2.2.2.2.2.1, Z.2.2.2.2.2.2.2)) := hD
  refine lv_aload_n hx hb dX6_keep_16 rfl (lv_at hl 0 rfl) ?_
  refine va_get (D := D) (ci := 6) (v := .ref (ma 1)) (C := RX6) (T := TX6) (N := 13) hx hb hts hinX6 hown hK hP 0 rfl rfl 0 (by decide) (hts (.fieldLink RX6 7 "JoinGrantsModel" "all" "[I") (List.mem_of_getElem? (i := 1) rfl)) (fun _ h9 => h9) rfl dX6_keep_17 ?_
  refine lv_bipush (v := 6) hx hb dX6_keep_20 (by decide) ?_
  refine xiald (j := 6) (by decide) hx hb hK hP 1 0 rfl rfl (show vp_in 6 153 from by unfold vp_in; decide) dX6_keep_22 ?_
  exact xiret hx hb hr hlk hP hD hS (congrArg (fun z => z.1) (show gX6_keep Z = ((Z.2.1 6), (upd Z.1 1 1, Z.2.1, Z.2.2.1, Z.2.2.2.1, Z.2.2.2.2.1, gX6_copy Z.2.1 Z.2.2.2.2.2.1, Z.2.2.2.2.2.2.1, Z.2.2.2.2.2.2.2)) from rfl)).symm (congrArg (fun z => modW ck ma z.2) (show gX6_keep Z = ((Z.2.1 6), (upd Z.1 1 1, Z.2.1, Z.2.2.1, Z.2.2.2.1, Z.2.2.2.2.1, gX6_copy Z.2.1 Z.2.2.2.2.2.1, Z.2.2.2.2.2.2.1, Z.2.2.2.2.2.2.2)) from rfl)).symm dX6_keep_23

def rmX6_restore : Room := { frames := 2, cells := 0, slots := 0, locals := 42 }
set_option maxHeartbeats 4000000 in
set_option maxRecDepth 100000 in
theorem mX6_restore (l : Launch) (D : va_G) (ck : Nat → ClassId) (ma : Nat → Nat) (Z : MS)  (hh : hx4 (Z.1 0)) : xMi l yX6_restore wsX6_restore rmX6_restore D ck [.ref (ma 0)] (modW ck ma Z) (modW ck ma ((gX6_restore Z).2)) ((gX6_restore Z).1) 0 0 := by
  refine xMet (by decide) rfl (Nat.le_of_ble_eq_true rfl) ?_
  intro zp ze s zm zb zt zc hx hb hr hml hown hts hlk hnm hN hK hP hD ls hl
  have hown : s.vm.findClass RX6 = some zm.cls := hown
  have hl : lv_has ls 1 [(0, .ref (ma 0))] := hl
  have hS : va_S (va_A (modW ck ma Z) s.heap.size) s.heap s.heap [] := va_S.rf
  have hA : ∀ zq : Nat, s.heap.size ≤ zq → va_A (modW ck ma Z) s.heap.size zq := fun zq h => Or.inr h
  have hinX6 : ∀ w ∈ u_ws RX6 TX6 13, w ∈ wsX6_restore := by decide +kernel
  refine lv_aload_n hx hb dX6_restore_0 rfl (lv_at hl 0 rfl) ?_
  refine va_get (D := D) (ci := 6) (v := .int (Z.1 1)) (C := RX6) (T := TX6) (N := 13) hx hb hts hinX6 hown hK hP 0 rfl rfl 6 (by decide) (hts (.fieldLink RX6 183 "JoinGrantsModel" "isTaken" "I") (List.mem_of_getElem? (i := 1) rfl)) (fun _ h9 => h9) rfl dX6_restore_1 ?_
  refine lv_if_ne (tgt := 10) hx hb dX6_restore_4 (by decide) (fun c_4 => ?_) (fun c_4 => ?_)
  · --t
    refine lv_aload_n hx hb dX6_restore_10 rfl (lv_at hl 0 rfl) ?_
    refine xretv (va_runV (As := []) (rest := []) ⟨hx, hb, hml, hown, hts⟩ (mX6_remember l D ck ma Z   _) (cwV 0 hts gX6_restore_X6_remember rfl rfl rfl (by decide +kernel) ⟨Nat.le_of_ble_eq_true rfl, Nat.le_of_ble_eq_true rfl⟩) (xpreV hN hK hP hD pm_all 0 rfl rfl rfl) rfl rfl hl.1 rfl (lv_room (Nat.le_of_ble_eq_true rfl)) dX6_restore_11 ⟨Nat.le_of_ble_eq_true rfl, Nat.le_of_ble_eq_true rfl⟩) hP hD hS hA pm_all pm_all' (fun H locs hP hD hS => ?_)
    have hP : va_P D vwCl (modW ck ma (Z.1, Z.2.1, gX6_copy Z.2.1 Z.2.2.1, Z.2.2.2.1, Z.2.2.2.2.1, Z.2.2.2.2.2.1, Z.2.2.2.2.2.2.1, Z.2.2.2.2.2.2.2)) H := hP
    have hD : va_D (va_A (modW ck ma Z) s.heap.size) (modW ck ma (Z.1, Z.2.1, gX6_copy Z.2.1 Z.2.2.1, Z.2.2.2.1, Z.2.2.2.2.1, Z.2.2.2.2.2.1, Z.2.2.2.2.2.2.1, Z.2.2.2.2.2.2.2)) := hD
    refine lv_aload_n hx hb dX6_restore_14 rfl (lv_at hl 0 rfl) ?_
    refine va_get (D := D) (ci := 6) (v := .ref (ma 5)) (C := RX6) (T := TX6) (N := 13) hx hb hts hinX6 hown hK hP 0 rfl rfl 5 (by decide) (hts (.fieldLink RX6 22 "JoinGrantsModel" "snapshot" "[I") (List.mem_of_getElem? (i := 2) rfl)) (fun _ h9 => h9) rfl dX6_restore_15 ?_
    refine lv_aload_n hx hb dX6_restore_18 rfl (lv_at hl 0 rfl) ?_
    refine va_get (D := D) (ci := 6) (v := .ref (ma 1)) (C := RX6) (T := TX6) (N := 13) hx hb hts hinX6 hown hK hP 0 rfl rfl 0 (by decide) (hts (.fieldLink RX6 7 "JoinGrantsModel" "all" "[I") (List.mem_of_getElem? (i := 3) rfl)) (fun _ h9 => h9) rfl dX6_restore_19 ?_
    refine xretv (va_runS (As := [.ref (ma 5), .ref (ma 1)]) (rest := []) ⟨hx, hb, hml, hown, hts⟩ (mX6_copy l D ck (ma 5) Z.2.2.2.2.2.1 (ma 1) Z.2.1 _) (va_cwS 2 hts gX6_restore_X6_copy rfl rfl rfl (by decide +kernel) ⟨Nat.le_of_ble_eq_true rfl, Nat.le_of_ble_eq_true rfl⟩) (xpreS hN hK hP hD (pm_51 (Z.1, Z.2.1, gX6_copy Z.2.1 Z.2.2.1, Z.2.2.2.1, Z.2.2.2.2.1, Z.2.2.2.2.2.1, Z.2.2.2.2.2.2.1, Z.2.2.2.2.2.2.2))) rfl rfl hl.1 rfl (lv_room (Nat.le_of_ble_eq_true rfl)) dX6_restore_22 ⟨Nat.le_of_ble_eq_true rfl, Nat.le_of_ble_eq_true rfl⟩) hP hD hS hA (pm_51 (Z.1, Z.2.1, gX6_copy Z.2.1 Z.2.2.1, Z.2.2.2.1, Z.2.2.2.2.1, Z.2.2.2.2.2.1, Z.2.2.2.2.2.2.1, Z.2.2.2.2.2.2.2)) (pm_51' (Z.1, Z.2.1, gX6_copy Z.2.1 Z.2.2.1, Z.2.2.2.1, Z.2.2.2.2.1, Z.2.2.2.2.2.1, Z.2.2.2.2.2.2.1, Z.2.2.2.2.2.2.2)) (fun H locs hP hD hS => ?_)
    have hP : va_P D vwCl (modW ck ma (Z.1, gX6_copy Z.2.2.2.2.2.1 Z.2.1, gX6_copy Z.2.1 Z.2.2.1, Z.2.2.2.1, Z.2.2.2.2.1, Z.2.2.2.2.2.1, Z.2.2.2.2.2.2.1, Z.2.2.2.2.2.2.2)) H := hP
    have hD : va_D (va_A (modW ck ma Z) s.heap.size) (modW ck ma (Z.1, gX6_copy Z.2.2.2.2.2.1 Z.2.1, gX6_copy Z.2.1 Z.2.2.1, Z.2.2.2.1, Z.2.2.2.2.1, Z.2.2.2.2.2.1, Z.2.2.2.2.2.2.1, Z.2.2.2.2.2.2.2)) := hD
    refine lv_aload_n hx hb dX6_restore_25 rfl (lv_at hl 0 rfl) ?_
    refine lv_aload_n hx hb dX6_restore_26 rfl (lv_at hl 0 rfl) ?_
    refine va_get (D := D) (ci := 6) (v := .ref (ma 1)) (C := RX6) (T := TX6) (N := 13) hx hb hts hinX6 hown hK hP 0 rfl rfl 0 (by decide) (hts (.fieldLink RX6 7 "JoinGrantsModel" "all" "[I") (List.mem_of_getElem? (i := 3) rfl)) (fun _ h9 => h9) rfl dX6_restore_27 ?_
    refine lv_bipush (v := 6) hx hb dX6_restore_30 (by decide) ?_
    refine xiald (j := 6) (by decide) hx hb hK hP 1 0 rfl rfl (show vp_in 6 153 from by unfold vp_in; decide) dX6_restore_32 ?_
    refine xreti (va_runV (As := [.int ((gX6_copy Z.2.2.2.2.2.1 Z.2.1) 6)]) (rest := []) ⟨hx, hb, hml, hown, hts⟩ (mX6_acted l D ck ma (Z.1, gX6_copy Z.2.2.2.2.2.1 Z.2.1, gX6_copy Z.2.1 Z.2.2.1, Z.2.2.2.1, Z.2.2.2.2.1, Z.2.2.2.2.2.1, Z.2.2.2.2.2.2.1, Z.2.2.2.2.2.2.2) ((gX6_copy Z.2.2.2.2.2.1 Z.2.1) 6) hh _) (cwV 1 hts gX6_restore_X6_acted rfl rfl rfl (by decide +kernel) ⟨Nat.le_of_ble_eq_true rfl, Nat.le_of_ble_eq_true rfl⟩) (xpreV hN hK hP hD pm_all 0 rfl rfl rfl) rfl rfl hl.1 rfl (lv_room (Nat.le_of_ble_eq_true rfl)) dX6_restore_33 ⟨Nat.le_of_ble_eq_true rfl, Nat.le_of_ble_eq_true rfl⟩) hP hD hS hA pm_all pm_all' (fun H locs hP hD hS => ?_)
    have hP : va_P D vwCl (modW ck ma ((gX6_acted (Z.1, gX6_copy Z.2.2.2.2.2.1 Z.2.1, gX6_copy Z.2.1 Z.2.2.1, Z.2.2.2.1, Z.2.2.2.2.1, Z.2.2.2.2.2.1, Z.2.2.2.2.2.2.1, Z.2.2.2.2.2.2.2) ((gX6_copy Z.2.2.2.2.2.1 Z.2.1) 6)).2)) H := hP
    have hD : va_D (va_A (modW ck ma Z) s.heap.size) (modW ck ma ((gX6_acted (Z.1, gX6_copy Z.2.2.2.2.2.1 Z.2.1, gX6_copy Z.2.1 Z.2.2.1, Z.2.2.2.1, Z.2.2.2.2.1, Z.2.2.2.2.2.1, Z.2.2.2.2.2.2.1, Z.2.2.2.2.2.2.2) ((gX6_copy Z.2.2.2.2.2.1 Z.2.1) 6)).2)) := hD
    exact xiret hx hb hr hlk hP hD hS (congrArg (fun z => z.1) (show gX6_restore Z = ((gX6_acted (Z.1, gX6_copy Z.2.2.2.2.2.1 Z.2.1, gX6_copy Z.2.1 Z.2.2.1, Z.2.2.2.1, Z.2.2.2.2.1, Z.2.2.2.2.2.1, Z.2.2.2.2.2.2.1, Z.2.2.2.2.2.2.2) ((gX6_copy Z.2.2.2.2.2.1 Z.2.1) 6)).1, (gX6_acted (Z.1, gX6_copy Z.2.2.2.2.2.1 Z.2.1, gX6_copy Z.2.1 Z.2.2.1, Z.2.2.2.1, Z.2.2.2.2.1, Z.2.2.2.2.2.1, Z.2.2.2.2.2.2.1, Z.2.2.2.2.2.2.2) ((gX6_copy Z.2.2.2.2.2.1 Z.2.1) 6)).2) from (Eq.trans (if_neg c_4) rfl))).symm (congrArg (fun z => modW ck ma z.2) (show gX6_restore Z = ((gX6_acted (Z.1, gX6_copy Z.2.2.2.2.2.1 Z.2.1, gX6_copy Z.2.1 Z.2.2.1, Z.2.2.2.1, Z.2.2.2.2.1, Z.2.2.2.2.2.1, Z.2.2.2.2.2.2.1, Z.2.2.2.2.2.2.2) ((gX6_copy Z.2.2.2.2.2.1 Z.2.1) 6)).1, (gX6_acted (Z.1, gX6_copy Z.2.2.2.2.2.1 Z.2.1, gX6_copy Z.2.1 Z.2.2.1, Z.2.2.2.1, Z.2.2.2.2.1, Z.2.2.2.2.2.1, Z.2.2.2.2.2.2.1, Z.2.2.2.2.2.2.2) ((gX6_copy Z.2.2.2.2.2.1 Z.2.1) 6)).2) from (Eq.trans (if_neg c_4) rfl))).symm dX6_restore_36
  · --f
    refine lv_bipush (v := (-5)) hx hb dX6_restore_7 (by decide) ?_
    exact xiret hx hb hr hlk hP hD hS (congrArg (fun z => z.1) (show gX6_restore Z = ((-5), Z) from (Eq.trans (if_pos c_4) rfl))).symm (congrArg (fun z => modW ck ma z.2) (show gX6_restore Z = ((-5), Z) from (Eq.trans (if_pos c_4) rfl))).symm dX6_restore_9

def rmX6_doneIn : Room := { frames := 10, cells := 0, slots := 0, locals := 234 }
set_option maxHeartbeats 4000000 in
set_option maxRecDepth 100000 in
theorem mX6_doneIn (l : Launch) (D : va_G) (ck : Nat → ClassId) (ma : Nat → Nat) (Z : MS) (a1 : Int32) (hm : mInv Z.2.1) : xMi l yX6_doneIn wsX6_doneIn rmX6_doneIn D ck [.ref (ma 0), .int a1] (modW ck ma Z) (modW ck ma ((gX6_doneIn Z a1).2)) ((gX6_doneIn Z a1).1) 0 0 := by
  refine xMet (by decide) rfl (Nat.le_of_ble_eq_true rfl) ?_
  intro zp ze s zm zb zt zc hx hb hr hml hown hts hlk hnm hN hK hP hD ls hl
  have hown : s.vm.findClass RX6 = some zm.cls := hown
  have hl : lv_has ls 4 [(0, .ref (ma 0)), (1, .int a1)] := hl
  have hS : va_S (va_A (modW ck ma Z) s.heap.size) s.heap s.heap [] := va_S.rf
  have hA : ∀ zq : Nat, s.heap.size ≤ zq → va_A (modW ck ma Z) s.heap.size zq := fun zq h => Or.inr h
  have hinX6 : ∀ w ∈ u_ws RX6 TX6 13, w ∈ wsX6_doneIn := by decide +kernel
  refine lv_aload_n hx hb dX6_doneIn_0 rfl (lv_at hl 0 rfl) ?_
  refine lv_iload_n hx hb dX6_doneIn_1 rfl (lv_at hl 1 rfl) ?_
  refine xreti (va_runV (As := [.int a1]) (rest := []) ⟨hx, hb, hml, hown, hts⟩ (mX6_isJoin l D ck ma Z.1 Z.2.1 a1  _) (cwV 1 hts gX6_doneIn_X6_isJoin rfl rfl rfl (by decide +kernel) ⟨Nat.le_of_ble_eq_true rfl, Nat.le_of_ble_eq_true rfl⟩) (xpreV hN hK hP hD (pm_core Z) 0 rfl rfl rfl) rfl rfl hl.1 rfl (lv_room (Nat.le_of_ble_eq_true rfl)) dX6_doneIn_2 ⟨Nat.le_of_ble_eq_true rfl, Nat.le_of_ble_eq_true rfl⟩) hP hD hS hA (pm_core Z) (pm_core Z).symm (fun H locs hP hD hS => ?_)
  refine lv_if_ne (tgt := 10) hx hb dX6_doneIn_5 (by decide) (fun c_5 => ?_) (fun c_5 => ?_)
  · --t
    obtain ⟨hjx, hjn⟩ := ij_of hm c_5
    have hj16 : a1.toNatClampNeg < 16 := Nat.lt_of_lt_of_le hjn (n_le hm)
    refine lv_aload_n hx hb dX6_doneIn_10 rfl (lv_at hl 0 rfl) ?_
    refine lv_iload_n hx hb dX6_doneIn_11 rfl (lv_at hl 1 rfl) ?_
    refine lv_iconst (v := 3) hx hb dX6_doneIn_12 (by decide) ?_
    refine xreti (va_runV (As := [.int a1, .int 3]) (rest := []) ⟨hx, hb, hml, hown, hts⟩ (mX6_is l D ck ma Z.1 Z.2.1 a1 a1.toNatClampNeg hjx (by omega) 3  _) (cwV 2 hts gX6_doneIn_X6_is rfl rfl rfl (by decide +kernel) ⟨Nat.le_of_ble_eq_true rfl, Nat.le_of_ble_eq_true rfl⟩) (xpreV hN hK hP hD (pm_core Z) 0 rfl rfl rfl) rfl rfl hl.1 rfl (lv_room (Nat.le_of_ble_eq_true rfl)) dX6_doneIn_13 ⟨Nat.le_of_ble_eq_true rfl, Nat.le_of_ble_eq_true rfl⟩) hP hD hS hA (pm_core Z) (pm_core Z).symm (fun H locs hP hD hS => ?_)
    refine lv_if_eq (tgt := 22) hx hb dX6_doneIn_16 (by decide) (fun c_16 => ?_) (fun c_16 => ?_)
    · --t
      refine lv_aload_n hx hb dX6_doneIn_22 rfl (lv_at hl 0 rfl) ?_
      refine va_get (D := D) (ci := 6) (v := .ref (ma 1)) (C := RX6) (T := TX6) (N := 13) hx hb hts hinX6 hown hK hP 0 rfl rfl 0 (by decide) (hts (.fieldLink RX6 7 "JoinGrantsModel" "all" "[I") (List.mem_of_getElem? (i := 1) rfl)) (fun _ h9 => h9) rfl dX6_doneIn_23 ?_
      refine lv_aload_n hx hb dX6_doneIn_26 rfl (lv_at hl 0 rfl) ?_
      refine va_get (D := D) (ci := 6) (v := .ref (ma 3)) (C := RX6) (T := TX6) (N := 13) hx hb hts hinX6 hown hK hP 0 rfl rfl 2 (by decide) (hts (.fieldLink RX6 16 "JoinGrantsModel" "tried" "[I") (List.mem_of_getElem? (i := 2) rfl)) (fun _ h9 => h9) rfl dX6_doneIn_27 ?_
      refine xretv (va_runS (As := [.ref (ma 1), .ref (ma 3)]) (rest := []) ⟨hx, hb, hml, hown, hts⟩ (mX6_copy l D ck (ma 1) Z.2.1 (ma 3) Z.2.2.2.1 _) (va_cwS 2 hts gX6_doneIn_X6_copy rfl rfl rfl (by decide +kernel) ⟨Nat.le_of_ble_eq_true rfl, Nat.le_of_ble_eq_true rfl⟩) (xpreS hN hK hP hD (pm_13 Z)) rfl rfl hl.1 rfl (lv_room (Nat.le_of_ble_eq_true rfl)) dX6_doneIn_30 ⟨Nat.le_of_ble_eq_true rfl, Nat.le_of_ble_eq_true rfl⟩) hP hD hS hA (pm_13 Z) (pm_13' Z) (fun H locs hP hD hS => ?_)
      have hP : va_P D vwCl (modW ck ma (Z.1, Z.2.1, Z.2.2.1, gX6_copy Z.2.1 Z.2.2.2.1, Z.2.2.2.2.1, Z.2.2.2.2.2.1, Z.2.2.2.2.2.2.1, Z.2.2.2.2.2.2.2)) H := hP
      have hD : va_D (va_A (modW ck ma Z) s.heap.size) (modW ck ma (Z.1, Z.2.1, Z.2.2.1, gX6_copy Z.2.1 Z.2.2.2.1, Z.2.2.2.2.1, Z.2.2.2.2.2.1, Z.2.2.2.2.2.2.1, Z.2.2.2.2.2.2.2)) := hD
      refine lv_iconst (v := (nI 0)) hx hb dX6_doneIn_33 (by decide) ?_
      refine lv_istore_n (lv' := [(2, .int (nI 0)), (0, .ref (ma 0)), (1, .int a1)]) hx hb dX6_doneIn_34 rfl hl (by decide) rfl (fun ls hl => ?_)
      have loop35 : ∀ (fu : Nat) (i : Nat) (Z1 : MS), (i + fu = 20001) → (mInv Z1.2.1) → gX6_doneIn Z a1 = gX6_doneIn_L35 Z a1 fu i Z1 → ∀ (H : Heap) (locs : List Loc) (ls : Array Slot), va_P D vwCl (modW ck ma Z1) H → va_D (va_A (modW ck ma Z) s.heap.size) (modW ck ma Z1) → va_S (va_A (modW ck ma Z) s.heap.size) s.heap H locs → lv_has ls 4 [(0, .ref (ma 0)), (1, .int a1), (2, .int (nI i))] → W zp l ze rmX6_doneIn s zm ([.ref (ma 0), .int a1] : List Value).toArray zb zt zc H locs 0 0 (MQ zb (xQi D (modW ck ma Z) (modW ck ma ((gX6_doneIn Z a1).2)) ((gX6_doneIn Z a1).1) s.heap.size) ([.ref (ma 0), .int a1] : List Value).toArray s 0 0 (va_A (modW ck ma Z) s.heap.size)) (F0 zm 35 ls []) := by
        intro fu
        induction fu with
        | zero =>
          intro i Z1 hif hm hg H locs ls hP hD hS hl
          refine lv_aload_n hx hb dX6_doneIn_35 rfl (lv_at hl 0 rfl) ?_
          refine lv_iload_n hx hb dX6_doneIn_36 rfl (lv_at hl 1 rfl) ?_
          refine lv_iconst (v := 2) hx hb dX6_doneIn_37 (by decide) ?_
          refine xreti (va_runV (As := [.int a1, .int 2]) (rest := []) ⟨hx, hb, hml, hown, hts⟩ (mX6_is l D ck ma Z1.1 Z1.2.1 a1 a1.toNatClampNeg hjx (by omega) 2  _) (cwV 2 hts gX6_doneIn_X6_is rfl rfl rfl (by decide +kernel) ⟨Nat.le_of_ble_eq_true rfl, Nat.le_of_ble_eq_true rfl⟩) (xpreV hN hK hP hD (pm_core Z1) 0 rfl rfl rfl) rfl rfl hl.1 rfl (lv_room (Nat.le_of_ble_eq_true rfl)) dX6_doneIn_38 ⟨Nat.le_of_ble_eq_true rfl, Nat.le_of_ble_eq_true rfl⟩) hP hD hS hA (pm_core Z1) (pm_core Z1).symm (fun H locs hP hD hS => ?_)
          refine lv_if_ne (tgt := 62) hx hb dX6_doneIn_41 (by decide) (fun c_41 => ?_) (fun c_41 => ?_)
          · --t
            refine lv_aload_n hx hb dX6_doneIn_62 rfl (lv_at hl 0 rfl) ?_
            refine va_get (D := D) (ci := 6) (v := .ref (ma 3)) (C := RX6) (T := TX6) (N := 13) hx hb hts hinX6 hown hK hP 0 rfl rfl 2 (by decide) (hts (.fieldLink RX6 16 "JoinGrantsModel" "tried" "[I") (List.mem_of_getElem? (i := 2) rfl)) (fun _ h9 => h9) rfl dX6_doneIn_63 ?_
            refine lv_aload_n hx hb dX6_doneIn_66 rfl (lv_at hl 0 rfl) ?_
            refine va_get (D := D) (ci := 6) (v := .ref (ma 1)) (C := RX6) (T := TX6) (N := 13) hx hb hts hinX6 hown hK hP 0 rfl rfl 0 (by decide) (hts (.fieldLink RX6 7 "JoinGrantsModel" "all" "[I") (List.mem_of_getElem? (i := 1) rfl)) (fun _ h9 => h9) rfl dX6_doneIn_67 ?_
            refine xretv (va_runS (As := [.ref (ma 3), .ref (ma 1)]) (rest := []) ⟨hx, hb, hml, hown, hts⟩ (mX6_copy l D ck (ma 3) Z1.2.2.2.1 (ma 1) Z1.2.1 _) (va_cwS 2 hts gX6_doneIn_X6_copy rfl rfl rfl (by decide +kernel) ⟨Nat.le_of_ble_eq_true rfl, Nat.le_of_ble_eq_true rfl⟩) (xpreS hN hK hP hD (pm_31 Z1)) rfl rfl hl.1 rfl (lv_room (Nat.le_of_ble_eq_true rfl)) dX6_doneIn_70 ⟨Nat.le_of_ble_eq_true rfl, Nat.le_of_ble_eq_true rfl⟩) hP hD hS hA (pm_31 Z1) (pm_31' Z1) (fun H locs hP hD hS => ?_)
            have hP : va_P D vwCl (modW ck ma (Z1.1, gX6_copy Z1.2.2.2.1 Z1.2.1, Z1.2.2.1, Z1.2.2.2.1, Z1.2.2.2.2.1, Z1.2.2.2.2.2.1, Z1.2.2.2.2.2.2.1, Z1.2.2.2.2.2.2.2)) H := hP
            have hD : va_D (va_A (modW ck ma Z) s.heap.size) (modW ck ma (Z1.1, gX6_copy Z1.2.2.2.1 Z1.2.1, Z1.2.2.1, Z1.2.2.2.1, Z1.2.2.2.2.1, Z1.2.2.2.2.2.1, Z1.2.2.2.2.2.2.1, Z1.2.2.2.2.2.2.2)) := hD
            refine lv_iload_n hx hb dX6_doneIn_73 rfl (lv_at hl 2 rfl) ?_
            refine lv_sipush (v := (nI 20000)) hx hb dX6_doneIn_74 (by decide) ?_
            refine lv_icmp_le (tgt := 85) hx hb dX6_doneIn_77 (by decide) (fun c_77 => ?_) (fun c_77 => ?_)
            · --t
              refine lv_iload_n hx hb dX6_doneIn_85 rfl (lv_at hl 2 rfl) ?_
              exact xiret hx hb hr hlk hP hD hS (congrArg (fun z => z.1) (hg.trans (show gX6_doneIn_L35 Z a1 0 i Z1 = ((nI i), (Z1.1, gX6_copy Z1.2.2.2.1 Z1.2.1, Z1.2.2.1, Z1.2.2.2.1, Z1.2.2.2.2.1, Z1.2.2.2.2.2.1, Z1.2.2.2.2.2.2.1, Z1.2.2.2.2.2.2.2)) from (Eq.trans (if_neg c_41) (Eq.trans (if_pos c_77) rfl))))).symm (congrArg (fun z => modW ck ma z.2) (hg.trans (show gX6_doneIn_L35 Z a1 0 i Z1 = ((nI i), (Z1.1, gX6_copy Z1.2.2.2.1 Z1.2.1, Z1.2.2.1, Z1.2.2.2.1, Z1.2.2.2.2.1, Z1.2.2.2.2.2.1, Z1.2.2.2.2.2.2.1, Z1.2.2.2.2.2.2.2)) from (Eq.trans (if_neg c_41) (Eq.trans (if_pos c_77) rfl))))).symm dX6_doneIn_86
            · --f
              refine lv_bipush (v := (-5)) hx hb dX6_doneIn_80 (by decide) ?_
              refine lv_goto (tgt := 86) hx hb dX6_doneIn_82 (by decide) ?_
              exact xiret hx hb hr hlk hP hD hS (congrArg (fun z => z.1) (hg.trans (show gX6_doneIn_L35 Z a1 0 i Z1 = ((-5), (Z1.1, gX6_copy Z1.2.2.2.1 Z1.2.1, Z1.2.2.1, Z1.2.2.2.1, Z1.2.2.2.2.1, Z1.2.2.2.2.2.1, Z1.2.2.2.2.2.2.1, Z1.2.2.2.2.2.2.2)) from (Eq.trans (if_neg c_41) (Eq.trans (if_neg c_77) rfl))))).symm (congrArg (fun z => modW ck ma z.2) (hg.trans (show gX6_doneIn_L35 Z a1 0 i Z1 = ((-5), (Z1.1, gX6_copy Z1.2.2.2.1 Z1.2.1, Z1.2.2.1, Z1.2.2.2.1, Z1.2.2.2.2.1, Z1.2.2.2.2.2.1, Z1.2.2.2.2.2.2.1, Z1.2.2.2.2.2.2.2)) from (Eq.trans (if_neg c_41) (Eq.trans (if_neg c_77) rfl))))).symm dX6_doneIn_86
          · --f
            refine lv_iload_n hx hb dX6_doneIn_44 rfl (lv_at hl 2 rfl) ?_
            refine lv_sipush (v := (nI 20000)) hx hb dX6_doneIn_45 (by decide) ?_
            refine lv_icmp_gt (tgt := 62) hx hb dX6_doneIn_48 (by decide) (fun c_48 => ?_) (fun c_48 => ?_)
            · --t
              refine lv_aload_n hx hb dX6_doneIn_62 rfl (lv_at hl 0 rfl) ?_
              refine va_get (D := D) (ci := 6) (v := .ref (ma 3)) (C := RX6) (T := TX6) (N := 13) hx hb hts hinX6 hown hK hP 0 rfl rfl 2 (by decide) (hts (.fieldLink RX6 16 "JoinGrantsModel" "tried" "[I") (List.mem_of_getElem? (i := 2) rfl)) (fun _ h9 => h9) rfl dX6_doneIn_63 ?_
              refine lv_aload_n hx hb dX6_doneIn_66 rfl (lv_at hl 0 rfl) ?_
              refine va_get (D := D) (ci := 6) (v := .ref (ma 1)) (C := RX6) (T := TX6) (N := 13) hx hb hts hinX6 hown hK hP 0 rfl rfl 0 (by decide) (hts (.fieldLink RX6 7 "JoinGrantsModel" "all" "[I") (List.mem_of_getElem? (i := 1) rfl)) (fun _ h9 => h9) rfl dX6_doneIn_67 ?_
              refine xretv (va_runS (As := [.ref (ma 3), .ref (ma 1)]) (rest := []) ⟨hx, hb, hml, hown, hts⟩ (mX6_copy l D ck (ma 3) Z1.2.2.2.1 (ma 1) Z1.2.1 _) (va_cwS 2 hts gX6_doneIn_X6_copy rfl rfl rfl (by decide +kernel) ⟨Nat.le_of_ble_eq_true rfl, Nat.le_of_ble_eq_true rfl⟩) (xpreS hN hK hP hD (pm_31 Z1)) rfl rfl hl.1 rfl (lv_room (Nat.le_of_ble_eq_true rfl)) dX6_doneIn_70 ⟨Nat.le_of_ble_eq_true rfl, Nat.le_of_ble_eq_true rfl⟩) hP hD hS hA (pm_31 Z1) (pm_31' Z1) (fun H locs hP hD hS => ?_)
              have hP : va_P D vwCl (modW ck ma (Z1.1, gX6_copy Z1.2.2.2.1 Z1.2.1, Z1.2.2.1, Z1.2.2.2.1, Z1.2.2.2.2.1, Z1.2.2.2.2.2.1, Z1.2.2.2.2.2.2.1, Z1.2.2.2.2.2.2.2)) H := hP
              have hD : va_D (va_A (modW ck ma Z) s.heap.size) (modW ck ma (Z1.1, gX6_copy Z1.2.2.2.1 Z1.2.1, Z1.2.2.1, Z1.2.2.2.1, Z1.2.2.2.2.1, Z1.2.2.2.2.2.1, Z1.2.2.2.2.2.2.1, Z1.2.2.2.2.2.2.2)) := hD
              refine lv_iload_n hx hb dX6_doneIn_73 rfl (lv_at hl 2 rfl) ?_
              refine lv_sipush (v := (nI 20000)) hx hb dX6_doneIn_74 (by decide) ?_
              refine lv_icmp_le (tgt := 85) hx hb dX6_doneIn_77 (by decide) (fun c_77 => ?_) (fun c_77 => ?_)
              · --t
                refine lv_iload_n hx hb dX6_doneIn_85 rfl (lv_at hl 2 rfl) ?_
                exact xiret hx hb hr hlk hP hD hS (congrArg (fun z => z.1) (hg.trans (show gX6_doneIn_L35 Z a1 0 i Z1 = ((nI i), (Z1.1, gX6_copy Z1.2.2.2.1 Z1.2.1, Z1.2.2.1, Z1.2.2.2.1, Z1.2.2.2.2.1, Z1.2.2.2.2.2.1, Z1.2.2.2.2.2.2.1, Z1.2.2.2.2.2.2.2)) from (Eq.trans (if_pos c_41) (Eq.trans (if_pos c_77) rfl))))).symm (congrArg (fun z => modW ck ma z.2) (hg.trans (show gX6_doneIn_L35 Z a1 0 i Z1 = ((nI i), (Z1.1, gX6_copy Z1.2.2.2.1 Z1.2.1, Z1.2.2.1, Z1.2.2.2.1, Z1.2.2.2.2.1, Z1.2.2.2.2.2.1, Z1.2.2.2.2.2.2.1, Z1.2.2.2.2.2.2.2)) from (Eq.trans (if_pos c_41) (Eq.trans (if_pos c_77) rfl))))).symm dX6_doneIn_86
              · --f
                refine lv_bipush (v := (-5)) hx hb dX6_doneIn_80 (by decide) ?_
                refine lv_goto (tgt := 86) hx hb dX6_doneIn_82 (by decide) ?_
                exact xiret hx hb hr hlk hP hD hS (congrArg (fun z => z.1) (hg.trans (show gX6_doneIn_L35 Z a1 0 i Z1 = ((-5), (Z1.1, gX6_copy Z1.2.2.2.1 Z1.2.1, Z1.2.2.1, Z1.2.2.2.1, Z1.2.2.2.2.1, Z1.2.2.2.2.2.1, Z1.2.2.2.2.2.2.1, Z1.2.2.2.2.2.2.2)) from (Eq.trans (if_pos c_41) (Eq.trans (if_neg c_77) rfl))))).symm (congrArg (fun z => modW ck ma z.2) (hg.trans (show gX6_doneIn_L35 Z a1 0 i Z1 = ((-5), (Z1.1, gX6_copy Z1.2.2.2.1 Z1.2.1, Z1.2.2.1, Z1.2.2.2.1, Z1.2.2.2.2.1, Z1.2.2.2.2.2.1, Z1.2.2.2.2.2.2.1, Z1.2.2.2.2.2.2.2)) from (Eq.trans (if_pos c_41) (Eq.trans (if_neg c_77) rfl))))).symm dX6_doneIn_86
            · --f
              exact absurd (nI_lt (by omega) (by omega)) c_48
        | succ fu ih35 =>
          intro i Z1 hif hm hg H locs ls hP hD hS hl
          refine lv_aload_n hx hb dX6_doneIn_35 rfl (lv_at hl 0 rfl) ?_
          refine lv_iload_n hx hb dX6_doneIn_36 rfl (lv_at hl 1 rfl) ?_
          refine lv_iconst (v := 2) hx hb dX6_doneIn_37 (by decide) ?_
          refine xreti (va_runV (As := [.int a1, .int 2]) (rest := []) ⟨hx, hb, hml, hown, hts⟩ (mX6_is l D ck ma Z1.1 Z1.2.1 a1 a1.toNatClampNeg hjx (by omega) 2  _) (cwV 2 hts gX6_doneIn_X6_is rfl rfl rfl (by decide +kernel) ⟨Nat.le_of_ble_eq_true rfl, Nat.le_of_ble_eq_true rfl⟩) (xpreV hN hK hP hD (pm_core Z1) 0 rfl rfl rfl) rfl rfl hl.1 rfl (lv_room (Nat.le_of_ble_eq_true rfl)) dX6_doneIn_38 ⟨Nat.le_of_ble_eq_true rfl, Nat.le_of_ble_eq_true rfl⟩) hP hD hS hA (pm_core Z1) (pm_core Z1).symm (fun H locs hP hD hS => ?_)
          refine lv_if_ne (tgt := 62) hx hb dX6_doneIn_41 (by decide) (fun c_41 => ?_) (fun c_41 => ?_)
          · --t
            refine lv_aload_n hx hb dX6_doneIn_62 rfl (lv_at hl 0 rfl) ?_
            refine va_get (D := D) (ci := 6) (v := .ref (ma 3)) (C := RX6) (T := TX6) (N := 13) hx hb hts hinX6 hown hK hP 0 rfl rfl 2 (by decide) (hts (.fieldLink RX6 16 "JoinGrantsModel" "tried" "[I") (List.mem_of_getElem? (i := 2) rfl)) (fun _ h9 => h9) rfl dX6_doneIn_63 ?_
            refine lv_aload_n hx hb dX6_doneIn_66 rfl (lv_at hl 0 rfl) ?_
            refine va_get (D := D) (ci := 6) (v := .ref (ma 1)) (C := RX6) (T := TX6) (N := 13) hx hb hts hinX6 hown hK hP 0 rfl rfl 0 (by decide) (hts (.fieldLink RX6 7 "JoinGrantsModel" "all" "[I") (List.mem_of_getElem? (i := 1) rfl)) (fun _ h9 => h9) rfl dX6_doneIn_67 ?_
            refine xretv (va_runS (As := [.ref (ma 3), .ref (ma 1)]) (rest := []) ⟨hx, hb, hml, hown, hts⟩ (mX6_copy l D ck (ma 3) Z1.2.2.2.1 (ma 1) Z1.2.1 _) (va_cwS 2 hts gX6_doneIn_X6_copy rfl rfl rfl (by decide +kernel) ⟨Nat.le_of_ble_eq_true rfl, Nat.le_of_ble_eq_true rfl⟩) (xpreS hN hK hP hD (pm_31 Z1)) rfl rfl hl.1 rfl (lv_room (Nat.le_of_ble_eq_true rfl)) dX6_doneIn_70 ⟨Nat.le_of_ble_eq_true rfl, Nat.le_of_ble_eq_true rfl⟩) hP hD hS hA (pm_31 Z1) (pm_31' Z1) (fun H locs hP hD hS => ?_)
            have hP : va_P D vwCl (modW ck ma (Z1.1, gX6_copy Z1.2.2.2.1 Z1.2.1, Z1.2.2.1, Z1.2.2.2.1, Z1.2.2.2.2.1, Z1.2.2.2.2.2.1, Z1.2.2.2.2.2.2.1, Z1.2.2.2.2.2.2.2)) H := hP
            have hD : va_D (va_A (modW ck ma Z) s.heap.size) (modW ck ma (Z1.1, gX6_copy Z1.2.2.2.1 Z1.2.1, Z1.2.2.1, Z1.2.2.2.1, Z1.2.2.2.2.1, Z1.2.2.2.2.2.1, Z1.2.2.2.2.2.2.1, Z1.2.2.2.2.2.2.2)) := hD
            refine lv_iload_n hx hb dX6_doneIn_73 rfl (lv_at hl 2 rfl) ?_
            refine lv_sipush (v := (nI 20000)) hx hb dX6_doneIn_74 (by decide) ?_
            refine lv_icmp_le (tgt := 85) hx hb dX6_doneIn_77 (by decide) (fun c_77 => ?_) (fun c_77 => ?_)
            · --t
              refine lv_iload_n hx hb dX6_doneIn_85 rfl (lv_at hl 2 rfl) ?_
              exact xiret hx hb hr hlk hP hD hS (congrArg (fun z => z.1) (hg.trans (show gX6_doneIn_L35 Z a1 (fu + 1) i Z1 = ((nI i), (Z1.1, gX6_copy Z1.2.2.2.1 Z1.2.1, Z1.2.2.1, Z1.2.2.2.1, Z1.2.2.2.2.1, Z1.2.2.2.2.2.1, Z1.2.2.2.2.2.2.1, Z1.2.2.2.2.2.2.2)) from (Eq.trans (if_neg c_41) (Eq.trans (if_pos c_77) rfl))))).symm (congrArg (fun z => modW ck ma z.2) (hg.trans (show gX6_doneIn_L35 Z a1 (fu + 1) i Z1 = ((nI i), (Z1.1, gX6_copy Z1.2.2.2.1 Z1.2.1, Z1.2.2.1, Z1.2.2.2.1, Z1.2.2.2.2.1, Z1.2.2.2.2.2.1, Z1.2.2.2.2.2.2.1, Z1.2.2.2.2.2.2.2)) from (Eq.trans (if_neg c_41) (Eq.trans (if_pos c_77) rfl))))).symm dX6_doneIn_86
            · --f
              refine lv_bipush (v := (-5)) hx hb dX6_doneIn_80 (by decide) ?_
              refine lv_goto (tgt := 86) hx hb dX6_doneIn_82 (by decide) ?_
              exact xiret hx hb hr hlk hP hD hS (congrArg (fun z => z.1) (hg.trans (show gX6_doneIn_L35 Z a1 (fu + 1) i Z1 = ((-5), (Z1.1, gX6_copy Z1.2.2.2.1 Z1.2.1, Z1.2.2.1, Z1.2.2.2.1, Z1.2.2.2.2.1, Z1.2.2.2.2.2.1, Z1.2.2.2.2.2.2.1, Z1.2.2.2.2.2.2.2)) from (Eq.trans (if_neg c_41) (Eq.trans (if_neg c_77) rfl))))).symm (congrArg (fun z => modW ck ma z.2) (hg.trans (show gX6_doneIn_L35 Z a1 (fu + 1) i Z1 = ((-5), (Z1.1, gX6_copy Z1.2.2.2.1 Z1.2.1, Z1.2.2.1, Z1.2.2.2.1, Z1.2.2.2.2.1, Z1.2.2.2.2.2.1, Z1.2.2.2.2.2.2.1, Z1.2.2.2.2.2.2.2)) from (Eq.trans (if_neg c_41) (Eq.trans (if_neg c_77) rfl))))).symm dX6_doneIn_86
          · --f
            refine lv_iload_n hx hb dX6_doneIn_44 rfl (lv_at hl 2 rfl) ?_
            refine lv_sipush (v := (nI 20000)) hx hb dX6_doneIn_45 (by decide) ?_
            refine lv_icmp_gt (tgt := 62) hx hb dX6_doneIn_48 (by decide) (fun c_48 => ?_) (fun c_48 => ?_)
            · --t
              exact absurd c_48 (nI_nlt (by omega) (by omega))
            · --f
              refine lv_aload_n hx hb dX6_doneIn_51 rfl (lv_at hl 0 rfl) ?_
              refine xreti (va_runV (As := []) (rest := []) ⟨hx, hb, hml, hown, hts⟩ (mX6_steps l D ck ma Z1.1 Z1.2.1  hm _) (cwV 0 hts gX6_doneIn_X6_steps rfl rfl rfl (by decide +kernel) ⟨Nat.le_of_ble_eq_true rfl, Nat.le_of_ble_eq_true rfl⟩) (xpreV hN hK hP hD (pm_core Z1) 0 rfl rfl rfl) rfl rfl hl.1 rfl (lv_room (Nat.le_of_ble_eq_true rfl)) dX6_doneIn_52 ⟨Nat.le_of_ble_eq_true rfl, Nat.le_of_ble_eq_true rfl⟩) hP hD hS hA (pm_core Z1) (pm_core' Z1) (fun H locs hP hD hS => ?_)
              have hP : va_P D vwCl (modW ck ma (Z1.1, (gX6_steps Z1.2.1 ).2, Z1.2.2.1, Z1.2.2.2.1, Z1.2.2.2.2.1, Z1.2.2.2.2.2.1, Z1.2.2.2.2.2.2.1, Z1.2.2.2.2.2.2.2)) H := hP
              have hD : va_D (va_A (modW ck ma Z) s.heap.size) (modW ck ma (Z1.1, (gX6_steps Z1.2.1 ).2, Z1.2.2.1, Z1.2.2.2.1, Z1.2.2.2.2.1, Z1.2.2.2.2.2.1, Z1.2.2.2.2.2.2.1, Z1.2.2.2.2.2.2.2)) := hD
              refine lv_istore_n (lv' := [(3, .int ((gX6_steps Z1.2.1 ).1)), (0, .ref (ma 0)), (1, .int a1), (2, .int (nI i))]) hx hb dX6_doneIn_55 rfl hl (by decide) rfl (fun ls hl => ?_)
              refine lv_iinc (v := (nI (i + 1))) (lv' := [(2, .int (nI (i + 1))), (3, .int ((gX6_steps Z1.2.1 ).1)), (0, .ref (ma 0)), (1, .int a1)]) hx hb dX6_doneIn_56 hl (k := 3) rfl (nI_1 i) (by decide) rfl (fun ls hl => ?_)
              refine lv_goto (tgt := 35) hx hb dX6_doneIn_59 (by decide) ?_
              exact ih35 (i + 1) (Z1.1, (gX6_steps Z1.2.1 ).2, Z1.2.2.1, Z1.2.2.2.1, Z1.2.2.2.2.1, Z1.2.2.2.2.2.1, Z1.2.2.2.2.2.2.1, Z1.2.2.2.2.2.2.2) (by omega) (sp_ok hm).1 (hg.trans (show gX6_doneIn_L35 Z a1 (fu + 1) i Z1 = (gX6_doneIn_L35 Z a1 fu (i + 1) (Z1.1, (gX6_steps Z1.2.1 ).2, Z1.2.2.1, Z1.2.2.2.1, Z1.2.2.2.2.1, Z1.2.2.2.2.2.1, Z1.2.2.2.2.2.2.1, Z1.2.2.2.2.2.2.2)) from (Eq.trans (if_pos c_41) rfl))) _ _ _ hP hD hS (lv_sub hl [2, 3, 0] rfl)
      exact loop35 20001 0 (Z.1, Z.2.1, Z.2.2.1, gX6_copy Z.2.1 Z.2.2.2.1, Z.2.2.2.2.1, Z.2.2.2.2.2.1, Z.2.2.2.2.2.2.1, Z.2.2.2.2.2.2.2) (by omega) hm (show gX6_doneIn Z a1 = (gX6_doneIn_L35 Z a1 20001 0 (Z.1, Z.2.1, Z.2.2.1, gX6_copy Z.2.1 Z.2.2.2.1, Z.2.2.2.2.1, Z.2.2.2.2.2.1, Z.2.2.2.2.2.2.1, Z.2.2.2.2.2.2.2)) from (Eq.trans (if_neg c_5) (Eq.trans (if_pos c_16) rfl))) _ _ _ hP hD hS (lv_sub hl [1, 2, 0] rfl)
    · --f
      refine lv_bipush (v := (-4)) hx hb dX6_doneIn_19 (by decide) ?_
      exact xiret hx hb hr hlk hP hD hS (congrArg (fun z => z.1) (show gX6_doneIn Z a1 = ((-4), Z) from (Eq.trans (if_neg c_5) (Eq.trans (if_neg c_16) rfl)))).symm (congrArg (fun z => modW ck ma z.2) (show gX6_doneIn Z a1 = ((-4), Z) from (Eq.trans (if_neg c_5) (Eq.trans (if_neg c_16) rfl)))).symm dX6_doneIn_21
  · --f
    refine lv_iconst (v := (-1)) hx hb dX6_doneIn_8 (by decide) ?_
    exact xiret hx hb hr hlk hP hD hS (congrArg (fun z => z.1) (show gX6_doneIn Z a1 = ((-1), Z) from (Eq.trans (if_pos c_5) rfl))).symm (congrArg (fun z => modW ck ma z.2) (show gX6_doneIn Z a1 = ((-1), Z) from (Eq.trans (if_pos c_5) rfl))).symm dX6_doneIn_9
