def rmX6_asksBack : Room := { frames := 6, cells := 0, slots := 0, locals := 141 }
set_option maxHeartbeats 4000000 in
set_option maxRecDepth 100000 in
theorem mX6_asksBack (l : Launch) (D : va_G) (ck : Nat → ClassId) (ma : Nat → Nat) (M : FS) (f : FS) (a1 : Int32) (hm : mInv f) (he : enough f a1) : xMv l yX6_asksBack wsX6_asksBack rmX6_asksBack D ck [.ref (ma 0), .int a1] (coreW ck ma M f) (coreW ck ma M (gX6_asksBack f a1)) 0 0 := by
  refine xMet (by decide) rfl (Nat.le_of_ble_eq_true rfl) ?_
  intro zp ze s zm zb zt zc hx hb hr hml hown hts hlk hnm hN hK hP hD ls hl
  have hown : s.vm.findClass RX6 = some zm.cls := hown
  have hl : lv_has ls 5 [(0, .ref (ma 0)), (1, .int a1)] := hl
  have hS : va_S (va_A (coreW ck ma M f) s.heap.size) s.heap s.heap [] := va_S.rf
  have hA : ∀ zq : Nat, s.heap.size ≤ zq → va_A (coreW ck ma M f) s.heap.size zq := fun zq h => Or.inr h
  have hinX6 : ∀ w ∈ u_ws RX6 TX6 13, w ∈ wsX6_asksBack := by decide +kernel
  refine lv_iload_n hx hb dX6_asksBack_0 rfl (lv_at hl 1 rfl) ?_
  refine lv_istore_n (lv' := [(2, .int a1), (0, .ref (ma 0)), (1, .int a1)]) hx hb dX6_asksBack_1 rfl hl (by decide) rfl (fun ls hl => ?_)
  have loop2 : ∀ (fu : Nat) (x1 : Int32) (f1 : FS), (mInv f1) → (enough f1 x1) → (x1.toInt ≤ fu) → gX6_asksBack f a1 = gX6_asksBack_L2 f a1 fu x1 f1 → ∀ (H : Heap) (locs : List Loc) (ls : Array Slot), va_P D vwCl (coreW ck ma M f1) H → va_D (va_A (coreW ck ma M f) s.heap.size) (coreW ck ma M f1) → va_S (va_A (coreW ck ma M f) s.heap.size) s.heap H locs → lv_has ls 5 [(0, .ref (ma 0)), (1, .int a1), (2, .int x1)] → W zp l ze rmX6_asksBack s zm ([.ref (ma 0), .int a1] : List Value).toArray zb zt zc H locs 0 0 (MQ zb (xQv D (coreW ck ma M f) (coreW ck ma M (gX6_asksBack f a1)) s.heap.size) ([.ref (ma 0), .int a1] : List Value).toArray s 0 0 (va_A (coreW ck ma M f) s.heap.size)) (F0 zm 2 ls []) := by
    intro fu
    induction fu with
    | zero =>
      intro x1 f1 hm he hfu hg H locs ls hP hD hS hl
      refine lv_iload_n hx hb dX6_asksBack_2 rfl (lv_at hl 2 rfl) ?_
      refine lv_if_le (tgt := 84) hx hb dX6_asksBack_3 (by decide) (fun c_3 => ?_) (fun c_3 => ?_)
      · --t
        exact xvret hx hb hr hlk hP hD hS (congrArg (fun z => coreW ck ma M z) (hg.trans (show gX6_asksBack_L2 f a1 0 x1 f1 = f1 from rfl))).symm dX6_asksBack_84
      · --f
        exact absurd (x_le0 (by omega)) c_3
    | succ fu ih2 =>
      intro x1 f1 hm he hfu hg H locs ls hP hD hS hl
      refine lv_iload_n hx hb dX6_asksBack_2 rfl (lv_at hl 2 rfl) ?_
      refine lv_if_le (tgt := 84) hx hb dX6_asksBack_3 (by decide) (fun c_3 => ?_) (fun c_3 => ?_)
      · --t
        exact xvret hx hb hr hlk hP hD hS (congrArg (fun z => coreW ck ma M z) (hg.trans (show gX6_asksBack_L2 f a1 (fu + 1) x1 f1 = f1 from (Eq.trans (if_pos c_3) rfl)))).symm dX6_asksBack_84
      · --f
        have hbi : bI f1 := bI_of hm
        have hb1 := hbi.1
        have hn1 : 1 ≤ (f1 4).toNatClampNeg := en_pos hm he c_3
        refine lv_iconst (v := (nI 0)) hx hb dX6_asksBack_6 (by decide) ?_
        refine lv_istore_n (lv' := [(3, .int (nI 0)), (0, .ref (ma 0)), (1, .int a1), (2, .int x1)]) hx hb dX6_asksBack_7 rfl hl (by decide) rfl (fun ls hl => ?_)
        refine lv_iconst (v := (nI 1)) hx hb dX6_asksBack_8 (by decide) ?_
        refine lv_istore (lv' := [(4, .int (nI 1)), (3, .int (nI 0)), (0, .ref (ma 0)), (1, .int a1), (2, .int x1)]) hx hb dX6_asksBack_9 hl (by decide) rfl (fun ls hl => ?_)
        have loop11 : ∀ (fu11 : Nat) (i : Nat) (k1 : Nat), (1 ≤ i ∧ i + fu11 = (f1 4).toNatClampNeg) → (k1 < 16) → (gX6_asksBack_L11 f1 ((f1 4).toNatClampNeg - 1) 1 0) = gX6_asksBack_L11 f1 fu11 i k1 → ∀ (H : Heap) (locs : List Loc) (ls : Array Slot), va_P D vwCl (coreW ck ma M f1) H → va_D (va_A (coreW ck ma M f) s.heap.size) (coreW ck ma M f1) → va_S (va_A (coreW ck ma M f) s.heap.size) s.heap H locs → lv_has ls 5 [(0, .ref (ma 0)), (1, .int a1), (2, .int x1), (3, .int (nI k1)), (4, .int (nI i))] → W zp l ze rmX6_asksBack s zm ([.ref (ma 0), .int a1] : List Value).toArray zb zt zc H locs 0 0 (MQ zb (xQv D (coreW ck ma M f) (coreW ck ma M (gX6_asksBack f a1)) s.heap.size) ([.ref (ma 0), .int a1] : List Value).toArray s 0 0 (va_A (coreW ck ma M f) s.heap.size)) (F0 zm 11 ls []) := by
          intro fu11
          induction fu11 with
          | zero =>
            intro i k1 hif hk1 hv H locs ls hP hD hS hl
            refine lv_iload hx hb dX6_asksBack_11 (lv_at hl 4 rfl) ?_
            refine lv_aload_n hx hb dX6_asksBack_13 rfl (lv_at hl 0 rfl) ?_
            refine va_get (D := D) (ci := 6) (v := .ref (ma 1)) (C := RX6) (T := TX6) (N := 13) hx hb hts hinX6 hown hK hP 0 rfl rfl 0 (by decide) (hts (.fieldLink RX6 7 "JoinGrantsModel" "all" "[I") (List.mem_of_getElem? (i := 1) rfl)) (fun _ h9 => h9) rfl dX6_asksBack_14 ?_
            refine lv_iconst (v := 4) hx hb dX6_asksBack_17 (by decide) ?_
            refine xiald (j := 4) (by decide) hx hb hK hP 1 0 rfl rfl (show vp_in 4 153 from by unfold vp_in; decide) dX6_asksBack_18 ?_
            refine lv_icmp_ge (tgt := 49) hx hb dX6_asksBack_19 (by decide) (fun c_19 => ?_) (fun c_19 => ?_)
            · --t
              have ev : k1 = (gX6_asksBack_L11 f1 ((f1 4).toNatClampNeg - 1) 1 0) := hv.symm
              subst ev
              refine lv_aload_n hx hb dX6_asksBack_49 rfl (lv_at hl 0 rfl) ?_
              refine lv_iload_n hx hb dX6_asksBack_50 rfl (lv_at hl 3 rfl) ?_
              refine xreti (va_runV (As := [.int (nI (gX6_asksBack_L11 f1 ((f1 4).toNatClampNeg - 1) 1 0))]) (rest := []) ⟨hx, hb, hml, hown, hts⟩ (mX6_extra l D ck ma M f1 (nI (gX6_asksBack_L11 f1 ((f1 4).toNatClampNeg - 1) 1 0)) (gX6_asksBack_L11 f1 ((f1 4).toNatClampNeg - 1) 1 0) rfl (by omega) hbi _) (cwV 1 hts gX6_asksBack_X6_extra rfl rfl rfl (by decide +kernel) ⟨Nat.le_of_ble_eq_true rfl, Nat.le_of_ble_eq_true rfl⟩) (xpreV hN hK hP hD pm_all 0 rfl rfl rfl) rfl rfl hl.1 rfl (lv_room (Nat.le_of_ble_eq_true rfl)) dX6_asksBack_51 ⟨Nat.le_of_ble_eq_true rfl, Nat.le_of_ble_eq_true rfl⟩) hP hD hS hA pm_all pm_all' (fun H locs hP hD hS => ?_)
              refine lv_iload_n hx hb dX6_asksBack_54 rfl (lv_at hl 2 rfl) ?_
              refine lv_icmp_ge (tgt := 66) hx hb dX6_asksBack_55 (by decide) (fun c_55 => ?_) (fun c_55 => ?_)
              · --t
                refine lv_iload_n hx hb dX6_asksBack_66 rfl (lv_at hl 2 rfl) ?_
                refine lv_istore (lv' := [(4, .int x1), (0, .ref (ma 0)), (1, .int a1), (2, .int x1), (3, .int (nI (gX6_asksBack_L11 f1 ((f1 4).toNatClampNeg - 1) 1 0)))]) hx hb dX6_asksBack_67 hl (by decide) rfl (fun ls hl => ?_)
                obtain ⟨hq1, hq2, hz, hm2, he2, hlt2⟩ := ab_step hm he c_3 (Or.inr ⟨rfl, c_55⟩)
                refine lv_aload_n hx hb dX6_asksBack_69 rfl (lv_at hl 1 rfl) ?_
                refine lv_iload_n hx hb dX6_asksBack_70 rfl (lv_at hl 4 rfl) ?_
                refine lv_iload hx hb dX6_asksBack_71 (lv_at hl 0 rfl) ?_
                refine xretv (va_runV (As := [.int (nI (gX6_asksBack_L11 f1 ((f1 4).toNatClampNeg - 1) 1 0)), .int x1]) (rest := []) ⟨hx, hb, hml, hown, hts⟩ (mX6_givesBack l D ck ma M f1 (nI (gX6_asksBack_L11 f1 ((f1 4).toNatClampNeg - 1) 1 0)) (gX6_asksBack_L11 f1 ((f1 4).toNatClampNeg - 1) 1 0) rfl (by omega) x1 hbi hq1 hq2 hz _) (cwV 2 hts gX6_asksBack_X6_givesBack rfl rfl rfl (by decide +kernel) ⟨Nat.le_of_ble_eq_true rfl, Nat.le_of_ble_eq_true rfl⟩) (xpreV hN hK hP hD pm_all 0 rfl rfl rfl) rfl rfl hl.1 rfl (lv_room (Nat.le_of_ble_eq_true rfl)) dX6_asksBack_73 ⟨Nat.le_of_ble_eq_true rfl, Nat.le_of_ble_eq_true rfl⟩) hP hD hS hA pm_all pm_all' (fun H locs hP hD hS => ?_)
                have hP : va_P D vwCl (coreW ck ma M (gX6_givesBack f1 (gX6_asksBack_L11 f1 ((f1 4).toNatClampNeg - 1) 1 0) x1)) H := hP
                have hD : va_D (va_A (coreW ck ma M f) s.heap.size) (coreW ck ma M (gX6_givesBack f1 (gX6_asksBack_L11 f1 ((f1 4).toNatClampNeg - 1) 1 0) x1)) := hD
                refine lv_iload_n hx hb dX6_asksBack_76 rfl (lv_at hl 3 rfl) ?_
                refine lv_iload hx hb dX6_asksBack_77 (lv_at hl 0 rfl) ?_
                refine lv_isub hx hb dX6_asksBack_79 ?_
                refine lv_istore_n (lv' := [(2, .int (x1 - x1)), (4, .int x1), (0, .ref (ma 0)), (1, .int a1), (3, .int (nI (gX6_asksBack_L11 f1 ((f1 4).toNatClampNeg - 1) 1 0)))]) hx hb dX6_asksBack_80 rfl hl (by decide) rfl (fun ls hl => ?_)
                refine lv_goto (tgt := 2) hx hb dX6_asksBack_81 (by decide) ?_
                exact ih2 (x1 - x1) (gX6_givesBack f1 (gX6_asksBack_L11 f1 ((f1 4).toNatClampNeg - 1) 1 0) x1) hm2 he2 (by omega) (hg.trans (show gX6_asksBack_L2 f a1 (fu + 1) x1 f1 = (gX6_asksBack_L2 f a1 fu (x1 - x1) (gX6_givesBack f1 (gX6_asksBack_L11 f1 ((f1 4).toNatClampNeg - 1) 1 0) x1)) from (Eq.trans (if_neg c_3) (Eq.trans (if_pos c_55) rfl)))) _ _ _ hP hD hS (lv_sub hl [2, 3, 0] rfl)
              · --f
                refine lv_aload_n hx hb dX6_asksBack_58 rfl (lv_at hl 0 rfl) ?_
                refine lv_iload_n hx hb dX6_asksBack_59 rfl (lv_at hl 3 rfl) ?_
                refine xreti (va_runV (As := [.int (nI (gX6_asksBack_L11 f1 ((f1 4).toNatClampNeg - 1) 1 0))]) (rest := []) ⟨hx, hb, hml, hown, hts⟩ (mX6_extra l D ck ma M f1 (nI (gX6_asksBack_L11 f1 ((f1 4).toNatClampNeg - 1) 1 0)) (gX6_asksBack_L11 f1 ((f1 4).toNatClampNeg - 1) 1 0) rfl (by omega) hbi _) (cwV 1 hts gX6_asksBack_X6_extra rfl rfl rfl (by decide +kernel) ⟨Nat.le_of_ble_eq_true rfl, Nat.le_of_ble_eq_true rfl⟩) (xpreV hN hK hP hD pm_all 0 rfl rfl rfl) rfl rfl hl.1 rfl (lv_room (Nat.le_of_ble_eq_true rfl)) dX6_asksBack_60 ⟨Nat.le_of_ble_eq_true rfl, Nat.le_of_ble_eq_true rfl⟩) hP hD hS hA pm_all pm_all' (fun H locs hP hD hS => ?_)
                refine lv_goto (tgt := 67) hx hb dX6_asksBack_63 (by decide) ?_
                refine lv_istore (lv' := [(4, .int (gX6_extra f1 (gX6_asksBack_L11 f1 ((f1 4).toNatClampNeg - 1) 1 0))), (0, .ref (ma 0)), (1, .int a1), (2, .int x1), (3, .int (nI (gX6_asksBack_L11 f1 ((f1 4).toNatClampNeg - 1) 1 0)))]) hx hb dX6_asksBack_67 hl (by decide) rfl (fun ls hl => ?_)
                obtain ⟨hq1, hq2, hz, hm2, he2, hlt2⟩ := ab_step hm he c_3 (Or.inl ⟨rfl, c_55⟩)
                refine lv_aload_n hx hb dX6_asksBack_69 rfl (lv_at hl 1 rfl) ?_
                refine lv_iload_n hx hb dX6_asksBack_70 rfl (lv_at hl 4 rfl) ?_
                refine lv_iload hx hb dX6_asksBack_71 (lv_at hl 0 rfl) ?_
                refine xretv (va_runV (As := [.int (nI (gX6_asksBack_L11 f1 ((f1 4).toNatClampNeg - 1) 1 0)), .int (gX6_extra f1 (gX6_asksBack_L11 f1 ((f1 4).toNatClampNeg - 1) 1 0))]) (rest := []) ⟨hx, hb, hml, hown, hts⟩ (mX6_givesBack l D ck ma M f1 (nI (gX6_asksBack_L11 f1 ((f1 4).toNatClampNeg - 1) 1 0)) (gX6_asksBack_L11 f1 ((f1 4).toNatClampNeg - 1) 1 0) rfl (by omega) (gX6_extra f1 (gX6_asksBack_L11 f1 ((f1 4).toNatClampNeg - 1) 1 0)) hbi hq1 hq2 hz _) (cwV 2 hts gX6_asksBack_X6_givesBack rfl rfl rfl (by decide +kernel) ⟨Nat.le_of_ble_eq_true rfl, Nat.le_of_ble_eq_true rfl⟩) (xpreV hN hK hP hD pm_all 0 rfl rfl rfl) rfl rfl hl.1 rfl (lv_room (Nat.le_of_ble_eq_true rfl)) dX6_asksBack_73 ⟨Nat.le_of_ble_eq_true rfl, Nat.le_of_ble_eq_true rfl⟩) hP hD hS hA pm_all pm_all' (fun H locs hP hD hS => ?_)
                have hP : va_P D vwCl (coreW ck ma M (gX6_givesBack f1 (gX6_asksBack_L11 f1 ((f1 4).toNatClampNeg - 1) 1 0) (gX6_extra f1 (gX6_asksBack_L11 f1 ((f1 4).toNatClampNeg - 1) 1 0)))) H := hP
                have hD : va_D (va_A (coreW ck ma M f) s.heap.size) (coreW ck ma M (gX6_givesBack f1 (gX6_asksBack_L11 f1 ((f1 4).toNatClampNeg - 1) 1 0) (gX6_extra f1 (gX6_asksBack_L11 f1 ((f1 4).toNatClampNeg - 1) 1 0)))) := hD
                refine lv_iload_n hx hb dX6_asksBack_76 rfl (lv_at hl 3 rfl) ?_
                refine lv_iload hx hb dX6_asksBack_77 (lv_at hl 0 rfl) ?_
                refine lv_isub hx hb dX6_asksBack_79 ?_
                refine lv_istore_n (lv' := [(2, .int (x1 - (gX6_extra f1 (gX6_asksBack_L11 f1 ((f1 4).toNatClampNeg - 1) 1 0)))), (4, .int (gX6_extra f1 (gX6_asksBack_L11 f1 ((f1 4).toNatClampNeg - 1) 1 0))), (0, .ref (ma 0)), (1, .int a1), (3, .int (nI (gX6_asksBack_L11 f1 ((f1 4).toNatClampNeg - 1) 1 0)))]) hx hb dX6_asksBack_80 rfl hl (by decide) rfl (fun ls hl => ?_)
                refine lv_goto (tgt := 2) hx hb dX6_asksBack_81 (by decide) ?_
                exact ih2 (x1 - (gX6_extra f1 (gX6_asksBack_L11 f1 ((f1 4).toNatClampNeg - 1) 1 0))) (gX6_givesBack f1 (gX6_asksBack_L11 f1 ((f1 4).toNatClampNeg - 1) 1 0) (gX6_extra f1 (gX6_asksBack_L11 f1 ((f1 4).toNatClampNeg - 1) 1 0))) hm2 he2 (by omega) (hg.trans (show gX6_asksBack_L2 f a1 (fu + 1) x1 f1 = (gX6_asksBack_L2 f a1 fu (x1 - (gX6_extra f1 (gX6_asksBack_L11 f1 ((f1 4).toNatClampNeg - 1) 1 0))) (gX6_givesBack f1 (gX6_asksBack_L11 f1 ((f1 4).toNatClampNeg - 1) 1 0) (gX6_extra f1 (gX6_asksBack_L11 f1 ((f1 4).toNatClampNeg - 1) 1 0)))) from (Eq.trans (if_neg c_3) (Eq.trans (if_neg c_55) rfl)))) _ _ _ hP hD hS (lv_sub hl [2, 3, 0] rfl)
            · --f
              exact absurd (cl_le (by omega) (by omega)) c_19
          | succ fu11 ih11 =>
            intro i k1 hif hk1 hv H locs ls hP hD hS hl
            refine lv_iload hx hb dX6_asksBack_11 (lv_at hl 4 rfl) ?_
            refine lv_aload_n hx hb dX6_asksBack_13 rfl (lv_at hl 0 rfl) ?_
            refine va_get (D := D) (ci := 6) (v := .ref (ma 1)) (C := RX6) (T := TX6) (N := 13) hx hb hts hinX6 hown hK hP 0 rfl rfl 0 (by decide) (hts (.fieldLink RX6 7 "JoinGrantsModel" "all" "[I") (List.mem_of_getElem? (i := 1) rfl)) (fun _ h9 => h9) rfl dX6_asksBack_14 ?_
            refine lv_iconst (v := 4) hx hb dX6_asksBack_17 (by decide) ?_
            refine xiald (j := 4) (by decide) hx hb hK hP 1 0 rfl rfl (show vp_in 4 153 from by unfold vp_in; decide) dX6_asksBack_18 ?_
            refine lv_icmp_ge (tgt := 49) hx hb dX6_asksBack_19 (by decide) (fun c_19 => ?_) (fun c_19 => ?_)
            · --t
              exact absurd c_19 (cl_lt (by omega))
            · --f
              refine lv_aload_n hx hb dX6_asksBack_22 rfl (lv_at hl 0 rfl) ?_
              refine lv_iload hx hb dX6_asksBack_23 (lv_at hl 4 rfl) ?_
              refine xreti (va_runV (As := [.int (nI i)]) (rest := []) ⟨hx, hb, hml, hown, hts⟩ (mX6_extra l D ck ma M f1 (nI i) i rfl (by omega) hbi _) (cwV 1 hts gX6_asksBack_X6_extra rfl rfl rfl (by decide +kernel) ⟨Nat.le_of_ble_eq_true rfl, Nat.le_of_ble_eq_true rfl⟩) (xpreV hN hK hP hD pm_all 0 rfl rfl rfl) rfl rfl hl.1 rfl (lv_room (Nat.le_of_ble_eq_true rfl)) dX6_asksBack_25 ⟨Nat.le_of_ble_eq_true rfl, Nat.le_of_ble_eq_true rfl⟩) hP hD hS hA pm_all pm_all' (fun H locs hP hD hS => ?_)
              refine lv_aload_n hx hb dX6_asksBack_28 rfl (lv_at hl 0 rfl) ?_
              refine lv_iload_n hx hb dX6_asksBack_29 rfl (lv_at hl 3 rfl) ?_
              refine xreti (va_runV (As := [.int (nI k1)]) (rest := [.int (gX6_extra f1 i)]) ⟨hx, hb, hml, hown, hts⟩ (mX6_extra l D ck ma M f1 (nI k1) k1 rfl (by omega) hbi _) (cwV 1 hts gX6_asksBack_X6_extra rfl rfl rfl (by decide +kernel) ⟨Nat.le_of_ble_eq_true rfl, Nat.le_of_ble_eq_true rfl⟩) (xpreV hN hK hP hD pm_all 0 rfl rfl rfl) rfl rfl hl.1 rfl (lv_room (Nat.le_of_ble_eq_true rfl)) dX6_asksBack_30 ⟨Nat.le_of_ble_eq_true rfl, Nat.le_of_ble_eq_true rfl⟩) hP hD hS hA pm_all pm_all' (fun H locs hP hD hS => ?_)
              refine lv_icmp_le (tgt := 41) hx hb dX6_asksBack_33 (by decide) (fun c_33 => ?_) (fun c_33 => ?_)
              · --t
                refine lv_iload_n hx hb dX6_asksBack_41 rfl (lv_at hl 3 rfl) ?_
                refine lv_istore_n (lv' := [(3, .int (nI k1)), (0, .ref (ma 0)), (1, .int a1), (2, .int x1), (4, .int (nI i))]) hx hb dX6_asksBack_42 rfl hl (by decide) rfl (fun ls hl => ?_)
                refine lv_iinc (v := (nI (i + 1))) (lv' := [(4, .int (nI (i + 1))), (3, .int (nI k1)), (0, .ref (ma 0)), (1, .int a1), (2, .int x1)]) hx hb dX6_asksBack_43 hl (k := 4) rfl (nI_1 i) (by decide) rfl (fun ls hl => ?_)
                refine lv_goto (tgt := 11) hx hb dX6_asksBack_46 (by decide) ?_
                exact ih11 (i + 1) k1 (by omega) (by omega) (hv.trans (show gX6_asksBack_L11 f1 (fu11 + 1) i k1 = (gX6_asksBack_L11 f1 fu11 (i + 1) k1) from (Eq.trans (if_pos c_33) rfl))) _ _ _ hP hD hS (lv_sub hl [2, 3, 4, 1, 0] rfl)
              · --f
                refine lv_iload hx hb dX6_asksBack_36 (lv_at hl 4 rfl) ?_
                refine lv_goto (tgt := 42) hx hb dX6_asksBack_38 (by decide) ?_
                refine lv_istore_n (lv' := [(3, .int (nI i)), (0, .ref (ma 0)), (1, .int a1), (2, .int x1), (4, .int (nI i))]) hx hb dX6_asksBack_42 rfl hl (by decide) rfl (fun ls hl => ?_)
                refine lv_iinc (v := (nI (i + 1))) (lv' := [(4, .int (nI (i + 1))), (3, .int (nI i)), (0, .ref (ma 0)), (1, .int a1), (2, .int x1)]) hx hb dX6_asksBack_43 hl (k := 4) rfl (nI_1 i) (by decide) rfl (fun ls hl => ?_)
                refine lv_goto (tgt := 11) hx hb dX6_asksBack_46 (by decide) ?_
                exact ih11 (i + 1) i (by omega) (by omega) (hv.trans (show gX6_asksBack_L11 f1 (fu11 + 1) i k1 = (gX6_asksBack_L11 f1 fu11 (i + 1) i) from (Eq.trans (if_neg c_33) rfl))) _ _ _ hP hD hS (lv_sub hl [2, 3, 4, 1, 0] rfl)
        exact loop11 ((f1 4).toNatClampNeg - 1) 1 0 (by omega) (by omega) rfl _ _ _ hP hD hS (lv_sub hl [2, 3, 4, 1, 0] rfl)
  exact loop2 a1.toInt.toNat a1 f hm he (by omega) (show gX6_asksBack f a1 = (gX6_asksBack_L2 f a1 a1.toInt.toNat a1 f) from rfl) _ _ _ hP hD hS (lv_sub hl [1, 2, 0] rfl)

def rmX6_starts : Room := { frames := 7, cells := 0, slots := 0, locals := 165 }
set_option maxHeartbeats 4000000 in
set_option maxRecDepth 100000 in
theorem mX6_starts (l : Launch) (D : va_G) (ck : Nat → ClassId) (ma : Nat → Nat) (M : FS) (f : FS) (x1 : Int32) (a1 : Nat) (e1 : x1 = nI a1) (h1 : a1 < 16) (hm : mInv f) : xMi l yX6_starts wsX6_starts rmX6_starts D ck [.ref (ma 0), .int x1] (coreW ck ma M f) (coreW ck ma M ((gX6_starts f a1).2)) ((gX6_starts f a1).1) 0 0 := by
  refine xMet (by decide) rfl (Nat.le_of_ble_eq_true rfl) ?_
  intro zp ze s zm zb zt zc hx hb hr hml hown hts hlk hnm hN hK hP hD ls hl
  have hown : s.vm.findClass RX6 = some zm.cls := hown
  subst e1
  have hl : lv_has ls 6 [(0, .ref (ma 0)), (1, .int (nI a1))] := hl
  have hS : va_S (va_A (coreW ck ma M f) s.heap.size) s.heap s.heap [] := va_S.rf
  have hA : ∀ zq : Nat, s.heap.size ≤ zq → va_A (coreW ck ma M f) s.heap.size zq := fun zq h => Or.inr h
  have hinX6 : ∀ w ∈ u_ws RX6 TX6 13, w ∈ wsX6_starts := by decide +kernel
  have hbi : bI f := bI_of hm
  refine lv_aload_n hx hb dX6_starts_0 rfl (lv_at hl 0 rfl) ?_
  refine xreti (va_runV (As := []) (rest := []) ⟨hx, hb, hml, hown, hts⟩ (mX6_free l D ck ma M f  hbi _) (cwV 0 hts gX6_starts_X6_free rfl rfl rfl (by decide +kernel) ⟨Nat.le_of_ble_eq_true rfl, Nat.le_of_ble_eq_true rfl⟩) (xpreV hN hK hP hD pm_all 0 rfl rfl rfl) rfl rfl hl.1 rfl (lv_room (Nat.le_of_ble_eq_true rfl)) dX6_starts_1 ⟨Nat.le_of_ble_eq_true rfl, Nat.le_of_ble_eq_true rfl⟩) hP hD hS hA pm_all pm_all' (fun H locs hP hD hS => ?_)
  refine lv_istore_n (lv' := [(2, .int (gX6_free f )), (0, .ref (ma 0)), (1, .int (nI a1))]) hx hb dX6_starts_4 rfl hl (by decide) rfl (fun ls hl => ?_)
  refine lv_aload_n hx hb dX6_starts_5 rfl (lv_at hl 1 rfl) ?_
  refine lv_iload_n hx hb dX6_starts_6 rfl (lv_at hl 2 rfl) ?_
  refine xreti (va_runV (As := [.int (nI a1)]) (rest := []) ⟨hx, hb, hml, hown, hts⟩ (mX6_needs l D ck ma M f (nI a1) a1 rfl (by omega) hbi _) (cwV 1 hts gX6_starts_X6_needs rfl rfl rfl (by decide +kernel) ⟨Nat.le_of_ble_eq_true rfl, Nat.le_of_ble_eq_true rfl⟩) (xpreV hN hK hP hD pm_all 0 rfl rfl rfl) rfl rfl hl.1 rfl (lv_room (Nat.le_of_ble_eq_true rfl)) dX6_starts_7 ⟨Nat.le_of_ble_eq_true rfl, Nat.le_of_ble_eq_true rfl⟩) hP hD hS hA pm_all pm_all' (fun H locs hP hD hS => ?_)
  refine lv_istore_n (lv' := [(3, .int (gX6_needs f a1)), (2, .int (gX6_free f )), (0, .ref (ma 0)), (1, .int (nI a1))]) hx hb dX6_starts_10 rfl hl (by decide) rfl (fun ls hl => ?_)
  refine lv_iload_n hx hb dX6_starts_11 rfl (lv_at hl 0 rfl) ?_
  refine lv_istore (lv' := [(4, .int (gX6_needs f a1)), (3, .int (gX6_needs f a1)), (2, .int (gX6_free f )), (0, .ref (ma 0)), (1, .int (nI a1))]) hx hb dX6_starts_12 hl (by decide) rfl (fun ls hl => ?_)
  refine lv_iload_n hx hb dX6_starts_14 rfl (lv_at hl 2 rfl) ?_
  refine lv_iload_n hx hb dX6_starts_15 rfl (lv_at hl 1 rfl) ?_
  refine lv_icmp_lt (tgt := 42) hx hb dX6_starts_16 (by decide) (fun c_16 => ?_) (fun c_16 => ?_)
  · --t
    refine lv_aload_n hx hb dX6_starts_42 rfl (lv_at hl 3 rfl) ?_
    refine va_get (D := D) (ci := 6) (v := .ref (ma 1)) (C := RX6) (T := TX6) (N := 13) hx hb hts hinX6 hown hK hP 0 rfl rfl 0 (by decide) (hts (.fieldLink RX6 7 "JoinGrantsModel" "all" "[I") (List.mem_of_getElem? (i := 1) rfl)) (fun _ h9 => h9) rfl dX6_starts_43 ?_
    refine lv_iconst (v := 2) hx hb dX6_starts_46 (by decide) ?_
    refine xiald (j := 2) (by decide) hx hb hK hP 1 0 rfl rfl (show vp_in 2 153 from by unfold vp_in; decide) dX6_starts_47 ?_
    refine lv_iconst (v := 1) hx hb dX6_starts_48 (by decide) ?_
    refine lv_icmp_ne (tgt := 85) hx hb dX6_starts_49 (by decide) (fun c_49 => ?_) (fun c_49 => ?_)
    · --t
      refine lv_iconst (v := 0) hx hb dX6_starts_85 (by decide) ?_
      exact xzret hx hb hr hlk hP hD hS (Or.inl rfl) (congrArg (fun z => z.1) (show gX6_starts f a1 = (0, f) from (Eq.trans (if_pos c_16) (Eq.trans (if_neg c_49) rfl)))).symm (congrArg (fun z => coreW ck ma M z.2) (show gX6_starts f a1 = (0, f) from (Eq.trans (if_pos c_16) (Eq.trans (if_neg c_49) rfl)))).symm dX6_starts_86
    · --f
      refine lv_aload_n hx hb dX6_starts_52 rfl (lv_at hl 3 rfl) ?_
      refine xreti (va_runV (As := []) (rest := []) ⟨hx, hb, hml, hown, hts⟩ (mX6_granted l D ck ma M f  hbi _) (cwV 0 hts gX6_starts_X6_granted rfl rfl rfl (by decide +kernel) ⟨Nat.le_of_ble_eq_true rfl, Nat.le_of_ble_eq_true rfl⟩) (xpreV hN hK hP hD pm_all 0 rfl rfl rfl) rfl rfl hl.1 rfl (lv_room (Nat.le_of_ble_eq_true rfl)) dX6_starts_53 ⟨Nat.le_of_ble_eq_true rfl, Nat.le_of_ble_eq_true rfl⟩) hP hD hS hA pm_all pm_all' (fun H locs hP hD hS => ?_)
      refine lv_aload_n hx hb dX6_starts_56 rfl (lv_at hl 3 rfl) ?_
      refine va_get (D := D) (ci := 6) (v := .ref (ma 1)) (C := RX6) (T := TX6) (N := 13) hx hb hts hinX6 hown hK hP 0 rfl rfl 0 (by decide) (hts (.fieldLink RX6 7 "JoinGrantsModel" "all" "[I") (List.mem_of_getElem? (i := 1) rfl)) (fun _ h9 => h9) rfl dX6_starts_57 ?_
      refine lv_iconst (v := 0) hx hb dX6_starts_60 (by decide) ?_
      refine xiald (j := 0) (by decide) hx hb hK hP 1 0 rfl rfl (show vp_in 0 153 from by unfold vp_in; decide) dX6_starts_61 ?_
      refine lv_icmp_gt (tgt := 85) hx hb dX6_starts_62 (by decide) (fun c_62 => ?_) (fun c_62 => ?_)
      · --t
        refine lv_iconst (v := 0) hx hb dX6_starts_85 (by decide) ?_
        exact xzret hx hb hr hlk hP hD hS (Or.inl rfl) (congrArg (fun z => z.1) (show gX6_starts f a1 = (0, f) from (Eq.trans (if_pos c_16) (Eq.trans (if_pos c_49) (Eq.trans (if_pos c_62) rfl))))).symm (congrArg (fun z => coreW ck ma M z.2) (show gX6_starts f a1 = (0, f) from (Eq.trans (if_pos c_16) (Eq.trans (if_pos c_49) (Eq.trans (if_pos c_62) rfl))))).symm dX6_starts_86
      · --f
        refine lv_iload_n hx hb dX6_starts_65 rfl (lv_at hl 2 rfl) ?_
        refine lv_aload_n hx hb dX6_starts_66 rfl (lv_at hl 3 rfl) ?_
        refine xreti (va_runV (As := []) (rest := [.int (gX6_free f )]) ⟨hx, hb, hml, hown, hts⟩ (mX6_spares l D ck ma M f  hbi _) (cwV 0 hts gX6_starts_X6_spares rfl rfl rfl (by decide +kernel) ⟨Nat.le_of_ble_eq_true rfl, Nat.le_of_ble_eq_true rfl⟩) (xpreV hN hK hP hD pm_all 0 rfl rfl rfl) rfl rfl hl.1 rfl (lv_room (Nat.le_of_ble_eq_true rfl)) dX6_starts_67 ⟨Nat.le_of_ble_eq_true rfl, Nat.le_of_ble_eq_true rfl⟩) hP hD hS hA pm_all pm_all' (fun H locs hP hD hS => ?_)
        refine lv_iadd hx hb dX6_starts_70 ?_
        refine lv_iload_n hx hb dX6_starts_71 rfl (lv_at hl 1 rfl) ?_
        refine lv_icmp_lt (tgt := 85) hx hb dX6_starts_72 (by decide) (fun c_72 => ?_) (fun c_72 => ?_)
        · --t
          refine lv_iconst (v := 0) hx hb dX6_starts_85 (by decide) ?_
          exact xzret hx hb hr hlk hP hD hS (Or.inl rfl) (congrArg (fun z => z.1) (show gX6_starts f a1 = (0, f) from (Eq.trans (if_pos c_16) (Eq.trans (if_pos c_49) (Eq.trans (if_neg c_62) (Eq.trans (if_pos c_72) rfl)))))).symm (congrArg (fun z => coreW ck ma M z.2) (show gX6_starts f a1 = (0, f) from (Eq.trans (if_pos c_16) (Eq.trans (if_pos c_49) (Eq.trans (if_neg c_62) (Eq.trans (if_pos c_72) rfl)))))).symm dX6_starts_86
        · --f
          refine lv_aload_n hx hb dX6_starts_75 rfl (lv_at hl 3 rfl) ?_
          refine lv_iload_n hx hb dX6_starts_76 rfl (lv_at hl 1 rfl) ?_
          refine lv_iload_n hx hb dX6_starts_77 rfl (lv_at hl 2 rfl) ?_
          refine lv_isub hx hb dX6_starts_78 ?_
          refine xretv (va_runV (As := [.int ((gX6_needs f a1) - (gX6_free f ))]) (rest := []) ⟨hx, hb, hml, hown, hts⟩ (mX6_asksBack l D ck ma M f ((gX6_needs f a1) - (gX6_free f )) hm (st_enough hm h1 c_16 c_72) _) (cwV 1 hts gX6_starts_X6_asksBack rfl rfl rfl (by decide +kernel) ⟨Nat.le_of_ble_eq_true rfl, Nat.le_of_ble_eq_true rfl⟩) (xpreV hN hK hP hD pm_all 0 rfl rfl rfl) rfl rfl hl.1 rfl (lv_room (Nat.le_of_ble_eq_true rfl)) dX6_starts_79 ⟨Nat.le_of_ble_eq_true rfl, Nat.le_of_ble_eq_true rfl⟩) hP hD hS hA pm_all pm_all' (fun H locs hP hD hS => ?_)
          have hP : va_P D vwCl (coreW ck ma M (gX6_asksBack f ((gX6_needs f a1) - (gX6_free f )))) H := hP
          have hD : va_D (va_A (coreW ck ma M f) s.heap.size) (coreW ck ma M (gX6_asksBack f ((gX6_needs f a1) - (gX6_free f )))) := hD
          refine lv_goto (tgt := 87) hx hb dX6_starts_82 (by decide) ?_
          refine lv_aload_n hx hb dX6_starts_87 rfl (lv_at hl 3 rfl) ?_
          refine lv_iload_n hx hb dX6_starts_88 rfl (lv_at hl 4 rfl) ?_
          refine lv_iconst (v := 3) hx hb dX6_starts_89 (by decide) ?_
          refine lv_iconst (v := 1) hx hb dX6_starts_90 (by decide) ?_
          refine xretv (va_runV (As := [.int (nI a1), .int 3, .int 1]) (rest := []) ⟨hx, hb, hml, hown, hts⟩ (mX6_sets l D ck ma M (gX6_asksBack f ((gX6_needs f a1) - (gX6_free f ))) (nI a1) a1 rfl (by omega) 3 3 rfl (by omega) 1  _) (cwV 3 hts gX6_starts_X6_sets rfl rfl rfl (by decide +kernel) ⟨Nat.le_of_ble_eq_true rfl, Nat.le_of_ble_eq_true rfl⟩) (xpreV hN hK hP hD pm_all 0 rfl rfl rfl) rfl rfl hl.1 rfl (lv_room (Nat.le_of_ble_eq_true rfl)) dX6_starts_91 ⟨Nat.le_of_ble_eq_true rfl, Nat.le_of_ble_eq_true rfl⟩) hP hD hS hA pm_all pm_all' (fun H locs hP hD hS => ?_)
          have hP : va_P D vwCl (coreW ck ma M (gX6_sets (gX6_asksBack f ((gX6_needs f a1) - (gX6_free f ))) a1 3 1)) H := hP
          have hD : va_D (va_A (coreW ck ma M f) s.heap.size) (coreW ck ma M (gX6_sets (gX6_asksBack f ((gX6_needs f a1) - (gX6_free f ))) a1 3 1)) := hD
          refine lv_aload_n hx hb dX6_starts_94 rfl (lv_at hl 3 rfl) ?_
          refine lv_iload_n hx hb dX6_starts_95 rfl (lv_at hl 4 rfl) ?_
          refine lv_iconst (v := 4) hx hb dX6_starts_96 (by decide) ?_
          refine lv_iload hx hb dX6_starts_97 (lv_at hl 0 rfl) ?_
          refine xretv (va_runV (As := [.int (nI a1), .int 4, .int (gX6_needs f a1)]) (rest := []) ⟨hx, hb, hml, hown, hts⟩ (mX6_sets l D ck ma M (gX6_sets (gX6_asksBack f ((gX6_needs f a1) - (gX6_free f ))) a1 3 1) (nI a1) a1 rfl (by omega) 4 4 rfl (by omega) (gX6_needs f a1)  _) (cwV 3 hts gX6_starts_X6_sets rfl rfl rfl (by decide +kernel) ⟨Nat.le_of_ble_eq_true rfl, Nat.le_of_ble_eq_true rfl⟩) (xpreV hN hK hP hD pm_all 0 rfl rfl rfl) rfl rfl hl.1 rfl (lv_room (Nat.le_of_ble_eq_true rfl)) dX6_starts_99 ⟨Nat.le_of_ble_eq_true rfl, Nat.le_of_ble_eq_true rfl⟩) hP hD hS hA pm_all pm_all' (fun H locs hP hD hS => ?_)
          have hP : va_P D vwCl (coreW ck ma M (gX6_sets (gX6_sets (gX6_asksBack f ((gX6_needs f a1) - (gX6_free f ))) a1 3 1) a1 4 (gX6_needs f a1))) H := hP
          have hD : va_D (va_A (coreW ck ma M f) s.heap.size) (coreW ck ma M (gX6_sets (gX6_sets (gX6_asksBack f ((gX6_needs f a1) - (gX6_free f ))) a1 3 1) a1 4 (gX6_needs f a1))) := hD
          refine lv_aload_n hx hb dX6_starts_102 rfl (lv_at hl 3 rfl) ?_
          refine lv_iload_n hx hb dX6_starts_103 rfl (lv_at hl 4 rfl) ?_
          refine lv_iconst (v := 5) hx hb dX6_starts_104 (by decide) ?_
          refine lv_aload_n hx hb dX6_starts_105 rfl (lv_at hl 3 rfl) ?_
          refine lv_iload_n hx hb dX6_starts_106 rfl (lv_at hl 4 rfl) ?_
          refine lv_iload hx hb dX6_starts_107 (lv_at hl 0 rfl) ?_
          refine xreti (va_runV (As := [.int (nI a1), .int (gX6_needs f a1)]) (rest := [.int 5, .int (nI a1), .ref (ma 0)]) ⟨hx, hb, hml, hown, hts⟩ (mX6_works l D ck ma M (gX6_sets (gX6_sets (gX6_asksBack f ((gX6_needs f a1) - (gX6_free f ))) a1 3 1) a1 4 (gX6_needs f a1)) (nI a1) a1 rfl (by omega) (gX6_needs f a1) (bI_sets (bI_sets (bI_ab hm (st_enough hm h1 c_16 c_72)) (by decide) (by decide)) (by decide) (by decide)) (st_pneed hm h1) _) (cwV 2 hts gX6_starts_X6_works rfl rfl rfl (by decide +kernel) ⟨Nat.le_of_ble_eq_true rfl, Nat.le_of_ble_eq_true rfl⟩) (xpreV hN hK hP hD pm_all 0 rfl rfl rfl) rfl rfl hl.1 rfl (lv_room (Nat.le_of_ble_eq_true rfl)) dX6_starts_109 ⟨Nat.le_of_ble_eq_true rfl, Nat.le_of_ble_eq_true rfl⟩) hP hD hS hA pm_all pm_all' (fun H locs hP hD hS => ?_)
          refine xretv (va_runV (As := [.int (nI a1), .int 5, .int (gX6_works (gX6_sets (gX6_sets (gX6_asksBack f ((gX6_needs f a1) - (gX6_free f ))) a1 3 1) a1 4 (gX6_needs f a1)) a1 (gX6_needs f a1))]) (rest := []) ⟨hx, hb, hml, hown, hts⟩ (mX6_sets l D ck ma M (gX6_sets (gX6_sets (gX6_asksBack f ((gX6_needs f a1) - (gX6_free f ))) a1 3 1) a1 4 (gX6_needs f a1)) (nI a1) a1 rfl (by omega) 5 5 rfl (by omega) (gX6_works (gX6_sets (gX6_sets (gX6_asksBack f ((gX6_needs f a1) - (gX6_free f ))) a1 3 1) a1 4 (gX6_needs f a1)) a1 (gX6_needs f a1))  _) (cwV 3 hts gX6_starts_X6_sets rfl rfl rfl (by decide +kernel) ⟨Nat.le_of_ble_eq_true rfl, Nat.le_of_ble_eq_true rfl⟩) (xpreV hN hK hP hD pm_all 0 rfl rfl rfl) rfl rfl hl.1 rfl (lv_room (Nat.le_of_ble_eq_true rfl)) dX6_starts_112 ⟨Nat.le_of_ble_eq_true rfl, Nat.le_of_ble_eq_true rfl⟩) hP hD hS hA pm_all pm_all' (fun H locs hP hD hS => ?_)
          have hP : va_P D vwCl (coreW ck ma M (gX6_sets (gX6_sets (gX6_sets (gX6_asksBack f ((gX6_needs f a1) - (gX6_free f ))) a1 3 1) a1 4 (gX6_needs f a1)) a1 5 (gX6_works (gX6_sets (gX6_sets (gX6_asksBack f ((gX6_needs f a1) - (gX6_free f ))) a1 3 1) a1 4 (gX6_needs f a1)) a1 (gX6_needs f a1)))) H := hP
          have hD : va_D (va_A (coreW ck ma M f) s.heap.size) (coreW ck ma M (gX6_sets (gX6_sets (gX6_sets (gX6_asksBack f ((gX6_needs f a1) - (gX6_free f ))) a1 3 1) a1 4 (gX6_needs f a1)) a1 5 (gX6_works (gX6_sets (gX6_sets (gX6_asksBack f ((gX6_needs f a1) - (gX6_free f ))) a1 3 1) a1 4 (gX6_needs f a1)) a1 (gX6_needs f a1)))) := hD
          refine lv_aload_n hx hb dX6_starts_115 rfl (lv_at hl 3 rfl) ?_
          refine xreti (va_runV (As := []) (rest := []) ⟨hx, hb, hml, hown, hts⟩ (mX6_granted l D ck ma M (gX6_sets (gX6_sets (gX6_sets (gX6_asksBack f ((gX6_needs f a1) - (gX6_free f ))) a1 3 1) a1 4 (gX6_needs f a1)) a1 5 (gX6_works (gX6_sets (gX6_sets (gX6_asksBack f ((gX6_needs f a1) - (gX6_free f ))) a1 3 1) a1 4 (gX6_needs f a1)) a1 (gX6_needs f a1)))  (bI_sets (bI_sets (bI_sets (bI_ab hm (st_enough hm h1 c_16 c_72)) (by decide) (by decide)) (by decide) (by decide)) (by decide) (by decide)) _) (cwV 0 hts gX6_starts_X6_granted rfl rfl rfl (by decide +kernel) ⟨Nat.le_of_ble_eq_true rfl, Nat.le_of_ble_eq_true rfl⟩) (xpreV hN hK hP hD pm_all 0 rfl rfl rfl) rfl rfl hl.1 rfl (lv_room (Nat.le_of_ble_eq_true rfl)) dX6_starts_116 ⟨Nat.le_of_ble_eq_true rfl, Nat.le_of_ble_eq_true rfl⟩) hP hD hS hA pm_all pm_all' (fun H locs hP hD hS => ?_)
          refine lv_istore (lv' := [(5, .int (gX6_granted (gX6_sets (gX6_sets (gX6_sets (gX6_asksBack f ((gX6_needs f a1) - (gX6_free f ))) a1 3 1) a1 4 (gX6_needs f a1)) a1 5 (gX6_works (gX6_sets (gX6_sets (gX6_asksBack f ((gX6_needs f a1) - (gX6_free f ))) a1 3 1) a1 4 (gX6_needs f a1)) a1 (gX6_needs f a1))) )), (4, .int (gX6_needs f a1)), (3, .int (gX6_needs f a1)), (2, .int (gX6_free f )), (0, .ref (ma 0)), (1, .int (nI a1))]) hx hb dX6_starts_119 hl (by decide) rfl (fun ls hl => ?_)
          refine lv_aload_n hx hb dX6_starts_121 rfl (lv_at hl 4 rfl) ?_
          refine va_get (D := D) (ci := 6) (v := .ref (ma 1)) (C := RX6) (T := TX6) (N := 13) hx hb hts hinX6 hown hK hP 0 rfl rfl 0 (by decide) (hts (.fieldLink RX6 7 "JoinGrantsModel" "all" "[I") (List.mem_of_getElem? (i := 1) rfl)) (fun _ h9 => h9) rfl dX6_starts_122 ?_
          refine lv_iconst (v := 5) hx hb dX6_starts_125 (by decide) ?_
          refine lv_iload hx hb dX6_starts_126 (lv_at hl 0 rfl) ?_
          refine lv_aload_n hx hb dX6_starts_128 rfl (lv_at hl 4 rfl) ?_
          refine va_get (D := D) (ci := 6) (v := .ref (ma 1)) (C := RX6) (T := TX6) (N := 13) hx hb hts hinX6 hown hK hP 0 rfl rfl 0 (by decide) (hts (.fieldLink RX6 7 "JoinGrantsModel" "all" "[I") (List.mem_of_getElem? (i := 1) rfl)) (fun _ h9 => h9) rfl dX6_starts_129 ?_
          refine lv_iconst (v := 5) hx hb dX6_starts_132 (by decide) ?_
          refine xiald (j := 5) (by decide) hx hb hK hP 1 0 rfl rfl (show vp_in 5 153 from by unfold vp_in; decide) dX6_starts_133 ?_
          refine lv_icmp_le (tgt := 142) hx hb dX6_starts_134 (by decide) (fun c_134 => ?_) (fun c_134 => ?_)
          · --t
            refine lv_aload_n hx hb dX6_starts_142 rfl (lv_at hl 4 rfl) ?_
            refine va_get (D := D) (ci := 6) (v := .ref (ma 1)) (C := RX6) (T := TX6) (N := 13) hx hb hts hinX6 hown hK hP 0 rfl rfl 0 (by decide) (hts (.fieldLink RX6 7 "JoinGrantsModel" "all" "[I") (List.mem_of_getElem? (i := 1) rfl)) (fun _ h9 => h9) rfl dX6_starts_143 ?_
            refine lv_iconst (v := 5) hx hb dX6_starts_146 (by decide) ?_
            refine xiald (j := 5) (by decide) hx hb hK hP 1 0 rfl rfl (show vp_in 5 153 from by unfold vp_in; decide) dX6_starts_147 ?_
            refine xiast (j := 5) (by decide) hx hb hK hP hD hS 1 0 rfl rfl (show vp_in 5 153 from by unfold vp_in; decide) dX6_starts_148 (fun H locs hP hD hS => ?_)
            have hP : va_P D vwCl (coreW ck ma M (upd (gX6_sets (gX6_sets (gX6_sets (gX6_asksBack f ((gX6_needs f a1) - (gX6_free f ))) a1 3 1) a1 4 (gX6_needs f a1)) a1 5 (gX6_works (gX6_sets (gX6_sets (gX6_asksBack f ((gX6_needs f a1) - (gX6_free f ))) a1 3 1) a1 4 (gX6_needs f a1)) a1 (gX6_needs f a1))) 5 ((gX6_sets (gX6_sets (gX6_sets (gX6_asksBack f ((gX6_needs f a1) - (gX6_free f ))) a1 3 1) a1 4 (gX6_needs f a1)) a1 5 (gX6_works (gX6_sets (gX6_sets (gX6_asksBack f ((gX6_needs f a1) - (gX6_free f ))) a1 3 1) a1 4 (gX6_needs f a1)) a1 (gX6_needs f a1))) 5))) H := hP
            have hD : va_D (va_A (coreW ck ma M f) s.heap.size) (coreW ck ma M (upd (gX6_sets (gX6_sets (gX6_sets (gX6_asksBack f ((gX6_needs f a1) - (gX6_free f ))) a1 3 1) a1 4 (gX6_needs f a1)) a1 5 (gX6_works (gX6_sets (gX6_sets (gX6_asksBack f ((gX6_needs f a1) - (gX6_free f ))) a1 3 1) a1 4 (gX6_needs f a1)) a1 (gX6_needs f a1))) 5 ((gX6_sets (gX6_sets (gX6_sets (gX6_asksBack f ((gX6_needs f a1) - (gX6_free f ))) a1 3 1) a1 4 (gX6_needs f a1)) a1 5 (gX6_works (gX6_sets (gX6_sets (gX6_asksBack f ((gX6_needs f a1) - (gX6_free f ))) a1 3 1) a1 4 (gX6_needs f a1)) a1 (gX6_needs f a1))) 5))) := hD
            refine lv_iconst (v := 1) hx hb dX6_starts_149 (by decide) ?_
            exact xzret hx hb hr hlk hP hD hS (Or.inr rfl) (congrArg (fun z => z.1) (show gX6_starts f a1 = (1, upd (gX6_sets (gX6_sets (gX6_sets (gX6_asksBack f ((gX6_needs f a1) - (gX6_free f ))) a1 3 1) a1 4 (gX6_needs f a1)) a1 5 (gX6_works (gX6_sets (gX6_sets (gX6_asksBack f ((gX6_needs f a1) - (gX6_free f ))) a1 3 1) a1 4 (gX6_needs f a1)) a1 (gX6_needs f a1))) 5 ((gX6_sets (gX6_sets (gX6_sets (gX6_asksBack f ((gX6_needs f a1) - (gX6_free f ))) a1 3 1) a1 4 (gX6_needs f a1)) a1 5 (gX6_works (gX6_sets (gX6_sets (gX6_asksBack f ((gX6_needs f a1) - (gX6_free f ))) a1 3 1) a1 4 (gX6_needs f a1)) a1 (gX6_needs f a1))) 5)) from (Eq.trans (if_pos c_16) (Eq.trans (if_pos c_49) (Eq.trans (if_neg c_62) (Eq.trans (if_neg c_72) (Eq.trans (if_pos c_134) rfl))))))).symm (congrArg (fun z => coreW ck ma M z.2) (show gX6_starts f a1 = (1, upd (gX6_sets (gX6_sets (gX6_sets (gX6_asksBack f ((gX6_needs f a1) - (gX6_free f ))) a1 3 1) a1 4 (gX6_needs f a1)) a1 5 (gX6_works (gX6_sets (gX6_sets (gX6_asksBack f ((gX6_needs f a1) - (gX6_free f ))) a1 3 1) a1 4 (gX6_needs f a1)) a1 (gX6_needs f a1))) 5 ((gX6_sets (gX6_sets (gX6_sets (gX6_asksBack f ((gX6_needs f a1) - (gX6_free f ))) a1 3 1) a1 4 (gX6_needs f a1)) a1 5 (gX6_works (gX6_sets (gX6_sets (gX6_asksBack f ((gX6_needs f a1) - (gX6_free f ))) a1 3 1) a1 4 (gX6_needs f a1)) a1 (gX6_needs f a1))) 5)) from (Eq.trans (if_pos c_16) (Eq.trans (if_pos c_49) (Eq.trans (if_neg c_62) (Eq.trans (if_neg c_72) (Eq.trans (if_pos c_134) rfl))))))).symm dX6_starts_150
          · --f
            refine lv_iload hx hb dX6_starts_137 (lv_at hl 0 rfl) ?_
            refine lv_goto (tgt := 148) hx hb dX6_starts_139 (by decide) ?_
            refine xiast (j := 5) (by decide) hx hb hK hP hD hS 1 0 rfl rfl (show vp_in 5 153 from by unfold vp_in; decide) dX6_starts_148 (fun H locs hP hD hS => ?_)
            have hP : va_P D vwCl (coreW ck ma M (upd (gX6_sets (gX6_sets (gX6_sets (gX6_asksBack f ((gX6_needs f a1) - (gX6_free f ))) a1 3 1) a1 4 (gX6_needs f a1)) a1 5 (gX6_works (gX6_sets (gX6_sets (gX6_asksBack f ((gX6_needs f a1) - (gX6_free f ))) a1 3 1) a1 4 (gX6_needs f a1)) a1 (gX6_needs f a1))) 5 (gX6_granted (gX6_sets (gX6_sets (gX6_sets (gX6_asksBack f ((gX6_needs f a1) - (gX6_free f ))) a1 3 1) a1 4 (gX6_needs f a1)) a1 5 (gX6_works (gX6_sets (gX6_sets (gX6_asksBack f ((gX6_needs f a1) - (gX6_free f ))) a1 3 1) a1 4 (gX6_needs f a1)) a1 (gX6_needs f a1))) ))) H := hP
            have hD : va_D (va_A (coreW ck ma M f) s.heap.size) (coreW ck ma M (upd (gX6_sets (gX6_sets (gX6_sets (gX6_asksBack f ((gX6_needs f a1) - (gX6_free f ))) a1 3 1) a1 4 (gX6_needs f a1)) a1 5 (gX6_works (gX6_sets (gX6_sets (gX6_asksBack f ((gX6_needs f a1) - (gX6_free f ))) a1 3 1) a1 4 (gX6_needs f a1)) a1 (gX6_needs f a1))) 5 (gX6_granted (gX6_sets (gX6_sets (gX6_sets (gX6_asksBack f ((gX6_needs f a1) - (gX6_free f ))) a1 3 1) a1 4 (gX6_needs f a1)) a1 5 (gX6_works (gX6_sets (gX6_sets (gX6_asksBack f ((gX6_needs f a1) - (gX6_free f ))) a1 3 1) a1 4 (gX6_needs f a1)) a1 (gX6_needs f a1))) ))) := hD
            refine lv_iconst (v := 1) hx hb dX6_starts_149 (by decide) ?_
            exact xzret hx hb hr hlk hP hD hS (Or.inr rfl) (congrArg (fun z => z.1) (show gX6_starts f a1 = (1, upd (gX6_sets (gX6_sets (gX6_sets (gX6_asksBack f ((gX6_needs f a1) - (gX6_free f ))) a1 3 1) a1 4 (gX6_needs f a1)) a1 5 (gX6_works (gX6_sets (gX6_sets (gX6_asksBack f ((gX6_needs f a1) - (gX6_free f ))) a1 3 1) a1 4 (gX6_needs f a1)) a1 (gX6_needs f a1))) 5 (gX6_granted (gX6_sets (gX6_sets (gX6_sets (gX6_asksBack f ((gX6_needs f a1) - (gX6_free f ))) a1 3 1) a1 4 (gX6_needs f a1)) a1 5 (gX6_works (gX6_sets (gX6_sets (gX6_asksBack f ((gX6_needs f a1) - (gX6_free f ))) a1 3 1) a1 4 (gX6_needs f a1)) a1 (gX6_needs f a1))) )) from (Eq.trans (if_pos c_16) (Eq.trans (if_pos c_49) (Eq.trans (if_neg c_62) (Eq.trans (if_neg c_72) (Eq.trans (if_neg c_134) rfl))))))).symm (congrArg (fun z => coreW ck ma M z.2) (show gX6_starts f a1 = (1, upd (gX6_sets (gX6_sets (gX6_sets (gX6_asksBack f ((gX6_needs f a1) - (gX6_free f ))) a1 3 1) a1 4 (gX6_needs f a1)) a1 5 (gX6_works (gX6_sets (gX6_sets (gX6_asksBack f ((gX6_needs f a1) - (gX6_free f ))) a1 3 1) a1 4 (gX6_needs f a1)) a1 (gX6_needs f a1))) 5 (gX6_granted (gX6_sets (gX6_sets (gX6_sets (gX6_asksBack f ((gX6_needs f a1) - (gX6_free f ))) a1 3 1) a1 4 (gX6_needs f a1)) a1 5 (gX6_works (gX6_sets (gX6_sets (gX6_asksBack f ((gX6_needs f a1) - (gX6_free f ))) a1 3 1) a1 4 (gX6_needs f a1)) a1 (gX6_needs f a1))) )) from (Eq.trans (if_pos c_16) (Eq.trans (if_pos c_49) (Eq.trans (if_neg c_62) (Eq.trans (if_neg c_72) (Eq.trans (if_neg c_134) rfl))))))).symm dX6_starts_150
  · --f
    refine lv_iload_n hx hb dX6_starts_19 rfl (lv_at hl 2 rfl) ?_
    refine lv_aload_n hx hb dX6_starts_20 rfl (lv_at hl 3 rfl) ?_
    refine lv_iload_n hx hb dX6_starts_21 rfl (lv_at hl 4 rfl) ?_
    refine xreti (va_runV (As := [.int (nI a1)]) (rest := [.int (gX6_free f )]) ⟨hx, hb, hml, hown, hts⟩ (mX6_wants l D ck ma M f (nI a1) a1 rfl (by omega) hbi _) (cwV 1 hts gX6_starts_X6_wants rfl rfl rfl (by decide +kernel) ⟨Nat.le_of_ble_eq_true rfl, Nat.le_of_ble_eq_true rfl⟩) (xpreV hN hK hP hD pm_all 0 rfl rfl rfl) rfl rfl hl.1 rfl (lv_room (Nat.le_of_ble_eq_true rfl)) dX6_starts_22 ⟨Nat.le_of_ble_eq_true rfl, Nat.le_of_ble_eq_true rfl⟩) hP hD hS hA pm_all pm_all' (fun H locs hP hD hS => ?_)
    refine lv_icmp_ge (tgt := 32) hx hb dX6_starts_25 (by decide) (fun c_25 => ?_) (fun c_25 => ?_)
    · --t
      refine lv_aload_n hx hb dX6_starts_32 rfl (lv_at hl 3 rfl) ?_
      refine lv_iload_n hx hb dX6_starts_33 rfl (lv_at hl 4 rfl) ?_
      refine xreti (va_runV (As := [.int (nI a1)]) (rest := []) ⟨hx, hb, hml, hown, hts⟩ (mX6_wants l D ck ma M f (nI a1) a1 rfl (by omega) hbi _) (cwV 1 hts gX6_starts_X6_wants rfl rfl rfl (by decide +kernel) ⟨Nat.le_of_ble_eq_true rfl, Nat.le_of_ble_eq_true rfl⟩) (xpreV hN hK hP hD pm_all 0 rfl rfl rfl) rfl rfl hl.1 rfl (lv_room (Nat.le_of_ble_eq_true rfl)) dX6_starts_34 ⟨Nat.le_of_ble_eq_true rfl, Nat.le_of_ble_eq_true rfl⟩) hP hD hS hA pm_all pm_all' (fun H locs hP hD hS => ?_)
      refine lv_istore (lv' := [(4, .int (gX6_wants f a1)), (3, .int (gX6_needs f a1)), (2, .int (gX6_free f )), (0, .ref (ma 0)), (1, .int (nI a1))]) hx hb dX6_starts_37 hl (by decide) rfl (fun ls hl => ?_)
      refine lv_goto (tgt := 87) hx hb dX6_starts_39 (by decide) ?_
      refine lv_aload_n hx hb dX6_starts_87 rfl (lv_at hl 3 rfl) ?_
      refine lv_iload_n hx hb dX6_starts_88 rfl (lv_at hl 4 rfl) ?_
      refine lv_iconst (v := 3) hx hb dX6_starts_89 (by decide) ?_
      refine lv_iconst (v := 1) hx hb dX6_starts_90 (by decide) ?_
      refine xretv (va_runV (As := [.int (nI a1), .int 3, .int 1]) (rest := []) ⟨hx, hb, hml, hown, hts⟩ (mX6_sets l D ck ma M f (nI a1) a1 rfl (by omega) 3 3 rfl (by omega) 1  _) (cwV 3 hts gX6_starts_X6_sets rfl rfl rfl (by decide +kernel) ⟨Nat.le_of_ble_eq_true rfl, Nat.le_of_ble_eq_true rfl⟩) (xpreV hN hK hP hD pm_all 0 rfl rfl rfl) rfl rfl hl.1 rfl (lv_room (Nat.le_of_ble_eq_true rfl)) dX6_starts_91 ⟨Nat.le_of_ble_eq_true rfl, Nat.le_of_ble_eq_true rfl⟩) hP hD hS hA pm_all pm_all' (fun H locs hP hD hS => ?_)
      have hP : va_P D vwCl (coreW ck ma M (gX6_sets f a1 3 1)) H := hP
      have hD : va_D (va_A (coreW ck ma M f) s.heap.size) (coreW ck ma M (gX6_sets f a1 3 1)) := hD
      refine lv_aload_n hx hb dX6_starts_94 rfl (lv_at hl 3 rfl) ?_
      refine lv_iload_n hx hb dX6_starts_95 rfl (lv_at hl 4 rfl) ?_
      refine lv_iconst (v := 4) hx hb dX6_starts_96 (by decide) ?_
      refine lv_iload hx hb dX6_starts_97 (lv_at hl 0 rfl) ?_
      refine xretv (va_runV (As := [.int (nI a1), .int 4, .int (gX6_wants f a1)]) (rest := []) ⟨hx, hb, hml, hown, hts⟩ (mX6_sets l D ck ma M (gX6_sets f a1 3 1) (nI a1) a1 rfl (by omega) 4 4 rfl (by omega) (gX6_wants f a1)  _) (cwV 3 hts gX6_starts_X6_sets rfl rfl rfl (by decide +kernel) ⟨Nat.le_of_ble_eq_true rfl, Nat.le_of_ble_eq_true rfl⟩) (xpreV hN hK hP hD pm_all 0 rfl rfl rfl) rfl rfl hl.1 rfl (lv_room (Nat.le_of_ble_eq_true rfl)) dX6_starts_99 ⟨Nat.le_of_ble_eq_true rfl, Nat.le_of_ble_eq_true rfl⟩) hP hD hS hA pm_all pm_all' (fun H locs hP hD hS => ?_)
      have hP : va_P D vwCl (coreW ck ma M (gX6_sets (gX6_sets f a1 3 1) a1 4 (gX6_wants f a1))) H := hP
      have hD : va_D (va_A (coreW ck ma M f) s.heap.size) (coreW ck ma M (gX6_sets (gX6_sets f a1 3 1) a1 4 (gX6_wants f a1))) := hD
      refine lv_aload_n hx hb dX6_starts_102 rfl (lv_at hl 3 rfl) ?_
      refine lv_iload_n hx hb dX6_starts_103 rfl (lv_at hl 4 rfl) ?_
      refine lv_iconst (v := 5) hx hb dX6_starts_104 (by decide) ?_
      refine lv_aload_n hx hb dX6_starts_105 rfl (lv_at hl 3 rfl) ?_
      refine lv_iload_n hx hb dX6_starts_106 rfl (lv_at hl 4 rfl) ?_
      refine lv_iload hx hb dX6_starts_107 (lv_at hl 0 rfl) ?_
      refine xreti (va_runV (As := [.int (nI a1), .int (gX6_wants f a1)]) (rest := [.int 5, .int (nI a1), .ref (ma 0)]) ⟨hx, hb, hml, hown, hts⟩ (mX6_works l D ck ma M (gX6_sets (gX6_sets f a1 3 1) a1 4 (gX6_wants f a1)) (nI a1) a1 rfl (by omega) (gX6_wants f a1) (bI_sets (bI_sets hbi (by decide) (by decide)) (by decide) (by decide)) (st_pwant hm h1) _) (cwV 2 hts gX6_starts_X6_works rfl rfl rfl (by decide +kernel) ⟨Nat.le_of_ble_eq_true rfl, Nat.le_of_ble_eq_true rfl⟩) (xpreV hN hK hP hD pm_all 0 rfl rfl rfl) rfl rfl hl.1 rfl (lv_room (Nat.le_of_ble_eq_true rfl)) dX6_starts_109 ⟨Nat.le_of_ble_eq_true rfl, Nat.le_of_ble_eq_true rfl⟩) hP hD hS hA pm_all pm_all' (fun H locs hP hD hS => ?_)
      refine xretv (va_runV (As := [.int (nI a1), .int 5, .int (gX6_works (gX6_sets (gX6_sets f a1 3 1) a1 4 (gX6_wants f a1)) a1 (gX6_wants f a1))]) (rest := []) ⟨hx, hb, hml, hown, hts⟩ (mX6_sets l D ck ma M (gX6_sets (gX6_sets f a1 3 1) a1 4 (gX6_wants f a1)) (nI a1) a1 rfl (by omega) 5 5 rfl (by omega) (gX6_works (gX6_sets (gX6_sets f a1 3 1) a1 4 (gX6_wants f a1)) a1 (gX6_wants f a1))  _) (cwV 3 hts gX6_starts_X6_sets rfl rfl rfl (by decide +kernel) ⟨Nat.le_of_ble_eq_true rfl, Nat.le_of_ble_eq_true rfl⟩) (xpreV hN hK hP hD pm_all 0 rfl rfl rfl) rfl rfl hl.1 rfl (lv_room (Nat.le_of_ble_eq_true rfl)) dX6_starts_112 ⟨Nat.le_of_ble_eq_true rfl, Nat.le_of_ble_eq_true rfl⟩) hP hD hS hA pm_all pm_all' (fun H locs hP hD hS => ?_)
      have hP : va_P D vwCl (coreW ck ma M (gX6_sets (gX6_sets (gX6_sets f a1 3 1) a1 4 (gX6_wants f a1)) a1 5 (gX6_works (gX6_sets (gX6_sets f a1 3 1) a1 4 (gX6_wants f a1)) a1 (gX6_wants f a1)))) H := hP
      have hD : va_D (va_A (coreW ck ma M f) s.heap.size) (coreW ck ma M (gX6_sets (gX6_sets (gX6_sets f a1 3 1) a1 4 (gX6_wants f a1)) a1 5 (gX6_works (gX6_sets (gX6_sets f a1 3 1) a1 4 (gX6_wants f a1)) a1 (gX6_wants f a1)))) := hD
      refine lv_aload_n hx hb dX6_starts_115 rfl (lv_at hl 3 rfl) ?_
      refine xreti (va_runV (As := []) (rest := []) ⟨hx, hb, hml, hown, hts⟩ (mX6_granted l D ck ma M (gX6_sets (gX6_sets (gX6_sets f a1 3 1) a1 4 (gX6_wants f a1)) a1 5 (gX6_works (gX6_sets (gX6_sets f a1 3 1) a1 4 (gX6_wants f a1)) a1 (gX6_wants f a1)))  (bI_sets (bI_sets (bI_sets hbi (by decide) (by decide)) (by decide) (by decide)) (by decide) (by decide)) _) (cwV 0 hts gX6_starts_X6_granted rfl rfl rfl (by decide +kernel) ⟨Nat.le_of_ble_eq_true rfl, Nat.le_of_ble_eq_true rfl⟩) (xpreV hN hK hP hD pm_all 0 rfl rfl rfl) rfl rfl hl.1 rfl (lv_room (Nat.le_of_ble_eq_true rfl)) dX6_starts_116 ⟨Nat.le_of_ble_eq_true rfl, Nat.le_of_ble_eq_true rfl⟩) hP hD hS hA pm_all pm_all' (fun H locs hP hD hS => ?_)
      refine lv_istore (lv' := [(5, .int (gX6_granted (gX6_sets (gX6_sets (gX6_sets f a1 3 1) a1 4 (gX6_wants f a1)) a1 5 (gX6_works (gX6_sets (gX6_sets f a1 3 1) a1 4 (gX6_wants f a1)) a1 (gX6_wants f a1))) )), (4, .int (gX6_wants f a1)), (3, .int (gX6_needs f a1)), (2, .int (gX6_free f )), (0, .ref (ma 0)), (1, .int (nI a1))]) hx hb dX6_starts_119 hl (by decide) rfl (fun ls hl => ?_)
      refine lv_aload_n hx hb dX6_starts_121 rfl (lv_at hl 4 rfl) ?_
      refine va_get (D := D) (ci := 6) (v := .ref (ma 1)) (C := RX6) (T := TX6) (N := 13) hx hb hts hinX6 hown hK hP 0 rfl rfl 0 (by decide) (hts (.fieldLink RX6 7 "JoinGrantsModel" "all" "[I") (List.mem_of_getElem? (i := 1) rfl)) (fun _ h9 => h9) rfl dX6_starts_122 ?_
      refine lv_iconst (v := 5) hx hb dX6_starts_125 (by decide) ?_
      refine lv_iload hx hb dX6_starts_126 (lv_at hl 0 rfl) ?_
      refine lv_aload_n hx hb dX6_starts_128 rfl (lv_at hl 4 rfl) ?_
      refine va_get (D := D) (ci := 6) (v := .ref (ma 1)) (C := RX6) (T := TX6) (N := 13) hx hb hts hinX6 hown hK hP 0 rfl rfl 0 (by decide) (hts (.fieldLink RX6 7 "JoinGrantsModel" "all" "[I") (List.mem_of_getElem? (i := 1) rfl)) (fun _ h9 => h9) rfl dX6_starts_129 ?_
      refine lv_iconst (v := 5) hx hb dX6_starts_132 (by decide) ?_
      refine xiald (j := 5) (by decide) hx hb hK hP 1 0 rfl rfl (show vp_in 5 153 from by unfold vp_in; decide) dX6_starts_133 ?_
      refine lv_icmp_le (tgt := 142) hx hb dX6_starts_134 (by decide) (fun c_134 => ?_) (fun c_134 => ?_)
      · --t
        refine lv_aload_n hx hb dX6_starts_142 rfl (lv_at hl 4 rfl) ?_
        refine va_get (D := D) (ci := 6) (v := .ref (ma 1)) (C := RX6) (T := TX6) (N := 13) hx hb hts hinX6 hown hK hP 0 rfl rfl 0 (by decide) (hts (.fieldLink RX6 7 "JoinGrantsModel" "all" "[I") (List.mem_of_getElem? (i := 1) rfl)) (fun _ h9 => h9) rfl dX6_starts_143 ?_
        refine lv_iconst (v := 5) hx hb dX6_starts_146 (by decide) ?_
        refine xiald (j := 5) (by decide) hx hb hK hP 1 0 rfl rfl (show vp_in 5 153 from by unfold vp_in; decide) dX6_starts_147 ?_
        refine xiast (j := 5) (by decide) hx hb hK hP hD hS 1 0 rfl rfl (show vp_in 5 153 from by unfold vp_in; decide) dX6_starts_148 (fun H locs hP hD hS => ?_)
        have hP : va_P D vwCl (coreW ck ma M (upd (gX6_sets (gX6_sets (gX6_sets f a1 3 1) a1 4 (gX6_wants f a1)) a1 5 (gX6_works (gX6_sets (gX6_sets f a1 3 1) a1 4 (gX6_wants f a1)) a1 (gX6_wants f a1))) 5 ((gX6_sets (gX6_sets (gX6_sets f a1 3 1) a1 4 (gX6_wants f a1)) a1 5 (gX6_works (gX6_sets (gX6_sets f a1 3 1) a1 4 (gX6_wants f a1)) a1 (gX6_wants f a1))) 5))) H := hP
        have hD : va_D (va_A (coreW ck ma M f) s.heap.size) (coreW ck ma M (upd (gX6_sets (gX6_sets (gX6_sets f a1 3 1) a1 4 (gX6_wants f a1)) a1 5 (gX6_works (gX6_sets (gX6_sets f a1 3 1) a1 4 (gX6_wants f a1)) a1 (gX6_wants f a1))) 5 ((gX6_sets (gX6_sets (gX6_sets f a1 3 1) a1 4 (gX6_wants f a1)) a1 5 (gX6_works (gX6_sets (gX6_sets f a1 3 1) a1 4 (gX6_wants f a1)) a1 (gX6_wants f a1))) 5))) := hD
        refine lv_iconst (v := 1) hx hb dX6_starts_149 (by decide) ?_
        exact xzret hx hb hr hlk hP hD hS (Or.inr rfl) (congrArg (fun z => z.1) (show gX6_starts f a1 = (1, upd (gX6_sets (gX6_sets (gX6_sets f a1 3 1) a1 4 (gX6_wants f a1)) a1 5 (gX6_works (gX6_sets (gX6_sets f a1 3 1) a1 4 (gX6_wants f a1)) a1 (gX6_wants f a1))) 5 ((gX6_sets (gX6_sets (gX6_sets f a1 3 1) a1 4 (gX6_wants f a1)) a1 5 (gX6_works (gX6_sets (gX6_sets f a1 3 1) a1 4 (gX6_wants f a1)) a1 (gX6_wants f a1))) 5)) from (Eq.trans (if_neg c_16) (Eq.trans (if_pos c_25) (Eq.trans (if_pos c_134) rfl))))).symm (congrArg (fun z => coreW ck ma M z.2) (show gX6_starts f a1 = (1, upd (gX6_sets (gX6_sets (gX6_sets f a1 3 1) a1 4 (gX6_wants f a1)) a1 5 (gX6_works (gX6_sets (gX6_sets f a1 3 1) a1 4 (gX6_wants f a1)) a1 (gX6_wants f a1))) 5 ((gX6_sets (gX6_sets (gX6_sets f a1 3 1) a1 4 (gX6_wants f a1)) a1 5 (gX6_works (gX6_sets (gX6_sets f a1 3 1) a1 4 (gX6_wants f a1)) a1 (gX6_wants f a1))) 5)) from (Eq.trans (if_neg c_16) (Eq.trans (if_pos c_25) (Eq.trans (if_pos c_134) rfl))))).symm dX6_starts_150
      · --f
        refine lv_iload hx hb dX6_starts_137 (lv_at hl 0 rfl) ?_
        refine lv_goto (tgt := 148) hx hb dX6_starts_139 (by decide) ?_
        refine xiast (j := 5) (by decide) hx hb hK hP hD hS 1 0 rfl rfl (show vp_in 5 153 from by unfold vp_in; decide) dX6_starts_148 (fun H locs hP hD hS => ?_)
        have hP : va_P D vwCl (coreW ck ma M (upd (gX6_sets (gX6_sets (gX6_sets f a1 3 1) a1 4 (gX6_wants f a1)) a1 5 (gX6_works (gX6_sets (gX6_sets f a1 3 1) a1 4 (gX6_wants f a1)) a1 (gX6_wants f a1))) 5 (gX6_granted (gX6_sets (gX6_sets (gX6_sets f a1 3 1) a1 4 (gX6_wants f a1)) a1 5 (gX6_works (gX6_sets (gX6_sets f a1 3 1) a1 4 (gX6_wants f a1)) a1 (gX6_wants f a1))) ))) H := hP
        have hD : va_D (va_A (coreW ck ma M f) s.heap.size) (coreW ck ma M (upd (gX6_sets (gX6_sets (gX6_sets f a1 3 1) a1 4 (gX6_wants f a1)) a1 5 (gX6_works (gX6_sets (gX6_sets f a1 3 1) a1 4 (gX6_wants f a1)) a1 (gX6_wants f a1))) 5 (gX6_granted (gX6_sets (gX6_sets (gX6_sets f a1 3 1) a1 4 (gX6_wants f a1)) a1 5 (gX6_works (gX6_sets (gX6_sets f a1 3 1) a1 4 (gX6_wants f a1)) a1 (gX6_wants f a1))) ))) := hD
        refine lv_iconst (v := 1) hx hb dX6_starts_149 (by decide) ?_
        exact xzret hx hb hr hlk hP hD hS (Or.inr rfl) (congrArg (fun z => z.1) (show gX6_starts f a1 = (1, upd (gX6_sets (gX6_sets (gX6_sets f a1 3 1) a1 4 (gX6_wants f a1)) a1 5 (gX6_works (gX6_sets (gX6_sets f a1 3 1) a1 4 (gX6_wants f a1)) a1 (gX6_wants f a1))) 5 (gX6_granted (gX6_sets (gX6_sets (gX6_sets f a1 3 1) a1 4 (gX6_wants f a1)) a1 5 (gX6_works (gX6_sets (gX6_sets f a1 3 1) a1 4 (gX6_wants f a1)) a1 (gX6_wants f a1))) )) from (Eq.trans (if_neg c_16) (Eq.trans (if_pos c_25) (Eq.trans (if_neg c_134) rfl))))).symm (congrArg (fun z => coreW ck ma M z.2) (show gX6_starts f a1 = (1, upd (gX6_sets (gX6_sets (gX6_sets f a1 3 1) a1 4 (gX6_wants f a1)) a1 5 (gX6_works (gX6_sets (gX6_sets f a1 3 1) a1 4 (gX6_wants f a1)) a1 (gX6_wants f a1))) 5 (gX6_granted (gX6_sets (gX6_sets (gX6_sets f a1 3 1) a1 4 (gX6_wants f a1)) a1 5 (gX6_works (gX6_sets (gX6_sets f a1 3 1) a1 4 (gX6_wants f a1)) a1 (gX6_wants f a1))) )) from (Eq.trans (if_neg c_16) (Eq.trans (if_pos c_25) (Eq.trans (if_neg c_134) rfl))))).symm dX6_starts_150
    · --f
      refine lv_iload_n hx hb dX6_starts_28 rfl (lv_at hl 2 rfl) ?_
      refine lv_goto (tgt := 37) hx hb dX6_starts_29 (by decide) ?_
      refine lv_istore (lv' := [(4, .int (gX6_free f )), (3, .int (gX6_needs f a1)), (2, .int (gX6_free f )), (0, .ref (ma 0)), (1, .int (nI a1))]) hx hb dX6_starts_37 hl (by decide) rfl (fun ls hl => ?_)
      refine lv_goto (tgt := 87) hx hb dX6_starts_39 (by decide) ?_
      refine lv_aload_n hx hb dX6_starts_87 rfl (lv_at hl 3 rfl) ?_
      refine lv_iload_n hx hb dX6_starts_88 rfl (lv_at hl 4 rfl) ?_
      refine lv_iconst (v := 3) hx hb dX6_starts_89 (by decide) ?_
      refine lv_iconst (v := 1) hx hb dX6_starts_90 (by decide) ?_
      refine xretv (va_runV (As := [.int (nI a1), .int 3, .int 1]) (rest := []) ⟨hx, hb, hml, hown, hts⟩ (mX6_sets l D ck ma M f (nI a1) a1 rfl (by omega) 3 3 rfl (by omega) 1  _) (cwV 3 hts gX6_starts_X6_sets rfl rfl rfl (by decide +kernel) ⟨Nat.le_of_ble_eq_true rfl, Nat.le_of_ble_eq_true rfl⟩) (xpreV hN hK hP hD pm_all 0 rfl rfl rfl) rfl rfl hl.1 rfl (lv_room (Nat.le_of_ble_eq_true rfl)) dX6_starts_91 ⟨Nat.le_of_ble_eq_true rfl, Nat.le_of_ble_eq_true rfl⟩) hP hD hS hA pm_all pm_all' (fun H locs hP hD hS => ?_)
      have hP : va_P D vwCl (coreW ck ma M (gX6_sets f a1 3 1)) H := hP
      have hD : va_D (va_A (coreW ck ma M f) s.heap.size) (coreW ck ma M (gX6_sets f a1 3 1)) := hD
      refine lv_aload_n hx hb dX6_starts_94 rfl (lv_at hl 3 rfl) ?_
      refine lv_iload_n hx hb dX6_starts_95 rfl (lv_at hl 4 rfl) ?_
      refine lv_iconst (v := 4) hx hb dX6_starts_96 (by decide) ?_
      refine lv_iload hx hb dX6_starts_97 (lv_at hl 0 rfl) ?_
      refine xretv (va_runV (As := [.int (nI a1), .int 4, .int (gX6_free f )]) (rest := []) ⟨hx, hb, hml, hown, hts⟩ (mX6_sets l D ck ma M (gX6_sets f a1 3 1) (nI a1) a1 rfl (by omega) 4 4 rfl (by omega) (gX6_free f )  _) (cwV 3 hts gX6_starts_X6_sets rfl rfl rfl (by decide +kernel) ⟨Nat.le_of_ble_eq_true rfl, Nat.le_of_ble_eq_true rfl⟩) (xpreV hN hK hP hD pm_all 0 rfl rfl rfl) rfl rfl hl.1 rfl (lv_room (Nat.le_of_ble_eq_true rfl)) dX6_starts_99 ⟨Nat.le_of_ble_eq_true rfl, Nat.le_of_ble_eq_true rfl⟩) hP hD hS hA pm_all pm_all' (fun H locs hP hD hS => ?_)
      have hP : va_P D vwCl (coreW ck ma M (gX6_sets (gX6_sets f a1 3 1) a1 4 (gX6_free f ))) H := hP
      have hD : va_D (va_A (coreW ck ma M f) s.heap.size) (coreW ck ma M (gX6_sets (gX6_sets f a1 3 1) a1 4 (gX6_free f ))) := hD
      refine lv_aload_n hx hb dX6_starts_102 rfl (lv_at hl 3 rfl) ?_
      refine lv_iload_n hx hb dX6_starts_103 rfl (lv_at hl 4 rfl) ?_
      refine lv_iconst (v := 5) hx hb dX6_starts_104 (by decide) ?_
      refine lv_aload_n hx hb dX6_starts_105 rfl (lv_at hl 3 rfl) ?_
      refine lv_iload_n hx hb dX6_starts_106 rfl (lv_at hl 4 rfl) ?_
      refine lv_iload hx hb dX6_starts_107 (lv_at hl 0 rfl) ?_
      refine xreti (va_runV (As := [.int (nI a1), .int (gX6_free f )]) (rest := [.int 5, .int (nI a1), .ref (ma 0)]) ⟨hx, hb, hml, hown, hts⟩ (mX6_works l D ck ma M (gX6_sets (gX6_sets f a1 3 1) a1 4 (gX6_free f )) (nI a1) a1 rfl (by omega) (gX6_free f ) (bI_sets (bI_sets hbi (by decide) (by decide)) (by decide) (by decide)) (st_pfree hm h1 c_16) _) (cwV 2 hts gX6_starts_X6_works rfl rfl rfl (by decide +kernel) ⟨Nat.le_of_ble_eq_true rfl, Nat.le_of_ble_eq_true rfl⟩) (xpreV hN hK hP hD pm_all 0 rfl rfl rfl) rfl rfl hl.1 rfl (lv_room (Nat.le_of_ble_eq_true rfl)) dX6_starts_109 ⟨Nat.le_of_ble_eq_true rfl, Nat.le_of_ble_eq_true rfl⟩) hP hD hS hA pm_all pm_all' (fun H locs hP hD hS => ?_)
      refine xretv (va_runV (As := [.int (nI a1), .int 5, .int (gX6_works (gX6_sets (gX6_sets f a1 3 1) a1 4 (gX6_free f )) a1 (gX6_free f ))]) (rest := []) ⟨hx, hb, hml, hown, hts⟩ (mX6_sets l D ck ma M (gX6_sets (gX6_sets f a1 3 1) a1 4 (gX6_free f )) (nI a1) a1 rfl (by omega) 5 5 rfl (by omega) (gX6_works (gX6_sets (gX6_sets f a1 3 1) a1 4 (gX6_free f )) a1 (gX6_free f ))  _) (cwV 3 hts gX6_starts_X6_sets rfl rfl rfl (by decide +kernel) ⟨Nat.le_of_ble_eq_true rfl, Nat.le_of_ble_eq_true rfl⟩) (xpreV hN hK hP hD pm_all 0 rfl rfl rfl) rfl rfl hl.1 rfl (lv_room (Nat.le_of_ble_eq_true rfl)) dX6_starts_112 ⟨Nat.le_of_ble_eq_true rfl, Nat.le_of_ble_eq_true rfl⟩) hP hD hS hA pm_all pm_all' (fun H locs hP hD hS => ?_)
      have hP : va_P D vwCl (coreW ck ma M (gX6_sets (gX6_sets (gX6_sets f a1 3 1) a1 4 (gX6_free f )) a1 5 (gX6_works (gX6_sets (gX6_sets f a1 3 1) a1 4 (gX6_free f )) a1 (gX6_free f )))) H := hP
      have hD : va_D (va_A (coreW ck ma M f) s.heap.size) (coreW ck ma M (gX6_sets (gX6_sets (gX6_sets f a1 3 1) a1 4 (gX6_free f )) a1 5 (gX6_works (gX6_sets (gX6_sets f a1 3 1) a1 4 (gX6_free f )) a1 (gX6_free f )))) := hD
      refine lv_aload_n hx hb dX6_starts_115 rfl (lv_at hl 3 rfl) ?_
      refine xreti (va_runV (As := []) (rest := []) ⟨hx, hb, hml, hown, hts⟩ (mX6_granted l D ck ma M (gX6_sets (gX6_sets (gX6_sets f a1 3 1) a1 4 (gX6_free f )) a1 5 (gX6_works (gX6_sets (gX6_sets f a1 3 1) a1 4 (gX6_free f )) a1 (gX6_free f )))  (bI_sets (bI_sets (bI_sets hbi (by decide) (by decide)) (by decide) (by decide)) (by decide) (by decide)) _) (cwV 0 hts gX6_starts_X6_granted rfl rfl rfl (by decide +kernel) ⟨Nat.le_of_ble_eq_true rfl, Nat.le_of_ble_eq_true rfl⟩) (xpreV hN hK hP hD pm_all 0 rfl rfl rfl) rfl rfl hl.1 rfl (lv_room (Nat.le_of_ble_eq_true rfl)) dX6_starts_116 ⟨Nat.le_of_ble_eq_true rfl, Nat.le_of_ble_eq_true rfl⟩) hP hD hS hA pm_all pm_all' (fun H locs hP hD hS => ?_)
      refine lv_istore (lv' := [(5, .int (gX6_granted (gX6_sets (gX6_sets (gX6_sets f a1 3 1) a1 4 (gX6_free f )) a1 5 (gX6_works (gX6_sets (gX6_sets f a1 3 1) a1 4 (gX6_free f )) a1 (gX6_free f ))) )), (4, .int (gX6_free f )), (3, .int (gX6_needs f a1)), (2, .int (gX6_free f )), (0, .ref (ma 0)), (1, .int (nI a1))]) hx hb dX6_starts_119 hl (by decide) rfl (fun ls hl => ?_)
      refine lv_aload_n hx hb dX6_starts_121 rfl (lv_at hl 4 rfl) ?_
      refine va_get (D := D) (ci := 6) (v := .ref (ma 1)) (C := RX6) (T := TX6) (N := 13) hx hb hts hinX6 hown hK hP 0 rfl rfl 0 (by decide) (hts (.fieldLink RX6 7 "JoinGrantsModel" "all" "[I") (List.mem_of_getElem? (i := 1) rfl)) (fun _ h9 => h9) rfl dX6_starts_122 ?_
      refine lv_iconst (v := 5) hx hb dX6_starts_125 (by decide) ?_
      refine lv_iload hx hb dX6_starts_126 (lv_at hl 0 rfl) ?_
      refine lv_aload_n hx hb dX6_starts_128 rfl (lv_at hl 4 rfl) ?_
      refine va_get (D := D) (ci := 6) (v := .ref (ma 1)) (C := RX6) (T := TX6) (N := 13) hx hb hts hinX6 hown hK hP 0 rfl rfl 0 (by decide) (hts (.fieldLink RX6 7 "JoinGrantsModel" "all" "[I") (List.mem_of_getElem? (i := 1) rfl)) (fun _ h9 => h9) rfl dX6_starts_129 ?_
      refine lv_iconst (v := 5) hx hb dX6_starts_132 (by decide) ?_
      refine xiald (j := 5) (by decide) hx hb hK hP 1 0 rfl rfl (show vp_in 5 153 from by unfold vp_in; decide) dX6_starts_133 ?_
      refine lv_icmp_le (tgt := 142) hx hb dX6_starts_134 (by decide) (fun c_134 => ?_) (fun c_134 => ?_)
      · --t
        refine lv_aload_n hx hb dX6_starts_142 rfl (lv_at hl 4 rfl) ?_
        refine va_get (D := D) (ci := 6) (v := .ref (ma 1)) (C := RX6) (T := TX6) (N := 13) hx hb hts hinX6 hown hK hP 0 rfl rfl 0 (by decide) (hts (.fieldLink RX6 7 "JoinGrantsModel" "all" "[I") (List.mem_of_getElem? (i := 1) rfl)) (fun _ h9 => h9) rfl dX6_starts_143 ?_
        refine lv_iconst (v := 5) hx hb dX6_starts_146 (by decide) ?_
        refine xiald (j := 5) (by decide) hx hb hK hP 1 0 rfl rfl (show vp_in 5 153 from by unfold vp_in; decide) dX6_starts_147 ?_
        refine xiast (j := 5) (by decide) hx hb hK hP hD hS 1 0 rfl rfl (show vp_in 5 153 from by unfold vp_in; decide) dX6_starts_148 (fun H locs hP hD hS => ?_)
        have hP : va_P D vwCl (coreW ck ma M (upd (gX6_sets (gX6_sets (gX6_sets f a1 3 1) a1 4 (gX6_free f )) a1 5 (gX6_works (gX6_sets (gX6_sets f a1 3 1) a1 4 (gX6_free f )) a1 (gX6_free f ))) 5 ((gX6_sets (gX6_sets (gX6_sets f a1 3 1) a1 4 (gX6_free f )) a1 5 (gX6_works (gX6_sets (gX6_sets f a1 3 1) a1 4 (gX6_free f )) a1 (gX6_free f ))) 5))) H := hP
        have hD : va_D (va_A (coreW ck ma M f) s.heap.size) (coreW ck ma M (upd (gX6_sets (gX6_sets (gX6_sets f a1 3 1) a1 4 (gX6_free f )) a1 5 (gX6_works (gX6_sets (gX6_sets f a1 3 1) a1 4 (gX6_free f )) a1 (gX6_free f ))) 5 ((gX6_sets (gX6_sets (gX6_sets f a1 3 1) a1 4 (gX6_free f )) a1 5 (gX6_works (gX6_sets (gX6_sets f a1 3 1) a1 4 (gX6_free f )) a1 (gX6_free f ))) 5))) := hD
        refine lv_iconst (v := 1) hx hb dX6_starts_149 (by decide) ?_
        exact xzret hx hb hr hlk hP hD hS (Or.inr rfl) (congrArg (fun z => z.1) (show gX6_starts f a1 = (1, upd (gX6_sets (gX6_sets (gX6_sets f a1 3 1) a1 4 (gX6_free f )) a1 5 (gX6_works (gX6_sets (gX6_sets f a1 3 1) a1 4 (gX6_free f )) a1 (gX6_free f ))) 5 ((gX6_sets (gX6_sets (gX6_sets f a1 3 1) a1 4 (gX6_free f )) a1 5 (gX6_works (gX6_sets (gX6_sets f a1 3 1) a1 4 (gX6_free f )) a1 (gX6_free f ))) 5)) from (Eq.trans (if_neg c_16) (Eq.trans (if_neg c_25) (Eq.trans (if_pos c_134) rfl))))).symm (congrArg (fun z => coreW ck ma M z.2) (show gX6_starts f a1 = (1, upd (gX6_sets (gX6_sets (gX6_sets f a1 3 1) a1 4 (gX6_free f )) a1 5 (gX6_works (gX6_sets (gX6_sets f a1 3 1) a1 4 (gX6_free f )) a1 (gX6_free f ))) 5 ((gX6_sets (gX6_sets (gX6_sets f a1 3 1) a1 4 (gX6_free f )) a1 5 (gX6_works (gX6_sets (gX6_sets f a1 3 1) a1 4 (gX6_free f )) a1 (gX6_free f ))) 5)) from (Eq.trans (if_neg c_16) (Eq.trans (if_neg c_25) (Eq.trans (if_pos c_134) rfl))))).symm dX6_starts_150
      · --f
        refine lv_iload hx hb dX6_starts_137 (lv_at hl 0 rfl) ?_
        refine lv_goto (tgt := 148) hx hb dX6_starts_139 (by decide) ?_
        refine xiast (j := 5) (by decide) hx hb hK hP hD hS 1 0 rfl rfl (show vp_in 5 153 from by unfold vp_in; decide) dX6_starts_148 (fun H locs hP hD hS => ?_)
        have hP : va_P D vwCl (coreW ck ma M (upd (gX6_sets (gX6_sets (gX6_sets f a1 3 1) a1 4 (gX6_free f )) a1 5 (gX6_works (gX6_sets (gX6_sets f a1 3 1) a1 4 (gX6_free f )) a1 (gX6_free f ))) 5 (gX6_granted (gX6_sets (gX6_sets (gX6_sets f a1 3 1) a1 4 (gX6_free f )) a1 5 (gX6_works (gX6_sets (gX6_sets f a1 3 1) a1 4 (gX6_free f )) a1 (gX6_free f ))) ))) H := hP
        have hD : va_D (va_A (coreW ck ma M f) s.heap.size) (coreW ck ma M (upd (gX6_sets (gX6_sets (gX6_sets f a1 3 1) a1 4 (gX6_free f )) a1 5 (gX6_works (gX6_sets (gX6_sets f a1 3 1) a1 4 (gX6_free f )) a1 (gX6_free f ))) 5 (gX6_granted (gX6_sets (gX6_sets (gX6_sets f a1 3 1) a1 4 (gX6_free f )) a1 5 (gX6_works (gX6_sets (gX6_sets f a1 3 1) a1 4 (gX6_free f )) a1 (gX6_free f ))) ))) := hD
        refine lv_iconst (v := 1) hx hb dX6_starts_149 (by decide) ?_
        exact xzret hx hb hr hlk hP hD hS (Or.inr rfl) (congrArg (fun z => z.1) (show gX6_starts f a1 = (1, upd (gX6_sets (gX6_sets (gX6_sets f a1 3 1) a1 4 (gX6_free f )) a1 5 (gX6_works (gX6_sets (gX6_sets f a1 3 1) a1 4 (gX6_free f )) a1 (gX6_free f ))) 5 (gX6_granted (gX6_sets (gX6_sets (gX6_sets f a1 3 1) a1 4 (gX6_free f )) a1 5 (gX6_works (gX6_sets (gX6_sets f a1 3 1) a1 4 (gX6_free f )) a1 (gX6_free f ))) )) from (Eq.trans (if_neg c_16) (Eq.trans (if_neg c_25) (Eq.trans (if_neg c_134) rfl))))).symm (congrArg (fun z => coreW ck ma M z.2) (show gX6_starts f a1 = (1, upd (gX6_sets (gX6_sets (gX6_sets f a1 3 1) a1 4 (gX6_free f )) a1 5 (gX6_works (gX6_sets (gX6_sets f a1 3 1) a1 4 (gX6_free f )) a1 (gX6_free f ))) 5 (gX6_granted (gX6_sets (gX6_sets (gX6_sets f a1 3 1) a1 4 (gX6_free f )) a1 5 (gX6_works (gX6_sets (gX6_sets f a1 3 1) a1 4 (gX6_free f )) a1 (gX6_free f ))) )) from (Eq.trans (if_neg c_16) (Eq.trans (if_neg c_25) (Eq.trans (if_neg c_134) rfl))))).symm dX6_starts_150

def rmX6_goesThrough : Room := { frames := 8, cells := 0, slots := 0, locals := 190 }
set_option maxHeartbeats 4000000 in
set_option maxRecDepth 100000 in
theorem mX6_goesThrough (l : Launch) (D : va_G) (ck : Nat → ClassId) (ma : Nat → Nat) (M : FS) (f : FS)  (hm : mInv f) : xMv l yX6_goesThrough wsX6_goesThrough rmX6_goesThrough D ck [.ref (ma 0)] (coreW ck ma M f) (coreW ck ma M (gX6_goesThrough f)) 0 0 := by
  refine xMet (by decide) rfl (Nat.le_of_ble_eq_true rfl) ?_
  intro zp ze s zm zb zt zc hx hb hr hml hown hts hlk hnm hN hK hP hD ls hl
  have hown : s.vm.findClass RX6 = some zm.cls := hown
  have hl : lv_has ls 2 [(0, .ref (ma 0))] := hl
  have hS : va_S (va_A (coreW ck ma M f) s.heap.size) s.heap s.heap [] := va_S.rf
  have hA : ∀ zq : Nat, s.heap.size ≤ zq → va_A (coreW ck ma M f) s.heap.size zq := fun zq h => Or.inr h
  refine lv_aload_n hx hb dX6_goesThrough_0 rfl (lv_at hl 0 rfl) ?_
  refine lv_iconst (v := 0) hx hb dX6_goesThrough_1 (by decide) ?_
  refine xreti (va_runV (As := [.int 0]) (rest := []) ⟨hx, hb, hml, hown, hts⟩ (mX6_ranked l D ck ma M f 0 (bI_of hm) _) (cwV 1 hts gX6_goesThrough_X6_ranked rfl rfl rfl (by decide +kernel) ⟨Nat.le_of_ble_eq_true rfl, Nat.le_of_ble_eq_true rfl⟩) (xpreV hN hK hP hD pm_all 0 rfl rfl rfl) rfl rfl hl.1 rfl (lv_room (Nat.le_of_ble_eq_true rfl)) dX6_goesThrough_2 ⟨Nat.le_of_ble_eq_true rfl, Nat.le_of_ble_eq_true rfl⟩) hP hD hS hA pm_all pm_all' (fun H locs hP hD hS => ?_)
  refine lv_istore_n (lv' := [(1, .int (gX6_ranked f 0)), (0, .ref (ma 0))]) hx hb dX6_goesThrough_5 rfl hl (by decide) rfl (fun ls hl => ?_)
  have loop6 : ∀ (fu : Nat) (x1 : Int32) (f1 : FS), (mInv f1) → (x1 = gX6_ranked f1 0) → (wcnt f1 (f1 4).toNatClampNeg ≤ fu) → gX6_goesThrough f = gX6_goesThrough_L6 f fu x1 f1 → ∀ (H : Heap) (locs : List Loc) (ls : Array Slot), va_P D vwCl (coreW ck ma M f1) H → va_D (va_A (coreW ck ma M f) s.heap.size) (coreW ck ma M f1) → va_S (va_A (coreW ck ma M f) s.heap.size) s.heap H locs → lv_has ls 2 [(0, .ref (ma 0)), (1, .int x1)] → W zp l ze rmX6_goesThrough s zm ([.ref (ma 0)] : List Value).toArray zb zt zc H locs 0 0 (MQ zb (xQv D (coreW ck ma M f) (coreW ck ma M (gX6_goesThrough f)) s.heap.size) ([.ref (ma 0)] : List Value).toArray s 0 0 (va_A (coreW ck ma M f) s.heap.size)) (F0 zm 6 ls []) := by
    intro fu
    induction fu with
    | zero =>
      intro x1 f1 hm hxr hw hg H locs ls hP hD hS hl
      refine lv_iload_n hx hb dX6_goesThrough_6 rfl (lv_at hl 1 rfl) ?_
      refine lv_bipush (v := (-5)) hx hb dX6_goesThrough_7 (by decide) ?_
      refine lv_icmp_eq (tgt := 29) hx hb dX6_goesThrough_9 (by decide) (fun c_9 => ?_) (fun c_9 => ?_)
      · --t
        exact xvret hx hb hr hlk hP hD hS (congrArg (fun z => coreW ck ma M z) (hg.trans (show gX6_goesThrough_L6 f 0 x1 f1 = f1 from rfl))).symm dX6_goesThrough_29
      · --f
        exact absurd (rk_none hm hxr (by omega)) c_9
    | succ fu ih6 =>
      intro x1 f1 hm hxr hw hg H locs ls hP hD hS hl
      refine lv_iload_n hx hb dX6_goesThrough_6 rfl (lv_at hl 1 rfl) ?_
      refine lv_bipush (v := (-5)) hx hb dX6_goesThrough_7 (by decide) ?_
      refine lv_icmp_eq (tgt := 29) hx hb dX6_goesThrough_9 (by decide) (fun c_9 => ?_) (fun c_9 => ?_)
      · --t
        exact xvret hx hb hr hlk hP hD hS (congrArg (fun z => coreW ck ma M z) (hg.trans (show gX6_goesThrough_L6 f (fu + 1) x1 f1 = f1 from (Eq.trans (if_pos c_9) rfl)))).symm dX6_goesThrough_29
      · --f
        have hx9 := rk_some hm hxr c_9
        have hxj : x1 = nI x1.toNatClampNeg := hx9.1
        have hj16 : x1.toNatClampNeg < 16 := hx9.2.1
        refine lv_aload_n hx hb dX6_goesThrough_12 rfl (lv_at hl 0 rfl) ?_
        refine lv_iload_n hx hb dX6_goesThrough_13 rfl (lv_at hl 1 rfl) ?_
        refine xreti (va_runV (As := [.int x1]) (rest := []) ⟨hx, hb, hml, hown, hts⟩ (mX6_starts l D ck ma M f1 x1 x1.toNatClampNeg hxj (by omega) hm _) (cwV 1 hts gX6_goesThrough_X6_starts rfl rfl rfl (by decide +kernel) ⟨Nat.le_of_ble_eq_true rfl, Nat.le_of_ble_eq_true rfl⟩) (xpreV hN hK hP hD pm_all 0 rfl rfl rfl) rfl rfl hl.1 rfl (lv_room (Nat.le_of_ble_eq_true rfl)) dX6_goesThrough_14 ⟨Nat.le_of_ble_eq_true rfl, Nat.le_of_ble_eq_true rfl⟩) hP hD hS hA pm_all pm_all' (fun H locs hP hD hS => ?_)
        have hP : va_P D vwCl (coreW ck ma M ((gX6_starts f1 x1.toNatClampNeg).2)) H := hP
        have hD : va_D (va_A (coreW ck ma M f) s.heap.size) (coreW ck ma M ((gX6_starts f1 x1.toNatClampNeg).2)) := hD
        refine lv_if_eq (tgt := 29) hx hb dX6_goesThrough_17 (by decide) (fun c_17 => ?_) (fun c_17 => ?_)
        · --t
          exact xvret hx hb hr hlk hP hD hS (congrArg (fun z => coreW ck ma M z) (hg.trans (show gX6_goesThrough_L6 f (fu + 1) x1 f1 = ((gX6_starts f1 x1.toNatClampNeg).2) from (Eq.trans (if_neg c_9) (Eq.trans (if_pos c_17) rfl))))).symm dX6_goesThrough_29
        · --f
          obtain ⟨hm2, hw2⟩ := gt_step hm hx9 c_17
          refine lv_aload_n hx hb dX6_goesThrough_20 rfl (lv_at hl 0 rfl) ?_
          refine lv_iconst (v := 0) hx hb dX6_goesThrough_21 (by decide) ?_
          refine xreti (va_runV (As := [.int 0]) (rest := []) ⟨hx, hb, hml, hown, hts⟩ (mX6_ranked l D ck ma M ((gX6_starts f1 x1.toNatClampNeg).2) 0 (bI_of hm2) _) (cwV 1 hts gX6_goesThrough_X6_ranked rfl rfl rfl (by decide +kernel) ⟨Nat.le_of_ble_eq_true rfl, Nat.le_of_ble_eq_true rfl⟩) (xpreV hN hK hP hD pm_all 0 rfl rfl rfl) rfl rfl hl.1 rfl (lv_room (Nat.le_of_ble_eq_true rfl)) dX6_goesThrough_22 ⟨Nat.le_of_ble_eq_true rfl, Nat.le_of_ble_eq_true rfl⟩) hP hD hS hA pm_all pm_all' (fun H locs hP hD hS => ?_)
          refine lv_istore_n (lv' := [(1, .int (gX6_ranked ((gX6_starts f1 x1.toNatClampNeg).2) 0)), (0, .ref (ma 0))]) hx hb dX6_goesThrough_25 rfl hl (by decide) rfl (fun ls hl => ?_)
          refine lv_goto (tgt := 6) hx hb dX6_goesThrough_26 (by decide) ?_
          exact ih6 (gX6_ranked ((gX6_starts f1 x1.toNatClampNeg).2) 0) ((gX6_starts f1 x1.toNatClampNeg).2) hm2 rfl (by omega) (hg.trans (show gX6_goesThrough_L6 f (fu + 1) x1 f1 = (gX6_goesThrough_L6 f fu (gX6_ranked ((gX6_starts f1 x1.toNatClampNeg).2) 0) ((gX6_starts f1 x1.toNatClampNeg).2)) from (Eq.trans (if_neg c_9) (Eq.trans (if_neg c_17) rfl)))) _ _ _ hP hD hS (lv_sub hl [1, 0] rfl)
  exact loop6 16 (gX6_ranked f 0) f hm rfl (wcnt_le hm) (show gX6_goesThrough f = (gX6_goesThrough_L6 f 16 (gX6_ranked f 0) f) from rfl) _ _ _ hP hD hS (lv_sub hl [1, 0] rfl)

def rmX6_steps : Room := { frames := 9, cells := 0, slots := 0, locals := 211 }
set_option maxHeartbeats 4000000 in
set_option maxRecDepth 100000 in
theorem mX6_steps (l : Launch) (D : va_G) (ck : Nat → ClassId) (ma : Nat → Nat) (M : FS) (f : FS)  (hm : mInv f) : xMi l yX6_steps wsX6_steps rmX6_steps D ck [.ref (ma 0)] (coreW ck ma M f) (coreW ck ma M ((gX6_steps f).2)) ((gX6_steps f).1) 0 0 := by
  refine xMet (by decide) rfl (Nat.le_of_ble_eq_true rfl) ?_
  intro zp ze s zm zb zt zc hx hb hr hml hown hts hlk hnm hN hK hP hD ls hl
  have hown : s.vm.findClass RX6 = some zm.cls := hown
  have hl : lv_has ls 4 [(0, .ref (ma 0))] := hl
  have hS : va_S (va_A (coreW ck ma M f) s.heap.size) s.heap s.heap [] := va_S.rf
  have hA : ∀ zq : Nat, s.heap.size ≤ zq → va_A (coreW ck ma M f) s.heap.size zq := fun zq h => Or.inr h
  have hinX6 : ∀ w ∈ u_ws RX6 TX6 13, w ∈ wsX6_steps := by decide +kernel
  have hbi : bI f := bI_of hm
  have hb1 := hbi.1
  refine lv_iconst (v := 0) hx hb dX6_steps_0 (by decide) ?_
  refine lv_istore_n (lv' := [(1, .int 0), (0, .ref (ma 0))]) hx hb dX6_steps_1 rfl hl (by decide) rfl (fun ls hl => ?_)
  refine lv_iconst (v := (nI 0)) hx hb dX6_steps_2 (by decide) ?_
  refine lv_istore_n (lv' := [(2, .int (nI 0)), (1, .int 0), (0, .ref (ma 0))]) hx hb dX6_steps_3 rfl hl (by decide) rfl (fun ls hl => ?_)
  have loop4 : ∀ (fu : Nat) (i : Nat) (f1 : FS), (i + fu = (f 4).toNatClampNeg) → (sA f i f1) → gX6_steps f = gX6_steps_L4 f fu i f1 → ∀ (H : Heap) (locs : List Loc) (ls : Array Slot), va_P D vwCl (coreW ck ma M f1) H → va_D (va_A (coreW ck ma M f) s.heap.size) (coreW ck ma M f1) → va_S (va_A (coreW ck ma M f) s.heap.size) s.heap H locs → lv_has ls 4 [(0, .ref (ma 0)), (1, .int 0), (2, .int (nI i))] → W zp l ze rmX6_steps s zm ([.ref (ma 0)] : List Value).toArray zb zt zc H locs 0 0 (MQ zb (xQi D (coreW ck ma M f) (coreW ck ma M ((gX6_steps f).2)) ((gX6_steps f).1) s.heap.size) ([.ref (ma 0)] : List Value).toArray s 0 0 (va_A (coreW ck ma M f) s.heap.size)) (F0 zm 4 ls []) := by
    intro fu
    induction fu with
    | zero =>
      intro i f1 hif hs hg H locs ls hP hD hS hl
      refine lv_iload_n hx hb dX6_steps_4 rfl (lv_at hl 2 rfl) ?_
      refine lv_aload_n hx hb dX6_steps_5 rfl (lv_at hl 0 rfl) ?_
      refine va_get (D := D) (ci := 6) (v := .ref (ma 1)) (C := RX6) (T := TX6) (N := 13) hx hb hts hinX6 hown hK hP 0 rfl rfl 0 (by decide) (hts (.fieldLink RX6 7 "JoinGrantsModel" "all" "[I") (List.mem_of_getElem? (i := 1) rfl)) (fun _ h9 => h9) rfl dX6_steps_6 ?_
      refine lv_iconst (v := 4) hx hb dX6_steps_9 (by decide) ?_
      refine xiald (j := 4) (by decide) hx hb hK hP 1 0 rfl rfl (show vp_in 4 153 from by unfold vp_in; decide) dX6_steps_10 ?_
      refine lv_icmp_ge (tgt := 147) hx hb dX6_steps_11 (by decide) (fun c_11 => ?_) (fun c_11 => ?_)
      · --t
        refine lv_iconst (v := (nI 0)) hx hb dX6_steps_147 (by decide) ?_
        refine lv_istore_n (lv' := [(2, .int (nI 0)), (0, .ref (ma 0)), (1, .int 0)]) hx hb dX6_steps_148 rfl hl (by decide) rfl (fun ls hl => ?_)
        have loop149 : ∀ (fu : Nat) (i : Nat) (x1 : Int32) (f1 : FS), (i + fu = (f 4).toNatClampNeg) → (sB f i f1) → gX6_steps f = gX6_steps_L149 f fu i x1 f1 → ∀ (H : Heap) (locs : List Loc) (ls : Array Slot), va_P D vwCl (coreW ck ma M f1) H → va_D (va_A (coreW ck ma M f) s.heap.size) (coreW ck ma M f1) → va_S (va_A (coreW ck ma M f) s.heap.size) s.heap H locs → lv_has ls 4 [(0, .ref (ma 0)), (1, .int x1), (2, .int (nI i))] → W zp l ze rmX6_steps s zm ([.ref (ma 0)] : List Value).toArray zb zt zc H locs 0 0 (MQ zb (xQi D (coreW ck ma M f) (coreW ck ma M ((gX6_steps f).2)) ((gX6_steps f).1) s.heap.size) ([.ref (ma 0)] : List Value).toArray s 0 0 (va_A (coreW ck ma M f) s.heap.size)) (F0 zm 149 ls []) := by
          intro fu
          induction fu with
          | zero =>
            intro i x1 f1 hif hs hg H locs ls hP hD hS hl
            refine lv_iload_n hx hb dX6_steps_149 rfl (lv_at hl 2 rfl) ?_
            refine lv_aload_n hx hb dX6_steps_150 rfl (lv_at hl 0 rfl) ?_
            refine va_get (D := D) (ci := 6) (v := .ref (ma 1)) (C := RX6) (T := TX6) (N := 13) hx hb hts hinX6 hown hK hP 0 rfl rfl 0 (by decide) (hts (.fieldLink RX6 7 "JoinGrantsModel" "all" "[I") (List.mem_of_getElem? (i := 1) rfl)) (fun _ h9 => h9) rfl dX6_steps_151 ?_
            refine lv_iconst (v := 4) hx hb dX6_steps_154 (by decide) ?_
            refine xiald (j := 4) (by decide) hx hb hK hP 1 0 rfl rfl (show vp_in 4 153 from by unfold vp_in; decide) dX6_steps_155 ?_
            refine lv_icmp_ge (tgt := 192) hx hb dX6_steps_156 (by decide) (fun c_156 => ?_) (fun c_156 => ?_)
            · --t
              refine lv_aload_n hx hb dX6_steps_192 rfl (lv_at hl 0 rfl) ?_
              refine va_get (D := D) (ci := 6) (v := .ref (ma 1)) (C := RX6) (T := TX6) (N := 13) hx hb hts hinX6 hown hK hP 0 rfl rfl 0 (by decide) (hts (.fieldLink RX6 7 "JoinGrantsModel" "all" "[I") (List.mem_of_getElem? (i := 1) rfl)) (fun _ h9 => h9) rfl dX6_steps_193 ?_
              refine lv_bipush (v := 6) hx hb dX6_steps_196 (by decide) ?_
              refine lv_dup2_11 hx hb dX6_steps_198 rfl rfl ?_
              refine xiald (j := 6) (by decide) hx hb hK hP 1 0 rfl rfl (show vp_in 6 153 from by unfold vp_in; decide) dX6_steps_199 ?_
              refine lv_iconst (v := 1) hx hb dX6_steps_200 (by decide) ?_
              refine lv_iadd hx hb dX6_steps_201 ?_
              refine xiast (j := 6) (by decide) hx hb hK hP hD hS 1 0 rfl rfl (show vp_in 6 153 from by unfold vp_in; decide) dX6_steps_202 (fun H locs hP hD hS => ?_)
              have hP : va_P D vwCl (coreW ck ma M (upd f1 6 ((f1 6) + 1))) H := hP
              have hD : va_D (va_A (coreW ck ma M f) s.heap.size) (coreW ck ma M (upd f1 6 ((f1 6) + 1))) := hD
              refine lv_iload_n hx hb dX6_steps_203 rfl (lv_at hl 1 rfl) ?_
              refine lv_if_le (tgt := 211) hx hb dX6_steps_204 (by decide) (fun c_204 => ?_) (fun c_204 => ?_)
              · --t
                refine lv_iload_n hx hb dX6_steps_211 rfl (lv_at hl 1 rfl) ?_
                exact xiret hx hb hr hlk hP hD hS (congrArg (fun z => z.1) (hg.trans (show gX6_steps_L149 f 0 i x1 f1 = (x1, upd f1 6 ((f1 6) + 1)) from (Eq.trans (if_pos c_204) rfl)))).symm (congrArg (fun z => coreW ck ma M z.2) (hg.trans (show gX6_steps_L149 f 0 i x1 f1 = (x1, upd f1 6 ((f1 6) + 1)) from (Eq.trans (if_pos c_204) rfl)))).symm dX6_steps_212
              · --f
                refine lv_aload_n hx hb dX6_steps_207 rfl (lv_at hl 0 rfl) ?_
                refine xretv (va_runV (As := []) (rest := []) ⟨hx, hb, hml, hown, hts⟩ (mX6_goesThrough l D ck ma M (upd f1 6 ((f1 6) + 1))  (sB_n hs (by omega)) _) (cwV 0 hts gX6_steps_X6_goesThrough rfl rfl rfl (by decide +kernel) ⟨Nat.le_of_ble_eq_true rfl, Nat.le_of_ble_eq_true rfl⟩) (xpreV hN hK hP hD pm_all 0 rfl rfl rfl) rfl rfl hl.1 rfl (lv_room (Nat.le_of_ble_eq_true rfl)) dX6_steps_208 ⟨Nat.le_of_ble_eq_true rfl, Nat.le_of_ble_eq_true rfl⟩) hP hD hS hA pm_all pm_all' (fun H locs hP hD hS => ?_)
                have hP : va_P D vwCl (coreW ck ma M (gX6_goesThrough (upd f1 6 ((f1 6) + 1)) )) H := hP
                have hD : va_D (va_A (coreW ck ma M f) s.heap.size) (coreW ck ma M (gX6_goesThrough (upd f1 6 ((f1 6) + 1)) )) := hD
                refine lv_iload_n hx hb dX6_steps_211 rfl (lv_at hl 1 rfl) ?_
                exact xiret hx hb hr hlk hP hD hS (congrArg (fun z => z.1) (hg.trans (show gX6_steps_L149 f 0 i x1 f1 = (x1, (gX6_goesThrough (upd f1 6 ((f1 6) + 1)) )) from (Eq.trans (if_neg c_204) rfl)))).symm (congrArg (fun z => coreW ck ma M z.2) (hg.trans (show gX6_steps_L149 f 0 i x1 f1 = (x1, (gX6_goesThrough (upd f1 6 ((f1 6) + 1)) )) from (Eq.trans (if_neg c_204) rfl)))).symm dX6_steps_212
            · --f
              exact absurd (cl_le (by rw [hs.2.1]; omega) (by have := hbi.1; omega)) c_156
          | succ fu ih149 =>
            intro i x1 f1 hif hs hg H locs ls hP hD hS hl
            refine lv_iload_n hx hb dX6_steps_149 rfl (lv_at hl 2 rfl) ?_
            refine lv_aload_n hx hb dX6_steps_150 rfl (lv_at hl 0 rfl) ?_
            refine va_get (D := D) (ci := 6) (v := .ref (ma 1)) (C := RX6) (T := TX6) (N := 13) hx hb hts hinX6 hown hK hP 0 rfl rfl 0 (by decide) (hts (.fieldLink RX6 7 "JoinGrantsModel" "all" "[I") (List.mem_of_getElem? (i := 1) rfl)) (fun _ h9 => h9) rfl dX6_steps_151 ?_
            refine lv_iconst (v := 4) hx hb dX6_steps_154 (by decide) ?_
            refine xiald (j := 4) (by decide) hx hb hK hP 1 0 rfl rfl (show vp_in 4 153 from by unfold vp_in; decide) dX6_steps_155 ?_
            refine lv_icmp_ge (tgt := 192) hx hb dX6_steps_156 (by decide) (fun c_156 => ?_) (fun c_156 => ?_)
            · --t
              exact absurd c_156 (cl_lt (by rw [hs.2.1]; omega))
            · --f
              refine lv_aload_n hx hb dX6_steps_159 rfl (lv_at hl 0 rfl) ?_
              refine lv_iload_n hx hb dX6_steps_160 rfl (lv_at hl 2 rfl) ?_
              refine lv_iconst (v := 1) hx hb dX6_steps_161 (by decide) ?_
              refine xreti (va_runV (As := [.int (nI i), .int 1]) (rest := []) ⟨hx, hb, hml, hown, hts⟩ (mX6_is l D ck ma M f1 (nI i) i rfl (by omega) 1  _) (cwV 2 hts gX6_steps_X6_is rfl rfl rfl (by decide +kernel) ⟨Nat.le_of_ble_eq_true rfl, Nat.le_of_ble_eq_true rfl⟩) (xpreV hN hK hP hD pm_all 0 rfl rfl rfl) rfl rfl hl.1 rfl (lv_room (Nat.le_of_ble_eq_true rfl)) dX6_steps_162 ⟨Nat.le_of_ble_eq_true rfl, Nat.le_of_ble_eq_true rfl⟩) hP hD hS hA pm_all pm_all' (fun H locs hP hD hS => ?_)
              refine lv_if_eq (tgt := 186) hx hb dX6_steps_165 (by decide) (fun c_165 => ?_) (fun c_165 => ?_)
              · --t
                refine lv_iinc (v := (nI (i + 1))) (lv' := [(2, .int (nI (i + 1))), (0, .ref (ma 0)), (1, .int x1)]) hx hb dX6_steps_186 hl (k := 2) rfl (nI_1 i) (by decide) rfl (fun ls hl => ?_)
                refine lv_goto (tgt := 149) hx hb dX6_steps_189 (by decide) ?_
                exact ih149 (i + 1) x1 f1 (by omega) (sB_1 hs (by omega) c_165) (hg.trans (show gX6_steps_L149 f (fu + 1) i x1 f1 = (gX6_steps_L149 f fu (i + 1) x1 f1) from (Eq.trans (if_pos c_165) rfl))) _ _ _ hP hD hS (lv_sub hl [1, 2, 0] rfl)
              · --f
                refine lv_aload_n hx hb dX6_steps_168 rfl (lv_at hl 0 rfl) ?_
                refine lv_iload_n hx hb dX6_steps_169 rfl (lv_at hl 2 rfl) ?_
                refine lv_iconst (v := 5) hx hb dX6_steps_170 (by decide) ?_
                refine xreti (va_runV (As := [.int (nI i), .int 5]) (rest := []) ⟨hx, hb, hml, hown, hts⟩ (mX6_of l D ck ma M f1 (nI i) i rfl (by omega) 5 5 rfl (by omega)  _) (cwV 2 hts gX6_steps_X6_of rfl rfl rfl (by decide +kernel) ⟨Nat.le_of_ble_eq_true rfl, Nat.le_of_ble_eq_true rfl⟩) (xpreV hN hK hP hD pm_all 0 rfl rfl rfl) rfl rfl hl.1 rfl (lv_room (Nat.le_of_ble_eq_true rfl)) dX6_steps_171 ⟨Nat.le_of_ble_eq_true rfl, Nat.le_of_ble_eq_true rfl⟩) hP hD hS hA pm_all pm_all' (fun H locs hP hD hS => ?_)
                refine lv_if_ne (tgt := 186) hx hb dX6_steps_174 (by decide) (fun c_174 => ?_) (fun c_174 => ?_)
                · --t
                  refine lv_iinc (v := (nI (i + 1))) (lv' := [(2, .int (nI (i + 1))), (0, .ref (ma 0)), (1, .int x1)]) hx hb dX6_steps_186 hl (k := 2) rfl (nI_1 i) (by decide) rfl (fun ls hl => ?_)
                  refine lv_goto (tgt := 149) hx hb dX6_steps_189 (by decide) ?_
                  exact ih149 (i + 1) x1 f1 (by omega) (sB_2 hs (by omega) c_165 c_174) (hg.trans (show gX6_steps_L149 f (fu + 1) i x1 f1 = (gX6_steps_L149 f fu (i + 1) x1 f1) from (Eq.trans (if_neg c_165) (Eq.trans (if_neg c_174) rfl)))) _ _ _ hP hD hS (lv_sub hl [1, 2, 0] rfl)
                · --f
                  refine lv_aload_n hx hb dX6_steps_177 rfl (lv_at hl 0 rfl) ?_
                  refine lv_iload_n hx hb dX6_steps_178 rfl (lv_at hl 2 rfl) ?_
                  refine lv_iconst (v := 2) hx hb dX6_steps_179 (by decide) ?_
                  refine xretv (va_runV (As := [.int (nI i), .int 2]) (rest := []) ⟨hx, hb, hml, hown, hts⟩ (mX6_ends l D ck ma M f1 (nI i) i rfl (by omega) 2  _) (cwV 2 hts gX6_steps_X6_ends rfl rfl rfl (by decide +kernel) ⟨Nat.le_of_ble_eq_true rfl, Nat.le_of_ble_eq_true rfl⟩) (xpreV hN hK hP hD pm_all 0 rfl rfl rfl) rfl rfl hl.1 rfl (lv_room (Nat.le_of_ble_eq_true rfl)) dX6_steps_180 ⟨Nat.le_of_ble_eq_true rfl, Nat.le_of_ble_eq_true rfl⟩) hP hD hS hA pm_all pm_all' (fun H locs hP hD hS => ?_)
                  have hP : va_P D vwCl (coreW ck ma M (gX6_ends f1 i 2)) H := hP
                  have hD : va_D (va_A (coreW ck ma M f) s.heap.size) (coreW ck ma M (gX6_ends f1 i 2)) := hD
                  refine lv_iinc (v := (x1 + 1)) (lv' := [(1, .int (x1 + 1)), (0, .ref (ma 0)), (2, .int (nI i))]) hx hb dX6_steps_183 hl (k := 1) rfl rfl (by decide) rfl (fun ls hl => ?_)
                  refine lv_iinc (v := (nI (i + 1))) (lv' := [(2, .int (nI (i + 1))), (1, .int (x1 + 1)), (0, .ref (ma 0))]) hx hb dX6_steps_186 hl (k := 2) rfl (nI_1 i) (by decide) rfl (fun ls hl => ?_)
                  refine lv_goto (tgt := 149) hx hb dX6_steps_189 (by decide) ?_
                  exact ih149 (i + 1) (x1 + 1) (gX6_ends f1 i 2) (by omega) (sB_3 hs (by omega) c_165 c_174) (hg.trans (show gX6_steps_L149 f (fu + 1) i x1 f1 = (gX6_steps_L149 f fu (i + 1) (x1 + 1) (gX6_ends f1 i 2)) from (Eq.trans (if_neg c_165) (Eq.trans (if_pos c_174) rfl)))) _ _ _ hP hD hS (lv_sub hl [2, 1, 0] rfl)
        exact loop149 ((f 4).toNatClampNeg) 0 0 f1 (by omega) (sA_n hs (by omega)) (hg.trans (show gX6_steps_L4 f 0 i f1 = (gX6_steps_L149 f ((f 4).toNatClampNeg) 0 0 f1) from rfl)) _ _ _ hP hD hS (lv_sub hl [1, 2, 0] rfl)
      · --f
        exact absurd (cl_le (by rw [hs.2.1]; omega) (by have := hbi.1; omega)) c_11
    | succ fu ih4 =>
      intro i f1 hif hs hg H locs ls hP hD hS hl
      refine lv_iload_n hx hb dX6_steps_4 rfl (lv_at hl 2 rfl) ?_
      refine lv_aload_n hx hb dX6_steps_5 rfl (lv_at hl 0 rfl) ?_
      refine va_get (D := D) (ci := 6) (v := .ref (ma 1)) (C := RX6) (T := TX6) (N := 13) hx hb hts hinX6 hown hK hP 0 rfl rfl 0 (by decide) (hts (.fieldLink RX6 7 "JoinGrantsModel" "all" "[I") (List.mem_of_getElem? (i := 1) rfl)) (fun _ h9 => h9) rfl dX6_steps_6 ?_
      refine lv_iconst (v := 4) hx hb dX6_steps_9 (by decide) ?_
      refine xiald (j := 4) (by decide) hx hb hK hP 1 0 rfl rfl (show vp_in 4 153 from by unfold vp_in; decide) dX6_steps_10 ?_
      refine lv_icmp_ge (tgt := 147) hx hb dX6_steps_11 (by decide) (fun c_11 => ?_) (fun c_11 => ?_)
      · --t
        exact absurd c_11 (cl_lt (by rw [hs.2.1]; omega))
      · --f
        refine lv_aload_n hx hb dX6_steps_14 rfl (lv_at hl 0 rfl) ?_
        refine lv_iload_n hx hb dX6_steps_15 rfl (lv_at hl 2 rfl) ?_
        refine lv_iconst (v := 1) hx hb dX6_steps_16 (by decide) ?_
        refine xreti (va_runV (As := [.int (nI i), .int 1]) (rest := []) ⟨hx, hb, hml, hown, hts⟩ (mX6_is l D ck ma M f1 (nI i) i rfl (by omega) 1  _) (cwV 2 hts gX6_steps_X6_is rfl rfl rfl (by decide +kernel) ⟨Nat.le_of_ble_eq_true rfl, Nat.le_of_ble_eq_true rfl⟩) (xpreV hN hK hP hD pm_all 0 rfl rfl rfl) rfl rfl hl.1 rfl (lv_room (Nat.le_of_ble_eq_true rfl)) dX6_steps_17 ⟨Nat.le_of_ble_eq_true rfl, Nat.le_of_ble_eq_true rfl⟩) hP hD hS hA pm_all pm_all' (fun H locs hP hD hS => ?_)
        refine lv_if_ne (tgt := 27) hx hb dX6_steps_20 (by decide) (fun c_20 => ?_) (fun c_20 => ?_)
        · --t
          refine lv_aload_n hx hb dX6_steps_27 rfl (lv_at hl 0 rfl) ?_
          refine lv_iload_n hx hb dX6_steps_28 rfl (lv_at hl 2 rfl) ?_
          refine lv_iconst (v := 5) hx hb dX6_steps_29 (by decide) ?_
          refine xreti (va_runV (As := [.int (nI i), .int 5]) (rest := []) ⟨hx, hb, hml, hown, hts⟩ (mX6_of l D ck ma M f1 (nI i) i rfl (by omega) 5 5 rfl (by omega)  _) (cwV 2 hts gX6_steps_X6_of rfl rfl rfl (by decide +kernel) ⟨Nat.le_of_ble_eq_true rfl, Nat.le_of_ble_eq_true rfl⟩) (xpreV hN hK hP hD pm_all 0 rfl rfl rfl) rfl rfl hl.1 rfl (lv_room (Nat.le_of_ble_eq_true rfl)) dX6_steps_30 ⟨Nat.le_of_ble_eq_true rfl, Nat.le_of_ble_eq_true rfl⟩) hP hD hS hA pm_all pm_all' (fun H locs hP hD hS => ?_)
          refine lv_aload_n hx hb dX6_steps_33 rfl (lv_at hl 0 rfl) ?_
          refine va_get (D := D) (ci := 6) (v := .ref (ma 1)) (C := RX6) (T := TX6) (N := 13) hx hb hts hinX6 hown hK hP 0 rfl rfl 0 (by decide) (hts (.fieldLink RX6 7 "JoinGrantsModel" "all" "[I") (List.mem_of_getElem? (i := 1) rfl)) (fun _ h9 => h9) rfl dX6_steps_34 ?_
          refine lv_iconst (v := 3) hx hb dX6_steps_37 (by decide) ?_
          refine xiald (j := 3) (by decide) hx hb hK hP 1 0 rfl rfl (show vp_in 3 153 from by unfold vp_in; decide) dX6_steps_38 ?_
          refine lv_icmp_ge (tgt := 51) hx hb dX6_steps_39 (by decide) (fun c_39 => ?_) (fun c_39 => ?_)
          · --t
            refine lv_aload_n hx hb dX6_steps_51 rfl (lv_at hl 0 rfl) ?_
            refine va_get (D := D) (ci := 6) (v := .ref (ma 1)) (C := RX6) (T := TX6) (N := 13) hx hb hts hinX6 hown hK hP 0 rfl rfl 0 (by decide) (hts (.fieldLink RX6 7 "JoinGrantsModel" "all" "[I") (List.mem_of_getElem? (i := 1) rfl)) (fun _ h9 => h9) rfl dX6_steps_52 ?_
            refine lv_iconst (v := 3) hx hb dX6_steps_55 (by decide) ?_
            refine xiald (j := 3) (by decide) hx hb hK hP 1 0 rfl rfl (show vp_in 3 153 from by unfold vp_in; decide) dX6_steps_56 ?_
            refine lv_istore_n (lv' := [(3, .int (f1 3)), (0, .ref (ma 0)), (1, .int 0), (2, .int (nI i))]) hx hb dX6_steps_57 rfl hl (by decide) rfl (fun ls hl => ?_)
            refine lv_aload_n hx hb dX6_steps_58 rfl (lv_at hl 1 rfl) ?_
            refine lv_iload_n hx hb dX6_steps_59 rfl (lv_at hl 3 rfl) ?_
            refine lv_bipush (v := 6) hx hb dX6_steps_60 (by decide) ?_
            refine lv_aload_n hx hb dX6_steps_62 rfl (lv_at hl 1 rfl) ?_
            refine lv_iload_n hx hb dX6_steps_63 rfl (lv_at hl 3 rfl) ?_
            refine lv_bipush (v := 6) hx hb dX6_steps_64 (by decide) ?_
            refine xreti (va_runV (As := [.int (nI i), .int 6]) (rest := [.int 6, .int (nI i), .ref (ma 0)]) ⟨hx, hb, hml, hown, hts⟩ (mX6_of l D ck ma M f1 (nI i) i rfl (by omega) 6 6 rfl (by omega)  _) (cwV 2 hts gX6_steps_X6_of rfl rfl rfl (by decide +kernel) ⟨Nat.le_of_ble_eq_true rfl, Nat.le_of_ble_eq_true rfl⟩) (xpreV hN hK hP hD pm_all 0 rfl rfl rfl) rfl rfl hl.1 rfl (lv_room (Nat.le_of_ble_eq_true rfl)) dX6_steps_66 ⟨Nat.le_of_ble_eq_true rfl, Nat.le_of_ble_eq_true rfl⟩) hP hD hS hA pm_all pm_all' (fun H locs hP hD hS => ?_)
            refine lv_aload_n hx hb dX6_steps_69 rfl (lv_at hl 1 rfl) ?_
            refine lv_iload_n hx hb dX6_steps_70 rfl (lv_at hl 3 rfl) ?_
            refine lv_iconst (v := 0) hx hb dX6_steps_71 (by decide) ?_
            refine xreti (va_runV (As := [.int (nI i), .int 0]) (rest := [.int (gX6_of f1 i 6), .int 6, .int (nI i), .ref (ma 0)]) ⟨hx, hb, hml, hown, hts⟩ (mX6_is l D ck ma M f1 (nI i) i rfl (by omega) 0  _) (cwV 2 hts gX6_steps_X6_is rfl rfl rfl (by decide +kernel) ⟨Nat.le_of_ble_eq_true rfl, Nat.le_of_ble_eq_true rfl⟩) (xpreV hN hK hP hD pm_all 0 rfl rfl rfl) rfl rfl hl.1 rfl (lv_room (Nat.le_of_ble_eq_true rfl)) dX6_steps_72 ⟨Nat.le_of_ble_eq_true rfl, Nat.le_of_ble_eq_true rfl⟩) hP hD hS hA pm_all pm_all' (fun H locs hP hD hS => ?_)
            refine lv_if_eq (tgt := 82) hx hb dX6_steps_75 (by decide) (fun c_75 => ?_) (fun c_75 => ?_)
            · --t
              refine lv_iconst (v := 0) hx hb dX6_steps_82 (by decide) ?_
              refine lv_iadd hx hb dX6_steps_83 ?_
              refine xretv (va_runV (As := [.int (nI i), .int 6, .int ((gX6_of f1 i 6) + 0)]) (rest := []) ⟨hx, hb, hml, hown, hts⟩ (mX6_sets l D ck ma M f1 (nI i) i rfl (by omega) 6 6 rfl (by omega) ((gX6_of f1 i 6) + 0)  _) (cwV 3 hts gX6_steps_X6_sets rfl rfl rfl (by decide +kernel) ⟨Nat.le_of_ble_eq_true rfl, Nat.le_of_ble_eq_true rfl⟩) (xpreV hN hK hP hD pm_all 0 rfl rfl rfl) rfl rfl hl.1 rfl (lv_room (Nat.le_of_ble_eq_true rfl)) dX6_steps_84 ⟨Nat.le_of_ble_eq_true rfl, Nat.le_of_ble_eq_true rfl⟩) hP hD hS hA pm_all pm_all' (fun H locs hP hD hS => ?_)
              have hP : va_P D vwCl (coreW ck ma M (gX6_sets f1 i 6 ((gX6_of f1 i 6) + 0))) H := hP
              have hD : va_D (va_A (coreW ck ma M f) s.heap.size) (coreW ck ma M (gX6_sets f1 i 6 ((gX6_of f1 i 6) + 0))) := hD
              refine lv_aload_n hx hb dX6_steps_87 rfl (lv_at hl 1 rfl) ?_
              refine lv_iload_n hx hb dX6_steps_88 rfl (lv_at hl 3 rfl) ?_
              refine lv_bipush (v := 7) hx hb dX6_steps_89 (by decide) ?_
              refine lv_aload_n hx hb dX6_steps_91 rfl (lv_at hl 1 rfl) ?_
              refine lv_iload_n hx hb dX6_steps_92 rfl (lv_at hl 3 rfl) ?_
              refine lv_bipush (v := 7) hx hb dX6_steps_93 (by decide) ?_
              refine xreti (va_runV (As := [.int (nI i), .int 7]) (rest := [.int 7, .int (nI i), .ref (ma 0)]) ⟨hx, hb, hml, hown, hts⟩ (mX6_of l D ck ma M (gX6_sets f1 i 6 ((gX6_of f1 i 6) + 0)) (nI i) i rfl (by omega) 7 7 rfl (by omega)  _) (cwV 2 hts gX6_steps_X6_of rfl rfl rfl (by decide +kernel) ⟨Nat.le_of_ble_eq_true rfl, Nat.le_of_ble_eq_true rfl⟩) (xpreV hN hK hP hD pm_all 0 rfl rfl rfl) rfl rfl hl.1 rfl (lv_room (Nat.le_of_ble_eq_true rfl)) dX6_steps_95 ⟨Nat.le_of_ble_eq_true rfl, Nat.le_of_ble_eq_true rfl⟩) hP hD hS hA pm_all pm_all' (fun H locs hP hD hS => ?_)
              refine lv_aload_n hx hb dX6_steps_98 rfl (lv_at hl 1 rfl) ?_
              refine lv_iload_n hx hb dX6_steps_99 rfl (lv_at hl 3 rfl) ?_
              refine lv_iconst (v := 1) hx hb dX6_steps_100 (by decide) ?_
              refine xreti (va_runV (As := [.int (nI i), .int 1]) (rest := [.int (gX6_of (gX6_sets f1 i 6 ((gX6_of f1 i 6) + 0)) i 7), .int 7, .int (nI i), .ref (ma 0)]) ⟨hx, hb, hml, hown, hts⟩ (mX6_is l D ck ma M (gX6_sets f1 i 6 ((gX6_of f1 i 6) + 0)) (nI i) i rfl (by omega) 1  _) (cwV 2 hts gX6_steps_X6_is rfl rfl rfl (by decide +kernel) ⟨Nat.le_of_ble_eq_true rfl, Nat.le_of_ble_eq_true rfl⟩) (xpreV hN hK hP hD pm_all 0 rfl rfl rfl) rfl rfl hl.1 rfl (lv_room (Nat.le_of_ble_eq_true rfl)) dX6_steps_101 ⟨Nat.le_of_ble_eq_true rfl, Nat.le_of_ble_eq_true rfl⟩) hP hD hS hA pm_all pm_all' (fun H locs hP hD hS => ?_)
              refine lv_if_eq (tgt := 111) hx hb dX6_steps_104 (by decide) (fun c_104 => ?_) (fun c_104 => ?_)
              · --t
                refine lv_iconst (v := 0) hx hb dX6_steps_111 (by decide) ?_
                refine lv_iadd hx hb dX6_steps_112 ?_
                refine xretv (va_runV (As := [.int (nI i), .int 7, .int ((gX6_of (gX6_sets f1 i 6 ((gX6_of f1 i 6) + 0)) i 7) + 0)]) (rest := []) ⟨hx, hb, hml, hown, hts⟩ (mX6_sets l D ck ma M (gX6_sets f1 i 6 ((gX6_of f1 i 6) + 0)) (nI i) i rfl (by omega) 7 7 rfl (by omega) ((gX6_of (gX6_sets f1 i 6 ((gX6_of f1 i 6) + 0)) i 7) + 0)  _) (cwV 3 hts gX6_steps_X6_sets rfl rfl rfl (by decide +kernel) ⟨Nat.le_of_ble_eq_true rfl, Nat.le_of_ble_eq_true rfl⟩) (xpreV hN hK hP hD pm_all 0 rfl rfl rfl) rfl rfl hl.1 rfl (lv_room (Nat.le_of_ble_eq_true rfl)) dX6_steps_113 ⟨Nat.le_of_ble_eq_true rfl, Nat.le_of_ble_eq_true rfl⟩) hP hD hS hA pm_all pm_all' (fun H locs hP hD hS => ?_)
                have hP : va_P D vwCl (coreW ck ma M (gX6_sets (gX6_sets f1 i 6 ((gX6_of f1 i 6) + 0)) i 7 ((gX6_of (gX6_sets f1 i 6 ((gX6_of f1 i 6) + 0)) i 7) + 0))) H := hP
                have hD : va_D (va_A (coreW ck ma M f) s.heap.size) (coreW ck ma M (gX6_sets (gX6_sets f1 i 6 ((gX6_of f1 i 6) + 0)) i 7 ((gX6_of (gX6_sets f1 i 6 ((gX6_of f1 i 6) + 0)) i 7) + 0))) := hD
                refine lv_aload_n hx hb dX6_steps_116 rfl (lv_at hl 1 rfl) ?_
                refine lv_iload_n hx hb dX6_steps_117 rfl (lv_at hl 3 rfl) ?_
                refine lv_iconst (v := 5) hx hb dX6_steps_118 (by decide) ?_
                refine lv_aload_n hx hb dX6_steps_119 rfl (lv_at hl 1 rfl) ?_
                refine lv_iload_n hx hb dX6_steps_120 rfl (lv_at hl 3 rfl) ?_
                refine lv_iconst (v := 5) hx hb dX6_steps_121 (by decide) ?_
                refine xreti (va_runV (As := [.int (nI i), .int 5]) (rest := [.int 5, .int (nI i), .ref (ma 0)]) ⟨hx, hb, hml, hown, hts⟩ (mX6_of l D ck ma M (gX6_sets (gX6_sets f1 i 6 ((gX6_of f1 i 6) + 0)) i 7 ((gX6_of (gX6_sets f1 i 6 ((gX6_of f1 i 6) + 0)) i 7) + 0)) (nI i) i rfl (by omega) 5 5 rfl (by omega)  _) (cwV 2 hts gX6_steps_X6_of rfl rfl rfl (by decide +kernel) ⟨Nat.le_of_ble_eq_true rfl, Nat.le_of_ble_eq_true rfl⟩) (xpreV hN hK hP hD pm_all 0 rfl rfl rfl) rfl rfl hl.1 rfl (lv_room (Nat.le_of_ble_eq_true rfl)) dX6_steps_122 ⟨Nat.le_of_ble_eq_true rfl, Nat.le_of_ble_eq_true rfl⟩) hP hD hS hA pm_all pm_all' (fun H locs hP hD hS => ?_)
                refine lv_iload_n hx hb dX6_steps_125 rfl (lv_at hl 0 rfl) ?_
                refine lv_isub hx hb dX6_steps_126 ?_
                refine xretv (va_runV (As := [.int (nI i), .int 5, .int ((gX6_of (gX6_sets (gX6_sets f1 i 6 ((gX6_of f1 i 6) + 0)) i 7 ((gX6_of (gX6_sets f1 i 6 ((gX6_of f1 i 6) + 0)) i 7) + 0)) i 5) - (f1 3))]) (rest := []) ⟨hx, hb, hml, hown, hts⟩ (mX6_sets l D ck ma M (gX6_sets (gX6_sets f1 i 6 ((gX6_of f1 i 6) + 0)) i 7 ((gX6_of (gX6_sets f1 i 6 ((gX6_of f1 i 6) + 0)) i 7) + 0)) (nI i) i rfl (by omega) 5 5 rfl (by omega) ((gX6_of (gX6_sets (gX6_sets f1 i 6 ((gX6_of f1 i 6) + 0)) i 7 ((gX6_of (gX6_sets f1 i 6 ((gX6_of f1 i 6) + 0)) i 7) + 0)) i 5) - (f1 3))  _) (cwV 3 hts gX6_steps_X6_sets rfl rfl rfl (by decide +kernel) ⟨Nat.le_of_ble_eq_true rfl, Nat.le_of_ble_eq_true rfl⟩) (xpreV hN hK hP hD pm_all 0 rfl rfl rfl) rfl rfl hl.1 rfl (lv_room (Nat.le_of_ble_eq_true rfl)) dX6_steps_127 ⟨Nat.le_of_ble_eq_true rfl, Nat.le_of_ble_eq_true rfl⟩) hP hD hS hA pm_all pm_all' (fun H locs hP hD hS => ?_)
                have hP : va_P D vwCl (coreW ck ma M (gX6_sets (gX6_sets (gX6_sets f1 i 6 ((gX6_of f1 i 6) + 0)) i 7 ((gX6_of (gX6_sets f1 i 6 ((gX6_of f1 i 6) + 0)) i 7) + 0)) i 5 ((gX6_of (gX6_sets (gX6_sets f1 i 6 ((gX6_of f1 i 6) + 0)) i 7 ((gX6_of (gX6_sets f1 i 6 ((gX6_of f1 i 6) + 0)) i 7) + 0)) i 5) - (f1 3)))) H := hP
                have hD : va_D (va_A (coreW ck ma M f) s.heap.size) (coreW ck ma M (gX6_sets (gX6_sets (gX6_sets f1 i 6 ((gX6_of f1 i 6) + 0)) i 7 ((gX6_of (gX6_sets f1 i 6 ((gX6_of f1 i 6) + 0)) i 7) + 0)) i 5 ((gX6_of (gX6_sets (gX6_sets f1 i 6 ((gX6_of f1 i 6) + 0)) i 7 ((gX6_of (gX6_sets f1 i 6 ((gX6_of f1 i 6) + 0)) i 7) + 0)) i 5) - (f1 3)))) := hD
                refine lv_aload_n hx hb dX6_steps_130 rfl (lv_at hl 1 rfl) ?_
                refine va_get (D := D) (ci := 6) (v := .ref (ma 1)) (C := RX6) (T := TX6) (N := 13) hx hb hts hinX6 hown hK hP 0 rfl rfl 0 (by decide) (hts (.fieldLink RX6 7 "JoinGrantsModel" "all" "[I") (List.mem_of_getElem? (i := 1) rfl)) (fun _ h9 => h9) rfl dX6_steps_131 ?_
                refine lv_bipush (v := 7) hx hb dX6_steps_134 (by decide) ?_
                refine lv_dup2_11 hx hb dX6_steps_136 rfl rfl ?_
                refine xiald (j := 7) (by decide) hx hb hK hP 1 0 rfl rfl (show vp_in 7 153 from by unfold vp_in; decide) dX6_steps_137 ?_
                refine lv_iload_n hx hb dX6_steps_138 rfl (lv_at hl 0 rfl) ?_
                refine lv_iadd hx hb dX6_steps_139 ?_
                refine xiast (j := 7) (by decide) hx hb hK hP hD hS 1 0 rfl rfl (show vp_in 7 153 from by unfold vp_in; decide) dX6_steps_140 (fun H locs hP hD hS => ?_)
                have hP : va_P D vwCl (coreW ck ma M (upd (gX6_sets (gX6_sets (gX6_sets f1 i 6 ((gX6_of f1 i 6) + 0)) i 7 ((gX6_of (gX6_sets f1 i 6 ((gX6_of f1 i 6) + 0)) i 7) + 0)) i 5 ((gX6_of (gX6_sets (gX6_sets f1 i 6 ((gX6_of f1 i 6) + 0)) i 7 ((gX6_of (gX6_sets f1 i 6 ((gX6_of f1 i 6) + 0)) i 7) + 0)) i 5) - (f1 3))) 7 (((gX6_sets (gX6_sets (gX6_sets f1 i 6 ((gX6_of f1 i 6) + 0)) i 7 ((gX6_of (gX6_sets f1 i 6 ((gX6_of f1 i 6) + 0)) i 7) + 0)) i 5 ((gX6_of (gX6_sets (gX6_sets f1 i 6 ((gX6_of f1 i 6) + 0)) i 7 ((gX6_of (gX6_sets f1 i 6 ((gX6_of f1 i 6) + 0)) i 7) + 0)) i 5) - (f1 3))) 7) + (f1 3)))) H := hP
                have hD : va_D (va_A (coreW ck ma M f) s.heap.size) (coreW ck ma M (upd (gX6_sets (gX6_sets (gX6_sets f1 i 6 ((gX6_of f1 i 6) + 0)) i 7 ((gX6_of (gX6_sets f1 i 6 ((gX6_of f1 i 6) + 0)) i 7) + 0)) i 5 ((gX6_of (gX6_sets (gX6_sets f1 i 6 ((gX6_of f1 i 6) + 0)) i 7 ((gX6_of (gX6_sets f1 i 6 ((gX6_of f1 i 6) + 0)) i 7) + 0)) i 5) - (f1 3))) 7 (((gX6_sets (gX6_sets (gX6_sets f1 i 6 ((gX6_of f1 i 6) + 0)) i 7 ((gX6_of (gX6_sets f1 i 6 ((gX6_of f1 i 6) + 0)) i 7) + 0)) i 5 ((gX6_of (gX6_sets (gX6_sets f1 i 6 ((gX6_of f1 i 6) + 0)) i 7 ((gX6_of (gX6_sets f1 i 6 ((gX6_of f1 i 6) + 0)) i 7) + 0)) i 5) - (f1 3))) 7) + (f1 3)))) := hD
                refine lv_iinc (v := (nI (i + 1))) (lv' := [(2, .int (nI (i + 1))), (3, .int (f1 3)), (0, .ref (ma 0)), (1, .int 0)]) hx hb dX6_steps_141 hl (k := 3) rfl (nI_1 i) (by decide) rfl (fun ls hl => ?_)
                refine lv_goto (tgt := 4) hx hb dX6_steps_144 (by decide) ?_
                exact ih4 (i + 1) (upd (gX6_sets (gX6_sets (gX6_sets f1 i 6 ((gX6_of f1 i 6) + 0)) i 7 ((gX6_of (gX6_sets f1 i 6 ((gX6_of f1 i 6) + 0)) i 7) + 0)) i 5 ((gX6_of (gX6_sets (gX6_sets f1 i 6 ((gX6_of f1 i 6) + 0)) i 7 ((gX6_of (gX6_sets f1 i 6 ((gX6_of f1 i 6) + 0)) i 7) + 0)) i 5) - (f1 3))) 7 (((gX6_sets (gX6_sets (gX6_sets f1 i 6 ((gX6_of f1 i 6) + 0)) i 7 ((gX6_of (gX6_sets f1 i 6 ((gX6_of f1 i 6) + 0)) i 7) + 0)) i 5 ((gX6_of (gX6_sets (gX6_sets f1 i 6 ((gX6_of f1 i 6) + 0)) i 7 ((gX6_of (gX6_sets f1 i 6 ((gX6_of f1 i 6) + 0)) i 7) + 0)) i 5) - (f1 3))) 7) + (f1 3))) (by omega) (sA_3 hs (by omega) c_20 c_39) (hg.trans (show gX6_steps_L4 f (fu + 1) i f1 = (gX6_steps_L4 f fu (i + 1) (upd (gX6_sets (gX6_sets (gX6_sets f1 i 6 ((gX6_of f1 i 6) + 0)) i 7 ((gX6_of (gX6_sets f1 i 6 ((gX6_of f1 i 6) + 0)) i 7) + 0)) i 5 ((gX6_of (gX6_sets (gX6_sets f1 i 6 ((gX6_of f1 i 6) + 0)) i 7 ((gX6_of (gX6_sets f1 i 6 ((gX6_of f1 i 6) + 0)) i 7) + 0)) i 5) - (f1 3))) 7 (((gX6_sets (gX6_sets (gX6_sets f1 i 6 ((gX6_of f1 i 6) + 0)) i 7 ((gX6_of (gX6_sets f1 i 6 ((gX6_of f1 i 6) + 0)) i 7) + 0)) i 5 ((gX6_of (gX6_sets (gX6_sets f1 i 6 ((gX6_of f1 i 6) + 0)) i 7 ((gX6_of (gX6_sets f1 i 6 ((gX6_of f1 i 6) + 0)) i 7) + 0)) i 5) - (f1 3))) 7) + (f1 3)))) from (Eq.trans (if_neg c_20) (Eq.trans (if_pos c_39) (Eq.trans (if_pos c_75) (Eq.trans (if_pos c_104) rfl)))))) _ _ _ hP hD hS (lv_sub hl [2, 3, 0] rfl)
              · --f
                refine lv_iconst (v := 1) hx hb dX6_steps_107 (by decide) ?_
                refine lv_goto (tgt := 112) hx hb dX6_steps_108 (by decide) ?_
                refine lv_iadd hx hb dX6_steps_112 ?_
                refine xretv (va_runV (As := [.int (nI i), .int 7, .int ((gX6_of (gX6_sets f1 i 6 ((gX6_of f1 i 6) + 0)) i 7) + 1)]) (rest := []) ⟨hx, hb, hml, hown, hts⟩ (mX6_sets l D ck ma M (gX6_sets f1 i 6 ((gX6_of f1 i 6) + 0)) (nI i) i rfl (by omega) 7 7 rfl (by omega) ((gX6_of (gX6_sets f1 i 6 ((gX6_of f1 i 6) + 0)) i 7) + 1)  _) (cwV 3 hts gX6_steps_X6_sets rfl rfl rfl (by decide +kernel) ⟨Nat.le_of_ble_eq_true rfl, Nat.le_of_ble_eq_true rfl⟩) (xpreV hN hK hP hD pm_all 0 rfl rfl rfl) rfl rfl hl.1 rfl (lv_room (Nat.le_of_ble_eq_true rfl)) dX6_steps_113 ⟨Nat.le_of_ble_eq_true rfl, Nat.le_of_ble_eq_true rfl⟩) hP hD hS hA pm_all pm_all' (fun H locs hP hD hS => ?_)
                have hP : va_P D vwCl (coreW ck ma M (gX6_sets (gX6_sets f1 i 6 ((gX6_of f1 i 6) + 0)) i 7 ((gX6_of (gX6_sets f1 i 6 ((gX6_of f1 i 6) + 0)) i 7) + 1))) H := hP
                have hD : va_D (va_A (coreW ck ma M f) s.heap.size) (coreW ck ma M (gX6_sets (gX6_sets f1 i 6 ((gX6_of f1 i 6) + 0)) i 7 ((gX6_of (gX6_sets f1 i 6 ((gX6_of f1 i 6) + 0)) i 7) + 1))) := hD
                refine lv_aload_n hx hb dX6_steps_116 rfl (lv_at hl 1 rfl) ?_
                refine lv_iload_n hx hb dX6_steps_117 rfl (lv_at hl 3 rfl) ?_
                refine lv_iconst (v := 5) hx hb dX6_steps_118 (by decide) ?_
                refine lv_aload_n hx hb dX6_steps_119 rfl (lv_at hl 1 rfl) ?_
                refine lv_iload_n hx hb dX6_steps_120 rfl (lv_at hl 3 rfl) ?_
                refine lv_iconst (v := 5) hx hb dX6_steps_121 (by decide) ?_
                refine xreti (va_runV (As := [.int (nI i), .int 5]) (rest := [.int 5, .int (nI i), .ref (ma 0)]) ⟨hx, hb, hml, hown, hts⟩ (mX6_of l D ck ma M (gX6_sets (gX6_sets f1 i 6 ((gX6_of f1 i 6) + 0)) i 7 ((gX6_of (gX6_sets f1 i 6 ((gX6_of f1 i 6) + 0)) i 7) + 1)) (nI i) i rfl (by omega) 5 5 rfl (by omega)  _) (cwV 2 hts gX6_steps_X6_of rfl rfl rfl (by decide +kernel) ⟨Nat.le_of_ble_eq_true rfl, Nat.le_of_ble_eq_true rfl⟩) (xpreV hN hK hP hD pm_all 0 rfl rfl rfl) rfl rfl hl.1 rfl (lv_room (Nat.le_of_ble_eq_true rfl)) dX6_steps_122 ⟨Nat.le_of_ble_eq_true rfl, Nat.le_of_ble_eq_true rfl⟩) hP hD hS hA pm_all pm_all' (fun H locs hP hD hS => ?_)
                refine lv_iload_n hx hb dX6_steps_125 rfl (lv_at hl 0 rfl) ?_
                refine lv_isub hx hb dX6_steps_126 ?_
                refine xretv (va_runV (As := [.int (nI i), .int 5, .int ((gX6_of (gX6_sets (gX6_sets f1 i 6 ((gX6_of f1 i 6) + 0)) i 7 ((gX6_of (gX6_sets f1 i 6 ((gX6_of f1 i 6) + 0)) i 7) + 1)) i 5) - (f1 3))]) (rest := []) ⟨hx, hb, hml, hown, hts⟩ (mX6_sets l D ck ma M (gX6_sets (gX6_sets f1 i 6 ((gX6_of f1 i 6) + 0)) i 7 ((gX6_of (gX6_sets f1 i 6 ((gX6_of f1 i 6) + 0)) i 7) + 1)) (nI i) i rfl (by omega) 5 5 rfl (by omega) ((gX6_of (gX6_sets (gX6_sets f1 i 6 ((gX6_of f1 i 6) + 0)) i 7 ((gX6_of (gX6_sets f1 i 6 ((gX6_of f1 i 6) + 0)) i 7) + 1)) i 5) - (f1 3))  _) (cwV 3 hts gX6_steps_X6_sets rfl rfl rfl (by decide +kernel) ⟨Nat.le_of_ble_eq_true rfl, Nat.le_of_ble_eq_true rfl⟩) (xpreV hN hK hP hD pm_all 0 rfl rfl rfl) rfl rfl hl.1 rfl (lv_room (Nat.le_of_ble_eq_true rfl)) dX6_steps_127 ⟨Nat.le_of_ble_eq_true rfl, Nat.le_of_ble_eq_true rfl⟩) hP hD hS hA pm_all pm_all' (fun H locs hP hD hS => ?_)
                have hP : va_P D vwCl (coreW ck ma M (gX6_sets (gX6_sets (gX6_sets f1 i 6 ((gX6_of f1 i 6) + 0)) i 7 ((gX6_of (gX6_sets f1 i 6 ((gX6_of f1 i 6) + 0)) i 7) + 1)) i 5 ((gX6_of (gX6_sets (gX6_sets f1 i 6 ((gX6_of f1 i 6) + 0)) i 7 ((gX6_of (gX6_sets f1 i 6 ((gX6_of f1 i 6) + 0)) i 7) + 1)) i 5) - (f1 3)))) H := hP
                have hD : va_D (va_A (coreW ck ma M f) s.heap.size) (coreW ck ma M (gX6_sets (gX6_sets (gX6_sets f1 i 6 ((gX6_of f1 i 6) + 0)) i 7 ((gX6_of (gX6_sets f1 i 6 ((gX6_of f1 i 6) + 0)) i 7) + 1)) i 5 ((gX6_of (gX6_sets (gX6_sets f1 i 6 ((gX6_of f1 i 6) + 0)) i 7 ((gX6_of (gX6_sets f1 i 6 ((gX6_of f1 i 6) + 0)) i 7) + 1)) i 5) - (f1 3)))) := hD
                refine lv_aload_n hx hb dX6_steps_130 rfl (lv_at hl 1 rfl) ?_
                refine va_get (D := D) (ci := 6) (v := .ref (ma 1)) (C := RX6) (T := TX6) (N := 13) hx hb hts hinX6 hown hK hP 0 rfl rfl 0 (by decide) (hts (.fieldLink RX6 7 "JoinGrantsModel" "all" "[I") (List.mem_of_getElem? (i := 1) rfl)) (fun _ h9 => h9) rfl dX6_steps_131 ?_
                refine lv_bipush (v := 7) hx hb dX6_steps_134 (by decide) ?_
                refine lv_dup2_11 hx hb dX6_steps_136 rfl rfl ?_
                refine xiald (j := 7) (by decide) hx hb hK hP 1 0 rfl rfl (show vp_in 7 153 from by unfold vp_in; decide) dX6_steps_137 ?_
                refine lv_iload_n hx hb dX6_steps_138 rfl (lv_at hl 0 rfl) ?_
                refine lv_iadd hx hb dX6_steps_139 ?_
                refine xiast (j := 7) (by decide) hx hb hK hP hD hS 1 0 rfl rfl (show vp_in 7 153 from by unfold vp_in; decide) dX6_steps_140 (fun H locs hP hD hS => ?_)
                have hP : va_P D vwCl (coreW ck ma M (upd (gX6_sets (gX6_sets (gX6_sets f1 i 6 ((gX6_of f1 i 6) + 0)) i 7 ((gX6_of (gX6_sets f1 i 6 ((gX6_of f1 i 6) + 0)) i 7) + 1)) i 5 ((gX6_of (gX6_sets (gX6_sets f1 i 6 ((gX6_of f1 i 6) + 0)) i 7 ((gX6_of (gX6_sets f1 i 6 ((gX6_of f1 i 6) + 0)) i 7) + 1)) i 5) - (f1 3))) 7 (((gX6_sets (gX6_sets (gX6_sets f1 i 6 ((gX6_of f1 i 6) + 0)) i 7 ((gX6_of (gX6_sets f1 i 6 ((gX6_of f1 i 6) + 0)) i 7) + 1)) i 5 ((gX6_of (gX6_sets (gX6_sets f1 i 6 ((gX6_of f1 i 6) + 0)) i 7 ((gX6_of (gX6_sets f1 i 6 ((gX6_of f1 i 6) + 0)) i 7) + 1)) i 5) - (f1 3))) 7) + (f1 3)))) H := hP
                have hD : va_D (va_A (coreW ck ma M f) s.heap.size) (coreW ck ma M (upd (gX6_sets (gX6_sets (gX6_sets f1 i 6 ((gX6_of f1 i 6) + 0)) i 7 ((gX6_of (gX6_sets f1 i 6 ((gX6_of f1 i 6) + 0)) i 7) + 1)) i 5 ((gX6_of (gX6_sets (gX6_sets f1 i 6 ((gX6_of f1 i 6) + 0)) i 7 ((gX6_of (gX6_sets f1 i 6 ((gX6_of f1 i 6) + 0)) i 7) + 1)) i 5) - (f1 3))) 7 (((gX6_sets (gX6_sets (gX6_sets f1 i 6 ((gX6_of f1 i 6) + 0)) i 7 ((gX6_of (gX6_sets f1 i 6 ((gX6_of f1 i 6) + 0)) i 7) + 1)) i 5 ((gX6_of (gX6_sets (gX6_sets f1 i 6 ((gX6_of f1 i 6) + 0)) i 7 ((gX6_of (gX6_sets f1 i 6 ((gX6_of f1 i 6) + 0)) i 7) + 1)) i 5) - (f1 3))) 7) + (f1 3)))) := hD
                refine lv_iinc (v := (nI (i + 1))) (lv' := [(2, .int (nI (i + 1))), (3, .int (f1 3)), (0, .ref (ma 0)), (1, .int 0)]) hx hb dX6_steps_141 hl (k := 3) rfl (nI_1 i) (by decide) rfl (fun ls hl => ?_)
                refine lv_goto (tgt := 4) hx hb dX6_steps_144 (by decide) ?_
                exact ih4 (i + 1) (upd (gX6_sets (gX6_sets (gX6_sets f1 i 6 ((gX6_of f1 i 6) + 0)) i 7 ((gX6_of (gX6_sets f1 i 6 ((gX6_of f1 i 6) + 0)) i 7) + 1)) i 5 ((gX6_of (gX6_sets (gX6_sets f1 i 6 ((gX6_of f1 i 6) + 0)) i 7 ((gX6_of (gX6_sets f1 i 6 ((gX6_of f1 i 6) + 0)) i 7) + 1)) i 5) - (f1 3))) 7 (((gX6_sets (gX6_sets (gX6_sets f1 i 6 ((gX6_of f1 i 6) + 0)) i 7 ((gX6_of (gX6_sets f1 i 6 ((gX6_of f1 i 6) + 0)) i 7) + 1)) i 5 ((gX6_of (gX6_sets (gX6_sets f1 i 6 ((gX6_of f1 i 6) + 0)) i 7 ((gX6_of (gX6_sets f1 i 6 ((gX6_of f1 i 6) + 0)) i 7) + 1)) i 5) - (f1 3))) 7) + (f1 3))) (by omega) (sA_3 hs (by omega) c_20 c_39) (hg.trans (show gX6_steps_L4 f (fu + 1) i f1 = (gX6_steps_L4 f fu (i + 1) (upd (gX6_sets (gX6_sets (gX6_sets f1 i 6 ((gX6_of f1 i 6) + 0)) i 7 ((gX6_of (gX6_sets f1 i 6 ((gX6_of f1 i 6) + 0)) i 7) + 1)) i 5 ((gX6_of (gX6_sets (gX6_sets f1 i 6 ((gX6_of f1 i 6) + 0)) i 7 ((gX6_of (gX6_sets f1 i 6 ((gX6_of f1 i 6) + 0)) i 7) + 1)) i 5) - (f1 3))) 7 (((gX6_sets (gX6_sets (gX6_sets f1 i 6 ((gX6_of f1 i 6) + 0)) i 7 ((gX6_of (gX6_sets f1 i 6 ((gX6_of f1 i 6) + 0)) i 7) + 1)) i 5 ((gX6_of (gX6_sets (gX6_sets f1 i 6 ((gX6_of f1 i 6) + 0)) i 7 ((gX6_of (gX6_sets f1 i 6 ((gX6_of f1 i 6) + 0)) i 7) + 1)) i 5) - (f1 3))) 7) + (f1 3)))) from (Eq.trans (if_neg c_20) (Eq.trans (if_pos c_39) (Eq.trans (if_pos c_75) (Eq.trans (if_neg c_104) rfl)))))) _ _ _ hP hD hS (lv_sub hl [2, 3, 0] rfl)
            · --f
              refine lv_iconst (v := 1) hx hb dX6_steps_78 (by decide) ?_
              refine lv_goto (tgt := 83) hx hb dX6_steps_79 (by decide) ?_
              refine lv_iadd hx hb dX6_steps_83 ?_
              refine xretv (va_runV (As := [.int (nI i), .int 6, .int ((gX6_of f1 i 6) + 1)]) (rest := []) ⟨hx, hb, hml, hown, hts⟩ (mX6_sets l D ck ma M f1 (nI i) i rfl (by omega) 6 6 rfl (by omega) ((gX6_of f1 i 6) + 1)  _) (cwV 3 hts gX6_steps_X6_sets rfl rfl rfl (by decide +kernel) ⟨Nat.le_of_ble_eq_true rfl, Nat.le_of_ble_eq_true rfl⟩) (xpreV hN hK hP hD pm_all 0 rfl rfl rfl) rfl rfl hl.1 rfl (lv_room (Nat.le_of_ble_eq_true rfl)) dX6_steps_84 ⟨Nat.le_of_ble_eq_true rfl, Nat.le_of_ble_eq_true rfl⟩) hP hD hS hA pm_all pm_all' (fun H locs hP hD hS => ?_)
              have hP : va_P D vwCl (coreW ck ma M (gX6_sets f1 i 6 ((gX6_of f1 i 6) + 1))) H := hP
              have hD : va_D (va_A (coreW ck ma M f) s.heap.size) (coreW ck ma M (gX6_sets f1 i 6 ((gX6_of f1 i 6) + 1))) := hD
              refine lv_aload_n hx hb dX6_steps_87 rfl (lv_at hl 1 rfl) ?_
              refine lv_iload_n hx hb dX6_steps_88 rfl (lv_at hl 3 rfl) ?_
              refine lv_bipush (v := 7) hx hb dX6_steps_89 (by decide) ?_
              refine lv_aload_n hx hb dX6_steps_91 rfl (lv_at hl 1 rfl) ?_
              refine lv_iload_n hx hb dX6_steps_92 rfl (lv_at hl 3 rfl) ?_
              refine lv_bipush (v := 7) hx hb dX6_steps_93 (by decide) ?_
              refine xreti (va_runV (As := [.int (nI i), .int 7]) (rest := [.int 7, .int (nI i), .ref (ma 0)]) ⟨hx, hb, hml, hown, hts⟩ (mX6_of l D ck ma M (gX6_sets f1 i 6 ((gX6_of f1 i 6) + 1)) (nI i) i rfl (by omega) 7 7 rfl (by omega)  _) (cwV 2 hts gX6_steps_X6_of rfl rfl rfl (by decide +kernel) ⟨Nat.le_of_ble_eq_true rfl, Nat.le_of_ble_eq_true rfl⟩) (xpreV hN hK hP hD pm_all 0 rfl rfl rfl) rfl rfl hl.1 rfl (lv_room (Nat.le_of_ble_eq_true rfl)) dX6_steps_95 ⟨Nat.le_of_ble_eq_true rfl, Nat.le_of_ble_eq_true rfl⟩) hP hD hS hA pm_all pm_all' (fun H locs hP hD hS => ?_)
              refine lv_aload_n hx hb dX6_steps_98 rfl (lv_at hl 1 rfl) ?_
              refine lv_iload_n hx hb dX6_steps_99 rfl (lv_at hl 3 rfl) ?_
              refine lv_iconst (v := 1) hx hb dX6_steps_100 (by decide) ?_
              refine xreti (va_runV (As := [.int (nI i), .int 1]) (rest := [.int (gX6_of (gX6_sets f1 i 6 ((gX6_of f1 i 6) + 1)) i 7), .int 7, .int (nI i), .ref (ma 0)]) ⟨hx, hb, hml, hown, hts⟩ (mX6_is l D ck ma M (gX6_sets f1 i 6 ((gX6_of f1 i 6) + 1)) (nI i) i rfl (by omega) 1  _) (cwV 2 hts gX6_steps_X6_is rfl rfl rfl (by decide +kernel) ⟨Nat.le_of_ble_eq_true rfl, Nat.le_of_ble_eq_true rfl⟩) (xpreV hN hK hP hD pm_all 0 rfl rfl rfl) rfl rfl hl.1 rfl (lv_room (Nat.le_of_ble_eq_true rfl)) dX6_steps_101 ⟨Nat.le_of_ble_eq_true rfl, Nat.le_of_ble_eq_true rfl⟩) hP hD hS hA pm_all pm_all' (fun H locs hP hD hS => ?_)
              refine lv_if_eq (tgt := 111) hx hb dX6_steps_104 (by decide) (fun c_104 => ?_) (fun c_104 => ?_)
              · --t
                refine lv_iconst (v := 0) hx hb dX6_steps_111 (by decide) ?_
                refine lv_iadd hx hb dX6_steps_112 ?_
                refine xretv (va_runV (As := [.int (nI i), .int 7, .int ((gX6_of (gX6_sets f1 i 6 ((gX6_of f1 i 6) + 1)) i 7) + 0)]) (rest := []) ⟨hx, hb, hml, hown, hts⟩ (mX6_sets l D ck ma M (gX6_sets f1 i 6 ((gX6_of f1 i 6) + 1)) (nI i) i rfl (by omega) 7 7 rfl (by omega) ((gX6_of (gX6_sets f1 i 6 ((gX6_of f1 i 6) + 1)) i 7) + 0)  _) (cwV 3 hts gX6_steps_X6_sets rfl rfl rfl (by decide +kernel) ⟨Nat.le_of_ble_eq_true rfl, Nat.le_of_ble_eq_true rfl⟩) (xpreV hN hK hP hD pm_all 0 rfl rfl rfl) rfl rfl hl.1 rfl (lv_room (Nat.le_of_ble_eq_true rfl)) dX6_steps_113 ⟨Nat.le_of_ble_eq_true rfl, Nat.le_of_ble_eq_true rfl⟩) hP hD hS hA pm_all pm_all' (fun H locs hP hD hS => ?_)
                have hP : va_P D vwCl (coreW ck ma M (gX6_sets (gX6_sets f1 i 6 ((gX6_of f1 i 6) + 1)) i 7 ((gX6_of (gX6_sets f1 i 6 ((gX6_of f1 i 6) + 1)) i 7) + 0))) H := hP
                have hD : va_D (va_A (coreW ck ma M f) s.heap.size) (coreW ck ma M (gX6_sets (gX6_sets f1 i 6 ((gX6_of f1 i 6) + 1)) i 7 ((gX6_of (gX6_sets f1 i 6 ((gX6_of f1 i 6) + 1)) i 7) + 0))) := hD
                refine lv_aload_n hx hb dX6_steps_116 rfl (lv_at hl 1 rfl) ?_
                refine lv_iload_n hx hb dX6_steps_117 rfl (lv_at hl 3 rfl) ?_
                refine lv_iconst (v := 5) hx hb dX6_steps_118 (by decide) ?_
                refine lv_aload_n hx hb dX6_steps_119 rfl (lv_at hl 1 rfl) ?_
                refine lv_iload_n hx hb dX6_steps_120 rfl (lv_at hl 3 rfl) ?_
                refine lv_iconst (v := 5) hx hb dX6_steps_121 (by decide) ?_
                refine xreti (va_runV (As := [.int (nI i), .int 5]) (rest := [.int 5, .int (nI i), .ref (ma 0)]) ⟨hx, hb, hml, hown, hts⟩ (mX6_of l D ck ma M (gX6_sets (gX6_sets f1 i 6 ((gX6_of f1 i 6) + 1)) i 7 ((gX6_of (gX6_sets f1 i 6 ((gX6_of f1 i 6) + 1)) i 7) + 0)) (nI i) i rfl (by omega) 5 5 rfl (by omega)  _) (cwV 2 hts gX6_steps_X6_of rfl rfl rfl (by decide +kernel) ⟨Nat.le_of_ble_eq_true rfl, Nat.le_of_ble_eq_true rfl⟩) (xpreV hN hK hP hD pm_all 0 rfl rfl rfl) rfl rfl hl.1 rfl (lv_room (Nat.le_of_ble_eq_true rfl)) dX6_steps_122 ⟨Nat.le_of_ble_eq_true rfl, Nat.le_of_ble_eq_true rfl⟩) hP hD hS hA pm_all pm_all' (fun H locs hP hD hS => ?_)
                refine lv_iload_n hx hb dX6_steps_125 rfl (lv_at hl 0 rfl) ?_
                refine lv_isub hx hb dX6_steps_126 ?_
                refine xretv (va_runV (As := [.int (nI i), .int 5, .int ((gX6_of (gX6_sets (gX6_sets f1 i 6 ((gX6_of f1 i 6) + 1)) i 7 ((gX6_of (gX6_sets f1 i 6 ((gX6_of f1 i 6) + 1)) i 7) + 0)) i 5) - (f1 3))]) (rest := []) ⟨hx, hb, hml, hown, hts⟩ (mX6_sets l D ck ma M (gX6_sets (gX6_sets f1 i 6 ((gX6_of f1 i 6) + 1)) i 7 ((gX6_of (gX6_sets f1 i 6 ((gX6_of f1 i 6) + 1)) i 7) + 0)) (nI i) i rfl (by omega) 5 5 rfl (by omega) ((gX6_of (gX6_sets (gX6_sets f1 i 6 ((gX6_of f1 i 6) + 1)) i 7 ((gX6_of (gX6_sets f1 i 6 ((gX6_of f1 i 6) + 1)) i 7) + 0)) i 5) - (f1 3))  _) (cwV 3 hts gX6_steps_X6_sets rfl rfl rfl (by decide +kernel) ⟨Nat.le_of_ble_eq_true rfl, Nat.le_of_ble_eq_true rfl⟩) (xpreV hN hK hP hD pm_all 0 rfl rfl rfl) rfl rfl hl.1 rfl (lv_room (Nat.le_of_ble_eq_true rfl)) dX6_steps_127 ⟨Nat.le_of_ble_eq_true rfl, Nat.le_of_ble_eq_true rfl⟩) hP hD hS hA pm_all pm_all' (fun H locs hP hD hS => ?_)
                have hP : va_P D vwCl (coreW ck ma M (gX6_sets (gX6_sets (gX6_sets f1 i 6 ((gX6_of f1 i 6) + 1)) i 7 ((gX6_of (gX6_sets f1 i 6 ((gX6_of f1 i 6) + 1)) i 7) + 0)) i 5 ((gX6_of (gX6_sets (gX6_sets f1 i 6 ((gX6_of f1 i 6) + 1)) i 7 ((gX6_of (gX6_sets f1 i 6 ((gX6_of f1 i 6) + 1)) i 7) + 0)) i 5) - (f1 3)))) H := hP
                have hD : va_D (va_A (coreW ck ma M f) s.heap.size) (coreW ck ma M (gX6_sets (gX6_sets (gX6_sets f1 i 6 ((gX6_of f1 i 6) + 1)) i 7 ((gX6_of (gX6_sets f1 i 6 ((gX6_of f1 i 6) + 1)) i 7) + 0)) i 5 ((gX6_of (gX6_sets (gX6_sets f1 i 6 ((gX6_of f1 i 6) + 1)) i 7 ((gX6_of (gX6_sets f1 i 6 ((gX6_of f1 i 6) + 1)) i 7) + 0)) i 5) - (f1 3)))) := hD
                refine lv_aload_n hx hb dX6_steps_130 rfl (lv_at hl 1 rfl) ?_
                refine va_get (D := D) (ci := 6) (v := .ref (ma 1)) (C := RX6) (T := TX6) (N := 13) hx hb hts hinX6 hown hK hP 0 rfl rfl 0 (by decide) (hts (.fieldLink RX6 7 "JoinGrantsModel" "all" "[I") (List.mem_of_getElem? (i := 1) rfl)) (fun _ h9 => h9) rfl dX6_steps_131 ?_
                refine lv_bipush (v := 7) hx hb dX6_steps_134 (by decide) ?_
                refine lv_dup2_11 hx hb dX6_steps_136 rfl rfl ?_
                refine xiald (j := 7) (by decide) hx hb hK hP 1 0 rfl rfl (show vp_in 7 153 from by unfold vp_in; decide) dX6_steps_137 ?_
                refine lv_iload_n hx hb dX6_steps_138 rfl (lv_at hl 0 rfl) ?_
                refine lv_iadd hx hb dX6_steps_139 ?_
                refine xiast (j := 7) (by decide) hx hb hK hP hD hS 1 0 rfl rfl (show vp_in 7 153 from by unfold vp_in; decide) dX6_steps_140 (fun H locs hP hD hS => ?_)
                have hP : va_P D vwCl (coreW ck ma M (upd (gX6_sets (gX6_sets (gX6_sets f1 i 6 ((gX6_of f1 i 6) + 1)) i 7 ((gX6_of (gX6_sets f1 i 6 ((gX6_of f1 i 6) + 1)) i 7) + 0)) i 5 ((gX6_of (gX6_sets (gX6_sets f1 i 6 ((gX6_of f1 i 6) + 1)) i 7 ((gX6_of (gX6_sets f1 i 6 ((gX6_of f1 i 6) + 1)) i 7) + 0)) i 5) - (f1 3))) 7 (((gX6_sets (gX6_sets (gX6_sets f1 i 6 ((gX6_of f1 i 6) + 1)) i 7 ((gX6_of (gX6_sets f1 i 6 ((gX6_of f1 i 6) + 1)) i 7) + 0)) i 5 ((gX6_of (gX6_sets (gX6_sets f1 i 6 ((gX6_of f1 i 6) + 1)) i 7 ((gX6_of (gX6_sets f1 i 6 ((gX6_of f1 i 6) + 1)) i 7) + 0)) i 5) - (f1 3))) 7) + (f1 3)))) H := hP
                have hD : va_D (va_A (coreW ck ma M f) s.heap.size) (coreW ck ma M (upd (gX6_sets (gX6_sets (gX6_sets f1 i 6 ((gX6_of f1 i 6) + 1)) i 7 ((gX6_of (gX6_sets f1 i 6 ((gX6_of f1 i 6) + 1)) i 7) + 0)) i 5 ((gX6_of (gX6_sets (gX6_sets f1 i 6 ((gX6_of f1 i 6) + 1)) i 7 ((gX6_of (gX6_sets f1 i 6 ((gX6_of f1 i 6) + 1)) i 7) + 0)) i 5) - (f1 3))) 7 (((gX6_sets (gX6_sets (gX6_sets f1 i 6 ((gX6_of f1 i 6) + 1)) i 7 ((gX6_of (gX6_sets f1 i 6 ((gX6_of f1 i 6) + 1)) i 7) + 0)) i 5 ((gX6_of (gX6_sets (gX6_sets f1 i 6 ((gX6_of f1 i 6) + 1)) i 7 ((gX6_of (gX6_sets f1 i 6 ((gX6_of f1 i 6) + 1)) i 7) + 0)) i 5) - (f1 3))) 7) + (f1 3)))) := hD
                refine lv_iinc (v := (nI (i + 1))) (lv' := [(2, .int (nI (i + 1))), (3, .int (f1 3)), (0, .ref (ma 0)), (1, .int 0)]) hx hb dX6_steps_141 hl (k := 3) rfl (nI_1 i) (by decide) rfl (fun ls hl => ?_)
                refine lv_goto (tgt := 4) hx hb dX6_steps_144 (by decide) ?_
                exact ih4 (i + 1) (upd (gX6_sets (gX6_sets (gX6_sets f1 i 6 ((gX6_of f1 i 6) + 1)) i 7 ((gX6_of (gX6_sets f1 i 6 ((gX6_of f1 i 6) + 1)) i 7) + 0)) i 5 ((gX6_of (gX6_sets (gX6_sets f1 i 6 ((gX6_of f1 i 6) + 1)) i 7 ((gX6_of (gX6_sets f1 i 6 ((gX6_of f1 i 6) + 1)) i 7) + 0)) i 5) - (f1 3))) 7 (((gX6_sets (gX6_sets (gX6_sets f1 i 6 ((gX6_of f1 i 6) + 1)) i 7 ((gX6_of (gX6_sets f1 i 6 ((gX6_of f1 i 6) + 1)) i 7) + 0)) i 5 ((gX6_of (gX6_sets (gX6_sets f1 i 6 ((gX6_of f1 i 6) + 1)) i 7 ((gX6_of (gX6_sets f1 i 6 ((gX6_of f1 i 6) + 1)) i 7) + 0)) i 5) - (f1 3))) 7) + (f1 3))) (by omega) (sA_3 hs (by omega) c_20 c_39) (hg.trans (show gX6_steps_L4 f (fu + 1) i f1 = (gX6_steps_L4 f fu (i + 1) (upd (gX6_sets (gX6_sets (gX6_sets f1 i 6 ((gX6_of f1 i 6) + 1)) i 7 ((gX6_of (gX6_sets f1 i 6 ((gX6_of f1 i 6) + 1)) i 7) + 0)) i 5 ((gX6_of (gX6_sets (gX6_sets f1 i 6 ((gX6_of f1 i 6) + 1)) i 7 ((gX6_of (gX6_sets f1 i 6 ((gX6_of f1 i 6) + 1)) i 7) + 0)) i 5) - (f1 3))) 7 (((gX6_sets (gX6_sets (gX6_sets f1 i 6 ((gX6_of f1 i 6) + 1)) i 7 ((gX6_of (gX6_sets f1 i 6 ((gX6_of f1 i 6) + 1)) i 7) + 0)) i 5 ((gX6_of (gX6_sets (gX6_sets f1 i 6 ((gX6_of f1 i 6) + 1)) i 7 ((gX6_of (gX6_sets f1 i 6 ((gX6_of f1 i 6) + 1)) i 7) + 0)) i 5) - (f1 3))) 7) + (f1 3)))) from (Eq.trans (if_neg c_20) (Eq.trans (if_pos c_39) (Eq.trans (if_neg c_75) (Eq.trans (if_pos c_104) rfl)))))) _ _ _ hP hD hS (lv_sub hl [2, 3, 0] rfl)
              · --f
                refine lv_iconst (v := 1) hx hb dX6_steps_107 (by decide) ?_
                refine lv_goto (tgt := 112) hx hb dX6_steps_108 (by decide) ?_
                refine lv_iadd hx hb dX6_steps_112 ?_
                refine xretv (va_runV (As := [.int (nI i), .int 7, .int ((gX6_of (gX6_sets f1 i 6 ((gX6_of f1 i 6) + 1)) i 7) + 1)]) (rest := []) ⟨hx, hb, hml, hown, hts⟩ (mX6_sets l D ck ma M (gX6_sets f1 i 6 ((gX6_of f1 i 6) + 1)) (nI i) i rfl (by omega) 7 7 rfl (by omega) ((gX6_of (gX6_sets f1 i 6 ((gX6_of f1 i 6) + 1)) i 7) + 1)  _) (cwV 3 hts gX6_steps_X6_sets rfl rfl rfl (by decide +kernel) ⟨Nat.le_of_ble_eq_true rfl, Nat.le_of_ble_eq_true rfl⟩) (xpreV hN hK hP hD pm_all 0 rfl rfl rfl) rfl rfl hl.1 rfl (lv_room (Nat.le_of_ble_eq_true rfl)) dX6_steps_113 ⟨Nat.le_of_ble_eq_true rfl, Nat.le_of_ble_eq_true rfl⟩) hP hD hS hA pm_all pm_all' (fun H locs hP hD hS => ?_)
                have hP : va_P D vwCl (coreW ck ma M (gX6_sets (gX6_sets f1 i 6 ((gX6_of f1 i 6) + 1)) i 7 ((gX6_of (gX6_sets f1 i 6 ((gX6_of f1 i 6) + 1)) i 7) + 1))) H := hP
                have hD : va_D (va_A (coreW ck ma M f) s.heap.size) (coreW ck ma M (gX6_sets (gX6_sets f1 i 6 ((gX6_of f1 i 6) + 1)) i 7 ((gX6_of (gX6_sets f1 i 6 ((gX6_of f1 i 6) + 1)) i 7) + 1))) := hD
                refine lv_aload_n hx hb dX6_steps_116 rfl (lv_at hl 1 rfl) ?_
                refine lv_iload_n hx hb dX6_steps_117 rfl (lv_at hl 3 rfl) ?_
                refine lv_iconst (v := 5) hx hb dX6_steps_118 (by decide) ?_
                refine lv_aload_n hx hb dX6_steps_119 rfl (lv_at hl 1 rfl) ?_
                refine lv_iload_n hx hb dX6_steps_120 rfl (lv_at hl 3 rfl) ?_
                refine lv_iconst (v := 5) hx hb dX6_steps_121 (by decide) ?_
                refine xreti (va_runV (As := [.int (nI i), .int 5]) (rest := [.int 5, .int (nI i), .ref (ma 0)]) ⟨hx, hb, hml, hown, hts⟩ (mX6_of l D ck ma M (gX6_sets (gX6_sets f1 i 6 ((gX6_of f1 i 6) + 1)) i 7 ((gX6_of (gX6_sets f1 i 6 ((gX6_of f1 i 6) + 1)) i 7) + 1)) (nI i) i rfl (by omega) 5 5 rfl (by omega)  _) (cwV 2 hts gX6_steps_X6_of rfl rfl rfl (by decide +kernel) ⟨Nat.le_of_ble_eq_true rfl, Nat.le_of_ble_eq_true rfl⟩) (xpreV hN hK hP hD pm_all 0 rfl rfl rfl) rfl rfl hl.1 rfl (lv_room (Nat.le_of_ble_eq_true rfl)) dX6_steps_122 ⟨Nat.le_of_ble_eq_true rfl, Nat.le_of_ble_eq_true rfl⟩) hP hD hS hA pm_all pm_all' (fun H locs hP hD hS => ?_)
                refine lv_iload_n hx hb dX6_steps_125 rfl (lv_at hl 0 rfl) ?_
                refine lv_isub hx hb dX6_steps_126 ?_
                refine xretv (va_runV (As := [.int (nI i), .int 5, .int ((gX6_of (gX6_sets (gX6_sets f1 i 6 ((gX6_of f1 i 6) + 1)) i 7 ((gX6_of (gX6_sets f1 i 6 ((gX6_of f1 i 6) + 1)) i 7) + 1)) i 5) - (f1 3))]) (rest := []) ⟨hx, hb, hml, hown, hts⟩ (mX6_sets l D ck ma M (gX6_sets (gX6_sets f1 i 6 ((gX6_of f1 i 6) + 1)) i 7 ((gX6_of (gX6_sets f1 i 6 ((gX6_of f1 i 6) + 1)) i 7) + 1)) (nI i) i rfl (by omega) 5 5 rfl (by omega) ((gX6_of (gX6_sets (gX6_sets f1 i 6 ((gX6_of f1 i 6) + 1)) i 7 ((gX6_of (gX6_sets f1 i 6 ((gX6_of f1 i 6) + 1)) i 7) + 1)) i 5) - (f1 3))  _) (cwV 3 hts gX6_steps_X6_sets rfl rfl rfl (by decide +kernel) ⟨Nat.le_of_ble_eq_true rfl, Nat.le_of_ble_eq_true rfl⟩) (xpreV hN hK hP hD pm_all 0 rfl rfl rfl) rfl rfl hl.1 rfl (lv_room (Nat.le_of_ble_eq_true rfl)) dX6_steps_127 ⟨Nat.le_of_ble_eq_true rfl, Nat.le_of_ble_eq_true rfl⟩) hP hD hS hA pm_all pm_all' (fun H locs hP hD hS => ?_)
                have hP : va_P D vwCl (coreW ck ma M (gX6_sets (gX6_sets (gX6_sets f1 i 6 ((gX6_of f1 i 6) + 1)) i 7 ((gX6_of (gX6_sets f1 i 6 ((gX6_of f1 i 6) + 1)) i 7) + 1)) i 5 ((gX6_of (gX6_sets (gX6_sets f1 i 6 ((gX6_of f1 i 6) + 1)) i 7 ((gX6_of (gX6_sets f1 i 6 ((gX6_of f1 i 6) + 1)) i 7) + 1)) i 5) - (f1 3)))) H := hP
                have hD : va_D (va_A (coreW ck ma M f) s.heap.size) (coreW ck ma M (gX6_sets (gX6_sets (gX6_sets f1 i 6 ((gX6_of f1 i 6) + 1)) i 7 ((gX6_of (gX6_sets f1 i 6 ((gX6_of f1 i 6) + 1)) i 7) + 1)) i 5 ((gX6_of (gX6_sets (gX6_sets f1 i 6 ((gX6_of f1 i 6) + 1)) i 7 ((gX6_of (gX6_sets f1 i 6 ((gX6_of f1 i 6) + 1)) i 7) + 1)) i 5) - (f1 3)))) := hD
                refine lv_aload_n hx hb dX6_steps_130 rfl (lv_at hl 1 rfl) ?_
                refine va_get (D := D) (ci := 6) (v := .ref (ma 1)) (C := RX6) (T := TX6) (N := 13) hx hb hts hinX6 hown hK hP 0 rfl rfl 0 (by decide) (hts (.fieldLink RX6 7 "JoinGrantsModel" "all" "[I") (List.mem_of_getElem? (i := 1) rfl)) (fun _ h9 => h9) rfl dX6_steps_131 ?_
                refine lv_bipush (v := 7) hx hb dX6_steps_134 (by decide) ?_
                refine lv_dup2_11 hx hb dX6_steps_136 rfl rfl ?_
                refine xiald (j := 7) (by decide) hx hb hK hP 1 0 rfl rfl (show vp_in 7 153 from by unfold vp_in; decide) dX6_steps_137 ?_
                refine lv_iload_n hx hb dX6_steps_138 rfl (lv_at hl 0 rfl) ?_
                refine lv_iadd hx hb dX6_steps_139 ?_
                refine xiast (j := 7) (by decide) hx hb hK hP hD hS 1 0 rfl rfl (show vp_in 7 153 from by unfold vp_in; decide) dX6_steps_140 (fun H locs hP hD hS => ?_)
                have hP : va_P D vwCl (coreW ck ma M (upd (gX6_sets (gX6_sets (gX6_sets f1 i 6 ((gX6_of f1 i 6) + 1)) i 7 ((gX6_of (gX6_sets f1 i 6 ((gX6_of f1 i 6) + 1)) i 7) + 1)) i 5 ((gX6_of (gX6_sets (gX6_sets f1 i 6 ((gX6_of f1 i 6) + 1)) i 7 ((gX6_of (gX6_sets f1 i 6 ((gX6_of f1 i 6) + 1)) i 7) + 1)) i 5) - (f1 3))) 7 (((gX6_sets (gX6_sets (gX6_sets f1 i 6 ((gX6_of f1 i 6) + 1)) i 7 ((gX6_of (gX6_sets f1 i 6 ((gX6_of f1 i 6) + 1)) i 7) + 1)) i 5 ((gX6_of (gX6_sets (gX6_sets f1 i 6 ((gX6_of f1 i 6) + 1)) i 7 ((gX6_of (gX6_sets f1 i 6 ((gX6_of f1 i 6) + 1)) i 7) + 1)) i 5) - (f1 3))) 7) + (f1 3)))) H := hP
                have hD : va_D (va_A (coreW ck ma M f) s.heap.size) (coreW ck ma M (upd (gX6_sets (gX6_sets (gX6_sets f1 i 6 ((gX6_of f1 i 6) + 1)) i 7 ((gX6_of (gX6_sets f1 i 6 ((gX6_of f1 i 6) + 1)) i 7) + 1)) i 5 ((gX6_of (gX6_sets (gX6_sets f1 i 6 ((gX6_of f1 i 6) + 1)) i 7 ((gX6_of (gX6_sets f1 i 6 ((gX6_of f1 i 6) + 1)) i 7) + 1)) i 5) - (f1 3))) 7 (((gX6_sets (gX6_sets (gX6_sets f1 i 6 ((gX6_of f1 i 6) + 1)) i 7 ((gX6_of (gX6_sets f1 i 6 ((gX6_of f1 i 6) + 1)) i 7) + 1)) i 5 ((gX6_of (gX6_sets (gX6_sets f1 i 6 ((gX6_of f1 i 6) + 1)) i 7 ((gX6_of (gX6_sets f1 i 6 ((gX6_of f1 i 6) + 1)) i 7) + 1)) i 5) - (f1 3))) 7) + (f1 3)))) := hD
                refine lv_iinc (v := (nI (i + 1))) (lv' := [(2, .int (nI (i + 1))), (3, .int (f1 3)), (0, .ref (ma 0)), (1, .int 0)]) hx hb dX6_steps_141 hl (k := 3) rfl (nI_1 i) (by decide) rfl (fun ls hl => ?_)
                refine lv_goto (tgt := 4) hx hb dX6_steps_144 (by decide) ?_
                exact ih4 (i + 1) (upd (gX6_sets (gX6_sets (gX6_sets f1 i 6 ((gX6_of f1 i 6) + 1)) i 7 ((gX6_of (gX6_sets f1 i 6 ((gX6_of f1 i 6) + 1)) i 7) + 1)) i 5 ((gX6_of (gX6_sets (gX6_sets f1 i 6 ((gX6_of f1 i 6) + 1)) i 7 ((gX6_of (gX6_sets f1 i 6 ((gX6_of f1 i 6) + 1)) i 7) + 1)) i 5) - (f1 3))) 7 (((gX6_sets (gX6_sets (gX6_sets f1 i 6 ((gX6_of f1 i 6) + 1)) i 7 ((gX6_of (gX6_sets f1 i 6 ((gX6_of f1 i 6) + 1)) i 7) + 1)) i 5 ((gX6_of (gX6_sets (gX6_sets f1 i 6 ((gX6_of f1 i 6) + 1)) i 7 ((gX6_of (gX6_sets f1 i 6 ((gX6_of f1 i 6) + 1)) i 7) + 1)) i 5) - (f1 3))) 7) + (f1 3))) (by omega) (sA_3 hs (by omega) c_20 c_39) (hg.trans (show gX6_steps_L4 f (fu + 1) i f1 = (gX6_steps_L4 f fu (i + 1) (upd (gX6_sets (gX6_sets (gX6_sets f1 i 6 ((gX6_of f1 i 6) + 1)) i 7 ((gX6_of (gX6_sets f1 i 6 ((gX6_of f1 i 6) + 1)) i 7) + 1)) i 5 ((gX6_of (gX6_sets (gX6_sets f1 i 6 ((gX6_of f1 i 6) + 1)) i 7 ((gX6_of (gX6_sets f1 i 6 ((gX6_of f1 i 6) + 1)) i 7) + 1)) i 5) - (f1 3))) 7 (((gX6_sets (gX6_sets (gX6_sets f1 i 6 ((gX6_of f1 i 6) + 1)) i 7 ((gX6_of (gX6_sets f1 i 6 ((gX6_of f1 i 6) + 1)) i 7) + 1)) i 5 ((gX6_of (gX6_sets (gX6_sets f1 i 6 ((gX6_of f1 i 6) + 1)) i 7 ((gX6_of (gX6_sets f1 i 6 ((gX6_of f1 i 6) + 1)) i 7) + 1)) i 5) - (f1 3))) 7) + (f1 3)))) from (Eq.trans (if_neg c_20) (Eq.trans (if_pos c_39) (Eq.trans (if_neg c_75) (Eq.trans (if_neg c_104) rfl)))))) _ _ _ hP hD hS (lv_sub hl [2, 3, 0] rfl)
          · --f
            refine lv_aload_n hx hb dX6_steps_42 rfl (lv_at hl 0 rfl) ?_
            refine lv_iload_n hx hb dX6_steps_43 rfl (lv_at hl 2 rfl) ?_
            refine lv_iconst (v := 5) hx hb dX6_steps_44 (by decide) ?_
            refine xreti (va_runV (As := [.int (nI i), .int 5]) (rest := []) ⟨hx, hb, hml, hown, hts⟩ (mX6_of l D ck ma M f1 (nI i) i rfl (by omega) 5 5 rfl (by omega)  _) (cwV 2 hts gX6_steps_X6_of rfl rfl rfl (by decide +kernel) ⟨Nat.le_of_ble_eq_true rfl, Nat.le_of_ble_eq_true rfl⟩) (xpreV hN hK hP hD pm_all 0 rfl rfl rfl) rfl rfl hl.1 rfl (lv_room (Nat.le_of_ble_eq_true rfl)) dX6_steps_45 ⟨Nat.le_of_ble_eq_true rfl, Nat.le_of_ble_eq_true rfl⟩) hP hD hS hA pm_all pm_all' (fun H locs hP hD hS => ?_)
            refine lv_goto (tgt := 57) hx hb dX6_steps_48 (by decide) ?_
            refine lv_istore_n (lv' := [(3, .int (gX6_of f1 i 5)), (0, .ref (ma 0)), (1, .int 0), (2, .int (nI i))]) hx hb dX6_steps_57 rfl hl (by decide) rfl (fun ls hl => ?_)
            refine lv_aload_n hx hb dX6_steps_58 rfl (lv_at hl 1 rfl) ?_
            refine lv_iload_n hx hb dX6_steps_59 rfl (lv_at hl 3 rfl) ?_
            refine lv_bipush (v := 6) hx hb dX6_steps_60 (by decide) ?_
            refine lv_aload_n hx hb dX6_steps_62 rfl (lv_at hl 1 rfl) ?_
            refine lv_iload_n hx hb dX6_steps_63 rfl (lv_at hl 3 rfl) ?_
            refine lv_bipush (v := 6) hx hb dX6_steps_64 (by decide) ?_
            refine xreti (va_runV (As := [.int (nI i), .int 6]) (rest := [.int 6, .int (nI i), .ref (ma 0)]) ⟨hx, hb, hml, hown, hts⟩ (mX6_of l D ck ma M f1 (nI i) i rfl (by omega) 6 6 rfl (by omega)  _) (cwV 2 hts gX6_steps_X6_of rfl rfl rfl (by decide +kernel) ⟨Nat.le_of_ble_eq_true rfl, Nat.le_of_ble_eq_true rfl⟩) (xpreV hN hK hP hD pm_all 0 rfl rfl rfl) rfl rfl hl.1 rfl (lv_room (Nat.le_of_ble_eq_true rfl)) dX6_steps_66 ⟨Nat.le_of_ble_eq_true rfl, Nat.le_of_ble_eq_true rfl⟩) hP hD hS hA pm_all pm_all' (fun H locs hP hD hS => ?_)
            refine lv_aload_n hx hb dX6_steps_69 rfl (lv_at hl 1 rfl) ?_
            refine lv_iload_n hx hb dX6_steps_70 rfl (lv_at hl 3 rfl) ?_
            refine lv_iconst (v := 0) hx hb dX6_steps_71 (by decide) ?_
            refine xreti (va_runV (As := [.int (nI i), .int 0]) (rest := [.int (gX6_of f1 i 6), .int 6, .int (nI i), .ref (ma 0)]) ⟨hx, hb, hml, hown, hts⟩ (mX6_is l D ck ma M f1 (nI i) i rfl (by omega) 0  _) (cwV 2 hts gX6_steps_X6_is rfl rfl rfl (by decide +kernel) ⟨Nat.le_of_ble_eq_true rfl, Nat.le_of_ble_eq_true rfl⟩) (xpreV hN hK hP hD pm_all 0 rfl rfl rfl) rfl rfl hl.1 rfl (lv_room (Nat.le_of_ble_eq_true rfl)) dX6_steps_72 ⟨Nat.le_of_ble_eq_true rfl, Nat.le_of_ble_eq_true rfl⟩) hP hD hS hA pm_all pm_all' (fun H locs hP hD hS => ?_)
            refine lv_if_eq (tgt := 82) hx hb dX6_steps_75 (by decide) (fun c_75 => ?_) (fun c_75 => ?_)
            · --t
              refine lv_iconst (v := 0) hx hb dX6_steps_82 (by decide) ?_
              refine lv_iadd hx hb dX6_steps_83 ?_
              refine xretv (va_runV (As := [.int (nI i), .int 6, .int ((gX6_of f1 i 6) + 0)]) (rest := []) ⟨hx, hb, hml, hown, hts⟩ (mX6_sets l D ck ma M f1 (nI i) i rfl (by omega) 6 6 rfl (by omega) ((gX6_of f1 i 6) + 0)  _) (cwV 3 hts gX6_steps_X6_sets rfl rfl rfl (by decide +kernel) ⟨Nat.le_of_ble_eq_true rfl, Nat.le_of_ble_eq_true rfl⟩) (xpreV hN hK hP hD pm_all 0 rfl rfl rfl) rfl rfl hl.1 rfl (lv_room (Nat.le_of_ble_eq_true rfl)) dX6_steps_84 ⟨Nat.le_of_ble_eq_true rfl, Nat.le_of_ble_eq_true rfl⟩) hP hD hS hA pm_all pm_all' (fun H locs hP hD hS => ?_)
              have hP : va_P D vwCl (coreW ck ma M (gX6_sets f1 i 6 ((gX6_of f1 i 6) + 0))) H := hP
              have hD : va_D (va_A (coreW ck ma M f) s.heap.size) (coreW ck ma M (gX6_sets f1 i 6 ((gX6_of f1 i 6) + 0))) := hD
              refine lv_aload_n hx hb dX6_steps_87 rfl (lv_at hl 1 rfl) ?_
              refine lv_iload_n hx hb dX6_steps_88 rfl (lv_at hl 3 rfl) ?_
              refine lv_bipush (v := 7) hx hb dX6_steps_89 (by decide) ?_
              refine lv_aload_n hx hb dX6_steps_91 rfl (lv_at hl 1 rfl) ?_
              refine lv_iload_n hx hb dX6_steps_92 rfl (lv_at hl 3 rfl) ?_
              refine lv_bipush (v := 7) hx hb dX6_steps_93 (by decide) ?_
              refine xreti (va_runV (As := [.int (nI i), .int 7]) (rest := [.int 7, .int (nI i), .ref (ma 0)]) ⟨hx, hb, hml, hown, hts⟩ (mX6_of l D ck ma M (gX6_sets f1 i 6 ((gX6_of f1 i 6) + 0)) (nI i) i rfl (by omega) 7 7 rfl (by omega)  _) (cwV 2 hts gX6_steps_X6_of rfl rfl rfl (by decide +kernel) ⟨Nat.le_of_ble_eq_true rfl, Nat.le_of_ble_eq_true rfl⟩) (xpreV hN hK hP hD pm_all 0 rfl rfl rfl) rfl rfl hl.1 rfl (lv_room (Nat.le_of_ble_eq_true rfl)) dX6_steps_95 ⟨Nat.le_of_ble_eq_true rfl, Nat.le_of_ble_eq_true rfl⟩) hP hD hS hA pm_all pm_all' (fun H locs hP hD hS => ?_)
              refine lv_aload_n hx hb dX6_steps_98 rfl (lv_at hl 1 rfl) ?_
              refine lv_iload_n hx hb dX6_steps_99 rfl (lv_at hl 3 rfl) ?_
              refine lv_iconst (v := 1) hx hb dX6_steps_100 (by decide) ?_
              refine xreti (va_runV (As := [.int (nI i), .int 1]) (rest := [.int (gX6_of (gX6_sets f1 i 6 ((gX6_of f1 i 6) + 0)) i 7), .int 7, .int (nI i), .ref (ma 0)]) ⟨hx, hb, hml, hown, hts⟩ (mX6_is l D ck ma M (gX6_sets f1 i 6 ((gX6_of f1 i 6) + 0)) (nI i) i rfl (by omega) 1  _) (cwV 2 hts gX6_steps_X6_is rfl rfl rfl (by decide +kernel) ⟨Nat.le_of_ble_eq_true rfl, Nat.le_of_ble_eq_true rfl⟩) (xpreV hN hK hP hD pm_all 0 rfl rfl rfl) rfl rfl hl.1 rfl (lv_room (Nat.le_of_ble_eq_true rfl)) dX6_steps_101 ⟨Nat.le_of_ble_eq_true rfl, Nat.le_of_ble_eq_true rfl⟩) hP hD hS hA pm_all pm_all' (fun H locs hP hD hS => ?_)
              refine lv_if_eq (tgt := 111) hx hb dX6_steps_104 (by decide) (fun c_104 => ?_) (fun c_104 => ?_)
              · --t
                refine lv_iconst (v := 0) hx hb dX6_steps_111 (by decide) ?_
                refine lv_iadd hx hb dX6_steps_112 ?_
                refine xretv (va_runV (As := [.int (nI i), .int 7, .int ((gX6_of (gX6_sets f1 i 6 ((gX6_of f1 i 6) + 0)) i 7) + 0)]) (rest := []) ⟨hx, hb, hml, hown, hts⟩ (mX6_sets l D ck ma M (gX6_sets f1 i 6 ((gX6_of f1 i 6) + 0)) (nI i) i rfl (by omega) 7 7 rfl (by omega) ((gX6_of (gX6_sets f1 i 6 ((gX6_of f1 i 6) + 0)) i 7) + 0)  _) (cwV 3 hts gX6_steps_X6_sets rfl rfl rfl (by decide +kernel) ⟨Nat.le_of_ble_eq_true rfl, Nat.le_of_ble_eq_true rfl⟩) (xpreV hN hK hP hD pm_all 0 rfl rfl rfl) rfl rfl hl.1 rfl (lv_room (Nat.le_of_ble_eq_true rfl)) dX6_steps_113 ⟨Nat.le_of_ble_eq_true rfl, Nat.le_of_ble_eq_true rfl⟩) hP hD hS hA pm_all pm_all' (fun H locs hP hD hS => ?_)
                have hP : va_P D vwCl (coreW ck ma M (gX6_sets (gX6_sets f1 i 6 ((gX6_of f1 i 6) + 0)) i 7 ((gX6_of (gX6_sets f1 i 6 ((gX6_of f1 i 6) + 0)) i 7) + 0))) H := hP
                have hD : va_D (va_A (coreW ck ma M f) s.heap.size) (coreW ck ma M (gX6_sets (gX6_sets f1 i 6 ((gX6_of f1 i 6) + 0)) i 7 ((gX6_of (gX6_sets f1 i 6 ((gX6_of f1 i 6) + 0)) i 7) + 0))) := hD
                refine lv_aload_n hx hb dX6_steps_116 rfl (lv_at hl 1 rfl) ?_
                refine lv_iload_n hx hb dX6_steps_117 rfl (lv_at hl 3 rfl) ?_
                refine lv_iconst (v := 5) hx hb dX6_steps_118 (by decide) ?_
                refine lv_aload_n hx hb dX6_steps_119 rfl (lv_at hl 1 rfl) ?_
                refine lv_iload_n hx hb dX6_steps_120 rfl (lv_at hl 3 rfl) ?_
                refine lv_iconst (v := 5) hx hb dX6_steps_121 (by decide) ?_
                refine xreti (va_runV (As := [.int (nI i), .int 5]) (rest := [.int 5, .int (nI i), .ref (ma 0)]) ⟨hx, hb, hml, hown, hts⟩ (mX6_of l D ck ma M (gX6_sets (gX6_sets f1 i 6 ((gX6_of f1 i 6) + 0)) i 7 ((gX6_of (gX6_sets f1 i 6 ((gX6_of f1 i 6) + 0)) i 7) + 0)) (nI i) i rfl (by omega) 5 5 rfl (by omega)  _) (cwV 2 hts gX6_steps_X6_of rfl rfl rfl (by decide +kernel) ⟨Nat.le_of_ble_eq_true rfl, Nat.le_of_ble_eq_true rfl⟩) (xpreV hN hK hP hD pm_all 0 rfl rfl rfl) rfl rfl hl.1 rfl (lv_room (Nat.le_of_ble_eq_true rfl)) dX6_steps_122 ⟨Nat.le_of_ble_eq_true rfl, Nat.le_of_ble_eq_true rfl⟩) hP hD hS hA pm_all pm_all' (fun H locs hP hD hS => ?_)
                refine lv_iload_n hx hb dX6_steps_125 rfl (lv_at hl 0 rfl) ?_
                refine lv_isub hx hb dX6_steps_126 ?_
                refine xretv (va_runV (As := [.int (nI i), .int 5, .int ((gX6_of (gX6_sets (gX6_sets f1 i 6 ((gX6_of f1 i 6) + 0)) i 7 ((gX6_of (gX6_sets f1 i 6 ((gX6_of f1 i 6) + 0)) i 7) + 0)) i 5) - (gX6_of f1 i 5))]) (rest := []) ⟨hx, hb, hml, hown, hts⟩ (mX6_sets l D ck ma M (gX6_sets (gX6_sets f1 i 6 ((gX6_of f1 i 6) + 0)) i 7 ((gX6_of (gX6_sets f1 i 6 ((gX6_of f1 i 6) + 0)) i 7) + 0)) (nI i) i rfl (by omega) 5 5 rfl (by omega) ((gX6_of (gX6_sets (gX6_sets f1 i 6 ((gX6_of f1 i 6) + 0)) i 7 ((gX6_of (gX6_sets f1 i 6 ((gX6_of f1 i 6) + 0)) i 7) + 0)) i 5) - (gX6_of f1 i 5))  _) (cwV 3 hts gX6_steps_X6_sets rfl rfl rfl (by decide +kernel) ⟨Nat.le_of_ble_eq_true rfl, Nat.le_of_ble_eq_true rfl⟩) (xpreV hN hK hP hD pm_all 0 rfl rfl rfl) rfl rfl hl.1 rfl (lv_room (Nat.le_of_ble_eq_true rfl)) dX6_steps_127 ⟨Nat.le_of_ble_eq_true rfl, Nat.le_of_ble_eq_true rfl⟩) hP hD hS hA pm_all pm_all' (fun H locs hP hD hS => ?_)
                have hP : va_P D vwCl (coreW ck ma M (gX6_sets (gX6_sets (gX6_sets f1 i 6 ((gX6_of f1 i 6) + 0)) i 7 ((gX6_of (gX6_sets f1 i 6 ((gX6_of f1 i 6) + 0)) i 7) + 0)) i 5 ((gX6_of (gX6_sets (gX6_sets f1 i 6 ((gX6_of f1 i 6) + 0)) i 7 ((gX6_of (gX6_sets f1 i 6 ((gX6_of f1 i 6) + 0)) i 7) + 0)) i 5) - (gX6_of f1 i 5)))) H := hP
                have hD : va_D (va_A (coreW ck ma M f) s.heap.size) (coreW ck ma M (gX6_sets (gX6_sets (gX6_sets f1 i 6 ((gX6_of f1 i 6) + 0)) i 7 ((gX6_of (gX6_sets f1 i 6 ((gX6_of f1 i 6) + 0)) i 7) + 0)) i 5 ((gX6_of (gX6_sets (gX6_sets f1 i 6 ((gX6_of f1 i 6) + 0)) i 7 ((gX6_of (gX6_sets f1 i 6 ((gX6_of f1 i 6) + 0)) i 7) + 0)) i 5) - (gX6_of f1 i 5)))) := hD
                refine lv_aload_n hx hb dX6_steps_130 rfl (lv_at hl 1 rfl) ?_
                refine va_get (D := D) (ci := 6) (v := .ref (ma 1)) (C := RX6) (T := TX6) (N := 13) hx hb hts hinX6 hown hK hP 0 rfl rfl 0 (by decide) (hts (.fieldLink RX6 7 "JoinGrantsModel" "all" "[I") (List.mem_of_getElem? (i := 1) rfl)) (fun _ h9 => h9) rfl dX6_steps_131 ?_
                refine lv_bipush (v := 7) hx hb dX6_steps_134 (by decide) ?_
                refine lv_dup2_11 hx hb dX6_steps_136 rfl rfl ?_
                refine xiald (j := 7) (by decide) hx hb hK hP 1 0 rfl rfl (show vp_in 7 153 from by unfold vp_in; decide) dX6_steps_137 ?_
                refine lv_iload_n hx hb dX6_steps_138 rfl (lv_at hl 0 rfl) ?_
                refine lv_iadd hx hb dX6_steps_139 ?_
                refine xiast (j := 7) (by decide) hx hb hK hP hD hS 1 0 rfl rfl (show vp_in 7 153 from by unfold vp_in; decide) dX6_steps_140 (fun H locs hP hD hS => ?_)
                have hP : va_P D vwCl (coreW ck ma M (upd (gX6_sets (gX6_sets (gX6_sets f1 i 6 ((gX6_of f1 i 6) + 0)) i 7 ((gX6_of (gX6_sets f1 i 6 ((gX6_of f1 i 6) + 0)) i 7) + 0)) i 5 ((gX6_of (gX6_sets (gX6_sets f1 i 6 ((gX6_of f1 i 6) + 0)) i 7 ((gX6_of (gX6_sets f1 i 6 ((gX6_of f1 i 6) + 0)) i 7) + 0)) i 5) - (gX6_of f1 i 5))) 7 (((gX6_sets (gX6_sets (gX6_sets f1 i 6 ((gX6_of f1 i 6) + 0)) i 7 ((gX6_of (gX6_sets f1 i 6 ((gX6_of f1 i 6) + 0)) i 7) + 0)) i 5 ((gX6_of (gX6_sets (gX6_sets f1 i 6 ((gX6_of f1 i 6) + 0)) i 7 ((gX6_of (gX6_sets f1 i 6 ((gX6_of f1 i 6) + 0)) i 7) + 0)) i 5) - (gX6_of f1 i 5))) 7) + (gX6_of f1 i 5)))) H := hP
                have hD : va_D (va_A (coreW ck ma M f) s.heap.size) (coreW ck ma M (upd (gX6_sets (gX6_sets (gX6_sets f1 i 6 ((gX6_of f1 i 6) + 0)) i 7 ((gX6_of (gX6_sets f1 i 6 ((gX6_of f1 i 6) + 0)) i 7) + 0)) i 5 ((gX6_of (gX6_sets (gX6_sets f1 i 6 ((gX6_of f1 i 6) + 0)) i 7 ((gX6_of (gX6_sets f1 i 6 ((gX6_of f1 i 6) + 0)) i 7) + 0)) i 5) - (gX6_of f1 i 5))) 7 (((gX6_sets (gX6_sets (gX6_sets f1 i 6 ((gX6_of f1 i 6) + 0)) i 7 ((gX6_of (gX6_sets f1 i 6 ((gX6_of f1 i 6) + 0)) i 7) + 0)) i 5 ((gX6_of (gX6_sets (gX6_sets f1 i 6 ((gX6_of f1 i 6) + 0)) i 7 ((gX6_of (gX6_sets f1 i 6 ((gX6_of f1 i 6) + 0)) i 7) + 0)) i 5) - (gX6_of f1 i 5))) 7) + (gX6_of f1 i 5)))) := hD
                refine lv_iinc (v := (nI (i + 1))) (lv' := [(2, .int (nI (i + 1))), (3, .int (gX6_of f1 i 5)), (0, .ref (ma 0)), (1, .int 0)]) hx hb dX6_steps_141 hl (k := 3) rfl (nI_1 i) (by decide) rfl (fun ls hl => ?_)
                refine lv_goto (tgt := 4) hx hb dX6_steps_144 (by decide) ?_
                exact ih4 (i + 1) (upd (gX6_sets (gX6_sets (gX6_sets f1 i 6 ((gX6_of f1 i 6) + 0)) i 7 ((gX6_of (gX6_sets f1 i 6 ((gX6_of f1 i 6) + 0)) i 7) + 0)) i 5 ((gX6_of (gX6_sets (gX6_sets f1 i 6 ((gX6_of f1 i 6) + 0)) i 7 ((gX6_of (gX6_sets f1 i 6 ((gX6_of f1 i 6) + 0)) i 7) + 0)) i 5) - (gX6_of f1 i 5))) 7 (((gX6_sets (gX6_sets (gX6_sets f1 i 6 ((gX6_of f1 i 6) + 0)) i 7 ((gX6_of (gX6_sets f1 i 6 ((gX6_of f1 i 6) + 0)) i 7) + 0)) i 5 ((gX6_of (gX6_sets (gX6_sets f1 i 6 ((gX6_of f1 i 6) + 0)) i 7 ((gX6_of (gX6_sets f1 i 6 ((gX6_of f1 i 6) + 0)) i 7) + 0)) i 5) - (gX6_of f1 i 5))) 7) + (gX6_of f1 i 5))) (by omega) (sA_2 hs (by omega) c_20 c_39) (hg.trans (show gX6_steps_L4 f (fu + 1) i f1 = (gX6_steps_L4 f fu (i + 1) (upd (gX6_sets (gX6_sets (gX6_sets f1 i 6 ((gX6_of f1 i 6) + 0)) i 7 ((gX6_of (gX6_sets f1 i 6 ((gX6_of f1 i 6) + 0)) i 7) + 0)) i 5 ((gX6_of (gX6_sets (gX6_sets f1 i 6 ((gX6_of f1 i 6) + 0)) i 7 ((gX6_of (gX6_sets f1 i 6 ((gX6_of f1 i 6) + 0)) i 7) + 0)) i 5) - (gX6_of f1 i 5))) 7 (((gX6_sets (gX6_sets (gX6_sets f1 i 6 ((gX6_of f1 i 6) + 0)) i 7 ((gX6_of (gX6_sets f1 i 6 ((gX6_of f1 i 6) + 0)) i 7) + 0)) i 5 ((gX6_of (gX6_sets (gX6_sets f1 i 6 ((gX6_of f1 i 6) + 0)) i 7 ((gX6_of (gX6_sets f1 i 6 ((gX6_of f1 i 6) + 0)) i 7) + 0)) i 5) - (gX6_of f1 i 5))) 7) + (gX6_of f1 i 5)))) from (Eq.trans (if_neg c_20) (Eq.trans (if_neg c_39) (Eq.trans (if_pos c_75) (Eq.trans (if_pos c_104) rfl)))))) _ _ _ hP hD hS (lv_sub hl [2, 3, 0] rfl)
              · --f
                refine lv_iconst (v := 1) hx hb dX6_steps_107 (by decide) ?_
                refine lv_goto (tgt := 112) hx hb dX6_steps_108 (by decide) ?_
                refine lv_iadd hx hb dX6_steps_112 ?_
                refine xretv (va_runV (As := [.int (nI i), .int 7, .int ((gX6_of (gX6_sets f1 i 6 ((gX6_of f1 i 6) + 0)) i 7) + 1)]) (rest := []) ⟨hx, hb, hml, hown, hts⟩ (mX6_sets l D ck ma M (gX6_sets f1 i 6 ((gX6_of f1 i 6) + 0)) (nI i) i rfl (by omega) 7 7 rfl (by omega) ((gX6_of (gX6_sets f1 i 6 ((gX6_of f1 i 6) + 0)) i 7) + 1)  _) (cwV 3 hts gX6_steps_X6_sets rfl rfl rfl (by decide +kernel) ⟨Nat.le_of_ble_eq_true rfl, Nat.le_of_ble_eq_true rfl⟩) (xpreV hN hK hP hD pm_all 0 rfl rfl rfl) rfl rfl hl.1 rfl (lv_room (Nat.le_of_ble_eq_true rfl)) dX6_steps_113 ⟨Nat.le_of_ble_eq_true rfl, Nat.le_of_ble_eq_true rfl⟩) hP hD hS hA pm_all pm_all' (fun H locs hP hD hS => ?_)
                have hP : va_P D vwCl (coreW ck ma M (gX6_sets (gX6_sets f1 i 6 ((gX6_of f1 i 6) + 0)) i 7 ((gX6_of (gX6_sets f1 i 6 ((gX6_of f1 i 6) + 0)) i 7) + 1))) H := hP
                have hD : va_D (va_A (coreW ck ma M f) s.heap.size) (coreW ck ma M (gX6_sets (gX6_sets f1 i 6 ((gX6_of f1 i 6) + 0)) i 7 ((gX6_of (gX6_sets f1 i 6 ((gX6_of f1 i 6) + 0)) i 7) + 1))) := hD
                refine lv_aload_n hx hb dX6_steps_116 rfl (lv_at hl 1 rfl) ?_
                refine lv_iload_n hx hb dX6_steps_117 rfl (lv_at hl 3 rfl) ?_
                refine lv_iconst (v := 5) hx hb dX6_steps_118 (by decide) ?_
                refine lv_aload_n hx hb dX6_steps_119 rfl (lv_at hl 1 rfl) ?_
                refine lv_iload_n hx hb dX6_steps_120 rfl (lv_at hl 3 rfl) ?_
                refine lv_iconst (v := 5) hx hb dX6_steps_121 (by decide) ?_
                refine xreti (va_runV (As := [.int (nI i), .int 5]) (rest := [.int 5, .int (nI i), .ref (ma 0)]) ⟨hx, hb, hml, hown, hts⟩ (mX6_of l D ck ma M (gX6_sets (gX6_sets f1 i 6 ((gX6_of f1 i 6) + 0)) i 7 ((gX6_of (gX6_sets f1 i 6 ((gX6_of f1 i 6) + 0)) i 7) + 1)) (nI i) i rfl (by omega) 5 5 rfl (by omega)  _) (cwV 2 hts gX6_steps_X6_of rfl rfl rfl (by decide +kernel) ⟨Nat.le_of_ble_eq_true rfl, Nat.le_of_ble_eq_true rfl⟩) (xpreV hN hK hP hD pm_all 0 rfl rfl rfl) rfl rfl hl.1 rfl (lv_room (Nat.le_of_ble_eq_true rfl)) dX6_steps_122 ⟨Nat.le_of_ble_eq_true rfl, Nat.le_of_ble_eq_true rfl⟩) hP hD hS hA pm_all pm_all' (fun H locs hP hD hS => ?_)
                refine lv_iload_n hx hb dX6_steps_125 rfl (lv_at hl 0 rfl) ?_
                refine lv_isub hx hb dX6_steps_126 ?_
                refine xretv (va_runV (As := [.int (nI i), .int 5, .int ((gX6_of (gX6_sets (gX6_sets f1 i 6 ((gX6_of f1 i 6) + 0)) i 7 ((gX6_of (gX6_sets f1 i 6 ((gX6_of f1 i 6) + 0)) i 7) + 1)) i 5) - (gX6_of f1 i 5))]) (rest := []) ⟨hx, hb, hml, hown, hts⟩ (mX6_sets l D ck ma M (gX6_sets (gX6_sets f1 i 6 ((gX6_of f1 i 6) + 0)) i 7 ((gX6_of (gX6_sets f1 i 6 ((gX6_of f1 i 6) + 0)) i 7) + 1)) (nI i) i rfl (by omega) 5 5 rfl (by omega) ((gX6_of (gX6_sets (gX6_sets f1 i 6 ((gX6_of f1 i 6) + 0)) i 7 ((gX6_of (gX6_sets f1 i 6 ((gX6_of f1 i 6) + 0)) i 7) + 1)) i 5) - (gX6_of f1 i 5))  _) (cwV 3 hts gX6_steps_X6_sets rfl rfl rfl (by decide +kernel) ⟨Nat.le_of_ble_eq_true rfl, Nat.le_of_ble_eq_true rfl⟩) (xpreV hN hK hP hD pm_all 0 rfl rfl rfl) rfl rfl hl.1 rfl (lv_room (Nat.le_of_ble_eq_true rfl)) dX6_steps_127 ⟨Nat.le_of_ble_eq_true rfl, Nat.le_of_ble_eq_true rfl⟩) hP hD hS hA pm_all pm_all' (fun H locs hP hD hS => ?_)
                have hP : va_P D vwCl (coreW ck ma M (gX6_sets (gX6_sets (gX6_sets f1 i 6 ((gX6_of f1 i 6) + 0)) i 7 ((gX6_of (gX6_sets f1 i 6 ((gX6_of f1 i 6) + 0)) i 7) + 1)) i 5 ((gX6_of (gX6_sets (gX6_sets f1 i 6 ((gX6_of f1 i 6) + 0)) i 7 ((gX6_of (gX6_sets f1 i 6 ((gX6_of f1 i 6) + 0)) i 7) + 1)) i 5) - (gX6_of f1 i 5)))) H := hP
                have hD : va_D (va_A (coreW ck ma M f) s.heap.size) (coreW ck ma M (gX6_sets (gX6_sets (gX6_sets f1 i 6 ((gX6_of f1 i 6) + 0)) i 7 ((gX6_of (gX6_sets f1 i 6 ((gX6_of f1 i 6) + 0)) i 7) + 1)) i 5 ((gX6_of (gX6_sets (gX6_sets f1 i 6 ((gX6_of f1 i 6) + 0)) i 7 ((gX6_of (gX6_sets f1 i 6 ((gX6_of f1 i 6) + 0)) i 7) + 1)) i 5) - (gX6_of f1 i 5)))) := hD
                refine lv_aload_n hx hb dX6_steps_130 rfl (lv_at hl 1 rfl) ?_
                refine va_get (D := D) (ci := 6) (v := .ref (ma 1)) (C := RX6) (T := TX6) (N := 13) hx hb hts hinX6 hown hK hP 0 rfl rfl 0 (by decide) (hts (.fieldLink RX6 7 "JoinGrantsModel" "all" "[I") (List.mem_of_getElem? (i := 1) rfl)) (fun _ h9 => h9) rfl dX6_steps_131 ?_
                refine lv_bipush (v := 7) hx hb dX6_steps_134 (by decide) ?_
                refine lv_dup2_11 hx hb dX6_steps_136 rfl rfl ?_
                refine xiald (j := 7) (by decide) hx hb hK hP 1 0 rfl rfl (show vp_in 7 153 from by unfold vp_in; decide) dX6_steps_137 ?_
                refine lv_iload_n hx hb dX6_steps_138 rfl (lv_at hl 0 rfl) ?_
                refine lv_iadd hx hb dX6_steps_139 ?_
                refine xiast (j := 7) (by decide) hx hb hK hP hD hS 1 0 rfl rfl (show vp_in 7 153 from by unfold vp_in; decide) dX6_steps_140 (fun H locs hP hD hS => ?_)
                have hP : va_P D vwCl (coreW ck ma M (upd (gX6_sets (gX6_sets (gX6_sets f1 i 6 ((gX6_of f1 i 6) + 0)) i 7 ((gX6_of (gX6_sets f1 i 6 ((gX6_of f1 i 6) + 0)) i 7) + 1)) i 5 ((gX6_of (gX6_sets (gX6_sets f1 i 6 ((gX6_of f1 i 6) + 0)) i 7 ((gX6_of (gX6_sets f1 i 6 ((gX6_of f1 i 6) + 0)) i 7) + 1)) i 5) - (gX6_of f1 i 5))) 7 (((gX6_sets (gX6_sets (gX6_sets f1 i 6 ((gX6_of f1 i 6) + 0)) i 7 ((gX6_of (gX6_sets f1 i 6 ((gX6_of f1 i 6) + 0)) i 7) + 1)) i 5 ((gX6_of (gX6_sets (gX6_sets f1 i 6 ((gX6_of f1 i 6) + 0)) i 7 ((gX6_of (gX6_sets f1 i 6 ((gX6_of f1 i 6) + 0)) i 7) + 1)) i 5) - (gX6_of f1 i 5))) 7) + (gX6_of f1 i 5)))) H := hP
                have hD : va_D (va_A (coreW ck ma M f) s.heap.size) (coreW ck ma M (upd (gX6_sets (gX6_sets (gX6_sets f1 i 6 ((gX6_of f1 i 6) + 0)) i 7 ((gX6_of (gX6_sets f1 i 6 ((gX6_of f1 i 6) + 0)) i 7) + 1)) i 5 ((gX6_of (gX6_sets (gX6_sets f1 i 6 ((gX6_of f1 i 6) + 0)) i 7 ((gX6_of (gX6_sets f1 i 6 ((gX6_of f1 i 6) + 0)) i 7) + 1)) i 5) - (gX6_of f1 i 5))) 7 (((gX6_sets (gX6_sets (gX6_sets f1 i 6 ((gX6_of f1 i 6) + 0)) i 7 ((gX6_of (gX6_sets f1 i 6 ((gX6_of f1 i 6) + 0)) i 7) + 1)) i 5 ((gX6_of (gX6_sets (gX6_sets f1 i 6 ((gX6_of f1 i 6) + 0)) i 7 ((gX6_of (gX6_sets f1 i 6 ((gX6_of f1 i 6) + 0)) i 7) + 1)) i 5) - (gX6_of f1 i 5))) 7) + (gX6_of f1 i 5)))) := hD
                refine lv_iinc (v := (nI (i + 1))) (lv' := [(2, .int (nI (i + 1))), (3, .int (gX6_of f1 i 5)), (0, .ref (ma 0)), (1, .int 0)]) hx hb dX6_steps_141 hl (k := 3) rfl (nI_1 i) (by decide) rfl (fun ls hl => ?_)
                refine lv_goto (tgt := 4) hx hb dX6_steps_144 (by decide) ?_
                exact ih4 (i + 1) (upd (gX6_sets (gX6_sets (gX6_sets f1 i 6 ((gX6_of f1 i 6) + 0)) i 7 ((gX6_of (gX6_sets f1 i 6 ((gX6_of f1 i 6) + 0)) i 7) + 1)) i 5 ((gX6_of (gX6_sets (gX6_sets f1 i 6 ((gX6_of f1 i 6) + 0)) i 7 ((gX6_of (gX6_sets f1 i 6 ((gX6_of f1 i 6) + 0)) i 7) + 1)) i 5) - (gX6_of f1 i 5))) 7 (((gX6_sets (gX6_sets (gX6_sets f1 i 6 ((gX6_of f1 i 6) + 0)) i 7 ((gX6_of (gX6_sets f1 i 6 ((gX6_of f1 i 6) + 0)) i 7) + 1)) i 5 ((gX6_of (gX6_sets (gX6_sets f1 i 6 ((gX6_of f1 i 6) + 0)) i 7 ((gX6_of (gX6_sets f1 i 6 ((gX6_of f1 i 6) + 0)) i 7) + 1)) i 5) - (gX6_of f1 i 5))) 7) + (gX6_of f1 i 5))) (by omega) (sA_2 hs (by omega) c_20 c_39) (hg.trans (show gX6_steps_L4 f (fu + 1) i f1 = (gX6_steps_L4 f fu (i + 1) (upd (gX6_sets (gX6_sets (gX6_sets f1 i 6 ((gX6_of f1 i 6) + 0)) i 7 ((gX6_of (gX6_sets f1 i 6 ((gX6_of f1 i 6) + 0)) i 7) + 1)) i 5 ((gX6_of (gX6_sets (gX6_sets f1 i 6 ((gX6_of f1 i 6) + 0)) i 7 ((gX6_of (gX6_sets f1 i 6 ((gX6_of f1 i 6) + 0)) i 7) + 1)) i 5) - (gX6_of f1 i 5))) 7 (((gX6_sets (gX6_sets (gX6_sets f1 i 6 ((gX6_of f1 i 6) + 0)) i 7 ((gX6_of (gX6_sets f1 i 6 ((gX6_of f1 i 6) + 0)) i 7) + 1)) i 5 ((gX6_of (gX6_sets (gX6_sets f1 i 6 ((gX6_of f1 i 6) + 0)) i 7 ((gX6_of (gX6_sets f1 i 6 ((gX6_of f1 i 6) + 0)) i 7) + 1)) i 5) - (gX6_of f1 i 5))) 7) + (gX6_of f1 i 5)))) from (Eq.trans (if_neg c_20) (Eq.trans (if_neg c_39) (Eq.trans (if_pos c_75) (Eq.trans (if_neg c_104) rfl)))))) _ _ _ hP hD hS (lv_sub hl [2, 3, 0] rfl)
            · --f
              refine lv_iconst (v := 1) hx hb dX6_steps_78 (by decide) ?_
              refine lv_goto (tgt := 83) hx hb dX6_steps_79 (by decide) ?_
              refine lv_iadd hx hb dX6_steps_83 ?_
              refine xretv (va_runV (As := [.int (nI i), .int 6, .int ((gX6_of f1 i 6) + 1)]) (rest := []) ⟨hx, hb, hml, hown, hts⟩ (mX6_sets l D ck ma M f1 (nI i) i rfl (by omega) 6 6 rfl (by omega) ((gX6_of f1 i 6) + 1)  _) (cwV 3 hts gX6_steps_X6_sets rfl rfl rfl (by decide +kernel) ⟨Nat.le_of_ble_eq_true rfl, Nat.le_of_ble_eq_true rfl⟩) (xpreV hN hK hP hD pm_all 0 rfl rfl rfl) rfl rfl hl.1 rfl (lv_room (Nat.le_of_ble_eq_true rfl)) dX6_steps_84 ⟨Nat.le_of_ble_eq_true rfl, Nat.le_of_ble_eq_true rfl⟩) hP hD hS hA pm_all pm_all' (fun H locs hP hD hS => ?_)
              have hP : va_P D vwCl (coreW ck ma M (gX6_sets f1 i 6 ((gX6_of f1 i 6) + 1))) H := hP
              have hD : va_D (va_A (coreW ck ma M f) s.heap.size) (coreW ck ma M (gX6_sets f1 i 6 ((gX6_of f1 i 6) + 1))) := hD
              refine lv_aload_n hx hb dX6_steps_87 rfl (lv_at hl 1 rfl) ?_
              refine lv_iload_n hx hb dX6_steps_88 rfl (lv_at hl 3 rfl) ?_
              refine lv_bipush (v := 7) hx hb dX6_steps_89 (by decide) ?_
              refine lv_aload_n hx hb dX6_steps_91 rfl (lv_at hl 1 rfl) ?_
              refine lv_iload_n hx hb dX6_steps_92 rfl (lv_at hl 3 rfl) ?_
              refine lv_bipush (v := 7) hx hb dX6_steps_93 (by decide) ?_
              refine xreti (va_runV (As := [.int (nI i), .int 7]) (rest := [.int 7, .int (nI i), .ref (ma 0)]) ⟨hx, hb, hml, hown, hts⟩ (mX6_of l D ck ma M (gX6_sets f1 i 6 ((gX6_of f1 i 6) + 1)) (nI i) i rfl (by omega) 7 7 rfl (by omega)  _) (cwV 2 hts gX6_steps_X6_of rfl rfl rfl (by decide +kernel) ⟨Nat.le_of_ble_eq_true rfl, Nat.le_of_ble_eq_true rfl⟩) (xpreV hN hK hP hD pm_all 0 rfl rfl rfl) rfl rfl hl.1 rfl (lv_room (Nat.le_of_ble_eq_true rfl)) dX6_steps_95 ⟨Nat.le_of_ble_eq_true rfl, Nat.le_of_ble_eq_true rfl⟩) hP hD hS hA pm_all pm_all' (fun H locs hP hD hS => ?_)
              refine lv_aload_n hx hb dX6_steps_98 rfl (lv_at hl 1 rfl) ?_
              refine lv_iload_n hx hb dX6_steps_99 rfl (lv_at hl 3 rfl) ?_
              refine lv_iconst (v := 1) hx hb dX6_steps_100 (by decide) ?_
              refine xreti (va_runV (As := [.int (nI i), .int 1]) (rest := [.int (gX6_of (gX6_sets f1 i 6 ((gX6_of f1 i 6) + 1)) i 7), .int 7, .int (nI i), .ref (ma 0)]) ⟨hx, hb, hml, hown, hts⟩ (mX6_is l D ck ma M (gX6_sets f1 i 6 ((gX6_of f1 i 6) + 1)) (nI i) i rfl (by omega) 1  _) (cwV 2 hts gX6_steps_X6_is rfl rfl rfl (by decide +kernel) ⟨Nat.le_of_ble_eq_true rfl, Nat.le_of_ble_eq_true rfl⟩) (xpreV hN hK hP hD pm_all 0 rfl rfl rfl) rfl rfl hl.1 rfl (lv_room (Nat.le_of_ble_eq_true rfl)) dX6_steps_101 ⟨Nat.le_of_ble_eq_true rfl, Nat.le_of_ble_eq_true rfl⟩) hP hD hS hA pm_all pm_all' (fun H locs hP hD hS => ?_)
              refine lv_if_eq (tgt := 111) hx hb dX6_steps_104 (by decide) (fun c_104 => ?_) (fun c_104 => ?_)
              · --t
                refine lv_iconst (v := 0) hx hb dX6_steps_111 (by decide) ?_
                refine lv_iadd hx hb dX6_steps_112 ?_
                refine xretv (va_runV (As := [.int (nI i), .int 7, .int ((gX6_of (gX6_sets f1 i 6 ((gX6_of f1 i 6) + 1)) i 7) + 0)]) (rest := []) ⟨hx, hb, hml, hown, hts⟩ (mX6_sets l D ck ma M (gX6_sets f1 i 6 ((gX6_of f1 i 6) + 1)) (nI i) i rfl (by omega) 7 7 rfl (by omega) ((gX6_of (gX6_sets f1 i 6 ((gX6_of f1 i 6) + 1)) i 7) + 0)  _) (cwV 3 hts gX6_steps_X6_sets rfl rfl rfl (by decide +kernel) ⟨Nat.le_of_ble_eq_true rfl, Nat.le_of_ble_eq_true rfl⟩) (xpreV hN hK hP hD pm_all 0 rfl rfl rfl) rfl rfl hl.1 rfl (lv_room (Nat.le_of_ble_eq_true rfl)) dX6_steps_113 ⟨Nat.le_of_ble_eq_true rfl, Nat.le_of_ble_eq_true rfl⟩) hP hD hS hA pm_all pm_all' (fun H locs hP hD hS => ?_)
                have hP : va_P D vwCl (coreW ck ma M (gX6_sets (gX6_sets f1 i 6 ((gX6_of f1 i 6) + 1)) i 7 ((gX6_of (gX6_sets f1 i 6 ((gX6_of f1 i 6) + 1)) i 7) + 0))) H := hP
                have hD : va_D (va_A (coreW ck ma M f) s.heap.size) (coreW ck ma M (gX6_sets (gX6_sets f1 i 6 ((gX6_of f1 i 6) + 1)) i 7 ((gX6_of (gX6_sets f1 i 6 ((gX6_of f1 i 6) + 1)) i 7) + 0))) := hD
                refine lv_aload_n hx hb dX6_steps_116 rfl (lv_at hl 1 rfl) ?_
                refine lv_iload_n hx hb dX6_steps_117 rfl (lv_at hl 3 rfl) ?_
                refine lv_iconst (v := 5) hx hb dX6_steps_118 (by decide) ?_
                refine lv_aload_n hx hb dX6_steps_119 rfl (lv_at hl 1 rfl) ?_
                refine lv_iload_n hx hb dX6_steps_120 rfl (lv_at hl 3 rfl) ?_
                refine lv_iconst (v := 5) hx hb dX6_steps_121 (by decide) ?_
                refine xreti (va_runV (As := [.int (nI i), .int 5]) (rest := [.int 5, .int (nI i), .ref (ma 0)]) ⟨hx, hb, hml, hown, hts⟩ (mX6_of l D ck ma M (gX6_sets (gX6_sets f1 i 6 ((gX6_of f1 i 6) + 1)) i 7 ((gX6_of (gX6_sets f1 i 6 ((gX6_of f1 i 6) + 1)) i 7) + 0)) (nI i) i rfl (by omega) 5 5 rfl (by omega)  _) (cwV 2 hts gX6_steps_X6_of rfl rfl rfl (by decide +kernel) ⟨Nat.le_of_ble_eq_true rfl, Nat.le_of_ble_eq_true rfl⟩) (xpreV hN hK hP hD pm_all 0 rfl rfl rfl) rfl rfl hl.1 rfl (lv_room (Nat.le_of_ble_eq_true rfl)) dX6_steps_122 ⟨Nat.le_of_ble_eq_true rfl, Nat.le_of_ble_eq_true rfl⟩) hP hD hS hA pm_all pm_all' (fun H locs hP hD hS => ?_)
                refine lv_iload_n hx hb dX6_steps_125 rfl (lv_at hl 0 rfl) ?_
                refine lv_isub hx hb dX6_steps_126 ?_
                refine xretv (va_runV (As := [.int (nI i), .int 5, .int ((gX6_of (gX6_sets (gX6_sets f1 i 6 ((gX6_of f1 i 6) + 1)) i 7 ((gX6_of (gX6_sets f1 i 6 ((gX6_of f1 i 6) + 1)) i 7) + 0)) i 5) - (gX6_of f1 i 5))]) (rest := []) ⟨hx, hb, hml, hown, hts⟩ (mX6_sets l D ck ma M (gX6_sets (gX6_sets f1 i 6 ((gX6_of f1 i 6) + 1)) i 7 ((gX6_of (gX6_sets f1 i 6 ((gX6_of f1 i 6) + 1)) i 7) + 0)) (nI i) i rfl (by omega) 5 5 rfl (by omega) ((gX6_of (gX6_sets (gX6_sets f1 i 6 ((gX6_of f1 i 6) + 1)) i 7 ((gX6_of (gX6_sets f1 i 6 ((gX6_of f1 i 6) + 1)) i 7) + 0)) i 5) - (gX6_of f1 i 5))  _) (cwV 3 hts gX6_steps_X6_sets rfl rfl rfl (by decide +kernel) ⟨Nat.le_of_ble_eq_true rfl, Nat.le_of_ble_eq_true rfl⟩) (xpreV hN hK hP hD pm_all 0 rfl rfl rfl) rfl rfl hl.1 rfl (lv_room (Nat.le_of_ble_eq_true rfl)) dX6_steps_127 ⟨Nat.le_of_ble_eq_true rfl, Nat.le_of_ble_eq_true rfl⟩) hP hD hS hA pm_all pm_all' (fun H locs hP hD hS => ?_)
                have hP : va_P D vwCl (coreW ck ma M (gX6_sets (gX6_sets (gX6_sets f1 i 6 ((gX6_of f1 i 6) + 1)) i 7 ((gX6_of (gX6_sets f1 i 6 ((gX6_of f1 i 6) + 1)) i 7) + 0)) i 5 ((gX6_of (gX6_sets (gX6_sets f1 i 6 ((gX6_of f1 i 6) + 1)) i 7 ((gX6_of (gX6_sets f1 i 6 ((gX6_of f1 i 6) + 1)) i 7) + 0)) i 5) - (gX6_of f1 i 5)))) H := hP
                have hD : va_D (va_A (coreW ck ma M f) s.heap.size) (coreW ck ma M (gX6_sets (gX6_sets (gX6_sets f1 i 6 ((gX6_of f1 i 6) + 1)) i 7 ((gX6_of (gX6_sets f1 i 6 ((gX6_of f1 i 6) + 1)) i 7) + 0)) i 5 ((gX6_of (gX6_sets (gX6_sets f1 i 6 ((gX6_of f1 i 6) + 1)) i 7 ((gX6_of (gX6_sets f1 i 6 ((gX6_of f1 i 6) + 1)) i 7) + 0)) i 5) - (gX6_of f1 i 5)))) := hD
                refine lv_aload_n hx hb dX6_steps_130 rfl (lv_at hl 1 rfl) ?_
                refine va_get (D := D) (ci := 6) (v := .ref (ma 1)) (C := RX6) (T := TX6) (N := 13) hx hb hts hinX6 hown hK hP 0 rfl rfl 0 (by decide) (hts (.fieldLink RX6 7 "JoinGrantsModel" "all" "[I") (List.mem_of_getElem? (i := 1) rfl)) (fun _ h9 => h9) rfl dX6_steps_131 ?_
                refine lv_bipush (v := 7) hx hb dX6_steps_134 (by decide) ?_
                refine lv_dup2_11 hx hb dX6_steps_136 rfl rfl ?_
                refine xiald (j := 7) (by decide) hx hb hK hP 1 0 rfl rfl (show vp_in 7 153 from by unfold vp_in; decide) dX6_steps_137 ?_
                refine lv_iload_n hx hb dX6_steps_138 rfl (lv_at hl 0 rfl) ?_
                refine lv_iadd hx hb dX6_steps_139 ?_
                refine xiast (j := 7) (by decide) hx hb hK hP hD hS 1 0 rfl rfl (show vp_in 7 153 from by unfold vp_in; decide) dX6_steps_140 (fun H locs hP hD hS => ?_)
                have hP : va_P D vwCl (coreW ck ma M (upd (gX6_sets (gX6_sets (gX6_sets f1 i 6 ((gX6_of f1 i 6) + 1)) i 7 ((gX6_of (gX6_sets f1 i 6 ((gX6_of f1 i 6) + 1)) i 7) + 0)) i 5 ((gX6_of (gX6_sets (gX6_sets f1 i 6 ((gX6_of f1 i 6) + 1)) i 7 ((gX6_of (gX6_sets f1 i 6 ((gX6_of f1 i 6) + 1)) i 7) + 0)) i 5) - (gX6_of f1 i 5))) 7 (((gX6_sets (gX6_sets (gX6_sets f1 i 6 ((gX6_of f1 i 6) + 1)) i 7 ((gX6_of (gX6_sets f1 i 6 ((gX6_of f1 i 6) + 1)) i 7) + 0)) i 5 ((gX6_of (gX6_sets (gX6_sets f1 i 6 ((gX6_of f1 i 6) + 1)) i 7 ((gX6_of (gX6_sets f1 i 6 ((gX6_of f1 i 6) + 1)) i 7) + 0)) i 5) - (gX6_of f1 i 5))) 7) + (gX6_of f1 i 5)))) H := hP
                have hD : va_D (va_A (coreW ck ma M f) s.heap.size) (coreW ck ma M (upd (gX6_sets (gX6_sets (gX6_sets f1 i 6 ((gX6_of f1 i 6) + 1)) i 7 ((gX6_of (gX6_sets f1 i 6 ((gX6_of f1 i 6) + 1)) i 7) + 0)) i 5 ((gX6_of (gX6_sets (gX6_sets f1 i 6 ((gX6_of f1 i 6) + 1)) i 7 ((gX6_of (gX6_sets f1 i 6 ((gX6_of f1 i 6) + 1)) i 7) + 0)) i 5) - (gX6_of f1 i 5))) 7 (((gX6_sets (gX6_sets (gX6_sets f1 i 6 ((gX6_of f1 i 6) + 1)) i 7 ((gX6_of (gX6_sets f1 i 6 ((gX6_of f1 i 6) + 1)) i 7) + 0)) i 5 ((gX6_of (gX6_sets (gX6_sets f1 i 6 ((gX6_of f1 i 6) + 1)) i 7 ((gX6_of (gX6_sets f1 i 6 ((gX6_of f1 i 6) + 1)) i 7) + 0)) i 5) - (gX6_of f1 i 5))) 7) + (gX6_of f1 i 5)))) := hD
                refine lv_iinc (v := (nI (i + 1))) (lv' := [(2, .int (nI (i + 1))), (3, .int (gX6_of f1 i 5)), (0, .ref (ma 0)), (1, .int 0)]) hx hb dX6_steps_141 hl (k := 3) rfl (nI_1 i) (by decide) rfl (fun ls hl => ?_)
                refine lv_goto (tgt := 4) hx hb dX6_steps_144 (by decide) ?_
                exact ih4 (i + 1) (upd (gX6_sets (gX6_sets (gX6_sets f1 i 6 ((gX6_of f1 i 6) + 1)) i 7 ((gX6_of (gX6_sets f1 i 6 ((gX6_of f1 i 6) + 1)) i 7) + 0)) i 5 ((gX6_of (gX6_sets (gX6_sets f1 i 6 ((gX6_of f1 i 6) + 1)) i 7 ((gX6_of (gX6_sets f1 i 6 ((gX6_of f1 i 6) + 1)) i 7) + 0)) i 5) - (gX6_of f1 i 5))) 7 (((gX6_sets (gX6_sets (gX6_sets f1 i 6 ((gX6_of f1 i 6) + 1)) i 7 ((gX6_of (gX6_sets f1 i 6 ((gX6_of f1 i 6) + 1)) i 7) + 0)) i 5 ((gX6_of (gX6_sets (gX6_sets f1 i 6 ((gX6_of f1 i 6) + 1)) i 7 ((gX6_of (gX6_sets f1 i 6 ((gX6_of f1 i 6) + 1)) i 7) + 0)) i 5) - (gX6_of f1 i 5))) 7) + (gX6_of f1 i 5))) (by omega) (sA_2 hs (by omega) c_20 c_39) (hg.trans (show gX6_steps_L4 f (fu + 1) i f1 = (gX6_steps_L4 f fu (i + 1) (upd (gX6_sets (gX6_sets (gX6_sets f1 i 6 ((gX6_of f1 i 6) + 1)) i 7 ((gX6_of (gX6_sets f1 i 6 ((gX6_of f1 i 6) + 1)) i 7) + 0)) i 5 ((gX6_of (gX6_sets (gX6_sets f1 i 6 ((gX6_of f1 i 6) + 1)) i 7 ((gX6_of (gX6_sets f1 i 6 ((gX6_of f1 i 6) + 1)) i 7) + 0)) i 5) - (gX6_of f1 i 5))) 7 (((gX6_sets (gX6_sets (gX6_sets f1 i 6 ((gX6_of f1 i 6) + 1)) i 7 ((gX6_of (gX6_sets f1 i 6 ((gX6_of f1 i 6) + 1)) i 7) + 0)) i 5 ((gX6_of (gX6_sets (gX6_sets f1 i 6 ((gX6_of f1 i 6) + 1)) i 7 ((gX6_of (gX6_sets f1 i 6 ((gX6_of f1 i 6) + 1)) i 7) + 0)) i 5) - (gX6_of f1 i 5))) 7) + (gX6_of f1 i 5)))) from (Eq.trans (if_neg c_20) (Eq.trans (if_neg c_39) (Eq.trans (if_neg c_75) (Eq.trans (if_pos c_104) rfl)))))) _ _ _ hP hD hS (lv_sub hl [2, 3, 0] rfl)
              · --f
                refine lv_iconst (v := 1) hx hb dX6_steps_107 (by decide) ?_
                refine lv_goto (tgt := 112) hx hb dX6_steps_108 (by decide) ?_
                refine lv_iadd hx hb dX6_steps_112 ?_
                refine xretv (va_runV (As := [.int (nI i), .int 7, .int ((gX6_of (gX6_sets f1 i 6 ((gX6_of f1 i 6) + 1)) i 7) + 1)]) (rest := []) ⟨hx, hb, hml, hown, hts⟩ (mX6_sets l D ck ma M (gX6_sets f1 i 6 ((gX6_of f1 i 6) + 1)) (nI i) i rfl (by omega) 7 7 rfl (by omega) ((gX6_of (gX6_sets f1 i 6 ((gX6_of f1 i 6) + 1)) i 7) + 1)  _) (cwV 3 hts gX6_steps_X6_sets rfl rfl rfl (by decide +kernel) ⟨Nat.le_of_ble_eq_true rfl, Nat.le_of_ble_eq_true rfl⟩) (xpreV hN hK hP hD pm_all 0 rfl rfl rfl) rfl rfl hl.1 rfl (lv_room (Nat.le_of_ble_eq_true rfl)) dX6_steps_113 ⟨Nat.le_of_ble_eq_true rfl, Nat.le_of_ble_eq_true rfl⟩) hP hD hS hA pm_all pm_all' (fun H locs hP hD hS => ?_)
                have hP : va_P D vwCl (coreW ck ma M (gX6_sets (gX6_sets f1 i 6 ((gX6_of f1 i 6) + 1)) i 7 ((gX6_of (gX6_sets f1 i 6 ((gX6_of f1 i 6) + 1)) i 7) + 1))) H := hP
                have hD : va_D (va_A (coreW ck ma M f) s.heap.size) (coreW ck ma M (gX6_sets (gX6_sets f1 i 6 ((gX6_of f1 i 6) + 1)) i 7 ((gX6_of (gX6_sets f1 i 6 ((gX6_of f1 i 6) + 1)) i 7) + 1))) := hD
                refine lv_aload_n hx hb dX6_steps_116 rfl (lv_at hl 1 rfl) ?_
                refine lv_iload_n hx hb dX6_steps_117 rfl (lv_at hl 3 rfl) ?_
                refine lv_iconst (v := 5) hx hb dX6_steps_118 (by decide) ?_
                refine lv_aload_n hx hb dX6_steps_119 rfl (lv_at hl 1 rfl) ?_
                refine lv_iload_n hx hb dX6_steps_120 rfl (lv_at hl 3 rfl) ?_
                refine lv_iconst (v := 5) hx hb dX6_steps_121 (by decide) ?_
                refine xreti (va_runV (As := [.int (nI i), .int 5]) (rest := [.int 5, .int (nI i), .ref (ma 0)]) ⟨hx, hb, hml, hown, hts⟩ (mX6_of l D ck ma M (gX6_sets (gX6_sets f1 i 6 ((gX6_of f1 i 6) + 1)) i 7 ((gX6_of (gX6_sets f1 i 6 ((gX6_of f1 i 6) + 1)) i 7) + 1)) (nI i) i rfl (by omega) 5 5 rfl (by omega)  _) (cwV 2 hts gX6_steps_X6_of rfl rfl rfl (by decide +kernel) ⟨Nat.le_of_ble_eq_true rfl, Nat.le_of_ble_eq_true rfl⟩) (xpreV hN hK hP hD pm_all 0 rfl rfl rfl) rfl rfl hl.1 rfl (lv_room (Nat.le_of_ble_eq_true rfl)) dX6_steps_122 ⟨Nat.le_of_ble_eq_true rfl, Nat.le_of_ble_eq_true rfl⟩) hP hD hS hA pm_all pm_all' (fun H locs hP hD hS => ?_)
                refine lv_iload_n hx hb dX6_steps_125 rfl (lv_at hl 0 rfl) ?_
                refine lv_isub hx hb dX6_steps_126 ?_
                refine xretv (va_runV (As := [.int (nI i), .int 5, .int ((gX6_of (gX6_sets (gX6_sets f1 i 6 ((gX6_of f1 i 6) + 1)) i 7 ((gX6_of (gX6_sets f1 i 6 ((gX6_of f1 i 6) + 1)) i 7) + 1)) i 5) - (gX6_of f1 i 5))]) (rest := []) ⟨hx, hb, hml, hown, hts⟩ (mX6_sets l D ck ma M (gX6_sets (gX6_sets f1 i 6 ((gX6_of f1 i 6) + 1)) i 7 ((gX6_of (gX6_sets f1 i 6 ((gX6_of f1 i 6) + 1)) i 7) + 1)) (nI i) i rfl (by omega) 5 5 rfl (by omega) ((gX6_of (gX6_sets (gX6_sets f1 i 6 ((gX6_of f1 i 6) + 1)) i 7 ((gX6_of (gX6_sets f1 i 6 ((gX6_of f1 i 6) + 1)) i 7) + 1)) i 5) - (gX6_of f1 i 5))  _) (cwV 3 hts gX6_steps_X6_sets rfl rfl rfl (by decide +kernel) ⟨Nat.le_of_ble_eq_true rfl, Nat.le_of_ble_eq_true rfl⟩) (xpreV hN hK hP hD pm_all 0 rfl rfl rfl) rfl rfl hl.1 rfl (lv_room (Nat.le_of_ble_eq_true rfl)) dX6_steps_127 ⟨Nat.le_of_ble_eq_true rfl, Nat.le_of_ble_eq_true rfl⟩) hP hD hS hA pm_all pm_all' (fun H locs hP hD hS => ?_)
                have hP : va_P D vwCl (coreW ck ma M (gX6_sets (gX6_sets (gX6_sets f1 i 6 ((gX6_of f1 i 6) + 1)) i 7 ((gX6_of (gX6_sets f1 i 6 ((gX6_of f1 i 6) + 1)) i 7) + 1)) i 5 ((gX6_of (gX6_sets (gX6_sets f1 i 6 ((gX6_of f1 i 6) + 1)) i 7 ((gX6_of (gX6_sets f1 i 6 ((gX6_of f1 i 6) + 1)) i 7) + 1)) i 5) - (gX6_of f1 i 5)))) H := hP
                have hD : va_D (va_A (coreW ck ma M f) s.heap.size) (coreW ck ma M (gX6_sets (gX6_sets (gX6_sets f1 i 6 ((gX6_of f1 i 6) + 1)) i 7 ((gX6_of (gX6_sets f1 i 6 ((gX6_of f1 i 6) + 1)) i 7) + 1)) i 5 ((gX6_of (gX6_sets (gX6_sets f1 i 6 ((gX6_of f1 i 6) + 1)) i 7 ((gX6_of (gX6_sets f1 i 6 ((gX6_of f1 i 6) + 1)) i 7) + 1)) i 5) - (gX6_of f1 i 5)))) := hD
                refine lv_aload_n hx hb dX6_steps_130 rfl (lv_at hl 1 rfl) ?_
                refine va_get (D := D) (ci := 6) (v := .ref (ma 1)) (C := RX6) (T := TX6) (N := 13) hx hb hts hinX6 hown hK hP 0 rfl rfl 0 (by decide) (hts (.fieldLink RX6 7 "JoinGrantsModel" "all" "[I") (List.mem_of_getElem? (i := 1) rfl)) (fun _ h9 => h9) rfl dX6_steps_131 ?_
                refine lv_bipush (v := 7) hx hb dX6_steps_134 (by decide) ?_
                refine lv_dup2_11 hx hb dX6_steps_136 rfl rfl ?_
                refine xiald (j := 7) (by decide) hx hb hK hP 1 0 rfl rfl (show vp_in 7 153 from by unfold vp_in; decide) dX6_steps_137 ?_
                refine lv_iload_n hx hb dX6_steps_138 rfl (lv_at hl 0 rfl) ?_
                refine lv_iadd hx hb dX6_steps_139 ?_
                refine xiast (j := 7) (by decide) hx hb hK hP hD hS 1 0 rfl rfl (show vp_in 7 153 from by unfold vp_in; decide) dX6_steps_140 (fun H locs hP hD hS => ?_)
                have hP : va_P D vwCl (coreW ck ma M (upd (gX6_sets (gX6_sets (gX6_sets f1 i 6 ((gX6_of f1 i 6) + 1)) i 7 ((gX6_of (gX6_sets f1 i 6 ((gX6_of f1 i 6) + 1)) i 7) + 1)) i 5 ((gX6_of (gX6_sets (gX6_sets f1 i 6 ((gX6_of f1 i 6) + 1)) i 7 ((gX6_of (gX6_sets f1 i 6 ((gX6_of f1 i 6) + 1)) i 7) + 1)) i 5) - (gX6_of f1 i 5))) 7 (((gX6_sets (gX6_sets (gX6_sets f1 i 6 ((gX6_of f1 i 6) + 1)) i 7 ((gX6_of (gX6_sets f1 i 6 ((gX6_of f1 i 6) + 1)) i 7) + 1)) i 5 ((gX6_of (gX6_sets (gX6_sets f1 i 6 ((gX6_of f1 i 6) + 1)) i 7 ((gX6_of (gX6_sets f1 i 6 ((gX6_of f1 i 6) + 1)) i 7) + 1)) i 5) - (gX6_of f1 i 5))) 7) + (gX6_of f1 i 5)))) H := hP
                have hD : va_D (va_A (coreW ck ma M f) s.heap.size) (coreW ck ma M (upd (gX6_sets (gX6_sets (gX6_sets f1 i 6 ((gX6_of f1 i 6) + 1)) i 7 ((gX6_of (gX6_sets f1 i 6 ((gX6_of f1 i 6) + 1)) i 7) + 1)) i 5 ((gX6_of (gX6_sets (gX6_sets f1 i 6 ((gX6_of f1 i 6) + 1)) i 7 ((gX6_of (gX6_sets f1 i 6 ((gX6_of f1 i 6) + 1)) i 7) + 1)) i 5) - (gX6_of f1 i 5))) 7 (((gX6_sets (gX6_sets (gX6_sets f1 i 6 ((gX6_of f1 i 6) + 1)) i 7 ((gX6_of (gX6_sets f1 i 6 ((gX6_of f1 i 6) + 1)) i 7) + 1)) i 5 ((gX6_of (gX6_sets (gX6_sets f1 i 6 ((gX6_of f1 i 6) + 1)) i 7 ((gX6_of (gX6_sets f1 i 6 ((gX6_of f1 i 6) + 1)) i 7) + 1)) i 5) - (gX6_of f1 i 5))) 7) + (gX6_of f1 i 5)))) := hD
                refine lv_iinc (v := (nI (i + 1))) (lv' := [(2, .int (nI (i + 1))), (3, .int (gX6_of f1 i 5)), (0, .ref (ma 0)), (1, .int 0)]) hx hb dX6_steps_141 hl (k := 3) rfl (nI_1 i) (by decide) rfl (fun ls hl => ?_)
                refine lv_goto (tgt := 4) hx hb dX6_steps_144 (by decide) ?_
                exact ih4 (i + 1) (upd (gX6_sets (gX6_sets (gX6_sets f1 i 6 ((gX6_of f1 i 6) + 1)) i 7 ((gX6_of (gX6_sets f1 i 6 ((gX6_of f1 i 6) + 1)) i 7) + 1)) i 5 ((gX6_of (gX6_sets (gX6_sets f1 i 6 ((gX6_of f1 i 6) + 1)) i 7 ((gX6_of (gX6_sets f1 i 6 ((gX6_of f1 i 6) + 1)) i 7) + 1)) i 5) - (gX6_of f1 i 5))) 7 (((gX6_sets (gX6_sets (gX6_sets f1 i 6 ((gX6_of f1 i 6) + 1)) i 7 ((gX6_of (gX6_sets f1 i 6 ((gX6_of f1 i 6) + 1)) i 7) + 1)) i 5 ((gX6_of (gX6_sets (gX6_sets f1 i 6 ((gX6_of f1 i 6) + 1)) i 7 ((gX6_of (gX6_sets f1 i 6 ((gX6_of f1 i 6) + 1)) i 7) + 1)) i 5) - (gX6_of f1 i 5))) 7) + (gX6_of f1 i 5))) (by omega) (sA_2 hs (by omega) c_20 c_39) (hg.trans (show gX6_steps_L4 f (fu + 1) i f1 = (gX6_steps_L4 f fu (i + 1) (upd (gX6_sets (gX6_sets (gX6_sets f1 i 6 ((gX6_of f1 i 6) + 1)) i 7 ((gX6_of (gX6_sets f1 i 6 ((gX6_of f1 i 6) + 1)) i 7) + 1)) i 5 ((gX6_of (gX6_sets (gX6_sets f1 i 6 ((gX6_of f1 i 6) + 1)) i 7 ((gX6_of (gX6_sets f1 i 6 ((gX6_of f1 i 6) + 1)) i 7) + 1)) i 5) - (gX6_of f1 i 5))) 7 (((gX6_sets (gX6_sets (gX6_sets f1 i 6 ((gX6_of f1 i 6) + 1)) i 7 ((gX6_of (gX6_sets f1 i 6 ((gX6_of f1 i 6) + 1)) i 7) + 1)) i 5 ((gX6_of (gX6_sets (gX6_sets f1 i 6 ((gX6_of f1 i 6) + 1)) i 7 ((gX6_of (gX6_sets f1 i 6 ((gX6_of f1 i 6) + 1)) i 7) + 1)) i 5) - (gX6_of f1 i 5))) 7) + (gX6_of f1 i 5)))) from (Eq.trans (if_neg c_20) (Eq.trans (if_neg c_39) (Eq.trans (if_neg c_75) (Eq.trans (if_neg c_104) rfl)))))) _ _ _ hP hD hS (lv_sub hl [2, 3, 0] rfl)
        · --f
          refine lv_iconst (v := 0) hx hb dX6_steps_23 (by decide) ?_
          refine lv_goto (tgt := 57) hx hb dX6_steps_24 (by decide) ?_
          refine lv_istore_n (lv' := [(3, .int 0), (0, .ref (ma 0)), (1, .int 0), (2, .int (nI i))]) hx hb dX6_steps_57 rfl hl (by decide) rfl (fun ls hl => ?_)
          refine lv_aload_n hx hb dX6_steps_58 rfl (lv_at hl 1 rfl) ?_
          refine lv_iload_n hx hb dX6_steps_59 rfl (lv_at hl 3 rfl) ?_
          refine lv_bipush (v := 6) hx hb dX6_steps_60 (by decide) ?_
          refine lv_aload_n hx hb dX6_steps_62 rfl (lv_at hl 1 rfl) ?_
          refine lv_iload_n hx hb dX6_steps_63 rfl (lv_at hl 3 rfl) ?_
          refine lv_bipush (v := 6) hx hb dX6_steps_64 (by decide) ?_
          refine xreti (va_runV (As := [.int (nI i), .int 6]) (rest := [.int 6, .int (nI i), .ref (ma 0)]) ⟨hx, hb, hml, hown, hts⟩ (mX6_of l D ck ma M f1 (nI i) i rfl (by omega) 6 6 rfl (by omega)  _) (cwV 2 hts gX6_steps_X6_of rfl rfl rfl (by decide +kernel) ⟨Nat.le_of_ble_eq_true rfl, Nat.le_of_ble_eq_true rfl⟩) (xpreV hN hK hP hD pm_all 0 rfl rfl rfl) rfl rfl hl.1 rfl (lv_room (Nat.le_of_ble_eq_true rfl)) dX6_steps_66 ⟨Nat.le_of_ble_eq_true rfl, Nat.le_of_ble_eq_true rfl⟩) hP hD hS hA pm_all pm_all' (fun H locs hP hD hS => ?_)
          refine lv_aload_n hx hb dX6_steps_69 rfl (lv_at hl 1 rfl) ?_
          refine lv_iload_n hx hb dX6_steps_70 rfl (lv_at hl 3 rfl) ?_
          refine lv_iconst (v := 0) hx hb dX6_steps_71 (by decide) ?_
          refine xreti (va_runV (As := [.int (nI i), .int 0]) (rest := [.int (gX6_of f1 i 6), .int 6, .int (nI i), .ref (ma 0)]) ⟨hx, hb, hml, hown, hts⟩ (mX6_is l D ck ma M f1 (nI i) i rfl (by omega) 0  _) (cwV 2 hts gX6_steps_X6_is rfl rfl rfl (by decide +kernel) ⟨Nat.le_of_ble_eq_true rfl, Nat.le_of_ble_eq_true rfl⟩) (xpreV hN hK hP hD pm_all 0 rfl rfl rfl) rfl rfl hl.1 rfl (lv_room (Nat.le_of_ble_eq_true rfl)) dX6_steps_72 ⟨Nat.le_of_ble_eq_true rfl, Nat.le_of_ble_eq_true rfl⟩) hP hD hS hA pm_all pm_all' (fun H locs hP hD hS => ?_)
          refine lv_if_eq (tgt := 82) hx hb dX6_steps_75 (by decide) (fun c_75 => ?_) (fun c_75 => ?_)
          · --t
            refine lv_iconst (v := 0) hx hb dX6_steps_82 (by decide) ?_
            refine lv_iadd hx hb dX6_steps_83 ?_
            refine xretv (va_runV (As := [.int (nI i), .int 6, .int ((gX6_of f1 i 6) + 0)]) (rest := []) ⟨hx, hb, hml, hown, hts⟩ (mX6_sets l D ck ma M f1 (nI i) i rfl (by omega) 6 6 rfl (by omega) ((gX6_of f1 i 6) + 0)  _) (cwV 3 hts gX6_steps_X6_sets rfl rfl rfl (by decide +kernel) ⟨Nat.le_of_ble_eq_true rfl, Nat.le_of_ble_eq_true rfl⟩) (xpreV hN hK hP hD pm_all 0 rfl rfl rfl) rfl rfl hl.1 rfl (lv_room (Nat.le_of_ble_eq_true rfl)) dX6_steps_84 ⟨Nat.le_of_ble_eq_true rfl, Nat.le_of_ble_eq_true rfl⟩) hP hD hS hA pm_all pm_all' (fun H locs hP hD hS => ?_)
            have hP : va_P D vwCl (coreW ck ma M (gX6_sets f1 i 6 ((gX6_of f1 i 6) + 0))) H := hP
            have hD : va_D (va_A (coreW ck ma M f) s.heap.size) (coreW ck ma M (gX6_sets f1 i 6 ((gX6_of f1 i 6) + 0))) := hD
            refine lv_aload_n hx hb dX6_steps_87 rfl (lv_at hl 1 rfl) ?_
            refine lv_iload_n hx hb dX6_steps_88 rfl (lv_at hl 3 rfl) ?_
            refine lv_bipush (v := 7) hx hb dX6_steps_89 (by decide) ?_
            refine lv_aload_n hx hb dX6_steps_91 rfl (lv_at hl 1 rfl) ?_
            refine lv_iload_n hx hb dX6_steps_92 rfl (lv_at hl 3 rfl) ?_
            refine lv_bipush (v := 7) hx hb dX6_steps_93 (by decide) ?_
            refine xreti (va_runV (As := [.int (nI i), .int 7]) (rest := [.int 7, .int (nI i), .ref (ma 0)]) ⟨hx, hb, hml, hown, hts⟩ (mX6_of l D ck ma M (gX6_sets f1 i 6 ((gX6_of f1 i 6) + 0)) (nI i) i rfl (by omega) 7 7 rfl (by omega)  _) (cwV 2 hts gX6_steps_X6_of rfl rfl rfl (by decide +kernel) ⟨Nat.le_of_ble_eq_true rfl, Nat.le_of_ble_eq_true rfl⟩) (xpreV hN hK hP hD pm_all 0 rfl rfl rfl) rfl rfl hl.1 rfl (lv_room (Nat.le_of_ble_eq_true rfl)) dX6_steps_95 ⟨Nat.le_of_ble_eq_true rfl, Nat.le_of_ble_eq_true rfl⟩) hP hD hS hA pm_all pm_all' (fun H locs hP hD hS => ?_)
            refine lv_aload_n hx hb dX6_steps_98 rfl (lv_at hl 1 rfl) ?_
            refine lv_iload_n hx hb dX6_steps_99 rfl (lv_at hl 3 rfl) ?_
            refine lv_iconst (v := 1) hx hb dX6_steps_100 (by decide) ?_
            refine xreti (va_runV (As := [.int (nI i), .int 1]) (rest := [.int (gX6_of (gX6_sets f1 i 6 ((gX6_of f1 i 6) + 0)) i 7), .int 7, .int (nI i), .ref (ma 0)]) ⟨hx, hb, hml, hown, hts⟩ (mX6_is l D ck ma M (gX6_sets f1 i 6 ((gX6_of f1 i 6) + 0)) (nI i) i rfl (by omega) 1  _) (cwV 2 hts gX6_steps_X6_is rfl rfl rfl (by decide +kernel) ⟨Nat.le_of_ble_eq_true rfl, Nat.le_of_ble_eq_true rfl⟩) (xpreV hN hK hP hD pm_all 0 rfl rfl rfl) rfl rfl hl.1 rfl (lv_room (Nat.le_of_ble_eq_true rfl)) dX6_steps_101 ⟨Nat.le_of_ble_eq_true rfl, Nat.le_of_ble_eq_true rfl⟩) hP hD hS hA pm_all pm_all' (fun H locs hP hD hS => ?_)
            refine lv_if_eq (tgt := 111) hx hb dX6_steps_104 (by decide) (fun c_104 => ?_) (fun c_104 => ?_)
            · --t
              refine lv_iconst (v := 0) hx hb dX6_steps_111 (by decide) ?_
              refine lv_iadd hx hb dX6_steps_112 ?_
              refine xretv (va_runV (As := [.int (nI i), .int 7, .int ((gX6_of (gX6_sets f1 i 6 ((gX6_of f1 i 6) + 0)) i 7) + 0)]) (rest := []) ⟨hx, hb, hml, hown, hts⟩ (mX6_sets l D ck ma M (gX6_sets f1 i 6 ((gX6_of f1 i 6) + 0)) (nI i) i rfl (by omega) 7 7 rfl (by omega) ((gX6_of (gX6_sets f1 i 6 ((gX6_of f1 i 6) + 0)) i 7) + 0)  _) (cwV 3 hts gX6_steps_X6_sets rfl rfl rfl (by decide +kernel) ⟨Nat.le_of_ble_eq_true rfl, Nat.le_of_ble_eq_true rfl⟩) (xpreV hN hK hP hD pm_all 0 rfl rfl rfl) rfl rfl hl.1 rfl (lv_room (Nat.le_of_ble_eq_true rfl)) dX6_steps_113 ⟨Nat.le_of_ble_eq_true rfl, Nat.le_of_ble_eq_true rfl⟩) hP hD hS hA pm_all pm_all' (fun H locs hP hD hS => ?_)
              have hP : va_P D vwCl (coreW ck ma M (gX6_sets (gX6_sets f1 i 6 ((gX6_of f1 i 6) + 0)) i 7 ((gX6_of (gX6_sets f1 i 6 ((gX6_of f1 i 6) + 0)) i 7) + 0))) H := hP
              have hD : va_D (va_A (coreW ck ma M f) s.heap.size) (coreW ck ma M (gX6_sets (gX6_sets f1 i 6 ((gX6_of f1 i 6) + 0)) i 7 ((gX6_of (gX6_sets f1 i 6 ((gX6_of f1 i 6) + 0)) i 7) + 0))) := hD
              refine lv_aload_n hx hb dX6_steps_116 rfl (lv_at hl 1 rfl) ?_
              refine lv_iload_n hx hb dX6_steps_117 rfl (lv_at hl 3 rfl) ?_
              refine lv_iconst (v := 5) hx hb dX6_steps_118 (by decide) ?_
              refine lv_aload_n hx hb dX6_steps_119 rfl (lv_at hl 1 rfl) ?_
              refine lv_iload_n hx hb dX6_steps_120 rfl (lv_at hl 3 rfl) ?_
              refine lv_iconst (v := 5) hx hb dX6_steps_121 (by decide) ?_
              refine xreti (va_runV (As := [.int (nI i), .int 5]) (rest := [.int 5, .int (nI i), .ref (ma 0)]) ⟨hx, hb, hml, hown, hts⟩ (mX6_of l D ck ma M (gX6_sets (gX6_sets f1 i 6 ((gX6_of f1 i 6) + 0)) i 7 ((gX6_of (gX6_sets f1 i 6 ((gX6_of f1 i 6) + 0)) i 7) + 0)) (nI i) i rfl (by omega) 5 5 rfl (by omega)  _) (cwV 2 hts gX6_steps_X6_of rfl rfl rfl (by decide +kernel) ⟨Nat.le_of_ble_eq_true rfl, Nat.le_of_ble_eq_true rfl⟩) (xpreV hN hK hP hD pm_all 0 rfl rfl rfl) rfl rfl hl.1 rfl (lv_room (Nat.le_of_ble_eq_true rfl)) dX6_steps_122 ⟨Nat.le_of_ble_eq_true rfl, Nat.le_of_ble_eq_true rfl⟩) hP hD hS hA pm_all pm_all' (fun H locs hP hD hS => ?_)
              refine lv_iload_n hx hb dX6_steps_125 rfl (lv_at hl 0 rfl) ?_
              refine lv_isub hx hb dX6_steps_126 ?_
              refine xretv (va_runV (As := [.int (nI i), .int 5, .int ((gX6_of (gX6_sets (gX6_sets f1 i 6 ((gX6_of f1 i 6) + 0)) i 7 ((gX6_of (gX6_sets f1 i 6 ((gX6_of f1 i 6) + 0)) i 7) + 0)) i 5) - 0)]) (rest := []) ⟨hx, hb, hml, hown, hts⟩ (mX6_sets l D ck ma M (gX6_sets (gX6_sets f1 i 6 ((gX6_of f1 i 6) + 0)) i 7 ((gX6_of (gX6_sets f1 i 6 ((gX6_of f1 i 6) + 0)) i 7) + 0)) (nI i) i rfl (by omega) 5 5 rfl (by omega) ((gX6_of (gX6_sets (gX6_sets f1 i 6 ((gX6_of f1 i 6) + 0)) i 7 ((gX6_of (gX6_sets f1 i 6 ((gX6_of f1 i 6) + 0)) i 7) + 0)) i 5) - 0)  _) (cwV 3 hts gX6_steps_X6_sets rfl rfl rfl (by decide +kernel) ⟨Nat.le_of_ble_eq_true rfl, Nat.le_of_ble_eq_true rfl⟩) (xpreV hN hK hP hD pm_all 0 rfl rfl rfl) rfl rfl hl.1 rfl (lv_room (Nat.le_of_ble_eq_true rfl)) dX6_steps_127 ⟨Nat.le_of_ble_eq_true rfl, Nat.le_of_ble_eq_true rfl⟩) hP hD hS hA pm_all pm_all' (fun H locs hP hD hS => ?_)
              have hP : va_P D vwCl (coreW ck ma M (gX6_sets (gX6_sets (gX6_sets f1 i 6 ((gX6_of f1 i 6) + 0)) i 7 ((gX6_of (gX6_sets f1 i 6 ((gX6_of f1 i 6) + 0)) i 7) + 0)) i 5 ((gX6_of (gX6_sets (gX6_sets f1 i 6 ((gX6_of f1 i 6) + 0)) i 7 ((gX6_of (gX6_sets f1 i 6 ((gX6_of f1 i 6) + 0)) i 7) + 0)) i 5) - 0))) H := hP
              have hD : va_D (va_A (coreW ck ma M f) s.heap.size) (coreW ck ma M (gX6_sets (gX6_sets (gX6_sets f1 i 6 ((gX6_of f1 i 6) + 0)) i 7 ((gX6_of (gX6_sets f1 i 6 ((gX6_of f1 i 6) + 0)) i 7) + 0)) i 5 ((gX6_of (gX6_sets (gX6_sets f1 i 6 ((gX6_of f1 i 6) + 0)) i 7 ((gX6_of (gX6_sets f1 i 6 ((gX6_of f1 i 6) + 0)) i 7) + 0)) i 5) - 0))) := hD
              refine lv_aload_n hx hb dX6_steps_130 rfl (lv_at hl 1 rfl) ?_
              refine va_get (D := D) (ci := 6) (v := .ref (ma 1)) (C := RX6) (T := TX6) (N := 13) hx hb hts hinX6 hown hK hP 0 rfl rfl 0 (by decide) (hts (.fieldLink RX6 7 "JoinGrantsModel" "all" "[I") (List.mem_of_getElem? (i := 1) rfl)) (fun _ h9 => h9) rfl dX6_steps_131 ?_
              refine lv_bipush (v := 7) hx hb dX6_steps_134 (by decide) ?_
              refine lv_dup2_11 hx hb dX6_steps_136 rfl rfl ?_
              refine xiald (j := 7) (by decide) hx hb hK hP 1 0 rfl rfl (show vp_in 7 153 from by unfold vp_in; decide) dX6_steps_137 ?_
              refine lv_iload_n hx hb dX6_steps_138 rfl (lv_at hl 0 rfl) ?_
              refine lv_iadd hx hb dX6_steps_139 ?_
              refine xiast (j := 7) (by decide) hx hb hK hP hD hS 1 0 rfl rfl (show vp_in 7 153 from by unfold vp_in; decide) dX6_steps_140 (fun H locs hP hD hS => ?_)
              have hP : va_P D vwCl (coreW ck ma M (upd (gX6_sets (gX6_sets (gX6_sets f1 i 6 ((gX6_of f1 i 6) + 0)) i 7 ((gX6_of (gX6_sets f1 i 6 ((gX6_of f1 i 6) + 0)) i 7) + 0)) i 5 ((gX6_of (gX6_sets (gX6_sets f1 i 6 ((gX6_of f1 i 6) + 0)) i 7 ((gX6_of (gX6_sets f1 i 6 ((gX6_of f1 i 6) + 0)) i 7) + 0)) i 5) - 0)) 7 (((gX6_sets (gX6_sets (gX6_sets f1 i 6 ((gX6_of f1 i 6) + 0)) i 7 ((gX6_of (gX6_sets f1 i 6 ((gX6_of f1 i 6) + 0)) i 7) + 0)) i 5 ((gX6_of (gX6_sets (gX6_sets f1 i 6 ((gX6_of f1 i 6) + 0)) i 7 ((gX6_of (gX6_sets f1 i 6 ((gX6_of f1 i 6) + 0)) i 7) + 0)) i 5) - 0)) 7) + 0))) H := hP
              have hD : va_D (va_A (coreW ck ma M f) s.heap.size) (coreW ck ma M (upd (gX6_sets (gX6_sets (gX6_sets f1 i 6 ((gX6_of f1 i 6) + 0)) i 7 ((gX6_of (gX6_sets f1 i 6 ((gX6_of f1 i 6) + 0)) i 7) + 0)) i 5 ((gX6_of (gX6_sets (gX6_sets f1 i 6 ((gX6_of f1 i 6) + 0)) i 7 ((gX6_of (gX6_sets f1 i 6 ((gX6_of f1 i 6) + 0)) i 7) + 0)) i 5) - 0)) 7 (((gX6_sets (gX6_sets (gX6_sets f1 i 6 ((gX6_of f1 i 6) + 0)) i 7 ((gX6_of (gX6_sets f1 i 6 ((gX6_of f1 i 6) + 0)) i 7) + 0)) i 5 ((gX6_of (gX6_sets (gX6_sets f1 i 6 ((gX6_of f1 i 6) + 0)) i 7 ((gX6_of (gX6_sets f1 i 6 ((gX6_of f1 i 6) + 0)) i 7) + 0)) i 5) - 0)) 7) + 0))) := hD
              refine lv_iinc (v := (nI (i + 1))) (lv' := [(2, .int (nI (i + 1))), (3, .int 0), (0, .ref (ma 0)), (1, .int 0)]) hx hb dX6_steps_141 hl (k := 3) rfl (nI_1 i) (by decide) rfl (fun ls hl => ?_)
              refine lv_goto (tgt := 4) hx hb dX6_steps_144 (by decide) ?_
              exact ih4 (i + 1) (upd (gX6_sets (gX6_sets (gX6_sets f1 i 6 ((gX6_of f1 i 6) + 0)) i 7 ((gX6_of (gX6_sets f1 i 6 ((gX6_of f1 i 6) + 0)) i 7) + 0)) i 5 ((gX6_of (gX6_sets (gX6_sets f1 i 6 ((gX6_of f1 i 6) + 0)) i 7 ((gX6_of (gX6_sets f1 i 6 ((gX6_of f1 i 6) + 0)) i 7) + 0)) i 5) - 0)) 7 (((gX6_sets (gX6_sets (gX6_sets f1 i 6 ((gX6_of f1 i 6) + 0)) i 7 ((gX6_of (gX6_sets f1 i 6 ((gX6_of f1 i 6) + 0)) i 7) + 0)) i 5 ((gX6_of (gX6_sets (gX6_sets f1 i 6 ((gX6_of f1 i 6) + 0)) i 7 ((gX6_of (gX6_sets f1 i 6 ((gX6_of f1 i 6) + 0)) i 7) + 0)) i 5) - 0)) 7) + 0)) (by omega) (sA_1 hs (by omega) c_20) (hg.trans (show gX6_steps_L4 f (fu + 1) i f1 = (gX6_steps_L4 f fu (i + 1) (upd (gX6_sets (gX6_sets (gX6_sets f1 i 6 ((gX6_of f1 i 6) + 0)) i 7 ((gX6_of (gX6_sets f1 i 6 ((gX6_of f1 i 6) + 0)) i 7) + 0)) i 5 ((gX6_of (gX6_sets (gX6_sets f1 i 6 ((gX6_of f1 i 6) + 0)) i 7 ((gX6_of (gX6_sets f1 i 6 ((gX6_of f1 i 6) + 0)) i 7) + 0)) i 5) - 0)) 7 (((gX6_sets (gX6_sets (gX6_sets f1 i 6 ((gX6_of f1 i 6) + 0)) i 7 ((gX6_of (gX6_sets f1 i 6 ((gX6_of f1 i 6) + 0)) i 7) + 0)) i 5 ((gX6_of (gX6_sets (gX6_sets f1 i 6 ((gX6_of f1 i 6) + 0)) i 7 ((gX6_of (gX6_sets f1 i 6 ((gX6_of f1 i 6) + 0)) i 7) + 0)) i 5) - 0)) 7) + 0))) from (Eq.trans (if_pos c_20) (Eq.trans (if_pos c_75) (Eq.trans (if_pos c_104) rfl))))) _ _ _ hP hD hS (lv_sub hl [2, 3, 0] rfl)
            · --f
              refine lv_iconst (v := 1) hx hb dX6_steps_107 (by decide) ?_
              refine lv_goto (tgt := 112) hx hb dX6_steps_108 (by decide) ?_
              refine lv_iadd hx hb dX6_steps_112 ?_
              refine xretv (va_runV (As := [.int (nI i), .int 7, .int ((gX6_of (gX6_sets f1 i 6 ((gX6_of f1 i 6) + 0)) i 7) + 1)]) (rest := []) ⟨hx, hb, hml, hown, hts⟩ (mX6_sets l D ck ma M (gX6_sets f1 i 6 ((gX6_of f1 i 6) + 0)) (nI i) i rfl (by omega) 7 7 rfl (by omega) ((gX6_of (gX6_sets f1 i 6 ((gX6_of f1 i 6) + 0)) i 7) + 1)  _) (cwV 3 hts gX6_steps_X6_sets rfl rfl rfl (by decide +kernel) ⟨Nat.le_of_ble_eq_true rfl, Nat.le_of_ble_eq_true rfl⟩) (xpreV hN hK hP hD pm_all 0 rfl rfl rfl) rfl rfl hl.1 rfl (lv_room (Nat.le_of_ble_eq_true rfl)) dX6_steps_113 ⟨Nat.le_of_ble_eq_true rfl, Nat.le_of_ble_eq_true rfl⟩) hP hD hS hA pm_all pm_all' (fun H locs hP hD hS => ?_)
              have hP : va_P D vwCl (coreW ck ma M (gX6_sets (gX6_sets f1 i 6 ((gX6_of f1 i 6) + 0)) i 7 ((gX6_of (gX6_sets f1 i 6 ((gX6_of f1 i 6) + 0)) i 7) + 1))) H := hP
              have hD : va_D (va_A (coreW ck ma M f) s.heap.size) (coreW ck ma M (gX6_sets (gX6_sets f1 i 6 ((gX6_of f1 i 6) + 0)) i 7 ((gX6_of (gX6_sets f1 i 6 ((gX6_of f1 i 6) + 0)) i 7) + 1))) := hD
              refine lv_aload_n hx hb dX6_steps_116 rfl (lv_at hl 1 rfl) ?_
              refine lv_iload_n hx hb dX6_steps_117 rfl (lv_at hl 3 rfl) ?_
              refine lv_iconst (v := 5) hx hb dX6_steps_118 (by decide) ?_
              refine lv_aload_n hx hb dX6_steps_119 rfl (lv_at hl 1 rfl) ?_
              refine lv_iload_n hx hb dX6_steps_120 rfl (lv_at hl 3 rfl) ?_
              refine lv_iconst (v := 5) hx hb dX6_steps_121 (by decide) ?_
              refine xreti (va_runV (As := [.int (nI i), .int 5]) (rest := [.int 5, .int (nI i), .ref (ma 0)]) ⟨hx, hb, hml, hown, hts⟩ (mX6_of l D ck ma M (gX6_sets (gX6_sets f1 i 6 ((gX6_of f1 i 6) + 0)) i 7 ((gX6_of (gX6_sets f1 i 6 ((gX6_of f1 i 6) + 0)) i 7) + 1)) (nI i) i rfl (by omega) 5 5 rfl (by omega)  _) (cwV 2 hts gX6_steps_X6_of rfl rfl rfl (by decide +kernel) ⟨Nat.le_of_ble_eq_true rfl, Nat.le_of_ble_eq_true rfl⟩) (xpreV hN hK hP hD pm_all 0 rfl rfl rfl) rfl rfl hl.1 rfl (lv_room (Nat.le_of_ble_eq_true rfl)) dX6_steps_122 ⟨Nat.le_of_ble_eq_true rfl, Nat.le_of_ble_eq_true rfl⟩) hP hD hS hA pm_all pm_all' (fun H locs hP hD hS => ?_)
              refine lv_iload_n hx hb dX6_steps_125 rfl (lv_at hl 0 rfl) ?_
              refine lv_isub hx hb dX6_steps_126 ?_
              refine xretv (va_runV (As := [.int (nI i), .int 5, .int ((gX6_of (gX6_sets (gX6_sets f1 i 6 ((gX6_of f1 i 6) + 0)) i 7 ((gX6_of (gX6_sets f1 i 6 ((gX6_of f1 i 6) + 0)) i 7) + 1)) i 5) - 0)]) (rest := []) ⟨hx, hb, hml, hown, hts⟩ (mX6_sets l D ck ma M (gX6_sets (gX6_sets f1 i 6 ((gX6_of f1 i 6) + 0)) i 7 ((gX6_of (gX6_sets f1 i 6 ((gX6_of f1 i 6) + 0)) i 7) + 1)) (nI i) i rfl (by omega) 5 5 rfl (by omega) ((gX6_of (gX6_sets (gX6_sets f1 i 6 ((gX6_of f1 i 6) + 0)) i 7 ((gX6_of (gX6_sets f1 i 6 ((gX6_of f1 i 6) + 0)) i 7) + 1)) i 5) - 0)  _) (cwV 3 hts gX6_steps_X6_sets rfl rfl rfl (by decide +kernel) ⟨Nat.le_of_ble_eq_true rfl, Nat.le_of_ble_eq_true rfl⟩) (xpreV hN hK hP hD pm_all 0 rfl rfl rfl) rfl rfl hl.1 rfl (lv_room (Nat.le_of_ble_eq_true rfl)) dX6_steps_127 ⟨Nat.le_of_ble_eq_true rfl, Nat.le_of_ble_eq_true rfl⟩) hP hD hS hA pm_all pm_all' (fun H locs hP hD hS => ?_)
              have hP : va_P D vwCl (coreW ck ma M (gX6_sets (gX6_sets (gX6_sets f1 i 6 ((gX6_of f1 i 6) + 0)) i 7 ((gX6_of (gX6_sets f1 i 6 ((gX6_of f1 i 6) + 0)) i 7) + 1)) i 5 ((gX6_of (gX6_sets (gX6_sets f1 i 6 ((gX6_of f1 i 6) + 0)) i 7 ((gX6_of (gX6_sets f1 i 6 ((gX6_of f1 i 6) + 0)) i 7) + 1)) i 5) - 0))) H := hP
              have hD : va_D (va_A (coreW ck ma M f) s.heap.size) (coreW ck ma M (gX6_sets (gX6_sets (gX6_sets f1 i 6 ((gX6_of f1 i 6) + 0)) i 7 ((gX6_of (gX6_sets f1 i 6 ((gX6_of f1 i 6) + 0)) i 7) + 1)) i 5 ((gX6_of (gX6_sets (gX6_sets f1 i 6 ((gX6_of f1 i 6) + 0)) i 7 ((gX6_of (gX6_sets f1 i 6 ((gX6_of f1 i 6) + 0)) i 7) + 1)) i 5) - 0))) := hD
              refine lv_aload_n hx hb dX6_steps_130 rfl (lv_at hl 1 rfl) ?_
              refine va_get (D := D) (ci := 6) (v := .ref (ma 1)) (C := RX6) (T := TX6) (N := 13) hx hb hts hinX6 hown hK hP 0 rfl rfl 0 (by decide) (hts (.fieldLink RX6 7 "JoinGrantsModel" "all" "[I") (List.mem_of_getElem? (i := 1) rfl)) (fun _ h9 => h9) rfl dX6_steps_131 ?_
              refine lv_bipush (v := 7) hx hb dX6_steps_134 (by decide) ?_
              refine lv_dup2_11 hx hb dX6_steps_136 rfl rfl ?_
              refine xiald (j := 7) (by decide) hx hb hK hP 1 0 rfl rfl (show vp_in 7 153 from by unfold vp_in; decide) dX6_steps_137 ?_
              refine lv_iload_n hx hb dX6_steps_138 rfl (lv_at hl 0 rfl) ?_
              refine lv_iadd hx hb dX6_steps_139 ?_
              refine xiast (j := 7) (by decide) hx hb hK hP hD hS 1 0 rfl rfl (show vp_in 7 153 from by unfold vp_in; decide) dX6_steps_140 (fun H locs hP hD hS => ?_)
              have hP : va_P D vwCl (coreW ck ma M (upd (gX6_sets (gX6_sets (gX6_sets f1 i 6 ((gX6_of f1 i 6) + 0)) i 7 ((gX6_of (gX6_sets f1 i 6 ((gX6_of f1 i 6) + 0)) i 7) + 1)) i 5 ((gX6_of (gX6_sets (gX6_sets f1 i 6 ((gX6_of f1 i 6) + 0)) i 7 ((gX6_of (gX6_sets f1 i 6 ((gX6_of f1 i 6) + 0)) i 7) + 1)) i 5) - 0)) 7 (((gX6_sets (gX6_sets (gX6_sets f1 i 6 ((gX6_of f1 i 6) + 0)) i 7 ((gX6_of (gX6_sets f1 i 6 ((gX6_of f1 i 6) + 0)) i 7) + 1)) i 5 ((gX6_of (gX6_sets (gX6_sets f1 i 6 ((gX6_of f1 i 6) + 0)) i 7 ((gX6_of (gX6_sets f1 i 6 ((gX6_of f1 i 6) + 0)) i 7) + 1)) i 5) - 0)) 7) + 0))) H := hP
              have hD : va_D (va_A (coreW ck ma M f) s.heap.size) (coreW ck ma M (upd (gX6_sets (gX6_sets (gX6_sets f1 i 6 ((gX6_of f1 i 6) + 0)) i 7 ((gX6_of (gX6_sets f1 i 6 ((gX6_of f1 i 6) + 0)) i 7) + 1)) i 5 ((gX6_of (gX6_sets (gX6_sets f1 i 6 ((gX6_of f1 i 6) + 0)) i 7 ((gX6_of (gX6_sets f1 i 6 ((gX6_of f1 i 6) + 0)) i 7) + 1)) i 5) - 0)) 7 (((gX6_sets (gX6_sets (gX6_sets f1 i 6 ((gX6_of f1 i 6) + 0)) i 7 ((gX6_of (gX6_sets f1 i 6 ((gX6_of f1 i 6) + 0)) i 7) + 1)) i 5 ((gX6_of (gX6_sets (gX6_sets f1 i 6 ((gX6_of f1 i 6) + 0)) i 7 ((gX6_of (gX6_sets f1 i 6 ((gX6_of f1 i 6) + 0)) i 7) + 1)) i 5) - 0)) 7) + 0))) := hD
              refine lv_iinc (v := (nI (i + 1))) (lv' := [(2, .int (nI (i + 1))), (3, .int 0), (0, .ref (ma 0)), (1, .int 0)]) hx hb dX6_steps_141 hl (k := 3) rfl (nI_1 i) (by decide) rfl (fun ls hl => ?_)
              refine lv_goto (tgt := 4) hx hb dX6_steps_144 (by decide) ?_
              exact ih4 (i + 1) (upd (gX6_sets (gX6_sets (gX6_sets f1 i 6 ((gX6_of f1 i 6) + 0)) i 7 ((gX6_of (gX6_sets f1 i 6 ((gX6_of f1 i 6) + 0)) i 7) + 1)) i 5 ((gX6_of (gX6_sets (gX6_sets f1 i 6 ((gX6_of f1 i 6) + 0)) i 7 ((gX6_of (gX6_sets f1 i 6 ((gX6_of f1 i 6) + 0)) i 7) + 1)) i 5) - 0)) 7 (((gX6_sets (gX6_sets (gX6_sets f1 i 6 ((gX6_of f1 i 6) + 0)) i 7 ((gX6_of (gX6_sets f1 i 6 ((gX6_of f1 i 6) + 0)) i 7) + 1)) i 5 ((gX6_of (gX6_sets (gX6_sets f1 i 6 ((gX6_of f1 i 6) + 0)) i 7 ((gX6_of (gX6_sets f1 i 6 ((gX6_of f1 i 6) + 0)) i 7) + 1)) i 5) - 0)) 7) + 0)) (by omega) (sA_1 hs (by omega) c_20) (hg.trans (show gX6_steps_L4 f (fu + 1) i f1 = (gX6_steps_L4 f fu (i + 1) (upd (gX6_sets (gX6_sets (gX6_sets f1 i 6 ((gX6_of f1 i 6) + 0)) i 7 ((gX6_of (gX6_sets f1 i 6 ((gX6_of f1 i 6) + 0)) i 7) + 1)) i 5 ((gX6_of (gX6_sets (gX6_sets f1 i 6 ((gX6_of f1 i 6) + 0)) i 7 ((gX6_of (gX6_sets f1 i 6 ((gX6_of f1 i 6) + 0)) i 7) + 1)) i 5) - 0)) 7 (((gX6_sets (gX6_sets (gX6_sets f1 i 6 ((gX6_of f1 i 6) + 0)) i 7 ((gX6_of (gX6_sets f1 i 6 ((gX6_of f1 i 6) + 0)) i 7) + 1)) i 5 ((gX6_of (gX6_sets (gX6_sets f1 i 6 ((gX6_of f1 i 6) + 0)) i 7 ((gX6_of (gX6_sets f1 i 6 ((gX6_of f1 i 6) + 0)) i 7) + 1)) i 5) - 0)) 7) + 0))) from (Eq.trans (if_pos c_20) (Eq.trans (if_pos c_75) (Eq.trans (if_neg c_104) rfl))))) _ _ _ hP hD hS (lv_sub hl [2, 3, 0] rfl)
          · --f
            refine lv_iconst (v := 1) hx hb dX6_steps_78 (by decide) ?_
            refine lv_goto (tgt := 83) hx hb dX6_steps_79 (by decide) ?_
            refine lv_iadd hx hb dX6_steps_83 ?_
            refine xretv (va_runV (As := [.int (nI i), .int 6, .int ((gX6_of f1 i 6) + 1)]) (rest := []) ⟨hx, hb, hml, hown, hts⟩ (mX6_sets l D ck ma M f1 (nI i) i rfl (by omega) 6 6 rfl (by omega) ((gX6_of f1 i 6) + 1)  _) (cwV 3 hts gX6_steps_X6_sets rfl rfl rfl (by decide +kernel) ⟨Nat.le_of_ble_eq_true rfl, Nat.le_of_ble_eq_true rfl⟩) (xpreV hN hK hP hD pm_all 0 rfl rfl rfl) rfl rfl hl.1 rfl (lv_room (Nat.le_of_ble_eq_true rfl)) dX6_steps_84 ⟨Nat.le_of_ble_eq_true rfl, Nat.le_of_ble_eq_true rfl⟩) hP hD hS hA pm_all pm_all' (fun H locs hP hD hS => ?_)
            have hP : va_P D vwCl (coreW ck ma M (gX6_sets f1 i 6 ((gX6_of f1 i 6) + 1))) H := hP
            have hD : va_D (va_A (coreW ck ma M f) s.heap.size) (coreW ck ma M (gX6_sets f1 i 6 ((gX6_of f1 i 6) + 1))) := hD
            refine lv_aload_n hx hb dX6_steps_87 rfl (lv_at hl 1 rfl) ?_
            refine lv_iload_n hx hb dX6_steps_88 rfl (lv_at hl 3 rfl) ?_
            refine lv_bipush (v := 7) hx hb dX6_steps_89 (by decide) ?_
            refine lv_aload_n hx hb dX6_steps_91 rfl (lv_at hl 1 rfl) ?_
            refine lv_iload_n hx hb dX6_steps_92 rfl (lv_at hl 3 rfl) ?_
            refine lv_bipush (v := 7) hx hb dX6_steps_93 (by decide) ?_
            refine xreti (va_runV (As := [.int (nI i), .int 7]) (rest := [.int 7, .int (nI i), .ref (ma 0)]) ⟨hx, hb, hml, hown, hts⟩ (mX6_of l D ck ma M (gX6_sets f1 i 6 ((gX6_of f1 i 6) + 1)) (nI i) i rfl (by omega) 7 7 rfl (by omega)  _) (cwV 2 hts gX6_steps_X6_of rfl rfl rfl (by decide +kernel) ⟨Nat.le_of_ble_eq_true rfl, Nat.le_of_ble_eq_true rfl⟩) (xpreV hN hK hP hD pm_all 0 rfl rfl rfl) rfl rfl hl.1 rfl (lv_room (Nat.le_of_ble_eq_true rfl)) dX6_steps_95 ⟨Nat.le_of_ble_eq_true rfl, Nat.le_of_ble_eq_true rfl⟩) hP hD hS hA pm_all pm_all' (fun H locs hP hD hS => ?_)
            refine lv_aload_n hx hb dX6_steps_98 rfl (lv_at hl 1 rfl) ?_
            refine lv_iload_n hx hb dX6_steps_99 rfl (lv_at hl 3 rfl) ?_
            refine lv_iconst (v := 1) hx hb dX6_steps_100 (by decide) ?_
            refine xreti (va_runV (As := [.int (nI i), .int 1]) (rest := [.int (gX6_of (gX6_sets f1 i 6 ((gX6_of f1 i 6) + 1)) i 7), .int 7, .int (nI i), .ref (ma 0)]) ⟨hx, hb, hml, hown, hts⟩ (mX6_is l D ck ma M (gX6_sets f1 i 6 ((gX6_of f1 i 6) + 1)) (nI i) i rfl (by omega) 1  _) (cwV 2 hts gX6_steps_X6_is rfl rfl rfl (by decide +kernel) ⟨Nat.le_of_ble_eq_true rfl, Nat.le_of_ble_eq_true rfl⟩) (xpreV hN hK hP hD pm_all 0 rfl rfl rfl) rfl rfl hl.1 rfl (lv_room (Nat.le_of_ble_eq_true rfl)) dX6_steps_101 ⟨Nat.le_of_ble_eq_true rfl, Nat.le_of_ble_eq_true rfl⟩) hP hD hS hA pm_all pm_all' (fun H locs hP hD hS => ?_)
            refine lv_if_eq (tgt := 111) hx hb dX6_steps_104 (by decide) (fun c_104 => ?_) (fun c_104 => ?_)
            · --t
              refine lv_iconst (v := 0) hx hb dX6_steps_111 (by decide) ?_
              refine lv_iadd hx hb dX6_steps_112 ?_
              refine xretv (va_runV (As := [.int (nI i), .int 7, .int ((gX6_of (gX6_sets f1 i 6 ((gX6_of f1 i 6) + 1)) i 7) + 0)]) (rest := []) ⟨hx, hb, hml, hown, hts⟩ (mX6_sets l D ck ma M (gX6_sets f1 i 6 ((gX6_of f1 i 6) + 1)) (nI i) i rfl (by omega) 7 7 rfl (by omega) ((gX6_of (gX6_sets f1 i 6 ((gX6_of f1 i 6) + 1)) i 7) + 0)  _) (cwV 3 hts gX6_steps_X6_sets rfl rfl rfl (by decide +kernel) ⟨Nat.le_of_ble_eq_true rfl, Nat.le_of_ble_eq_true rfl⟩) (xpreV hN hK hP hD pm_all 0 rfl rfl rfl) rfl rfl hl.1 rfl (lv_room (Nat.le_of_ble_eq_true rfl)) dX6_steps_113 ⟨Nat.le_of_ble_eq_true rfl, Nat.le_of_ble_eq_true rfl⟩) hP hD hS hA pm_all pm_all' (fun H locs hP hD hS => ?_)
              have hP : va_P D vwCl (coreW ck ma M (gX6_sets (gX6_sets f1 i 6 ((gX6_of f1 i 6) + 1)) i 7 ((gX6_of (gX6_sets f1 i 6 ((gX6_of f1 i 6) + 1)) i 7) + 0))) H := hP
              have hD : va_D (va_A (coreW ck ma M f) s.heap.size) (coreW ck ma M (gX6_sets (gX6_sets f1 i 6 ((gX6_of f1 i 6) + 1)) i 7 ((gX6_of (gX6_sets f1 i 6 ((gX6_of f1 i 6) + 1)) i 7) + 0))) := hD
              refine lv_aload_n hx hb dX6_steps_116 rfl (lv_at hl 1 rfl) ?_
              refine lv_iload_n hx hb dX6_steps_117 rfl (lv_at hl 3 rfl) ?_
              refine lv_iconst (v := 5) hx hb dX6_steps_118 (by decide) ?_
              refine lv_aload_n hx hb dX6_steps_119 rfl (lv_at hl 1 rfl) ?_
              refine lv_iload_n hx hb dX6_steps_120 rfl (lv_at hl 3 rfl) ?_
              refine lv_iconst (v := 5) hx hb dX6_steps_121 (by decide) ?_
              refine xreti (va_runV (As := [.int (nI i), .int 5]) (rest := [.int 5, .int (nI i), .ref (ma 0)]) ⟨hx, hb, hml, hown, hts⟩ (mX6_of l D ck ma M (gX6_sets (gX6_sets f1 i 6 ((gX6_of f1 i 6) + 1)) i 7 ((gX6_of (gX6_sets f1 i 6 ((gX6_of f1 i 6) + 1)) i 7) + 0)) (nI i) i rfl (by omega) 5 5 rfl (by omega)  _) (cwV 2 hts gX6_steps_X6_of rfl rfl rfl (by decide +kernel) ⟨Nat.le_of_ble_eq_true rfl, Nat.le_of_ble_eq_true rfl⟩) (xpreV hN hK hP hD pm_all 0 rfl rfl rfl) rfl rfl hl.1 rfl (lv_room (Nat.le_of_ble_eq_true rfl)) dX6_steps_122 ⟨Nat.le_of_ble_eq_true rfl, Nat.le_of_ble_eq_true rfl⟩) hP hD hS hA pm_all pm_all' (fun H locs hP hD hS => ?_)
              refine lv_iload_n hx hb dX6_steps_125 rfl (lv_at hl 0 rfl) ?_
              refine lv_isub hx hb dX6_steps_126 ?_
              refine xretv (va_runV (As := [.int (nI i), .int 5, .int ((gX6_of (gX6_sets (gX6_sets f1 i 6 ((gX6_of f1 i 6) + 1)) i 7 ((gX6_of (gX6_sets f1 i 6 ((gX6_of f1 i 6) + 1)) i 7) + 0)) i 5) - 0)]) (rest := []) ⟨hx, hb, hml, hown, hts⟩ (mX6_sets l D ck ma M (gX6_sets (gX6_sets f1 i 6 ((gX6_of f1 i 6) + 1)) i 7 ((gX6_of (gX6_sets f1 i 6 ((gX6_of f1 i 6) + 1)) i 7) + 0)) (nI i) i rfl (by omega) 5 5 rfl (by omega) ((gX6_of (gX6_sets (gX6_sets f1 i 6 ((gX6_of f1 i 6) + 1)) i 7 ((gX6_of (gX6_sets f1 i 6 ((gX6_of f1 i 6) + 1)) i 7) + 0)) i 5) - 0)  _) (cwV 3 hts gX6_steps_X6_sets rfl rfl rfl (by decide +kernel) ⟨Nat.le_of_ble_eq_true rfl, Nat.le_of_ble_eq_true rfl⟩) (xpreV hN hK hP hD pm_all 0 rfl rfl rfl) rfl rfl hl.1 rfl (lv_room (Nat.le_of_ble_eq_true rfl)) dX6_steps_127 ⟨Nat.le_of_ble_eq_true rfl, Nat.le_of_ble_eq_true rfl⟩) hP hD hS hA pm_all pm_all' (fun H locs hP hD hS => ?_)
              have hP : va_P D vwCl (coreW ck ma M (gX6_sets (gX6_sets (gX6_sets f1 i 6 ((gX6_of f1 i 6) + 1)) i 7 ((gX6_of (gX6_sets f1 i 6 ((gX6_of f1 i 6) + 1)) i 7) + 0)) i 5 ((gX6_of (gX6_sets (gX6_sets f1 i 6 ((gX6_of f1 i 6) + 1)) i 7 ((gX6_of (gX6_sets f1 i 6 ((gX6_of f1 i 6) + 1)) i 7) + 0)) i 5) - 0))) H := hP
              have hD : va_D (va_A (coreW ck ma M f) s.heap.size) (coreW ck ma M (gX6_sets (gX6_sets (gX6_sets f1 i 6 ((gX6_of f1 i 6) + 1)) i 7 ((gX6_of (gX6_sets f1 i 6 ((gX6_of f1 i 6) + 1)) i 7) + 0)) i 5 ((gX6_of (gX6_sets (gX6_sets f1 i 6 ((gX6_of f1 i 6) + 1)) i 7 ((gX6_of (gX6_sets f1 i 6 ((gX6_of f1 i 6) + 1)) i 7) + 0)) i 5) - 0))) := hD
              refine lv_aload_n hx hb dX6_steps_130 rfl (lv_at hl 1 rfl) ?_
              refine va_get (D := D) (ci := 6) (v := .ref (ma 1)) (C := RX6) (T := TX6) (N := 13) hx hb hts hinX6 hown hK hP 0 rfl rfl 0 (by decide) (hts (.fieldLink RX6 7 "JoinGrantsModel" "all" "[I") (List.mem_of_getElem? (i := 1) rfl)) (fun _ h9 => h9) rfl dX6_steps_131 ?_
              refine lv_bipush (v := 7) hx hb dX6_steps_134 (by decide) ?_
              refine lv_dup2_11 hx hb dX6_steps_136 rfl rfl ?_
              refine xiald (j := 7) (by decide) hx hb hK hP 1 0 rfl rfl (show vp_in 7 153 from by unfold vp_in; decide) dX6_steps_137 ?_
              refine lv_iload_n hx hb dX6_steps_138 rfl (lv_at hl 0 rfl) ?_
              refine lv_iadd hx hb dX6_steps_139 ?_
              refine xiast (j := 7) (by decide) hx hb hK hP hD hS 1 0 rfl rfl (show vp_in 7 153 from by unfold vp_in; decide) dX6_steps_140 (fun H locs hP hD hS => ?_)
              have hP : va_P D vwCl (coreW ck ma M (upd (gX6_sets (gX6_sets (gX6_sets f1 i 6 ((gX6_of f1 i 6) + 1)) i 7 ((gX6_of (gX6_sets f1 i 6 ((gX6_of f1 i 6) + 1)) i 7) + 0)) i 5 ((gX6_of (gX6_sets (gX6_sets f1 i 6 ((gX6_of f1 i 6) + 1)) i 7 ((gX6_of (gX6_sets f1 i 6 ((gX6_of f1 i 6) + 1)) i 7) + 0)) i 5) - 0)) 7 (((gX6_sets (gX6_sets (gX6_sets f1 i 6 ((gX6_of f1 i 6) + 1)) i 7 ((gX6_of (gX6_sets f1 i 6 ((gX6_of f1 i 6) + 1)) i 7) + 0)) i 5 ((gX6_of (gX6_sets (gX6_sets f1 i 6 ((gX6_of f1 i 6) + 1)) i 7 ((gX6_of (gX6_sets f1 i 6 ((gX6_of f1 i 6) + 1)) i 7) + 0)) i 5) - 0)) 7) + 0))) H := hP
              have hD : va_D (va_A (coreW ck ma M f) s.heap.size) (coreW ck ma M (upd (gX6_sets (gX6_sets (gX6_sets f1 i 6 ((gX6_of f1 i 6) + 1)) i 7 ((gX6_of (gX6_sets f1 i 6 ((gX6_of f1 i 6) + 1)) i 7) + 0)) i 5 ((gX6_of (gX6_sets (gX6_sets f1 i 6 ((gX6_of f1 i 6) + 1)) i 7 ((gX6_of (gX6_sets f1 i 6 ((gX6_of f1 i 6) + 1)) i 7) + 0)) i 5) - 0)) 7 (((gX6_sets (gX6_sets (gX6_sets f1 i 6 ((gX6_of f1 i 6) + 1)) i 7 ((gX6_of (gX6_sets f1 i 6 ((gX6_of f1 i 6) + 1)) i 7) + 0)) i 5 ((gX6_of (gX6_sets (gX6_sets f1 i 6 ((gX6_of f1 i 6) + 1)) i 7 ((gX6_of (gX6_sets f1 i 6 ((gX6_of f1 i 6) + 1)) i 7) + 0)) i 5) - 0)) 7) + 0))) := hD
              refine lv_iinc (v := (nI (i + 1))) (lv' := [(2, .int (nI (i + 1))), (3, .int 0), (0, .ref (ma 0)), (1, .int 0)]) hx hb dX6_steps_141 hl (k := 3) rfl (nI_1 i) (by decide) rfl (fun ls hl => ?_)
              refine lv_goto (tgt := 4) hx hb dX6_steps_144 (by decide) ?_
              exact ih4 (i + 1) (upd (gX6_sets (gX6_sets (gX6_sets f1 i 6 ((gX6_of f1 i 6) + 1)) i 7 ((gX6_of (gX6_sets f1 i 6 ((gX6_of f1 i 6) + 1)) i 7) + 0)) i 5 ((gX6_of (gX6_sets (gX6_sets f1 i 6 ((gX6_of f1 i 6) + 1)) i 7 ((gX6_of (gX6_sets f1 i 6 ((gX6_of f1 i 6) + 1)) i 7) + 0)) i 5) - 0)) 7 (((gX6_sets (gX6_sets (gX6_sets f1 i 6 ((gX6_of f1 i 6) + 1)) i 7 ((gX6_of (gX6_sets f1 i 6 ((gX6_of f1 i 6) + 1)) i 7) + 0)) i 5 ((gX6_of (gX6_sets (gX6_sets f1 i 6 ((gX6_of f1 i 6) + 1)) i 7 ((gX6_of (gX6_sets f1 i 6 ((gX6_of f1 i 6) + 1)) i 7) + 0)) i 5) - 0)) 7) + 0)) (by omega) (sA_1 hs (by omega) c_20) (hg.trans (show gX6_steps_L4 f (fu + 1) i f1 = (gX6_steps_L4 f fu (i + 1) (upd (gX6_sets (gX6_sets (gX6_sets f1 i 6 ((gX6_of f1 i 6) + 1)) i 7 ((gX6_of (gX6_sets f1 i 6 ((gX6_of f1 i 6) + 1)) i 7) + 0)) i 5 ((gX6_of (gX6_sets (gX6_sets f1 i 6 ((gX6_of f1 i 6) + 1)) i 7 ((gX6_of (gX6_sets f1 i 6 ((gX6_of f1 i 6) + 1)) i 7) + 0)) i 5) - 0)) 7 (((gX6_sets (gX6_sets (gX6_sets f1 i 6 ((gX6_of f1 i 6) + 1)) i 7 ((gX6_of (gX6_sets f1 i 6 ((gX6_of f1 i 6) + 1)) i 7) + 0)) i 5 ((gX6_of (gX6_sets (gX6_sets f1 i 6 ((gX6_of f1 i 6) + 1)) i 7 ((gX6_of (gX6_sets f1 i 6 ((gX6_of f1 i 6) + 1)) i 7) + 0)) i 5) - 0)) 7) + 0))) from (Eq.trans (if_pos c_20) (Eq.trans (if_neg c_75) (Eq.trans (if_pos c_104) rfl))))) _ _ _ hP hD hS (lv_sub hl [2, 3, 0] rfl)
            · --f
              refine lv_iconst (v := 1) hx hb dX6_steps_107 (by decide) ?_
              refine lv_goto (tgt := 112) hx hb dX6_steps_108 (by decide) ?_
              refine lv_iadd hx hb dX6_steps_112 ?_
              refine xretv (va_runV (As := [.int (nI i), .int 7, .int ((gX6_of (gX6_sets f1 i 6 ((gX6_of f1 i 6) + 1)) i 7) + 1)]) (rest := []) ⟨hx, hb, hml, hown, hts⟩ (mX6_sets l D ck ma M (gX6_sets f1 i 6 ((gX6_of f1 i 6) + 1)) (nI i) i rfl (by omega) 7 7 rfl (by omega) ((gX6_of (gX6_sets f1 i 6 ((gX6_of f1 i 6) + 1)) i 7) + 1)  _) (cwV 3 hts gX6_steps_X6_sets rfl rfl rfl (by decide +kernel) ⟨Nat.le_of_ble_eq_true rfl, Nat.le_of_ble_eq_true rfl⟩) (xpreV hN hK hP hD pm_all 0 rfl rfl rfl) rfl rfl hl.1 rfl (lv_room (Nat.le_of_ble_eq_true rfl)) dX6_steps_113 ⟨Nat.le_of_ble_eq_true rfl, Nat.le_of_ble_eq_true rfl⟩) hP hD hS hA pm_all pm_all' (fun H locs hP hD hS => ?_)
              have hP : va_P D vwCl (coreW ck ma M (gX6_sets (gX6_sets f1 i 6 ((gX6_of f1 i 6) + 1)) i 7 ((gX6_of (gX6_sets f1 i 6 ((gX6_of f1 i 6) + 1)) i 7) + 1))) H := hP
              have hD : va_D (va_A (coreW ck ma M f) s.heap.size) (coreW ck ma M (gX6_sets (gX6_sets f1 i 6 ((gX6_of f1 i 6) + 1)) i 7 ((gX6_of (gX6_sets f1 i 6 ((gX6_of f1 i 6) + 1)) i 7) + 1))) := hD
              refine lv_aload_n hx hb dX6_steps_116 rfl (lv_at hl 1 rfl) ?_
              refine lv_iload_n hx hb dX6_steps_117 rfl (lv_at hl 3 rfl) ?_
              refine lv_iconst (v := 5) hx hb dX6_steps_118 (by decide) ?_
              refine lv_aload_n hx hb dX6_steps_119 rfl (lv_at hl 1 rfl) ?_
              refine lv_iload_n hx hb dX6_steps_120 rfl (lv_at hl 3 rfl) ?_
              refine lv_iconst (v := 5) hx hb dX6_steps_121 (by decide) ?_
              refine xreti (va_runV (As := [.int (nI i), .int 5]) (rest := [.int 5, .int (nI i), .ref (ma 0)]) ⟨hx, hb, hml, hown, hts⟩ (mX6_of l D ck ma M (gX6_sets (gX6_sets f1 i 6 ((gX6_of f1 i 6) + 1)) i 7 ((gX6_of (gX6_sets f1 i 6 ((gX6_of f1 i 6) + 1)) i 7) + 1)) (nI i) i rfl (by omega) 5 5 rfl (by omega)  _) (cwV 2 hts gX6_steps_X6_of rfl rfl rfl (by decide +kernel) ⟨Nat.le_of_ble_eq_true rfl, Nat.le_of_ble_eq_true rfl⟩) (xpreV hN hK hP hD pm_all 0 rfl rfl rfl) rfl rfl hl.1 rfl (lv_room (Nat.le_of_ble_eq_true rfl)) dX6_steps_122 ⟨Nat.le_of_ble_eq_true rfl, Nat.le_of_ble_eq_true rfl⟩) hP hD hS hA pm_all pm_all' (fun H locs hP hD hS => ?_)
              refine lv_iload_n hx hb dX6_steps_125 rfl (lv_at hl 0 rfl) ?_
              refine lv_isub hx hb dX6_steps_126 ?_
              refine xretv (va_runV (As := [.int (nI i), .int 5, .int ((gX6_of (gX6_sets (gX6_sets f1 i 6 ((gX6_of f1 i 6) + 1)) i 7 ((gX6_of (gX6_sets f1 i 6 ((gX6_of f1 i 6) + 1)) i 7) + 1)) i 5) - 0)]) (rest := []) ⟨hx, hb, hml, hown, hts⟩ (mX6_sets l D ck ma M (gX6_sets (gX6_sets f1 i 6 ((gX6_of f1 i 6) + 1)) i 7 ((gX6_of (gX6_sets f1 i 6 ((gX6_of f1 i 6) + 1)) i 7) + 1)) (nI i) i rfl (by omega) 5 5 rfl (by omega) ((gX6_of (gX6_sets (gX6_sets f1 i 6 ((gX6_of f1 i 6) + 1)) i 7 ((gX6_of (gX6_sets f1 i 6 ((gX6_of f1 i 6) + 1)) i 7) + 1)) i 5) - 0)  _) (cwV 3 hts gX6_steps_X6_sets rfl rfl rfl (by decide +kernel) ⟨Nat.le_of_ble_eq_true rfl, Nat.le_of_ble_eq_true rfl⟩) (xpreV hN hK hP hD pm_all 0 rfl rfl rfl) rfl rfl hl.1 rfl (lv_room (Nat.le_of_ble_eq_true rfl)) dX6_steps_127 ⟨Nat.le_of_ble_eq_true rfl, Nat.le_of_ble_eq_true rfl⟩) hP hD hS hA pm_all pm_all' (fun H locs hP hD hS => ?_)
              have hP : va_P D vwCl (coreW ck ma M (gX6_sets (gX6_sets (gX6_sets f1 i 6 ((gX6_of f1 i 6) + 1)) i 7 ((gX6_of (gX6_sets f1 i 6 ((gX6_of f1 i 6) + 1)) i 7) + 1)) i 5 ((gX6_of (gX6_sets (gX6_sets f1 i 6 ((gX6_of f1 i 6) + 1)) i 7 ((gX6_of (gX6_sets f1 i 6 ((gX6_of f1 i 6) + 1)) i 7) + 1)) i 5) - 0))) H := hP
              have hD : va_D (va_A (coreW ck ma M f) s.heap.size) (coreW ck ma M (gX6_sets (gX6_sets (gX6_sets f1 i 6 ((gX6_of f1 i 6) + 1)) i 7 ((gX6_of (gX6_sets f1 i 6 ((gX6_of f1 i 6) + 1)) i 7) + 1)) i 5 ((gX6_of (gX6_sets (gX6_sets f1 i 6 ((gX6_of f1 i 6) + 1)) i 7 ((gX6_of (gX6_sets f1 i 6 ((gX6_of f1 i 6) + 1)) i 7) + 1)) i 5) - 0))) := hD
              refine lv_aload_n hx hb dX6_steps_130 rfl (lv_at hl 1 rfl) ?_
              refine va_get (D := D) (ci := 6) (v := .ref (ma 1)) (C := RX6) (T := TX6) (N := 13) hx hb hts hinX6 hown hK hP 0 rfl rfl 0 (by decide) (hts (.fieldLink RX6 7 "JoinGrantsModel" "all" "[I") (List.mem_of_getElem? (i := 1) rfl)) (fun _ h9 => h9) rfl dX6_steps_131 ?_
              refine lv_bipush (v := 7) hx hb dX6_steps_134 (by decide) ?_
              refine lv_dup2_11 hx hb dX6_steps_136 rfl rfl ?_
              refine xiald (j := 7) (by decide) hx hb hK hP 1 0 rfl rfl (show vp_in 7 153 from by unfold vp_in; decide) dX6_steps_137 ?_
              refine lv_iload_n hx hb dX6_steps_138 rfl (lv_at hl 0 rfl) ?_
              refine lv_iadd hx hb dX6_steps_139 ?_
              refine xiast (j := 7) (by decide) hx hb hK hP hD hS 1 0 rfl rfl (show vp_in 7 153 from by unfold vp_in; decide) dX6_steps_140 (fun H locs hP hD hS => ?_)
              have hP : va_P D vwCl (coreW ck ma M (upd (gX6_sets (gX6_sets (gX6_sets f1 i 6 ((gX6_of f1 i 6) + 1)) i 7 ((gX6_of (gX6_sets f1 i 6 ((gX6_of f1 i 6) + 1)) i 7) + 1)) i 5 ((gX6_of (gX6_sets (gX6_sets f1 i 6 ((gX6_of f1 i 6) + 1)) i 7 ((gX6_of (gX6_sets f1 i 6 ((gX6_of f1 i 6) + 1)) i 7) + 1)) i 5) - 0)) 7 (((gX6_sets (gX6_sets (gX6_sets f1 i 6 ((gX6_of f1 i 6) + 1)) i 7 ((gX6_of (gX6_sets f1 i 6 ((gX6_of f1 i 6) + 1)) i 7) + 1)) i 5 ((gX6_of (gX6_sets (gX6_sets f1 i 6 ((gX6_of f1 i 6) + 1)) i 7 ((gX6_of (gX6_sets f1 i 6 ((gX6_of f1 i 6) + 1)) i 7) + 1)) i 5) - 0)) 7) + 0))) H := hP
              have hD : va_D (va_A (coreW ck ma M f) s.heap.size) (coreW ck ma M (upd (gX6_sets (gX6_sets (gX6_sets f1 i 6 ((gX6_of f1 i 6) + 1)) i 7 ((gX6_of (gX6_sets f1 i 6 ((gX6_of f1 i 6) + 1)) i 7) + 1)) i 5 ((gX6_of (gX6_sets (gX6_sets f1 i 6 ((gX6_of f1 i 6) + 1)) i 7 ((gX6_of (gX6_sets f1 i 6 ((gX6_of f1 i 6) + 1)) i 7) + 1)) i 5) - 0)) 7 (((gX6_sets (gX6_sets (gX6_sets f1 i 6 ((gX6_of f1 i 6) + 1)) i 7 ((gX6_of (gX6_sets f1 i 6 ((gX6_of f1 i 6) + 1)) i 7) + 1)) i 5 ((gX6_of (gX6_sets (gX6_sets f1 i 6 ((gX6_of f1 i 6) + 1)) i 7 ((gX6_of (gX6_sets f1 i 6 ((gX6_of f1 i 6) + 1)) i 7) + 1)) i 5) - 0)) 7) + 0))) := hD
              refine lv_iinc (v := (nI (i + 1))) (lv' := [(2, .int (nI (i + 1))), (3, .int 0), (0, .ref (ma 0)), (1, .int 0)]) hx hb dX6_steps_141 hl (k := 3) rfl (nI_1 i) (by decide) rfl (fun ls hl => ?_)
              refine lv_goto (tgt := 4) hx hb dX6_steps_144 (by decide) ?_
              exact ih4 (i + 1) (upd (gX6_sets (gX6_sets (gX6_sets f1 i 6 ((gX6_of f1 i 6) + 1)) i 7 ((gX6_of (gX6_sets f1 i 6 ((gX6_of f1 i 6) + 1)) i 7) + 1)) i 5 ((gX6_of (gX6_sets (gX6_sets f1 i 6 ((gX6_of f1 i 6) + 1)) i 7 ((gX6_of (gX6_sets f1 i 6 ((gX6_of f1 i 6) + 1)) i 7) + 1)) i 5) - 0)) 7 (((gX6_sets (gX6_sets (gX6_sets f1 i 6 ((gX6_of f1 i 6) + 1)) i 7 ((gX6_of (gX6_sets f1 i 6 ((gX6_of f1 i 6) + 1)) i 7) + 1)) i 5 ((gX6_of (gX6_sets (gX6_sets f1 i 6 ((gX6_of f1 i 6) + 1)) i 7 ((gX6_of (gX6_sets f1 i 6 ((gX6_of f1 i 6) + 1)) i 7) + 1)) i 5) - 0)) 7) + 0)) (by omega) (sA_1 hs (by omega) c_20) (hg.trans (show gX6_steps_L4 f (fu + 1) i f1 = (gX6_steps_L4 f fu (i + 1) (upd (gX6_sets (gX6_sets (gX6_sets f1 i 6 ((gX6_of f1 i 6) + 1)) i 7 ((gX6_of (gX6_sets f1 i 6 ((gX6_of f1 i 6) + 1)) i 7) + 1)) i 5 ((gX6_of (gX6_sets (gX6_sets f1 i 6 ((gX6_of f1 i 6) + 1)) i 7 ((gX6_of (gX6_sets f1 i 6 ((gX6_of f1 i 6) + 1)) i 7) + 1)) i 5) - 0)) 7 (((gX6_sets (gX6_sets (gX6_sets f1 i 6 ((gX6_of f1 i 6) + 1)) i 7 ((gX6_of (gX6_sets f1 i 6 ((gX6_of f1 i 6) + 1)) i 7) + 1)) i 5 ((gX6_of (gX6_sets (gX6_sets f1 i 6 ((gX6_of f1 i 6) + 1)) i 7 ((gX6_of (gX6_sets f1 i 6 ((gX6_of f1 i 6) + 1)) i 7) + 1)) i 5) - 0)) 7) + 0))) from (Eq.trans (if_pos c_20) (Eq.trans (if_neg c_75) (Eq.trans (if_neg c_104) rfl))))) _ _ _ hP hD hS (lv_sub hl [2, 3, 0] rfl)
  exact loop4 ((f 4).toNatClampNeg) 0 f (by omega) (sA_0 hm) (show gX6_steps f = (gX6_steps_L4 f ((f 4).toNatClampNeg) 0 f) from rfl) _ _ _ hP hD hS (lv_sub hl [2, 1, 0] rfl)

def rmX6_comes : Room := { frames := 9, cells := 0, slots := 0, locals := 211 }
set_option maxHeartbeats 4000000 in
set_option maxRecDepth 100000 in
theorem mX6_comes (l : Launch) (D : va_G) (ck : Nat → ClassId) (ma : Nat → Nat) (M : FS) (f : FS) (a1 : Int32) (a2 : Int32) (a3 : Int32) (hm : mInv f) (h16 : ¬ f 4 = 16) (hc : okJ a1 a2 a3) : xMv l yX6_comes wsX6_comes rmX6_comes D ck [.ref (ma 0), .int a1, .int a2, .int a3] (coreW ck ma M f) (coreW ck ma M (gX6_comes f a1 a2 a3)) 0 0 := by
  refine xMet (by decide) rfl (Nat.le_of_ble_eq_true rfl) ?_
  intro zp ze s zm zb zt zc hx hb hr hml hown hts hlk hnm hN hK hP hD ls hl
  have hown : s.vm.findClass RX6 = some zm.cls := hown
  have hl : lv_has ls 5 [(0, .ref (ma 0)), (1, .int a1), (2, .int a2), (3, .int a3)] := hl
  have hS : va_S (va_A (coreW ck ma M f) s.heap.size) s.heap s.heap [] := va_S.rf
  have hA : ∀ zq : Nat, s.heap.size ≤ zq → va_A (coreW ck ma M f) s.heap.size zq := fun zq h => Or.inr h
  have hinX6 : ∀ w ∈ u_ws RX6 TX6 13, w ∈ wsX6_comes := by decide +kernel
  refine lv_aload_n hx hb dX6_comes_0 rfl (lv_at hl 0 rfl) ?_
  refine va_get (D := D) (ci := 6) (v := .ref (ma 1)) (C := RX6) (T := TX6) (N := 13) hx hb hts hinX6 hown hK hP 0 rfl rfl 0 (by decide) (hts (.fieldLink RX6 7 "JoinGrantsModel" "all" "[I") (List.mem_of_getElem? (i := 1) rfl)) (fun _ h9 => h9) rfl dX6_comes_1 ?_
  refine lv_iconst (v := 4) hx hb dX6_comes_4 (by decide) ?_
  refine xiald (j := 4) (by decide) hx hb hK hP 1 0 rfl rfl (show vp_in 4 153 from by unfold vp_in; decide) dX6_comes_5 ?_
  refine lv_istore (lv' := [(4, .int (f 4)), (0, .ref (ma 0)), (1, .int a1), (2, .int a2), (3, .int a3)]) hx hb dX6_comes_6 hl (by decide) rfl (fun ls hl => ?_)
  have hn4 : f 4 = nI (f 4).toNatClampNeg := n4_of hm
  have hn16 : (f 4).toNatClampNeg < 16 := n16_of hm h16
  refine lv_aload_n hx hb dX6_comes_8 rfl (lv_at hl 1 rfl) ?_
  refine va_get (D := D) (ci := 6) (v := .ref (ma 1)) (C := RX6) (T := TX6) (N := 13) hx hb hts hinX6 hown hK hP 0 rfl rfl 0 (by decide) (hts (.fieldLink RX6 7 "JoinGrantsModel" "all" "[I") (List.mem_of_getElem? (i := 1) rfl)) (fun _ h9 => h9) rfl dX6_comes_9 ?_
  refine lv_iconst (v := 4) hx hb dX6_comes_12 (by decide) ?_
  refine lv_dup2_11 hx hb dX6_comes_13 rfl rfl ?_
  refine xiald (j := 4) (by decide) hx hb hK hP 1 0 rfl rfl (show vp_in 4 153 from by unfold vp_in; decide) dX6_comes_14 ?_
  refine lv_iconst (v := 1) hx hb dX6_comes_15 (by decide) ?_
  refine lv_iadd hx hb dX6_comes_16 ?_
  refine xiast (j := 4) (by decide) hx hb hK hP hD hS 1 0 rfl rfl (show vp_in 4 153 from by unfold vp_in; decide) dX6_comes_17 (fun H locs hP hD hS => ?_)
  have hP : va_P D vwCl (coreW ck ma M (upd f 4 ((f 4) + 1))) H := hP
  have hD : va_D (va_A (coreW ck ma M f) s.heap.size) (coreW ck ma M (upd f 4 ((f 4) + 1))) := hD
  refine lv_aload_n hx hb dX6_comes_18 rfl (lv_at hl 1 rfl) ?_
  refine lv_iload hx hb dX6_comes_19 (lv_at hl 0 rfl) ?_
  refine lv_iconst (v := 0) hx hb dX6_comes_21 (by decide) ?_
  refine lv_iload_n hx hb dX6_comes_22 rfl (lv_at hl 2 rfl) ?_
  refine xretv (va_runV (As := [.int (f 4), .int 0, .int a1]) (rest := []) ⟨hx, hb, hml, hown, hts⟩ (mX6_sets l D ck ma M (upd f 4 ((f 4) + 1)) (f 4) ((f 4).toNatClampNeg) hn4 (by omega) 0 0 rfl (by omega) a1  _) (cwV 3 hts gX6_comes_X6_sets rfl rfl rfl (by decide +kernel) ⟨Nat.le_of_ble_eq_true rfl, Nat.le_of_ble_eq_true rfl⟩) (xpreV hN hK hP hD pm_all 0 rfl rfl rfl) rfl rfl hl.1 rfl (lv_room (Nat.le_of_ble_eq_true rfl)) dX6_comes_23 ⟨Nat.le_of_ble_eq_true rfl, Nat.le_of_ble_eq_true rfl⟩) hP hD hS hA pm_all pm_all' (fun H locs hP hD hS => ?_)
  have hP : va_P D vwCl (coreW ck ma M (gX6_sets (upd f 4 ((f 4) + 1)) ((f 4).toNatClampNeg) 0 a1)) H := hP
  have hD : va_D (va_A (coreW ck ma M f) s.heap.size) (coreW ck ma M (gX6_sets (upd f 4 ((f 4) + 1)) ((f 4).toNatClampNeg) 0 a1)) := hD
  refine lv_aload_n hx hb dX6_comes_26 rfl (lv_at hl 1 rfl) ?_
  refine lv_iload hx hb dX6_comes_27 (lv_at hl 0 rfl) ?_
  refine lv_iconst (v := 1) hx hb dX6_comes_29 (by decide) ?_
  refine lv_iload_n hx hb dX6_comes_30 rfl (lv_at hl 3 rfl) ?_
  refine xretv (va_runV (As := [.int (f 4), .int 1, .int a2]) (rest := []) ⟨hx, hb, hml, hown, hts⟩ (mX6_sets l D ck ma M (gX6_sets (upd f 4 ((f 4) + 1)) ((f 4).toNatClampNeg) 0 a1) (f 4) ((f 4).toNatClampNeg) hn4 (by omega) 1 1 rfl (by omega) a2  _) (cwV 3 hts gX6_comes_X6_sets rfl rfl rfl (by decide +kernel) ⟨Nat.le_of_ble_eq_true rfl, Nat.le_of_ble_eq_true rfl⟩) (xpreV hN hK hP hD pm_all 0 rfl rfl rfl) rfl rfl hl.1 rfl (lv_room (Nat.le_of_ble_eq_true rfl)) dX6_comes_31 ⟨Nat.le_of_ble_eq_true rfl, Nat.le_of_ble_eq_true rfl⟩) hP hD hS hA pm_all pm_all' (fun H locs hP hD hS => ?_)
  have hP : va_P D vwCl (coreW ck ma M (gX6_sets (gX6_sets (upd f 4 ((f 4) + 1)) ((f 4).toNatClampNeg) 0 a1) ((f 4).toNatClampNeg) 1 a2)) H := hP
  have hD : va_D (va_A (coreW ck ma M f) s.heap.size) (coreW ck ma M (gX6_sets (gX6_sets (upd f 4 ((f 4) + 1)) ((f 4).toNatClampNeg) 0 a1) ((f 4).toNatClampNeg) 1 a2)) := hD
  refine lv_aload_n hx hb dX6_comes_34 rfl (lv_at hl 1 rfl) ?_
  refine lv_iload hx hb dX6_comes_35 (lv_at hl 0 rfl) ?_
  refine lv_iconst (v := 2) hx hb dX6_comes_37 (by decide) ?_
  refine lv_iload_n hx hb dX6_comes_38 rfl (lv_at hl 4 rfl) ?_
  refine xretv (va_runV (As := [.int (f 4), .int 2, .int a3]) (rest := []) ⟨hx, hb, hml, hown, hts⟩ (mX6_sets l D ck ma M (gX6_sets (gX6_sets (upd f 4 ((f 4) + 1)) ((f 4).toNatClampNeg) 0 a1) ((f 4).toNatClampNeg) 1 a2) (f 4) ((f 4).toNatClampNeg) hn4 (by omega) 2 2 rfl (by omega) a3  _) (cwV 3 hts gX6_comes_X6_sets rfl rfl rfl (by decide +kernel) ⟨Nat.le_of_ble_eq_true rfl, Nat.le_of_ble_eq_true rfl⟩) (xpreV hN hK hP hD pm_all 0 rfl rfl rfl) rfl rfl hl.1 rfl (lv_room (Nat.le_of_ble_eq_true rfl)) dX6_comes_39 ⟨Nat.le_of_ble_eq_true rfl, Nat.le_of_ble_eq_true rfl⟩) hP hD hS hA pm_all pm_all' (fun H locs hP hD hS => ?_)
  have hP : va_P D vwCl (coreW ck ma M (gX6_sets (gX6_sets (gX6_sets (upd f 4 ((f 4) + 1)) ((f 4).toNatClampNeg) 0 a1) ((f 4).toNatClampNeg) 1 a2) ((f 4).toNatClampNeg) 2 a3)) H := hP
  have hD : va_D (va_A (coreW ck ma M f) s.heap.size) (coreW ck ma M (gX6_sets (gX6_sets (gX6_sets (upd f 4 ((f 4) + 1)) ((f 4).toNatClampNeg) 0 a1) ((f 4).toNatClampNeg) 1 a2) ((f 4).toNatClampNeg) 2 a3)) := hD
  refine lv_aload_n hx hb dX6_comes_42 rfl (lv_at hl 1 rfl) ?_
  refine xretv (va_runV (As := []) (rest := []) ⟨hx, hb, hml, hown, hts⟩ (mX6_goesThrough l D ck ma M (gX6_sets (gX6_sets (gX6_sets (upd f 4 ((f 4) + 1)) ((f 4).toNatClampNeg) 0 a1) ((f 4).toNatClampNeg) 1 a2) ((f 4).toNatClampNeg) 2 a3)  (cm_inv hm h16 hc) _) (cwV 0 hts gX6_comes_X6_goesThrough rfl rfl rfl (by decide +kernel) ⟨Nat.le_of_ble_eq_true rfl, Nat.le_of_ble_eq_true rfl⟩) (xpreV hN hK hP hD pm_all 0 rfl rfl rfl) rfl rfl hl.1 rfl (lv_room (Nat.le_of_ble_eq_true rfl)) dX6_comes_43 ⟨Nat.le_of_ble_eq_true rfl, Nat.le_of_ble_eq_true rfl⟩) hP hD hS hA pm_all pm_all' (fun H locs hP hD hS => ?_)
  have hP : va_P D vwCl (coreW ck ma M (gX6_goesThrough (gX6_sets (gX6_sets (gX6_sets (upd f 4 ((f 4) + 1)) ((f 4).toNatClampNeg) 0 a1) ((f 4).toNatClampNeg) 1 a2) ((f 4).toNatClampNeg) 2 a3) )) H := hP
  have hD : va_D (va_A (coreW ck ma M f) s.heap.size) (coreW ck ma M (gX6_goesThrough (gX6_sets (gX6_sets (gX6_sets (upd f 4 ((f 4) + 1)) ((f 4).toNatClampNeg) 0 a1) ((f 4).toNatClampNeg) 1 a2) ((f 4).toNatClampNeg) 2 a3) )) := hD
  exact xvret hx hb hr hlk hP hD hS (congrArg (fun z => coreW ck ma M z) (show gX6_comes f a1 a2 a3 = (gX6_goesThrough (gX6_sets (gX6_sets (gX6_sets (upd f 4 ((f 4) + 1)) ((f 4).toNatClampNeg) 0 a1) ((f 4).toNatClampNeg) 1 a2) ((f 4).toNatClampNeg) 2 a3) ) from rfl)).symm dX6_comes_46
