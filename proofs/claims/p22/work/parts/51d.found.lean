theorem fd_ge {w a b g : Nat} (h : fOK w a b g) (hn : gX6_needsOf (nI w) (nI a) (nI b) ≤ nI g) : ¬ gX6_workOf (nI w) (nI a) (nI b) (nI g) < nI a + nI b := by
  have h1 := (wk_bd h hn).1
  obtain ⟨-, h2, h3, h4⟩ := h
  rw [x_ilt, nI_add, nI_toInt (by omega)]
  omega
theorem fd_n5 {w a b g : Nat} (h : fOK w a b g) (hn : gX6_needsOf (nI w) (nI a) (nI b) ≤ nI g) : ¬ gX6_workOf (nI w) (nI a) (nI b) (nI g) = -5 := by
  have h1 := (wk_bd h hn).1
  rw [i_eq, show (-5 : Int32).toInt = -5 from rfl]
  omega
theorem fd_n0 {w a b g : Nat} (h : fOK w a b g) (hn : gX6_needsOf (nI w) (nI a) (nI b) ≤ nI g) : ¬ gX6_workOf (nI w) (nI a) (nI b) (nI g) < 0 := by
  have h1 := (wk_bd h hn).1
  rw [x_ilt, i_0]
  omega
theorem fd_more {f : FS} {w a b g : Nat} (h : fOK w a b g) (hn : gX6_needsOf (nI w) (nI a) (nI b) ≤ nI g) (hg : g + 1 ≤ 500) : ¬ gX6_workOf (nI w) (nI a) (nI b) (nI g) < gX6_work f (nI w) (nI a) (nI b) (nI (g + 1)) := by
  obtain ⟨h1, h2, h3, h4⟩ := id h
  have hn' : gX6_needsOf (nI w) (nI a) (nI b) ≤ nI (g + 1) := by
    rw [x_ile, nI_toInt (by omega)] at hn ⊢
    omega
  have := wk_more h (by omega) hn
  rw [gd_args (g := g + 1) ⟨h1, h2, h3, by omega⟩, if_pos hn', x_ilt]
  omega
theorem fd_more2 {f : FS} {w a b g : Nat} (h : fOK w a b g) (hn : gX6_needsOf (nI w) (nI a) (nI b) ≤ nI g) (hg : ¬ g + 1 ≤ 500) : ¬ gX6_workOf (nI w) (nI a) (nI b) (nI g) < gX6_work f (nI w) (nI a) (nI b) (nI 500) := by
  obtain ⟨h1, h2, h3, h4⟩ := id h
  obtain rfl : g = 500 := by omega
  rw [gd_args h, if_pos hn, x_ilt]
  omega
theorem fd_needs {w a b g : Nat} (h : fOK w a b g) (hg : ¬ nI g < nI 450) : gX6_needsOf (nI w) (nI a) (nI b) ≤ nI g := by
  have := (needs_bd (fOK_w h)).2
  obtain ⟨-, h2, h3, h4⟩ := h
  rw [x_ilt, nI_toInt (by omega), nI_toInt (by decide)] at hg
  rw [x_ile, nI_toInt (by omega)]
  omega
theorem fd_450 {w a b g : Nat} (h : fOK w a b g) (hn : gX6_needsOf (nI w) (nI a) (nI b) ≤ nI g) (hg : ¬ nI g < nI 450) : gX6_workOf (nI w) (nI a) (nI b) (nI g) = nI a + nI b := by
  have h1 := (wk_bd h hn).2
  obtain ⟨-, h2, h3, h4⟩ := h
  rw [x_ilt, nI_toInt (by omega), nI_toInt (by decide)] at hg
  rw [i_eq, nI_add, nI_toInt (by omega), h1 (by omega)]
  omega
def rmL_isFound : Room := { frames := 5, cells := 0, slots := 0, locals := 111 }
set_option maxHeartbeats 16000000 in
set_option maxRecDepth 100000 in
theorem mL_isFound (l : Launch) (D : va_G) (ck : Nat → ClassId) (ca : Nat → Nat → Nat) (C : CS) (f : FS) (hC : LR C f) (a b g : Nat) (hq : fOK 0 a b g) : xMe l yL_isFound wsL_isFound rmL_isFound D ck [.ref (ca 0 0), .int (nI a), .int (nI b), .int (nI g)] (clW ck ca C) (fun u : CS => clW ck ca u) (fun u : CS => LR u f) (fun _ => 1) 0 0 := by
  refine xMet (by decide) rfl (Nat.le_of_ble_eq_true rfl) ?_
  intro zp ze s zm zb zt zc hx hb hr hml hown hts hlk hnm hN hK hP hD ls hl
  have hown : s.vm.findClass RL = some zm.cls := hown
  obtain ⟨-, hqa, hqb, hqg⟩ := id hq
  have hl : lv_has ls 10 [(0, .ref (ca 0 0)), (1, .int (nI a)), (2, .int (nI b)), (3, .int (nI g))] := hl
  have hS : va_S (va_A (clW ck ca C) s.heap.size) s.heap s.heap [] := va_S.rf
  have hA : ∀ zq : Nat, s.heap.size ≤ zq → (va_A (clW ck ca C) s.heap.size) zq := fun zq h => Or.inr h
  refine lv_aload_n hx hb dL_isFound_0 rfl (lv_at hl 0 rfl) ?_
  refine lv_iload_n hx hb dL_isFound_1 rfl (lv_at hl 1 rfl) ?_
  refine lv_iload_n hx hb dL_isFound_2 rfl (lv_at hl 2 rfl) ?_
  refine lv_iload_n hx hb dL_isFound_3 rfl (lv_at hl 3 rfl) ?_
  refine xreti (va_runV (As := [.int (nI a), .int (nI b), .int (nI g)]) (rest := []) ⟨hx, hb, hml, hown, hts⟩ (mX5_bestWay l D ck ca C (nI a) (nI b) (nI g) _) (cwV 3 hts gL_isFound_X5_bestWay rfl rfl rfl (by decide +kernel) ⟨Nat.le_of_ble_eq_true rfl, Nat.le_of_ble_eq_true rfl⟩) (xpreV hN hK hP hD pm_all 0 rfl rfl rfl) rfl rfl hl.1 rfl (lv_room (Nat.le_of_ble_eq_true rfl)) dL_isFound_4 ⟨Nat.le_of_ble_eq_true rfl, Nat.le_of_ble_eq_true rfl⟩) hP hD hS hA pm_all pm_all' (fun H locs hP hD hS => ?_)
  have hP : va_P D vwCl (clW ck ca ((gX5_bestWay C (nI a) (nI b) (nI g)).2)) H := hP
  have hD : va_D (va_A (clW ck ca C) s.heap.size) (clW ck ca ((gX5_bestWay C (nI a) (nI b) (nI g)).2)) := hD
  obtain ⟨hbw1, hC1⟩ := eq_best (a := nI a) (b := nI b) (d := nI g) hC
  obtain ⟨t, hbw2, hB⟩ := bw_all (f := f) hq
  obtain ⟨ht3, htn, htb⟩ := id hB
  have hqt : fOK t a b g := ⟨ht3, hqa, hqb, hqg⟩
  rw [hbw1, hbw2]
  generalize (gX5_bestWay C (nI a) (nI b) (nI g)).2 = C1 at hP hD hC1
  have hP : va_P D vwCl (clW ck ca C1) H := hP
  have hD : va_D (va_A (clW ck ca C) s.heap.size) (clW ck ca C1) := hD
  refine lv_istore (lv' := [(4, .int (nI t)), (0, .ref (ca 0 0)), (1, .int (nI a)), (2, .int (nI b)), (3, .int (nI g))]) hx hb dL_isFound_7 hl (by decide) rfl (fun ls hl => ?_)
  refine lv_aload_n hx hb dL_isFound_9 rfl (lv_at hl 1 rfl) ?_
  refine lv_iload hx hb dL_isFound_10 (lv_at hl 0 rfl) ?_
  refine lv_iload_n hx hb dL_isFound_12 rfl (lv_at hl 2 rfl) ?_
  refine lv_iload_n hx hb dL_isFound_13 rfl (lv_at hl 3 rfl) ?_
  refine lv_iload_n hx hb dL_isFound_14 rfl (lv_at hl 4 rfl) ?_
  refine xreti (va_runV (As := [.int (nI t), .int (nI a), .int (nI b), .int (nI g)]) (rest := []) ⟨hx, hb, hml, hown, hts⟩ (mX5_work l D ck ca C1 (nI t) (nI a) (nI b) (nI g) _) (cwV 4 hts gL_isFound_X5_work rfl rfl rfl (by decide +kernel) ⟨Nat.le_of_ble_eq_true rfl, Nat.le_of_ble_eq_true rfl⟩) (xpreV hN hK hP hD pm_all 0 rfl rfl rfl) rfl rfl hl.1 rfl (lv_room (Nat.le_of_ble_eq_true rfl)) dL_isFound_15 ⟨Nat.le_of_ble_eq_true rfl, Nat.le_of_ble_eq_true rfl⟩) hP hD hS hA pm_all pm_all' (fun H locs hP hD hS => ?_)
  have hP : va_P D vwCl (clW ck ca ((gX5_work C1 (nI t) (nI a) (nI b) (nI g)).2)) H := hP
  have hD : va_D (va_A (clW ck ca C) s.heap.size) (clW ck ca ((gX5_work C1 (nI t) (nI a) (nI b) (nI g)).2)) := hD
  obtain ⟨hwk2, hC2⟩ := eq_workc (w := (nI t)) (a := (nI a)) (b := (nI b)) (d := (nI g)) hC1
  rw [hwk2]
  generalize (gX5_work C1 (nI t) (nI a) (nI b) (nI g)).2 = C2 at hP hD hC2
  have hP : va_P D vwCl (clW ck ca C2) H := hP
  have hD : va_D (va_A (clW ck ca C) s.heap.size) (clW ck ca C2) := hD
  rw [gd_args hqt, if_pos htn]
  refine lv_istore (lv' := [(5, .int (gX6_workOf (nI t) (nI a) (nI b) (nI g))), (4, .int (nI t)), (0, .ref (ca 0 0)), (1, .int (nI a)), (2, .int (nI b)), (3, .int (nI g))]) hx hb dL_isFound_18 hl (by decide) rfl (fun ls hl => ?_)
  refine lv_iload hx hb dL_isFound_20 (lv_at hl 1 rfl) ?_
  refine lv_if_lt (tgt := 43) hx hb dL_isFound_22 (by decide) (fun c_22 => ?_) (fun c_22 => ?_)
  · --t
    exact absurd c_22 (nI_pos (by omega))
  · --f
    refine lv_iload hx hb dL_isFound_25 (lv_at hl 1 rfl) ?_
    refine lv_iconst (v := (nI 3)) hx hb dL_isFound_27 (by decide) ?_
    refine lv_icmp_ge (tgt := 43) hx hb dL_isFound_28 (by decide) (fun c_28 => ?_) (fun c_28 => ?_)
    · --t
      exact absurd c_28 (nI_ge (by omega) (by omega))
    · --f
      refine lv_iload hx hb dL_isFound_31 (lv_at hl 0 rfl) ?_
      refine lv_iload_n hx hb dL_isFound_33 rfl (lv_at hl 3 rfl) ?_
      refine lv_iload_n hx hb dL_isFound_34 rfl (lv_at hl 4 rfl) ?_
      refine lv_iadd hx hb dL_isFound_35 ?_
      refine lv_icmp_lt (tgt := 43) hx hb dL_isFound_36 (by decide) (fun c_36 => ?_) (fun c_36 => ?_)
      · --t
        exact absurd c_36 (fd_ge hqt htn)
      · --f
        refine lv_iconst (v := 1) hx hb dL_isFound_39 (by decide) ?_
        refine lv_goto (tgt := 44) hx hb dL_isFound_40 (by decide) ?_
        refine lv_istore (lv' := [(6, .int 1), (5, .int (gX6_workOf (nI t) (nI a) (nI b) (nI g))), (4, .int (nI t)), (0, .ref (ca 0 0)), (1, .int (nI a)), (2, .int (nI b)), (3, .int (nI g))]) hx hb dL_isFound_44 hl (by decide) rfl (fun ls hl => ?_)
        refine lv_iconst (v := (nI 0)) hx hb dL_isFound_46 (by decide) ?_
        refine lv_istore (lv' := [(7, .int (nI 0)), (6, .int 1), (5, .int (gX6_workOf (nI t) (nI a) (nI b) (nI g))), (4, .int (nI t)), (0, .ref (ca 0 0)), (1, .int (nI a)), (2, .int (nI b)), (3, .int (nI g))]) hx hb dL_isFound_47 hl (by decide) rfl (fun ls hl => ?_)
        have loop49 : ∀ (fu49 : Nat) (w : Nat) (C3 : CS), (w + fu49 = 3) → (LR C3 f) → ∀ (H : Heap) (locs : List Loc) (ls : Array Slot), va_P D vwCl (clW ck ca C3) H → va_D (va_A (clW ck ca C) s.heap.size) (clW ck ca C3) → va_S (va_A (clW ck ca C) s.heap.size) s.heap H locs → lv_has ls 10 [(0, .ref (ca 0 0)), (1, .int (nI a)), (2, .int (nI b)), (3, .int (nI g)), (4, .int (nI t)), (5, .int (gX6_workOf (nI t) (nI a) (nI b) (nI g))), (6, .int 1), (7, .int (nI w))] → W zp l ze rmL_isFound s zm ([.ref (ca 0 0), .int (nI a), .int (nI b), .int (nI g)] : List Value).toArray zb zt zc H locs 0 0 (MQ zb (xQe D (clW ck ca C) (fun u : CS => clW ck ca u) (fun u : CS => LR u f) (fun _ => 1) s.heap.size) ([.ref (ca 0 0), .int (nI a), .int (nI b), .int (nI g)] : List Value).toArray s 0 0 (va_A (clW ck ca C) s.heap.size)) (F0 zm 49 ls []) := by
          intro fu49
          induction fu49 with
          | zero =>
              intro w C3 hf49 hC3 H locs ls hP hD hS hl
              refine lv_iload hx hb dL_isFound_49 (lv_at hl 7 rfl) ?_
              refine lv_iconst (v := (nI 3)) hx hb dL_isFound_51 (by decide) ?_
              refine lv_icmp_ge (tgt := 179) hx hb dL_isFound_52 (by decide) (fun c_52 => ?_) (fun c_52 => ?_)
              · --t
                refine lv_iload hx hb dL_isFound_179 (lv_at hl 6 rfl) ?_
                exact xezret C3 hC3 hx hb hr hlk hP hD hS (Or.inr rfl) rfl rfl dL_isFound_181
              · --f
                exact absurd (nI_le (by omega) (by omega)) c_52
          | succ fu49 ih49 =>
              intro w C3 hf49 hC3 H locs ls hP hD hS hl
              refine lv_iload hx hb dL_isFound_49 (lv_at hl 7 rfl) ?_
              refine lv_iconst (v := (nI 3)) hx hb dL_isFound_51 (by decide) ?_
              refine lv_icmp_ge (tgt := 179) hx hb dL_isFound_52 (by decide) (fun c_52 => ?_) (fun c_52 => ?_)
              · --t
                exact absurd c_52 (nI_ge (by omega) (by omega))
              · --f
                refine lv_aload_n hx hb dL_isFound_55 rfl (lv_at hl 0 rfl) ?_
                refine lv_iload hx hb dL_isFound_56 (lv_at hl 7 rfl) ?_
                refine lv_iload_n hx hb dL_isFound_58 rfl (lv_at hl 1 rfl) ?_
                refine lv_iload_n hx hb dL_isFound_59 rfl (lv_at hl 2 rfl) ?_
                refine lv_iload_n hx hb dL_isFound_60 rfl (lv_at hl 3 rfl) ?_
                refine xreti (va_runV (As := [.int (nI w), .int (nI a), .int (nI b), .int (nI g)]) (rest := []) ⟨hx, hb, hml, hown, hts⟩ (mX5_work l D ck ca C3 (nI w) (nI a) (nI b) (nI g) _) (cwV 4 hts gL_isFound_X5_work rfl rfl rfl (by decide +kernel) ⟨Nat.le_of_ble_eq_true rfl, Nat.le_of_ble_eq_true rfl⟩) (xpreV hN hK hP hD pm_all 0 rfl rfl rfl) rfl rfl hl.1 rfl (lv_room (Nat.le_of_ble_eq_true rfl)) dL_isFound_61 ⟨Nat.le_of_ble_eq_true rfl, Nat.le_of_ble_eq_true rfl⟩) hP hD hS hA pm_all pm_all' (fun H locs hP hD hS => ?_)
                have hP : va_P D vwCl (clW ck ca ((gX5_work C3 (nI w) (nI a) (nI b) (nI g)).2)) H := hP
                have hD : va_D (va_A (clW ck ca C) s.heap.size) (clW ck ca ((gX5_work C3 (nI w) (nI a) (nI b) (nI g)).2)) := hD
                obtain ⟨hwk4, hC4⟩ := eq_workc (w := (nI w)) (a := (nI a)) (b := (nI b)) (d := (nI g)) hC3
                rw [hwk4]
                generalize (gX5_work C3 (nI w) (nI a) (nI b) (nI g)).2 = C4 at hP hD hC4
                have hP : va_P D vwCl (clW ck ca C4) H := hP
                have hD : va_D (va_A (clW ck ca C) s.heap.size) (clW ck ca C4) := hD
                have hqw : fOK w a b g := ⟨by omega, hqa, hqb, hqg⟩
                rw [gd_args hqw]
                by_cases hn4 : gX6_needsOf (nI w) (nI a) (nI b) ≤ nI g
                · --A
                  rw [if_pos hn4]
                  refine lv_istore (lv' := [(8, .int (gX6_workOf (nI w) (nI a) (nI b) (nI g))), (0, .ref (ca 0 0)), (1, .int (nI a)), (2, .int (nI b)), (3, .int (nI g)), (4, .int (nI t)), (5, .int (gX6_workOf (nI t) (nI a) (nI b) (nI g))), (6, .int 1), (7, .int (nI w))]) hx hb dL_isFound_64 hl (by decide) rfl (fun ls hl => ?_)
                  refine lv_aload_n hx hb dL_isFound_66 rfl (lv_at hl 1 rfl) ?_
                  refine lv_iload hx hb dL_isFound_67 (lv_at hl 8 rfl) ?_
                  refine lv_iload_n hx hb dL_isFound_69 rfl (lv_at hl 2 rfl) ?_
                  refine lv_iload_n hx hb dL_isFound_70 rfl (lv_at hl 3 rfl) ?_
                  refine lv_iload_n hx hb dL_isFound_71 rfl (lv_at hl 4 rfl) ?_
                  refine lv_iconst (v := 1) hx hb dL_isFound_72 (by decide) ?_
                  refine lv_iadd hx hb dL_isFound_73 ?_
                  rw [show (((nI g) + 1) : Int32) = (nI (g + 1)) from (nI_1 g)]
                  refine lv_sipush (v := (nI 500)) hx hb dL_isFound_74 (by decide) ?_
                  refine lv_icmp_le (tgt := 86) hx hb dL_isFound_77 (by decide) (fun c_77 => ?_) (fun c_77 => ?_)
                  · --t
                    refine lv_iload_n hx hb dL_isFound_86 rfl (lv_at hl 4 rfl) ?_
                    refine lv_iconst (v := 1) hx hb dL_isFound_87 (by decide) ?_
                    refine lv_iadd hx hb dL_isFound_88 ?_
                    rw [show (((nI g) + 1) : Int32) = (nI (g + 1)) from (nI_1 g)]
                    refine xreti (va_runV (As := [.int (nI w), .int (nI a), .int (nI b), .int (nI (g + 1))]) (rest := []) ⟨hx, hb, hml, hown, hts⟩ (mX5_work l D ck ca C4 (nI w) (nI a) (nI b) (nI (g + 1)) _) (cwV 4 hts gL_isFound_X5_work rfl rfl rfl (by decide +kernel) ⟨Nat.le_of_ble_eq_true rfl, Nat.le_of_ble_eq_true rfl⟩) (xpreV hN hK hP hD pm_all 0 rfl rfl rfl) rfl rfl hl.1 rfl (lv_room (Nat.le_of_ble_eq_true rfl)) dL_isFound_89 ⟨Nat.le_of_ble_eq_true rfl, Nat.le_of_ble_eq_true rfl⟩) hP hD hS hA pm_all pm_all' (fun H locs hP hD hS => ?_)
                    have hP : va_P D vwCl (clW ck ca ((gX5_work C4 (nI w) (nI a) (nI b) (nI (g + 1))).2)) H := hP
                    have hD : va_D (va_A (clW ck ca C) s.heap.size) (clW ck ca ((gX5_work C4 (nI w) (nI a) (nI b) (nI (g + 1))).2)) := hD
                    obtain ⟨hwk5, hC5⟩ := eq_workc (w := (nI w)) (a := (nI a)) (b := (nI b)) (d := (nI (g + 1))) hC4
                    rw [hwk5]
                    generalize (gX5_work C4 (nI w) (nI a) (nI b) (nI (g + 1))).2 = C5 at hP hD hC5
                    have hP : va_P D vwCl (clW ck ca C5) H := hP
                    have hD : va_D (va_A (clW ck ca C) s.heap.size) (clW ck ca C5) := hD
                    refine lv_istore (lv' := [(9, .int (gX6_work f (nI w) (nI a) (nI b) (nI (g + 1)))), (8, .int (gX6_workOf (nI w) (nI a) (nI b) (nI g))), (0, .ref (ca 0 0)), (1, .int (nI a)), (2, .int (nI b)), (3, .int (nI g)), (4, .int (nI t)), (5, .int (gX6_workOf (nI t) (nI a) (nI b) (nI g))), (6, .int 1), (7, .int (nI w))]) hx hb dL_isFound_92 hl (by decide) rfl (fun ls hl => ?_)
                    refine lv_iload hx hb dL_isFound_94 (lv_at hl 8 rfl) ?_
                    refine lv_if_eq (tgt := 170) hx hb dL_isFound_96 (by decide) (fun c_96 => ?_) (fun c_96 => ?_)
                    · --t
                      exact absurd c_96 (by decide)
                    · --f
                      refine lv_iload hx hb dL_isFound_99 (lv_at hl 1 rfl) ?_
                      refine lv_bipush (v := (-5)) hx hb dL_isFound_101 (by decide) ?_
                      refine lv_icmp_eq (tgt := 127) hx hb dL_isFound_103 (by decide) (fun c_103 => ?_) (fun c_103 => ?_)
                      · --t
                        exact absurd c_103 (fd_n5 hqw hn4)
                      · --f
                        refine lv_iload hx hb dL_isFound_106 (lv_at hl 1 rfl) ?_
                        refine lv_iload hx hb dL_isFound_108 (lv_at hl 7 rfl) ?_
                        refine lv_icmp_lt (tgt := 170) hx hb dL_isFound_110 (by decide) (fun c_110 => ?_) (fun c_110 => ?_)
                        · --t
                          exact absurd c_110 (fun z => by rw [x_ilt] at z; have := (htb w (by omega) hn4).1; omega)
                        · --f
                          refine lv_iload hx hb dL_isFound_113 (lv_at hl 9 rfl) ?_
                          refine lv_iload hx hb dL_isFound_115 (lv_at hl 6 rfl) ?_
                          refine lv_icmp_ge (tgt := 127) hx hb dL_isFound_117 (by decide) (fun c_117 => ?_) (fun c_117 => ?_)
                          · --t
                            refine lv_iload hx hb dL_isFound_127 (lv_at hl 1 rfl) ?_
                            refine lv_if_lt (tgt := 139) hx hb dL_isFound_129 (by decide) (fun c_129 => ?_) (fun c_129 => ?_)
                            · --t
                              exact absurd c_129 (fd_n0 hqw hn4)
                            · --f
                              refine lv_iload hx hb dL_isFound_132 (lv_at hl 0 rfl) ?_
                              refine lv_iload hx hb dL_isFound_134 (lv_at hl 1 rfl) ?_
                              refine lv_icmp_gt (tgt := 170) hx hb dL_isFound_136 (by decide) (fun c_136 => ?_) (fun c_136 => ?_)
                              · --t
                                exact absurd c_136 (fd_more hqw hn4 ((nI_leI (by omega) (by decide)).mp c_77))
                              · --f
                                refine lv_iload_n hx hb dL_isFound_139 rfl (lv_at hl 5 rfl) ?_
                                refine lv_sipush (v := (nI 450)) hx hb dL_isFound_140 (by decide) ?_
                                refine lv_icmp_lt (tgt := 166) hx hb dL_isFound_143 (by decide) (fun c_143 => ?_) (fun c_143 => ?_)
                                · --t
                                  refine lv_iconst (v := 1) hx hb dL_isFound_166 (by decide) ?_
                                  refine lv_goto (tgt := 171) hx hb dL_isFound_167 (by decide) ?_
                                  refine lv_istore (lv' := [(6, .int 1), (9, .int (gX6_work f (nI w) (nI a) (nI b) (nI (g + 1)))), (8, .int (gX6_workOf (nI w) (nI a) (nI b) (nI g))), (0, .ref (ca 0 0)), (1, .int (nI a)), (2, .int (nI b)), (3, .int (nI g)), (4, .int (nI t)), (5, .int (gX6_workOf (nI t) (nI a) (nI b) (nI g))), (7, .int (nI w))]) hx hb dL_isFound_171 hl (by decide) rfl (fun ls hl => ?_)
                                  refine lv_iinc (v := (nI (w + 1))) (lv' := [(7, .int (nI (w + 1))), (6, .int 1), (9, .int (gX6_work f (nI w) (nI a) (nI b) (nI (g + 1)))), (8, .int (gX6_workOf (nI w) (nI a) (nI b) (nI g))), (0, .ref (ca 0 0)), (1, .int (nI a)), (2, .int (nI b)), (3, .int (nI g)), (4, .int (nI t)), (5, .int (gX6_workOf (nI t) (nI a) (nI b) (nI g)))]) hx hb dL_isFound_173 hl (k := 9) rfl (nI_1 w) (by decide) rfl (fun ls hl => ?_)
                                  refine lv_goto (tgt := 49) hx hb dL_isFound_176 (by decide) ?_
                                  exact ih49 (w + 1) C5 (by omega) hC5 _ _ _ hP hD hS (lv_sub hl [4, 5, 6, 7, 8, 9, 1, 0] rfl)
                                · --f
                                  refine lv_iload hx hb dL_isFound_146 (lv_at hl 1 rfl) ?_
                                  refine lv_iload_n hx hb dL_isFound_148 rfl (lv_at hl 3 rfl) ?_
                                  refine lv_iload_n hx hb dL_isFound_149 rfl (lv_at hl 4 rfl) ?_
                                  refine lv_iadd hx hb dL_isFound_150 ?_
                                  refine lv_icmp_eq (tgt := 166) hx hb dL_isFound_151 (by decide) (fun c_151 => ?_) (fun c_151 => ?_)
                                  · --t
                                    refine lv_iconst (v := 1) hx hb dL_isFound_166 (by decide) ?_
                                    refine lv_goto (tgt := 171) hx hb dL_isFound_167 (by decide) ?_
                                    refine lv_istore (lv' := [(6, .int 1), (9, .int (gX6_work f (nI w) (nI a) (nI b) (nI (g + 1)))), (8, .int (gX6_workOf (nI w) (nI a) (nI b) (nI g))), (0, .ref (ca 0 0)), (1, .int (nI a)), (2, .int (nI b)), (3, .int (nI g)), (4, .int (nI t)), (5, .int (gX6_workOf (nI t) (nI a) (nI b) (nI g))), (7, .int (nI w))]) hx hb dL_isFound_171 hl (by decide) rfl (fun ls hl => ?_)
                                    refine lv_iinc (v := (nI (w + 1))) (lv' := [(7, .int (nI (w + 1))), (6, .int 1), (9, .int (gX6_work f (nI w) (nI a) (nI b) (nI (g + 1)))), (8, .int (gX6_workOf (nI w) (nI a) (nI b) (nI g))), (0, .ref (ca 0 0)), (1, .int (nI a)), (2, .int (nI b)), (3, .int (nI g)), (4, .int (nI t)), (5, .int (gX6_workOf (nI t) (nI a) (nI b) (nI g)))]) hx hb dL_isFound_173 hl (k := 9) rfl (nI_1 w) (by decide) rfl (fun ls hl => ?_)
                                    refine lv_goto (tgt := 49) hx hb dL_isFound_176 (by decide) ?_
                                    exact ih49 (w + 1) C5 (by omega) hC5 _ _ _ hP hD hS (lv_sub hl [4, 5, 6, 7, 8, 9, 1, 0] rfl)
                                  · --f
                                    exact absurd (fd_450 hqw hn4 c_143) c_151
                          · --f
                            refine lv_iload hx hb dL_isFound_120 (lv_at hl 1 rfl) ?_
                            refine lv_iload hx hb dL_isFound_122 (lv_at hl 7 rfl) ?_
                            refine lv_icmp_le (tgt := 170) hx hb dL_isFound_124 (by decide) (fun c_124 => ?_) (fun c_124 => ?_)
                            · --t
                              exact absurd c_124 (fun z => by rw [x_ile] at z; rcases (htb w (by omega) hn4).2 with q | q; exact c_117 (nI_le q (by omega)); omega)
                            · --f
                              refine lv_iload hx hb dL_isFound_127 (lv_at hl 1 rfl) ?_
                              refine lv_if_lt (tgt := 139) hx hb dL_isFound_129 (by decide) (fun c_129 => ?_) (fun c_129 => ?_)
                              · --t
                                exact absurd c_129 (fd_n0 hqw hn4)
                              · --f
                                refine lv_iload hx hb dL_isFound_132 (lv_at hl 0 rfl) ?_
                                refine lv_iload hx hb dL_isFound_134 (lv_at hl 1 rfl) ?_
                                refine lv_icmp_gt (tgt := 170) hx hb dL_isFound_136 (by decide) (fun c_136 => ?_) (fun c_136 => ?_)
                                · --t
                                  exact absurd c_136 (fd_more hqw hn4 ((nI_leI (by omega) (by decide)).mp c_77))
                                · --f
                                  refine lv_iload_n hx hb dL_isFound_139 rfl (lv_at hl 5 rfl) ?_
                                  refine lv_sipush (v := (nI 450)) hx hb dL_isFound_140 (by decide) ?_
                                  refine lv_icmp_lt (tgt := 166) hx hb dL_isFound_143 (by decide) (fun c_143 => ?_) (fun c_143 => ?_)
                                  · --t
                                    refine lv_iconst (v := 1) hx hb dL_isFound_166 (by decide) ?_
                                    refine lv_goto (tgt := 171) hx hb dL_isFound_167 (by decide) ?_
                                    refine lv_istore (lv' := [(6, .int 1), (9, .int (gX6_work f (nI w) (nI a) (nI b) (nI (g + 1)))), (8, .int (gX6_workOf (nI w) (nI a) (nI b) (nI g))), (0, .ref (ca 0 0)), (1, .int (nI a)), (2, .int (nI b)), (3, .int (nI g)), (4, .int (nI t)), (5, .int (gX6_workOf (nI t) (nI a) (nI b) (nI g))), (7, .int (nI w))]) hx hb dL_isFound_171 hl (by decide) rfl (fun ls hl => ?_)
                                    refine lv_iinc (v := (nI (w + 1))) (lv' := [(7, .int (nI (w + 1))), (6, .int 1), (9, .int (gX6_work f (nI w) (nI a) (nI b) (nI (g + 1)))), (8, .int (gX6_workOf (nI w) (nI a) (nI b) (nI g))), (0, .ref (ca 0 0)), (1, .int (nI a)), (2, .int (nI b)), (3, .int (nI g)), (4, .int (nI t)), (5, .int (gX6_workOf (nI t) (nI a) (nI b) (nI g)))]) hx hb dL_isFound_173 hl (k := 9) rfl (nI_1 w) (by decide) rfl (fun ls hl => ?_)
                                    refine lv_goto (tgt := 49) hx hb dL_isFound_176 (by decide) ?_
                                    exact ih49 (w + 1) C5 (by omega) hC5 _ _ _ hP hD hS (lv_sub hl [4, 5, 6, 7, 8, 9, 1, 0] rfl)
                                  · --f
                                    refine lv_iload hx hb dL_isFound_146 (lv_at hl 1 rfl) ?_
                                    refine lv_iload_n hx hb dL_isFound_148 rfl (lv_at hl 3 rfl) ?_
                                    refine lv_iload_n hx hb dL_isFound_149 rfl (lv_at hl 4 rfl) ?_
                                    refine lv_iadd hx hb dL_isFound_150 ?_
                                    refine lv_icmp_eq (tgt := 166) hx hb dL_isFound_151 (by decide) (fun c_151 => ?_) (fun c_151 => ?_)
                                    · --t
                                      refine lv_iconst (v := 1) hx hb dL_isFound_166 (by decide) ?_
                                      refine lv_goto (tgt := 171) hx hb dL_isFound_167 (by decide) ?_
                                      refine lv_istore (lv' := [(6, .int 1), (9, .int (gX6_work f (nI w) (nI a) (nI b) (nI (g + 1)))), (8, .int (gX6_workOf (nI w) (nI a) (nI b) (nI g))), (0, .ref (ca 0 0)), (1, .int (nI a)), (2, .int (nI b)), (3, .int (nI g)), (4, .int (nI t)), (5, .int (gX6_workOf (nI t) (nI a) (nI b) (nI g))), (7, .int (nI w))]) hx hb dL_isFound_171 hl (by decide) rfl (fun ls hl => ?_)
                                      refine lv_iinc (v := (nI (w + 1))) (lv' := [(7, .int (nI (w + 1))), (6, .int 1), (9, .int (gX6_work f (nI w) (nI a) (nI b) (nI (g + 1)))), (8, .int (gX6_workOf (nI w) (nI a) (nI b) (nI g))), (0, .ref (ca 0 0)), (1, .int (nI a)), (2, .int (nI b)), (3, .int (nI g)), (4, .int (nI t)), (5, .int (gX6_workOf (nI t) (nI a) (nI b) (nI g)))]) hx hb dL_isFound_173 hl (k := 9) rfl (nI_1 w) (by decide) rfl (fun ls hl => ?_)
                                      refine lv_goto (tgt := 49) hx hb dL_isFound_176 (by decide) ?_
                                      exact ih49 (w + 1) C5 (by omega) hC5 _ _ _ hP hD hS (lv_sub hl [4, 5, 6, 7, 8, 9, 1, 0] rfl)
                                    · --f
                                      exact absurd (fd_450 hqw hn4 c_143) c_151
                  · --f
                    refine lv_sipush (v := (nI 500)) hx hb dL_isFound_80 (by decide) ?_
                    refine lv_goto (tgt := 89) hx hb dL_isFound_83 (by decide) ?_
                    refine xreti (va_runV (As := [.int (nI w), .int (nI a), .int (nI b), .int (nI 500)]) (rest := []) ⟨hx, hb, hml, hown, hts⟩ (mX5_work l D ck ca C4 (nI w) (nI a) (nI b) (nI 500) _) (cwV 4 hts gL_isFound_X5_work rfl rfl rfl (by decide +kernel) ⟨Nat.le_of_ble_eq_true rfl, Nat.le_of_ble_eq_true rfl⟩) (xpreV hN hK hP hD pm_all 0 rfl rfl rfl) rfl rfl hl.1 rfl (lv_room (Nat.le_of_ble_eq_true rfl)) dL_isFound_89 ⟨Nat.le_of_ble_eq_true rfl, Nat.le_of_ble_eq_true rfl⟩) hP hD hS hA pm_all pm_all' (fun H locs hP hD hS => ?_)
                    have hP : va_P D vwCl (clW ck ca ((gX5_work C4 (nI w) (nI a) (nI b) (nI 500)).2)) H := hP
                    have hD : va_D (va_A (clW ck ca C) s.heap.size) (clW ck ca ((gX5_work C4 (nI w) (nI a) (nI b) (nI 500)).2)) := hD
                    obtain ⟨hwk5, hC5⟩ := eq_workc (w := (nI w)) (a := (nI a)) (b := (nI b)) (d := (nI 500)) hC4
                    rw [hwk5]
                    generalize (gX5_work C4 (nI w) (nI a) (nI b) (nI 500)).2 = C5 at hP hD hC5
                    have hP : va_P D vwCl (clW ck ca C5) H := hP
                    have hD : va_D (va_A (clW ck ca C) s.heap.size) (clW ck ca C5) := hD
                    refine lv_istore (lv' := [(9, .int (gX6_work f (nI w) (nI a) (nI b) (nI 500))), (8, .int (gX6_workOf (nI w) (nI a) (nI b) (nI g))), (0, .ref (ca 0 0)), (1, .int (nI a)), (2, .int (nI b)), (3, .int (nI g)), (4, .int (nI t)), (5, .int (gX6_workOf (nI t) (nI a) (nI b) (nI g))), (6, .int 1), (7, .int (nI w))]) hx hb dL_isFound_92 hl (by decide) rfl (fun ls hl => ?_)
                    refine lv_iload hx hb dL_isFound_94 (lv_at hl 8 rfl) ?_
                    refine lv_if_eq (tgt := 170) hx hb dL_isFound_96 (by decide) (fun c_96 => ?_) (fun c_96 => ?_)
                    · --t
                      exact absurd c_96 (by decide)
                    · --f
                      refine lv_iload hx hb dL_isFound_99 (lv_at hl 1 rfl) ?_
                      refine lv_bipush (v := (-5)) hx hb dL_isFound_101 (by decide) ?_
                      refine lv_icmp_eq (tgt := 127) hx hb dL_isFound_103 (by decide) (fun c_103 => ?_) (fun c_103 => ?_)
                      · --t
                        exact absurd c_103 (fd_n5 hqw hn4)
                      · --f
                        refine lv_iload hx hb dL_isFound_106 (lv_at hl 1 rfl) ?_
                        refine lv_iload hx hb dL_isFound_108 (lv_at hl 7 rfl) ?_
                        refine lv_icmp_lt (tgt := 170) hx hb dL_isFound_110 (by decide) (fun c_110 => ?_) (fun c_110 => ?_)
                        · --t
                          exact absurd c_110 (fun z => by rw [x_ilt] at z; have := (htb w (by omega) hn4).1; omega)
                        · --f
                          refine lv_iload hx hb dL_isFound_113 (lv_at hl 9 rfl) ?_
                          refine lv_iload hx hb dL_isFound_115 (lv_at hl 6 rfl) ?_
                          refine lv_icmp_ge (tgt := 127) hx hb dL_isFound_117 (by decide) (fun c_117 => ?_) (fun c_117 => ?_)
                          · --t
                            refine lv_iload hx hb dL_isFound_127 (lv_at hl 1 rfl) ?_
                            refine lv_if_lt (tgt := 139) hx hb dL_isFound_129 (by decide) (fun c_129 => ?_) (fun c_129 => ?_)
                            · --t
                              exact absurd c_129 (fd_n0 hqw hn4)
                            · --f
                              refine lv_iload hx hb dL_isFound_132 (lv_at hl 0 rfl) ?_
                              refine lv_iload hx hb dL_isFound_134 (lv_at hl 1 rfl) ?_
                              refine lv_icmp_gt (tgt := 170) hx hb dL_isFound_136 (by decide) (fun c_136 => ?_) (fun c_136 => ?_)
                              · --t
                                exact absurd c_136 (fd_more2 hqw hn4 (fun z => c_77 ((nI_leI (by omega) (by decide)).mpr z)))
                              · --f
                                refine lv_iload_n hx hb dL_isFound_139 rfl (lv_at hl 5 rfl) ?_
                                refine lv_sipush (v := (nI 450)) hx hb dL_isFound_140 (by decide) ?_
                                refine lv_icmp_lt (tgt := 166) hx hb dL_isFound_143 (by decide) (fun c_143 => ?_) (fun c_143 => ?_)
                                · --t
                                  refine lv_iconst (v := 1) hx hb dL_isFound_166 (by decide) ?_
                                  refine lv_goto (tgt := 171) hx hb dL_isFound_167 (by decide) ?_
                                  refine lv_istore (lv' := [(6, .int 1), (9, .int (gX6_work f (nI w) (nI a) (nI b) (nI 500))), (8, .int (gX6_workOf (nI w) (nI a) (nI b) (nI g))), (0, .ref (ca 0 0)), (1, .int (nI a)), (2, .int (nI b)), (3, .int (nI g)), (4, .int (nI t)), (5, .int (gX6_workOf (nI t) (nI a) (nI b) (nI g))), (7, .int (nI w))]) hx hb dL_isFound_171 hl (by decide) rfl (fun ls hl => ?_)
                                  refine lv_iinc (v := (nI (w + 1))) (lv' := [(7, .int (nI (w + 1))), (6, .int 1), (9, .int (gX6_work f (nI w) (nI a) (nI b) (nI 500))), (8, .int (gX6_workOf (nI w) (nI a) (nI b) (nI g))), (0, .ref (ca 0 0)), (1, .int (nI a)), (2, .int (nI b)), (3, .int (nI g)), (4, .int (nI t)), (5, .int (gX6_workOf (nI t) (nI a) (nI b) (nI g)))]) hx hb dL_isFound_173 hl (k := 9) rfl (nI_1 w) (by decide) rfl (fun ls hl => ?_)
                                  refine lv_goto (tgt := 49) hx hb dL_isFound_176 (by decide) ?_
                                  exact ih49 (w + 1) C5 (by omega) hC5 _ _ _ hP hD hS (lv_sub hl [4, 5, 6, 7, 8, 9, 1, 0] rfl)
                                · --f
                                  refine lv_iload hx hb dL_isFound_146 (lv_at hl 1 rfl) ?_
                                  refine lv_iload_n hx hb dL_isFound_148 rfl (lv_at hl 3 rfl) ?_
                                  refine lv_iload_n hx hb dL_isFound_149 rfl (lv_at hl 4 rfl) ?_
                                  refine lv_iadd hx hb dL_isFound_150 ?_
                                  refine lv_icmp_eq (tgt := 166) hx hb dL_isFound_151 (by decide) (fun c_151 => ?_) (fun c_151 => ?_)
                                  · --t
                                    refine lv_iconst (v := 1) hx hb dL_isFound_166 (by decide) ?_
                                    refine lv_goto (tgt := 171) hx hb dL_isFound_167 (by decide) ?_
                                    refine lv_istore (lv' := [(6, .int 1), (9, .int (gX6_work f (nI w) (nI a) (nI b) (nI 500))), (8, .int (gX6_workOf (nI w) (nI a) (nI b) (nI g))), (0, .ref (ca 0 0)), (1, .int (nI a)), (2, .int (nI b)), (3, .int (nI g)), (4, .int (nI t)), (5, .int (gX6_workOf (nI t) (nI a) (nI b) (nI g))), (7, .int (nI w))]) hx hb dL_isFound_171 hl (by decide) rfl (fun ls hl => ?_)
                                    refine lv_iinc (v := (nI (w + 1))) (lv' := [(7, .int (nI (w + 1))), (6, .int 1), (9, .int (gX6_work f (nI w) (nI a) (nI b) (nI 500))), (8, .int (gX6_workOf (nI w) (nI a) (nI b) (nI g))), (0, .ref (ca 0 0)), (1, .int (nI a)), (2, .int (nI b)), (3, .int (nI g)), (4, .int (nI t)), (5, .int (gX6_workOf (nI t) (nI a) (nI b) (nI g)))]) hx hb dL_isFound_173 hl (k := 9) rfl (nI_1 w) (by decide) rfl (fun ls hl => ?_)
                                    refine lv_goto (tgt := 49) hx hb dL_isFound_176 (by decide) ?_
                                    exact ih49 (w + 1) C5 (by omega) hC5 _ _ _ hP hD hS (lv_sub hl [4, 5, 6, 7, 8, 9, 1, 0] rfl)
                                  · --f
                                    exact absurd (fd_450 hqw hn4 c_143) c_151
                          · --f
                            refine lv_iload hx hb dL_isFound_120 (lv_at hl 1 rfl) ?_
                            refine lv_iload hx hb dL_isFound_122 (lv_at hl 7 rfl) ?_
                            refine lv_icmp_le (tgt := 170) hx hb dL_isFound_124 (by decide) (fun c_124 => ?_) (fun c_124 => ?_)
                            · --t
                              exact absurd c_124 (fun z => by rw [x_ile] at z; rcases (htb w (by omega) hn4).2 with q | q; exact c_117 (nI_le q (by omega)); omega)
                            · --f
                              refine lv_iload hx hb dL_isFound_127 (lv_at hl 1 rfl) ?_
                              refine lv_if_lt (tgt := 139) hx hb dL_isFound_129 (by decide) (fun c_129 => ?_) (fun c_129 => ?_)
                              · --t
                                exact absurd c_129 (fd_n0 hqw hn4)
                              · --f
                                refine lv_iload hx hb dL_isFound_132 (lv_at hl 0 rfl) ?_
                                refine lv_iload hx hb dL_isFound_134 (lv_at hl 1 rfl) ?_
                                refine lv_icmp_gt (tgt := 170) hx hb dL_isFound_136 (by decide) (fun c_136 => ?_) (fun c_136 => ?_)
                                · --t
                                  exact absurd c_136 (fd_more2 hqw hn4 (fun z => c_77 ((nI_leI (by omega) (by decide)).mpr z)))
                                · --f
                                  refine lv_iload_n hx hb dL_isFound_139 rfl (lv_at hl 5 rfl) ?_
                                  refine lv_sipush (v := (nI 450)) hx hb dL_isFound_140 (by decide) ?_
                                  refine lv_icmp_lt (tgt := 166) hx hb dL_isFound_143 (by decide) (fun c_143 => ?_) (fun c_143 => ?_)
                                  · --t
                                    refine lv_iconst (v := 1) hx hb dL_isFound_166 (by decide) ?_
                                    refine lv_goto (tgt := 171) hx hb dL_isFound_167 (by decide) ?_
                                    refine lv_istore (lv' := [(6, .int 1), (9, .int (gX6_work f (nI w) (nI a) (nI b) (nI 500))), (8, .int (gX6_workOf (nI w) (nI a) (nI b) (nI g))), (0, .ref (ca 0 0)), (1, .int (nI a)), (2, .int (nI b)), (3, .int (nI g)), (4, .int (nI t)), (5, .int (gX6_workOf (nI t) (nI a) (nI b) (nI g))), (7, .int (nI w))]) hx hb dL_isFound_171 hl (by decide) rfl (fun ls hl => ?_)
                                    refine lv_iinc (v := (nI (w + 1))) (lv' := [(7, .int (nI (w + 1))), (6, .int 1), (9, .int (gX6_work f (nI w) (nI a) (nI b) (nI 500))), (8, .int (gX6_workOf (nI w) (nI a) (nI b) (nI g))), (0, .ref (ca 0 0)), (1, .int (nI a)), (2, .int (nI b)), (3, .int (nI g)), (4, .int (nI t)), (5, .int (gX6_workOf (nI t) (nI a) (nI b) (nI g)))]) hx hb dL_isFound_173 hl (k := 9) rfl (nI_1 w) (by decide) rfl (fun ls hl => ?_)
                                    refine lv_goto (tgt := 49) hx hb dL_isFound_176 (by decide) ?_
                                    exact ih49 (w + 1) C5 (by omega) hC5 _ _ _ hP hD hS (lv_sub hl [4, 5, 6, 7, 8, 9, 1, 0] rfl)
                                  · --f
                                    refine lv_iload hx hb dL_isFound_146 (lv_at hl 1 rfl) ?_
                                    refine lv_iload_n hx hb dL_isFound_148 rfl (lv_at hl 3 rfl) ?_
                                    refine lv_iload_n hx hb dL_isFound_149 rfl (lv_at hl 4 rfl) ?_
                                    refine lv_iadd hx hb dL_isFound_150 ?_
                                    refine lv_icmp_eq (tgt := 166) hx hb dL_isFound_151 (by decide) (fun c_151 => ?_) (fun c_151 => ?_)
                                    · --t
                                      refine lv_iconst (v := 1) hx hb dL_isFound_166 (by decide) ?_
                                      refine lv_goto (tgt := 171) hx hb dL_isFound_167 (by decide) ?_
                                      refine lv_istore (lv' := [(6, .int 1), (9, .int (gX6_work f (nI w) (nI a) (nI b) (nI 500))), (8, .int (gX6_workOf (nI w) (nI a) (nI b) (nI g))), (0, .ref (ca 0 0)), (1, .int (nI a)), (2, .int (nI b)), (3, .int (nI g)), (4, .int (nI t)), (5, .int (gX6_workOf (nI t) (nI a) (nI b) (nI g))), (7, .int (nI w))]) hx hb dL_isFound_171 hl (by decide) rfl (fun ls hl => ?_)
                                      refine lv_iinc (v := (nI (w + 1))) (lv' := [(7, .int (nI (w + 1))), (6, .int 1), (9, .int (gX6_work f (nI w) (nI a) (nI b) (nI 500))), (8, .int (gX6_workOf (nI w) (nI a) (nI b) (nI g))), (0, .ref (ca 0 0)), (1, .int (nI a)), (2, .int (nI b)), (3, .int (nI g)), (4, .int (nI t)), (5, .int (gX6_workOf (nI t) (nI a) (nI b) (nI g)))]) hx hb dL_isFound_173 hl (k := 9) rfl (nI_1 w) (by decide) rfl (fun ls hl => ?_)
                                      refine lv_goto (tgt := 49) hx hb dL_isFound_176 (by decide) ?_
                                      exact ih49 (w + 1) C5 (by omega) hC5 _ _ _ hP hD hS (lv_sub hl [4, 5, 6, 7, 8, 9, 1, 0] rfl)
                                    · --f
                                      exact absurd (fd_450 hqw hn4 c_143) c_151
                · --B
                  rw [if_neg hn4]
                  refine lv_istore (lv' := [(8, .int (-5)), (0, .ref (ca 0 0)), (1, .int (nI a)), (2, .int (nI b)), (3, .int (nI g)), (4, .int (nI t)), (5, .int (gX6_workOf (nI t) (nI a) (nI b) (nI g))), (6, .int 1), (7, .int (nI w))]) hx hb dL_isFound_64 hl (by decide) rfl (fun ls hl => ?_)
                  refine lv_aload_n hx hb dL_isFound_66 rfl (lv_at hl 1 rfl) ?_
                  refine lv_iload hx hb dL_isFound_67 (lv_at hl 8 rfl) ?_
                  refine lv_iload_n hx hb dL_isFound_69 rfl (lv_at hl 2 rfl) ?_
                  refine lv_iload_n hx hb dL_isFound_70 rfl (lv_at hl 3 rfl) ?_
                  refine lv_iload_n hx hb dL_isFound_71 rfl (lv_at hl 4 rfl) ?_
                  refine lv_iconst (v := 1) hx hb dL_isFound_72 (by decide) ?_
                  refine lv_iadd hx hb dL_isFound_73 ?_
                  rw [show (((nI g) + 1) : Int32) = (nI (g + 1)) from (nI_1 g)]
                  refine lv_sipush (v := (nI 500)) hx hb dL_isFound_74 (by decide) ?_
                  refine lv_icmp_le (tgt := 86) hx hb dL_isFound_77 (by decide) (fun c_77 => ?_) (fun c_77 => ?_)
                  · --t
                    refine lv_iload_n hx hb dL_isFound_86 rfl (lv_at hl 4 rfl) ?_
                    refine lv_iconst (v := 1) hx hb dL_isFound_87 (by decide) ?_
                    refine lv_iadd hx hb dL_isFound_88 ?_
                    rw [show (((nI g) + 1) : Int32) = (nI (g + 1)) from (nI_1 g)]
                    refine xreti (va_runV (As := [.int (nI w), .int (nI a), .int (nI b), .int (nI (g + 1))]) (rest := []) ⟨hx, hb, hml, hown, hts⟩ (mX5_work l D ck ca C4 (nI w) (nI a) (nI b) (nI (g + 1)) _) (cwV 4 hts gL_isFound_X5_work rfl rfl rfl (by decide +kernel) ⟨Nat.le_of_ble_eq_true rfl, Nat.le_of_ble_eq_true rfl⟩) (xpreV hN hK hP hD pm_all 0 rfl rfl rfl) rfl rfl hl.1 rfl (lv_room (Nat.le_of_ble_eq_true rfl)) dL_isFound_89 ⟨Nat.le_of_ble_eq_true rfl, Nat.le_of_ble_eq_true rfl⟩) hP hD hS hA pm_all pm_all' (fun H locs hP hD hS => ?_)
                    have hP : va_P D vwCl (clW ck ca ((gX5_work C4 (nI w) (nI a) (nI b) (nI (g + 1))).2)) H := hP
                    have hD : va_D (va_A (clW ck ca C) s.heap.size) (clW ck ca ((gX5_work C4 (nI w) (nI a) (nI b) (nI (g + 1))).2)) := hD
                    obtain ⟨hwk5, hC5⟩ := eq_workc (w := (nI w)) (a := (nI a)) (b := (nI b)) (d := (nI (g + 1))) hC4
                    rw [hwk5]
                    generalize (gX5_work C4 (nI w) (nI a) (nI b) (nI (g + 1))).2 = C5 at hP hD hC5
                    have hP : va_P D vwCl (clW ck ca C5) H := hP
                    have hD : va_D (va_A (clW ck ca C) s.heap.size) (clW ck ca C5) := hD
                    refine lv_istore (lv' := [(9, .int (gX6_work f (nI w) (nI a) (nI b) (nI (g + 1)))), (8, .int (-5)), (0, .ref (ca 0 0)), (1, .int (nI a)), (2, .int (nI b)), (3, .int (nI g)), (4, .int (nI t)), (5, .int (gX6_workOf (nI t) (nI a) (nI b) (nI g))), (6, .int 1), (7, .int (nI w))]) hx hb dL_isFound_92 hl (by decide) rfl (fun ls hl => ?_)
                    refine lv_iload hx hb dL_isFound_94 (lv_at hl 8 rfl) ?_
                    refine lv_if_eq (tgt := 170) hx hb dL_isFound_96 (by decide) (fun c_96 => ?_) (fun c_96 => ?_)
                    · --t
                      exact absurd c_96 (by decide)
                    · --f
                      refine lv_iload hx hb dL_isFound_99 (lv_at hl 1 rfl) ?_
                      refine lv_bipush (v := (-5)) hx hb dL_isFound_101 (by decide) ?_
                      refine lv_icmp_eq (tgt := 127) hx hb dL_isFound_103 (by decide) (fun c_103 => ?_) (fun c_103 => ?_)
                      · --t
                        refine lv_iload hx hb dL_isFound_127 (lv_at hl 1 rfl) ?_
                        refine lv_if_lt (tgt := 139) hx hb dL_isFound_129 (by decide) (fun c_129 => ?_) (fun c_129 => ?_)
                        · --t
                          refine lv_iload_n hx hb dL_isFound_139 rfl (lv_at hl 5 rfl) ?_
                          refine lv_sipush (v := (nI 450)) hx hb dL_isFound_140 (by decide) ?_
                          refine lv_icmp_lt (tgt := 166) hx hb dL_isFound_143 (by decide) (fun c_143 => ?_) (fun c_143 => ?_)
                          · --t
                            refine lv_iconst (v := 1) hx hb dL_isFound_166 (by decide) ?_
                            refine lv_goto (tgt := 171) hx hb dL_isFound_167 (by decide) ?_
                            refine lv_istore (lv' := [(6, .int 1), (9, .int (gX6_work f (nI w) (nI a) (nI b) (nI (g + 1)))), (8, .int (-5)), (0, .ref (ca 0 0)), (1, .int (nI a)), (2, .int (nI b)), (3, .int (nI g)), (4, .int (nI t)), (5, .int (gX6_workOf (nI t) (nI a) (nI b) (nI g))), (7, .int (nI w))]) hx hb dL_isFound_171 hl (by decide) rfl (fun ls hl => ?_)
                            refine lv_iinc (v := (nI (w + 1))) (lv' := [(7, .int (nI (w + 1))), (6, .int 1), (9, .int (gX6_work f (nI w) (nI a) (nI b) (nI (g + 1)))), (8, .int (-5)), (0, .ref (ca 0 0)), (1, .int (nI a)), (2, .int (nI b)), (3, .int (nI g)), (4, .int (nI t)), (5, .int (gX6_workOf (nI t) (nI a) (nI b) (nI g)))]) hx hb dL_isFound_173 hl (k := 9) rfl (nI_1 w) (by decide) rfl (fun ls hl => ?_)
                            refine lv_goto (tgt := 49) hx hb dL_isFound_176 (by decide) ?_
                            exact ih49 (w + 1) C5 (by omega) hC5 _ _ _ hP hD hS (lv_sub hl [4, 5, 6, 7, 8, 9, 1, 0] rfl)
                          · --f
                            exact absurd (fd_needs hqw c_143) hn4
                        · --f
                          exact absurd (by decide) c_129
                      · --f
                        exact absurd (by decide) c_103
                  · --f
                    refine lv_sipush (v := (nI 500)) hx hb dL_isFound_80 (by decide) ?_
                    refine lv_goto (tgt := 89) hx hb dL_isFound_83 (by decide) ?_
                    refine xreti (va_runV (As := [.int (nI w), .int (nI a), .int (nI b), .int (nI 500)]) (rest := []) ⟨hx, hb, hml, hown, hts⟩ (mX5_work l D ck ca C4 (nI w) (nI a) (nI b) (nI 500) _) (cwV 4 hts gL_isFound_X5_work rfl rfl rfl (by decide +kernel) ⟨Nat.le_of_ble_eq_true rfl, Nat.le_of_ble_eq_true rfl⟩) (xpreV hN hK hP hD pm_all 0 rfl rfl rfl) rfl rfl hl.1 rfl (lv_room (Nat.le_of_ble_eq_true rfl)) dL_isFound_89 ⟨Nat.le_of_ble_eq_true rfl, Nat.le_of_ble_eq_true rfl⟩) hP hD hS hA pm_all pm_all' (fun H locs hP hD hS => ?_)
                    have hP : va_P D vwCl (clW ck ca ((gX5_work C4 (nI w) (nI a) (nI b) (nI 500)).2)) H := hP
                    have hD : va_D (va_A (clW ck ca C) s.heap.size) (clW ck ca ((gX5_work C4 (nI w) (nI a) (nI b) (nI 500)).2)) := hD
                    obtain ⟨hwk5, hC5⟩ := eq_workc (w := (nI w)) (a := (nI a)) (b := (nI b)) (d := (nI 500)) hC4
                    rw [hwk5]
                    generalize (gX5_work C4 (nI w) (nI a) (nI b) (nI 500)).2 = C5 at hP hD hC5
                    have hP : va_P D vwCl (clW ck ca C5) H := hP
                    have hD : va_D (va_A (clW ck ca C) s.heap.size) (clW ck ca C5) := hD
                    refine lv_istore (lv' := [(9, .int (gX6_work f (nI w) (nI a) (nI b) (nI 500))), (8, .int (-5)), (0, .ref (ca 0 0)), (1, .int (nI a)), (2, .int (nI b)), (3, .int (nI g)), (4, .int (nI t)), (5, .int (gX6_workOf (nI t) (nI a) (nI b) (nI g))), (6, .int 1), (7, .int (nI w))]) hx hb dL_isFound_92 hl (by decide) rfl (fun ls hl => ?_)
                    refine lv_iload hx hb dL_isFound_94 (lv_at hl 8 rfl) ?_
                    refine lv_if_eq (tgt := 170) hx hb dL_isFound_96 (by decide) (fun c_96 => ?_) (fun c_96 => ?_)
                    · --t
                      exact absurd c_96 (by decide)
                    · --f
                      refine lv_iload hx hb dL_isFound_99 (lv_at hl 1 rfl) ?_
                      refine lv_bipush (v := (-5)) hx hb dL_isFound_101 (by decide) ?_
                      refine lv_icmp_eq (tgt := 127) hx hb dL_isFound_103 (by decide) (fun c_103 => ?_) (fun c_103 => ?_)
                      · --t
                        refine lv_iload hx hb dL_isFound_127 (lv_at hl 1 rfl) ?_
                        refine lv_if_lt (tgt := 139) hx hb dL_isFound_129 (by decide) (fun c_129 => ?_) (fun c_129 => ?_)
                        · --t
                          refine lv_iload_n hx hb dL_isFound_139 rfl (lv_at hl 5 rfl) ?_
                          refine lv_sipush (v := (nI 450)) hx hb dL_isFound_140 (by decide) ?_
                          refine lv_icmp_lt (tgt := 166) hx hb dL_isFound_143 (by decide) (fun c_143 => ?_) (fun c_143 => ?_)
                          · --t
                            refine lv_iconst (v := 1) hx hb dL_isFound_166 (by decide) ?_
                            refine lv_goto (tgt := 171) hx hb dL_isFound_167 (by decide) ?_
                            refine lv_istore (lv' := [(6, .int 1), (9, .int (gX6_work f (nI w) (nI a) (nI b) (nI 500))), (8, .int (-5)), (0, .ref (ca 0 0)), (1, .int (nI a)), (2, .int (nI b)), (3, .int (nI g)), (4, .int (nI t)), (5, .int (gX6_workOf (nI t) (nI a) (nI b) (nI g))), (7, .int (nI w))]) hx hb dL_isFound_171 hl (by decide) rfl (fun ls hl => ?_)
                            refine lv_iinc (v := (nI (w + 1))) (lv' := [(7, .int (nI (w + 1))), (6, .int 1), (9, .int (gX6_work f (nI w) (nI a) (nI b) (nI 500))), (8, .int (-5)), (0, .ref (ca 0 0)), (1, .int (nI a)), (2, .int (nI b)), (3, .int (nI g)), (4, .int (nI t)), (5, .int (gX6_workOf (nI t) (nI a) (nI b) (nI g)))]) hx hb dL_isFound_173 hl (k := 9) rfl (nI_1 w) (by decide) rfl (fun ls hl => ?_)
                            refine lv_goto (tgt := 49) hx hb dL_isFound_176 (by decide) ?_
                            exact ih49 (w + 1) C5 (by omega) hC5 _ _ _ hP hD hS (lv_sub hl [4, 5, 6, 7, 8, 9, 1, 0] rfl)
                          · --f
                            exact absurd (fd_needs hqw c_143) hn4
                        · --f
                          exact absurd (by decide) c_129
                      · --f
                        exact absurd (by decide) c_103
        exact loop49 3 0 C2 (by omega) hC2 _ _ _ hP hD hS (lv_sub hl [4, 5, 6, 7, 3, 2, 1, 0] rfl)
