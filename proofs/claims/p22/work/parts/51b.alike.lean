/-! ===== the law's methods ===== -/
theorem cnt0 {C : CS} {f : FS} (h : LR C f) : gX5_count C 0 = nI (nF f) := (cnt_0 h).trans (n4_of h.1.2)
theorem cnt_eq {C E : CS} {f : FS} (hC : LR C f) (hE : LR E f) {w : Nat} (hw : w < 16) : gX5_count C (nI w) = gX5_count E (nI w) := by
  rcases (show w = 0 ∨ w = 1 ∨ w = 2 ∨ w = 3 ∨ w = 4 ∨ w = 5 ∨ w = 6 ∨ w = 7 ∨ w = 8 ∨ w = 9 ∨ w = 10 ∨ w = 11 ∨ w = 12 ∨ w = 13 ∨ w = 14 ∨ w = 15 by omega) with rfl | rfl | rfl | rfl | rfl | rfl | rfl | rfl | rfl | rfl | rfl | rfl | rfl | rfl | rfl | rfl
  · exact (cnt_0 hC).trans (cnt_0 hE).symm
  · exact (cnt_1 hC).trans (cnt_1 hE).symm
  · exact (cnt_2 hC).trans (cnt_2 hE).symm
  · exact (cnt_3 hC).trans (cnt_3 hE).symm
  · exact (cnt_4 hC).trans (cnt_4 hE).symm
  · exact (cnt_5 hC).trans (cnt_5 hE).symm
  · exact (cnt_6 hC).trans (cnt_6 hE).symm
  · exact (cnt_7 hC).trans (cnt_7 hE).symm
  · exact (cnt_8 hC).trans (cnt_8 hE).symm
  · exact (cnt_9 hC).trans (cnt_9 hE).symm
  · exact (cnt_10 hC).trans (cnt_10 hE).symm
  · exact (cnt_11 hC).trans (cnt_11 hE).symm
  · exact (cnt_12 hC).trans (cnt_12 hE).symm
  · exact (cnt_13 hC).trans (cnt_13 hE).symm
  · exact (cnt_14 hC).trans (cnt_14 hE).symm
  · exact (cnt_15 hC).trans (cnt_15 hE).symm
def rmL_areAlike : Room := { frames := 5, cells := 0, slots := 0, locals := 118 }
set_option maxHeartbeats 16000000 in
set_option maxRecDepth 100000 in
theorem mL_areAlike (l : Launch) (D : va_G) (ck : Nat → ClassId) (ca cb : Nat → Nat → Nat) (C E : CS) (f : FS) (hC : LR C f) (hE : LR E f) : xMi l yL_areAlike wsL_areAlike rmL_areAlike D ck [.ref (ca 0 0), .ref (cb 0 0)] (clW ck ca C ++ clW ck cb E) (clW ck ca C ++ clW ck cb E) 1 0 0 := by
  refine xMet (by decide) rfl (Nat.le_of_ble_eq_true rfl) ?_
  intro zp ze s zm zb zt zc hx hb hr hml hown hts hlk hnm hN hK hP hD ls hl
  have hown : s.vm.findClass RL = some zm.cls := hown
  have hn := n_le hC.1.2
  have hl : lv_has ls 5 [(0, .ref (ca 0 0)), (1, .ref (cb 0 0))] := hl
  have hS : va_S (va_A (clW ck ca C ++ clW ck cb E) s.heap.size) s.heap s.heap [] := va_S.rf
  have hA : ∀ zq : Nat, s.heap.size ≤ zq → (va_A (clW ck ca C ++ clW ck cb E) s.heap.size) zq := fun zq h => Or.inr h
  refine lv_aload_n hx hb dL_areAlike_0 rfl (lv_at hl 0 rfl) ?_
  refine xreti (va_runV (As := []) (rest := []) ⟨hx, hb, hml, hown, hts⟩ (mX5_spare l D ck ca C _) (cwV 0 hts gL_areAlike_X5_spare rfl rfl rfl (by decide +kernel) ⟨Nat.le_of_ble_eq_true rfl, Nat.le_of_ble_eq_true rfl⟩) (xpreV hN hK hP hD (List.Perm.refl _) 0 rfl rfl rfl) rfl rfl hl.1 rfl (lv_room (Nat.le_of_ble_eq_true rfl)) dL_areAlike_1 ⟨Nat.le_of_ble_eq_true rfl, Nat.le_of_ble_eq_true rfl⟩) hP hD hS hA (List.Perm.refl _) (List.Perm.refl _) (fun H locs hP hD hS => ?_)
  have hP : va_P D vwCl (clW ck ca C ++ clW ck cb E) H := hP
  have hD : va_D (va_A (clW ck ca C ++ clW ck cb E) s.heap.size) (clW ck ca C ++ clW ck cb E) := hD
  rw [eq_spare hC]
  refine lv_aload_n hx hb dL_areAlike_4 rfl (lv_at hl 1 rfl) ?_
  refine xreti (va_runV (As := []) (rest := [.int (gX6_spare f)]) ⟨hx, hb, hml, hown, hts⟩ (mX5_spare l D ck cb E _) (cwV 0 hts gL_areAlike_X5_spare rfl rfl rfl (by decide +kernel) ⟨Nat.le_of_ble_eq_true rfl, Nat.le_of_ble_eq_true rfl⟩) (xpreV hN hK hP hD List.perm_append_comm 0 rfl rfl rfl) rfl rfl hl.1 rfl (lv_room (Nat.le_of_ble_eq_true rfl)) dL_areAlike_5 ⟨Nat.le_of_ble_eq_true rfl, Nat.le_of_ble_eq_true rfl⟩) hP hD hS hA List.perm_append_comm List.perm_append_comm (fun H locs hP hD hS => ?_)
  have hP : va_P D vwCl (clW ck ca C ++ clW ck cb E) H := hP
  have hD : va_D (va_A (clW ck ca C ++ clW ck cb E) s.heap.size) (clW ck ca C ++ clW ck cb E) := hD
  rw [eq_spare hE]
  refine lv_icmp_ne (tgt := 15) hx hb dL_areAlike_8 (by decide) (fun c_8 => ?_) (fun c_8 => ?_)
  · --t
    exact absurd rfl c_8
  · --f
    refine lv_iconst (v := 1) hx hb dL_areAlike_11 (by decide) ?_
    refine lv_goto (tgt := 16) hx hb dL_areAlike_12 (by decide) ?_
    refine lv_istore_n (lv' := [(2, .int 1), (0, .ref (ca 0 0)), (1, .ref (cb 0 0))]) hx hb dL_areAlike_16 rfl hl (by decide) rfl (fun ls hl => ?_)
    refine lv_iconst (v := (nI 0)) hx hb dL_areAlike_17 (by decide) ?_
    refine lv_istore_n (lv' := [(3, .int (nI 0)), (2, .int 1), (0, .ref (ca 0 0)), (1, .ref (cb 0 0))]) hx hb dL_areAlike_18 rfl hl (by decide) rfl (fun ls hl => ?_)
    have loop19 : ∀ (fu19 : Nat) (w : Nat), (w + fu19 = 16) → ∀ (H : Heap) (locs : List Loc) (ls : Array Slot), va_P D vwCl (clW ck ca C ++ clW ck cb E) H → va_D (va_A (clW ck ca C ++ clW ck cb E) s.heap.size) (clW ck ca C ++ clW ck cb E) → va_S (va_A (clW ck ca C ++ clW ck cb E) s.heap.size) s.heap H locs → lv_has ls 5 [(0, .ref (ca 0 0)), (1, .ref (cb 0 0)), (2, .int 1), (3, .int (nI w))] → W zp l ze rmL_areAlike s zm ([.ref (ca 0 0), .ref (cb 0 0)] : List Value).toArray zb zt zc H locs 0 0 (MQ zb (xQi D (clW ck ca C ++ clW ck cb E) (clW ck ca C ++ clW ck cb E) 1 s.heap.size) ([.ref (ca 0 0), .ref (cb 0 0)] : List Value).toArray s 0 0 (va_A (clW ck ca C ++ clW ck cb E) s.heap.size)) (F0 zm 19 ls []) := by
      intro fu19
      induction fu19 with
      | zero =>
          intro w hf19  H locs ls hP hD hS hl
          refine lv_iload_n hx hb dL_areAlike_19 rfl (lv_at hl 3 rfl) ?_
          refine lv_bipush (v := (nI 16)) hx hb dL_areAlike_20 (by decide) ?_
          refine lv_icmp_ge (tgt := 54) hx hb dL_areAlike_22 (by decide) (fun c_22 => ?_) (fun c_22 => ?_)
          · --t
            refine lv_iconst (v := (nI 0)) hx hb dL_areAlike_54 (by decide) ?_
            refine lv_istore_n (lv' := [(3, .int (nI 0)), (0, .ref (ca 0 0)), (1, .ref (cb 0 0)), (2, .int 1)]) hx hb dL_areAlike_55 rfl hl (by decide) rfl (fun ls hl => ?_)
            have loop56 : ∀ (fu56 : Nat) (j : Nat), (j + fu56 = nF f) → ∀ (H : Heap) (locs : List Loc) (ls : Array Slot), va_P D vwCl (clW ck ca C ++ clW ck cb E) H → va_D (va_A (clW ck ca C ++ clW ck cb E) s.heap.size) (clW ck ca C ++ clW ck cb E) → va_S (va_A (clW ck ca C ++ clW ck cb E) s.heap.size) s.heap H locs → lv_has ls 5 [(0, .ref (ca 0 0)), (1, .ref (cb 0 0)), (2, .int 1), (3, .int (nI j))] → W zp l ze rmL_areAlike s zm ([.ref (ca 0 0), .ref (cb 0 0)] : List Value).toArray zb zt zc H locs 0 0 (MQ zb (xQi D (clW ck ca C ++ clW ck cb E) (clW ck ca C ++ clW ck cb E) 1 s.heap.size) ([.ref (ca 0 0), .ref (cb 0 0)] : List Value).toArray s 0 0 (va_A (clW ck ca C ++ clW ck cb E) s.heap.size)) (F0 zm 56 ls []) := by
              intro fu56
              induction fu56 with
              | zero =>
                  intro j hf56  H locs ls hP hD hS hl
                  refine lv_iload_n hx hb dL_areAlike_56 rfl (lv_at hl 3 rfl) ?_
                  refine lv_aload_n hx hb dL_areAlike_57 rfl (lv_at hl 0 rfl) ?_
                  refine lv_iconst (v := 0) hx hb dL_areAlike_58 (by decide) ?_
                  refine xreti (va_runV (As := [.int 0]) (rest := [.int (nI j)]) ⟨hx, hb, hml, hown, hts⟩ (mX5_count l D ck ca C 0 _) (cwV 1 hts gL_areAlike_X5_count rfl rfl rfl (by decide +kernel) ⟨Nat.le_of_ble_eq_true rfl, Nat.le_of_ble_eq_true rfl⟩) (xpreV hN hK hP hD (List.Perm.refl _) 0 rfl rfl rfl) rfl rfl hl.1 rfl (lv_room (Nat.le_of_ble_eq_true rfl)) dL_areAlike_59 ⟨Nat.le_of_ble_eq_true rfl, Nat.le_of_ble_eq_true rfl⟩) hP hD hS hA (List.Perm.refl _) (List.Perm.refl _) (fun H locs hP hD hS => ?_)
                  have hP : va_P D vwCl (clW ck ca C ++ clW ck cb E) H := hP
                  have hD : va_D (va_A (clW ck ca C ++ clW ck cb E) s.heap.size) (clW ck ca C ++ clW ck cb E) := hD
                  rw [cnt0 hC]
                  refine lv_icmp_ge (tgt := 150) hx hb dL_areAlike_62 (by decide) (fun c_62 => ?_) (fun c_62 => ?_)
                  · --t
                    refine lv_iload_n hx hb dL_areAlike_150 rfl (lv_at hl 2 rfl) ?_
                    exact xzret hx hb hr hlk hP hD hS (Or.inr rfl) rfl rfl dL_areAlike_151
                  · --f
                    exact absurd (nI_le (by omega) (by omega)) c_62
              | succ fu56 ih56 =>
                  intro j hf56  H locs ls hP hD hS hl
                  refine lv_iload_n hx hb dL_areAlike_56 rfl (lv_at hl 3 rfl) ?_
                  refine lv_aload_n hx hb dL_areAlike_57 rfl (lv_at hl 0 rfl) ?_
                  refine lv_iconst (v := 0) hx hb dL_areAlike_58 (by decide) ?_
                  refine xreti (va_runV (As := [.int 0]) (rest := [.int (nI j)]) ⟨hx, hb, hml, hown, hts⟩ (mX5_count l D ck ca C 0 _) (cwV 1 hts gL_areAlike_X5_count rfl rfl rfl (by decide +kernel) ⟨Nat.le_of_ble_eq_true rfl, Nat.le_of_ble_eq_true rfl⟩) (xpreV hN hK hP hD (List.Perm.refl _) 0 rfl rfl rfl) rfl rfl hl.1 rfl (lv_room (Nat.le_of_ble_eq_true rfl)) dL_areAlike_59 ⟨Nat.le_of_ble_eq_true rfl, Nat.le_of_ble_eq_true rfl⟩) hP hD hS hA (List.Perm.refl _) (List.Perm.refl _) (fun H locs hP hD hS => ?_)
                  have hP : va_P D vwCl (clW ck ca C ++ clW ck cb E) H := hP
                  have hD : va_D (va_A (clW ck ca C ++ clW ck cb E) s.heap.size) (clW ck ca C ++ clW ck cb E) := hD
                  rw [cnt0 hC]
                  refine lv_icmp_ge (tgt := 150) hx hb dL_areAlike_62 (by decide) (fun c_62 => ?_) (fun c_62 => ?_)
                  · --t
                    exact absurd c_62 (nI_ge (by omega) (by omega))
                  · --f
                    refine lv_iconst (v := (nI 0)) hx hb dL_areAlike_65 (by decide) ?_
                    refine lv_istore (lv' := [(4, .int (nI 0)), (0, .ref (ca 0 0)), (1, .ref (cb 0 0)), (2, .int 1), (3, .int (nI j))]) hx hb dL_areAlike_66 hl (by decide) rfl (fun ls hl => ?_)
                    have loop68 : ∀ (fu68 : Nat) (v : Nat), (v + fu68 = 12) → ∀ (H : Heap) (locs : List Loc) (ls : Array Slot), va_P D vwCl (clW ck ca C ++ clW ck cb E) H → va_D (va_A (clW ck ca C ++ clW ck cb E) s.heap.size) (clW ck ca C ++ clW ck cb E) → va_S (va_A (clW ck ca C ++ clW ck cb E) s.heap.size) s.heap H locs → lv_has ls 5 [(0, .ref (ca 0 0)), (1, .ref (cb 0 0)), (2, .int 1), (3, .int (nI j)), (4, .int (nI v))] → W zp l ze rmL_areAlike s zm ([.ref (ca 0 0), .ref (cb 0 0)] : List Value).toArray zb zt zc H locs 0 0 (MQ zb (xQi D (clW ck ca C ++ clW ck cb E) (clW ck ca C ++ clW ck cb E) 1 s.heap.size) ([.ref (ca 0 0), .ref (cb 0 0)] : List Value).toArray s 0 0 (va_A (clW ck ca C ++ clW ck cb E) s.heap.size)) (F0 zm 68 ls []) := by
                      intro fu68
                      induction fu68 with
                      | zero =>
                          intro v hf68  H locs ls hP hD hS hl
                          refine lv_iload hx hb dL_areAlike_68 (lv_at hl 4 rfl) ?_
                          refine lv_bipush (v := (nI 12)) hx hb dL_areAlike_70 (by decide) ?_
                          refine lv_icmp_ge (tgt := 108) hx hb dL_areAlike_72 (by decide) (fun c_72 => ?_) (fun c_72 => ?_)
                          · --t
                            refine lv_iload_n hx hb dL_areAlike_108 rfl (lv_at hl 2 rfl) ?_
                            refine lv_if_eq (tgt := 142) hx hb dL_areAlike_109 (by decide) (fun c_109 => ?_) (fun c_109 => ?_)
                            · --t
                              exact absurd c_109 (by decide)
                            · --f
                              refine lv_aload_n hx hb dL_areAlike_112 rfl (lv_at hl 0 rfl) ?_
                              refine lv_iload_n hx hb dL_areAlike_113 rfl (lv_at hl 3 rfl) ?_
                              refine xreti (va_runV (As := [.int (nI j)]) (rest := []) ⟨hx, hb, hml, hown, hts⟩ (mX5_why l D ck ca C (nI j) _) (cwV 1 hts gL_areAlike_X5_why rfl rfl rfl (by decide +kernel) ⟨Nat.le_of_ble_eq_true rfl, Nat.le_of_ble_eq_true rfl⟩) (xpreV hN hK hP hD (List.Perm.refl _) 0 rfl rfl rfl) rfl rfl hl.1 rfl (lv_room (Nat.le_of_ble_eq_true rfl)) dL_areAlike_114 ⟨Nat.le_of_ble_eq_true rfl, Nat.le_of_ble_eq_true rfl⟩) hP hD hS hA (List.Perm.refl _) (List.Perm.refl _) (fun H locs hP hD hS => ?_)
                              have hP : va_P D vwCl (clW ck ca C ++ clW ck cb E) H := hP
                              have hD : va_D (va_A (clW ck ca C ++ clW ck cb E) s.heap.size) (clW ck ca C ++ clW ck cb E) := hD
                              rw [eq_why hC]
                              refine lv_aload_n hx hb dL_areAlike_117 rfl (lv_at hl 1 rfl) ?_
                              refine lv_iload_n hx hb dL_areAlike_118 rfl (lv_at hl 3 rfl) ?_
                              refine xreti (va_runV (As := [.int (nI j)]) (rest := [.int (gX6_why f (nI j))]) ⟨hx, hb, hml, hown, hts⟩ (mX5_why l D ck cb E (nI j) _) (cwV 1 hts gL_areAlike_X5_why rfl rfl rfl (by decide +kernel) ⟨Nat.le_of_ble_eq_true rfl, Nat.le_of_ble_eq_true rfl⟩) (xpreV hN hK hP hD List.perm_append_comm 0 rfl rfl rfl) rfl rfl hl.1 rfl (lv_room (Nat.le_of_ble_eq_true rfl)) dL_areAlike_119 ⟨Nat.le_of_ble_eq_true rfl, Nat.le_of_ble_eq_true rfl⟩) hP hD hS hA List.perm_append_comm List.perm_append_comm (fun H locs hP hD hS => ?_)
                              have hP : va_P D vwCl (clW ck ca C ++ clW ck cb E) H := hP
                              have hD : va_D (va_A (clW ck ca C ++ clW ck cb E) s.heap.size) (clW ck ca C ++ clW ck cb E) := hD
                              rw [eq_why hE]
                              refine lv_icmp_ne (tgt := 142) hx hb dL_areAlike_122 (by decide) (fun c_122 => ?_) (fun c_122 => ?_)
                              · --t
                                exact absurd rfl c_122
                              · --f
                                refine lv_aload_n hx hb dL_areAlike_125 rfl (lv_at hl 0 rfl) ?_
                                refine lv_iload_n hx hb dL_areAlike_126 rfl (lv_at hl 3 rfl) ?_
                                refine xreti (va_runV (As := [.int (nI j)]) (rest := []) ⟨hx, hb, hml, hown, hts⟩ (mX5_queue l D ck ca C (nI j) _) (cwV 1 hts gL_areAlike_X5_queue rfl rfl rfl (by decide +kernel) ⟨Nat.le_of_ble_eq_true rfl, Nat.le_of_ble_eq_true rfl⟩) (xpreV hN hK hP hD (List.Perm.refl _) 0 rfl rfl rfl) rfl rfl hl.1 rfl (lv_room (Nat.le_of_ble_eq_true rfl)) dL_areAlike_127 ⟨Nat.le_of_ble_eq_true rfl, Nat.le_of_ble_eq_true rfl⟩) hP hD hS hA (List.Perm.refl _) (List.Perm.refl _) (fun H locs hP hD hS => ?_)
                                have hP : va_P D vwCl (clW ck ca C ++ clW ck cb E) H := hP
                                have hD : va_D (va_A (clW ck ca C ++ clW ck cb E) s.heap.size) (clW ck ca C ++ clW ck cb E) := hD
                                rw [eq_queue hC]
                                refine lv_aload_n hx hb dL_areAlike_130 rfl (lv_at hl 1 rfl) ?_
                                refine lv_iload_n hx hb dL_areAlike_131 rfl (lv_at hl 3 rfl) ?_
                                refine xreti (va_runV (As := [.int (nI j)]) (rest := [.int (gX6_queue f (nI j))]) ⟨hx, hb, hml, hown, hts⟩ (mX5_queue l D ck cb E (nI j) _) (cwV 1 hts gL_areAlike_X5_queue rfl rfl rfl (by decide +kernel) ⟨Nat.le_of_ble_eq_true rfl, Nat.le_of_ble_eq_true rfl⟩) (xpreV hN hK hP hD List.perm_append_comm 0 rfl rfl rfl) rfl rfl hl.1 rfl (lv_room (Nat.le_of_ble_eq_true rfl)) dL_areAlike_132 ⟨Nat.le_of_ble_eq_true rfl, Nat.le_of_ble_eq_true rfl⟩) hP hD hS hA List.perm_append_comm List.perm_append_comm (fun H locs hP hD hS => ?_)
                                have hP : va_P D vwCl (clW ck ca C ++ clW ck cb E) H := hP
                                have hD : va_D (va_A (clW ck ca C ++ clW ck cb E) s.heap.size) (clW ck ca C ++ clW ck cb E) := hD
                                rw [eq_queue hE]
                                refine lv_icmp_ne (tgt := 142) hx hb dL_areAlike_135 (by decide) (fun c_135 => ?_) (fun c_135 => ?_)
                                · --t
                                  exact absurd rfl c_135
                                · --f
                                  refine lv_iconst (v := 1) hx hb dL_areAlike_138 (by decide) ?_
                                  refine lv_goto (tgt := 143) hx hb dL_areAlike_139 (by decide) ?_
                                  refine lv_istore_n (lv' := [(2, .int 1), (0, .ref (ca 0 0)), (1, .ref (cb 0 0)), (3, .int (nI j)), (4, .int (nI v))]) hx hb dL_areAlike_143 rfl hl (by decide) rfl (fun ls hl => ?_)
                                  refine lv_iinc (v := (nI (j + 1))) (lv' := [(3, .int (nI (j + 1))), (2, .int 1), (0, .ref (ca 0 0)), (1, .ref (cb 0 0)), (4, .int (nI v))]) hx hb dL_areAlike_144 hl (k := 3) rfl (nI_1 j) (by decide) rfl (fun ls hl => ?_)
                                  refine lv_goto (tgt := 56) hx hb dL_areAlike_147 (by decide) ?_
                                  exact ih56 (j + 1) (by omega) _ _ _ hP hD hS (lv_sub hl [2, 3, 1, 0] rfl)
                          · --f
                            exact absurd (nI_le (by omega) (by omega)) c_72
                      | succ fu68 ih68 =>
                          intro v hf68  H locs ls hP hD hS hl
                          refine lv_iload hx hb dL_areAlike_68 (lv_at hl 4 rfl) ?_
                          refine lv_bipush (v := (nI 12)) hx hb dL_areAlike_70 (by decide) ?_
                          refine lv_icmp_ge (tgt := 108) hx hb dL_areAlike_72 (by decide) (fun c_72 => ?_) (fun c_72 => ?_)
                          · --t
                            exact absurd c_72 (nI_ge (by omega) (by omega))
                          · --f
                            refine lv_iload_n hx hb dL_areAlike_75 rfl (lv_at hl 2 rfl) ?_
                            refine lv_if_eq (tgt := 100) hx hb dL_areAlike_76 (by decide) (fun c_76 => ?_) (fun c_76 => ?_)
                            · --t
                              exact absurd c_76 (by decide)
                            · --f
                              refine lv_aload_n hx hb dL_areAlike_79 rfl (lv_at hl 0 rfl) ?_
                              refine lv_iload_n hx hb dL_areAlike_80 rfl (lv_at hl 3 rfl) ?_
                              refine lv_iload hx hb dL_areAlike_81 (lv_at hl 4 rfl) ?_
                              refine xreti (va_runV (As := [.int (nI j), .int (nI v)]) (rest := []) ⟨hx, hb, hml, hown, hts⟩ (mX5_join l D ck ca C (nI j) (nI v) _) (cwV 2 hts gL_areAlike_X5_join rfl rfl rfl (by decide +kernel) ⟨Nat.le_of_ble_eq_true rfl, Nat.le_of_ble_eq_true rfl⟩) (xpreV hN hK hP hD (List.Perm.refl _) 0 rfl rfl rfl) rfl rfl hl.1 rfl (lv_room (Nat.le_of_ble_eq_true rfl)) dL_areAlike_83 ⟨Nat.le_of_ble_eq_true rfl, Nat.le_of_ble_eq_true rfl⟩) hP hD hS hA (List.Perm.refl _) (List.Perm.refl _) (fun H locs hP hD hS => ?_)
                              have hP : va_P D vwCl (clW ck ca C ++ clW ck cb E) H := hP
                              have hD : va_D (va_A (clW ck ca C ++ clW ck cb E) s.heap.size) (clW ck ca C ++ clW ck cb E) := hD
                              rw [eq_join hC]
                              refine lv_aload_n hx hb dL_areAlike_86 rfl (lv_at hl 1 rfl) ?_
                              refine lv_iload_n hx hb dL_areAlike_87 rfl (lv_at hl 3 rfl) ?_
                              refine lv_iload hx hb dL_areAlike_88 (lv_at hl 4 rfl) ?_
                              refine xreti (va_runV (As := [.int (nI j), .int (nI v)]) (rest := [.int (gX6_join f (nI j) (nI v))]) ⟨hx, hb, hml, hown, hts⟩ (mX5_join l D ck cb E (nI j) (nI v) _) (cwV 2 hts gL_areAlike_X5_join rfl rfl rfl (by decide +kernel) ⟨Nat.le_of_ble_eq_true rfl, Nat.le_of_ble_eq_true rfl⟩) (xpreV hN hK hP hD List.perm_append_comm 0 rfl rfl rfl) rfl rfl hl.1 rfl (lv_room (Nat.le_of_ble_eq_true rfl)) dL_areAlike_90 ⟨Nat.le_of_ble_eq_true rfl, Nat.le_of_ble_eq_true rfl⟩) hP hD hS hA List.perm_append_comm List.perm_append_comm (fun H locs hP hD hS => ?_)
                              have hP : va_P D vwCl (clW ck ca C ++ clW ck cb E) H := hP
                              have hD : va_D (va_A (clW ck ca C ++ clW ck cb E) s.heap.size) (clW ck ca C ++ clW ck cb E) := hD
                              rw [eq_join hE]
                              refine lv_icmp_ne (tgt := 100) hx hb dL_areAlike_93 (by decide) (fun c_93 => ?_) (fun c_93 => ?_)
                              · --t
                                exact absurd rfl c_93
                              · --f
                                refine lv_iconst (v := 1) hx hb dL_areAlike_96 (by decide) ?_
                                refine lv_goto (tgt := 101) hx hb dL_areAlike_97 (by decide) ?_
                                refine lv_istore_n (lv' := [(2, .int 1), (0, .ref (ca 0 0)), (1, .ref (cb 0 0)), (3, .int (nI j)), (4, .int (nI v))]) hx hb dL_areAlike_101 rfl hl (by decide) rfl (fun ls hl => ?_)
                                refine lv_iinc (v := (nI (v + 1))) (lv' := [(4, .int (nI (v + 1))), (2, .int 1), (0, .ref (ca 0 0)), (1, .ref (cb 0 0)), (3, .int (nI j))]) hx hb dL_areAlike_102 hl (k := 4) rfl (nI_1 v) (by decide) rfl (fun ls hl => ?_)
                                refine lv_goto (tgt := 68) hx hb dL_areAlike_105 (by decide) ?_
                                exact ih68 (v + 1) (by omega) _ _ _ hP hD hS (lv_sub hl [2, 3, 1, 4, 0] rfl)
                    exact loop68 12 0 (by omega) _ _ _ hP hD hS (lv_sub hl [1, 2, 3, 4, 0] rfl)
            exact loop56 (nF f) 0 (by omega) _ _ _ hP hD hS (lv_sub hl [1, 2, 3, 0] rfl)
          · --f
            exact absurd (nI_le (by omega) (by omega)) c_22
      | succ fu19 ih19 =>
          intro w hf19  H locs ls hP hD hS hl
          refine lv_iload_n hx hb dL_areAlike_19 rfl (lv_at hl 3 rfl) ?_
          refine lv_bipush (v := (nI 16)) hx hb dL_areAlike_20 (by decide) ?_
          refine lv_icmp_ge (tgt := 54) hx hb dL_areAlike_22 (by decide) (fun c_22 => ?_) (fun c_22 => ?_)
          · --t
            exact absurd c_22 (nI_ge (by omega) (by omega))
          · --f
            refine lv_iload_n hx hb dL_areAlike_25 rfl (lv_at hl 2 rfl) ?_
            refine lv_if_eq (tgt := 46) hx hb dL_areAlike_26 (by decide) (fun c_26 => ?_) (fun c_26 => ?_)
            · --t
              exact absurd c_26 (by decide)
            · --f
              refine lv_aload_n hx hb dL_areAlike_29 rfl (lv_at hl 0 rfl) ?_
              refine lv_iload_n hx hb dL_areAlike_30 rfl (lv_at hl 3 rfl) ?_
              refine xreti (va_runV (As := [.int (nI w)]) (rest := []) ⟨hx, hb, hml, hown, hts⟩ (mX5_count l D ck ca C (nI w) _) (cwV 1 hts gL_areAlike_X5_count rfl rfl rfl (by decide +kernel) ⟨Nat.le_of_ble_eq_true rfl, Nat.le_of_ble_eq_true rfl⟩) (xpreV hN hK hP hD (List.Perm.refl _) 0 rfl rfl rfl) rfl rfl hl.1 rfl (lv_room (Nat.le_of_ble_eq_true rfl)) dL_areAlike_31 ⟨Nat.le_of_ble_eq_true rfl, Nat.le_of_ble_eq_true rfl⟩) hP hD hS hA (List.Perm.refl _) (List.Perm.refl _) (fun H locs hP hD hS => ?_)
              have hP : va_P D vwCl (clW ck ca C ++ clW ck cb E) H := hP
              have hD : va_D (va_A (clW ck ca C ++ clW ck cb E) s.heap.size) (clW ck ca C ++ clW ck cb E) := hD
              refine lv_aload_n hx hb dL_areAlike_34 rfl (lv_at hl 1 rfl) ?_
              refine lv_iload_n hx hb dL_areAlike_35 rfl (lv_at hl 3 rfl) ?_
              refine xreti (va_runV (As := [.int (nI w)]) (rest := [.int (gX5_count C (nI w))]) ⟨hx, hb, hml, hown, hts⟩ (mX5_count l D ck cb E (nI w) _) (cwV 1 hts gL_areAlike_X5_count rfl rfl rfl (by decide +kernel) ⟨Nat.le_of_ble_eq_true rfl, Nat.le_of_ble_eq_true rfl⟩) (xpreV hN hK hP hD List.perm_append_comm 0 rfl rfl rfl) rfl rfl hl.1 rfl (lv_room (Nat.le_of_ble_eq_true rfl)) dL_areAlike_36 ⟨Nat.le_of_ble_eq_true rfl, Nat.le_of_ble_eq_true rfl⟩) hP hD hS hA List.perm_append_comm List.perm_append_comm (fun H locs hP hD hS => ?_)
              have hP : va_P D vwCl (clW ck ca C ++ clW ck cb E) H := hP
              have hD : va_D (va_A (clW ck ca C ++ clW ck cb E) s.heap.size) (clW ck ca C ++ clW ck cb E) := hD
              refine lv_icmp_ne (tgt := 46) hx hb dL_areAlike_39 (by decide) (fun c_39 => ?_) (fun c_39 => ?_)
              · --t
                exact absurd (cnt_eq hC hE (by omega)) c_39
              · --f
                refine lv_iconst (v := 1) hx hb dL_areAlike_42 (by decide) ?_
                refine lv_goto (tgt := 47) hx hb dL_areAlike_43 (by decide) ?_
                refine lv_istore_n (lv' := [(2, .int 1), (0, .ref (ca 0 0)), (1, .ref (cb 0 0)), (3, .int (nI w))]) hx hb dL_areAlike_47 rfl hl (by decide) rfl (fun ls hl => ?_)
                refine lv_iinc (v := (nI (w + 1))) (lv' := [(3, .int (nI (w + 1))), (2, .int 1), (0, .ref (ca 0 0)), (1, .ref (cb 0 0))]) hx hb dL_areAlike_48 hl (k := 3) rfl (nI_1 w) (by decide) rfl (fun ls hl => ?_)
                refine lv_goto (tgt := 19) hx hb dL_areAlike_51 (by decide) ?_
                exact ih19 (w + 1) (by omega) _ _ _ hP hD hS (lv_sub hl [2, 3, 1, 0] rfl)
    exact loop19 16 0 (by omega) _ _ _ hP hD hS (lv_sub hl [2, 3, 1, 0] rfl)
