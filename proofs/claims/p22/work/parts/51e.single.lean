theorem xP_tail {D : va_G} {cl : List vw_C} {x w : va_W} {H : Heap} (h : va_P D cl (x ++ w) H) : va_P D cl w H := xP_iff.mpr fun q hq => xP_iff.mp h q (List.mem_append_right _ hq)
theorem xD_tail {A : Nat → Prop} {x w : va_W} (h : va_D A (x ++ w)) : va_D A w := by
  have h1 := xD_iff.mp h
  exact xD_iff.mpr ⟨(List.pairwise_append.mp h1.1).2.1, fun q hq => h1.2 q (List.mem_append_right _ hq)⟩
/-- the work that was left of those at work -/
def lfF (f : FS) (j : Nat) : Int32 := if oF f j 3 = 1 then oF f j 5 else -1
def lfA (f : FS) (i : Nat) : Nat → Int32 := fun j => if j < i then lfF f j else 0
theorem lfA_z {f : FS} : (fun _ : Nat => (0 : Int32)) = lfA f 0 := funext fun j => (if_neg (Nat.not_lt_zero j)).symm
theorem lfA_s {f : FS} {i : Nat} {x : Int32} (h : x = lfF f i) : upd (lfA f i) i x = lfA f (i + 1) := by
  funext j
  rw [f_upd]
  unfold lfA
  by_cases c : j = i
  · subst c
    rw [if_pos rfl, if_pos (Nat.lt_succ_self j), h]
  · rw [if_neg c]
    by_cases d : j < i
    · rw [if_pos d, if_pos (Nat.lt_succ_of_lt d)]
    · rw [if_neg d, if_neg (by omega)]
theorem lfF_1 {f : FS} {i : Nat} (h : oF f i 3 = 1) : oF f i 5 = lfF f i := (if_pos h).symm
theorem lfF_0 {f : FS} {i : Nat} (h : ¬ oF f i 3 = 1) : -1 = lfF f i := (if_neg h).symm
theorem lfA_1 {f : FS} {i n : Nat} (hi : i < n) (h : oF f i 3 = 1) : lfA f n i = oF f i 5 := (if_pos hi).trans (if_pos h)
theorem lfA_0 {f : FS} {i n : Nat} (hi : i < n) (h : ¬ oF f i 3 = 1) : lfA f n i = -1 := (if_pos hi).trans (if_neg h)
theorem wk_nn {f : FS} {j : Nat} (hm : mInv f) (hj : j < nF f) (h : oF f j 3 = 1) : 0 ≤ oF f j 5 := by
  have := mJ_wk (hm.2 j hj) h
  rw [x_ile, i_0]
  omega
theorem wk_nl {f : FS} {j : Nat} (hm : mInv f) (hj : j < nF f) (h : oF f j 3 = 1) : ¬ oF f j 5 < 0 := by
  have := mJ_wk (hm.2 j hj) h
  rw [x_ilt, i_0]
  omega
theorem off_s1 {f : FS} {i : Nat} (h : oF f i 3 = 1) (c : f 3 ≤ oF f i 5) : sS (offO f) i + f 3 = sS (offO f) (i + 1) := by
  show _ = sS (offO f) i + offO f i
  rw [off_1 h, if_pos c]
theorem off_s2 {f : FS} {i : Nat} (h : oF f i 3 = 1) (c : ¬ f 3 ≤ oF f i 5) : sS (offO f) i + oF f i 5 = sS (offO f) (i + 1) := by
  show _ = sS (offO f) i + offO f i
  rw [off_1 h, if_neg c]
theorem off_s0 {f : FS} {i : Nat} (h : ¬ oF f i 3 = 1) : sS (offO f) i + 0 = sS (offO f) (i + 1) := by
  show _ = sS (offO f) i + offO f i
  rw [off_0 h]
theorem x_nlt {a b : Int32} (h : ¬ a < b) : b ≤ a := by
  rw [x_ilt] at h
  rw [x_ile]
  omega
theorem x_lnt {a b : Int32} (h : a < b) : ¬ b ≤ a := by
  rw [x_ilt] at h
  rw [x_ile]
  omega
theorem dF_s1 {f : FS} {i : Nat} (h : oF f i 3 = 1) (c : ¬ f 3 < oF f i 5) : sS (dF f) i + 1 = sS (dF f) (i + 1) := by
  show _ = sS (dF f) i + dF f i
  rw [dF_1 ⟨h, x_nlt c⟩]
theorem dF_s2 {f : FS} {i : Nat} (c : f 3 < oF f i 5) : sS (dF f) i + 0 = sS (dF f) (i + 1) := by
  show _ = sS (dF f) i + dF f i
  rw [dF_0 (fun z => x_lnt c z.2)]
theorem dF_s0 {f : FS} {i : Nat} (h : ¬ oF f i 3 = 1) : sS (dF f) i + 0 = sS (dF f) (i + 1) := by
  show _ = sS (dF f) i + dF f i
  rw [dF_0 (fun z => h z.1)]
theorem sg_cnt {f g : FS} (hm : mInv f) (hn : nF g = nF f) (h : cB (stB f 1) (nF f) ≤ cB (stB g 1) (nF f) + cB (fB f) (nF f)) : ¬ gX6_manyWith g 1 < gX6_manyWith f 1 - sS (dF f) (nF f) := by
  have h16 := n_le hm
  have a := cB_n (p := stB f 1) (nF f)
  have b := cB_n (p := stB g 1) (nF f)
  have c := cB_n (p := fB f) (nF f)
  rw [many_N, many_N, dF_N, hn, x_ilt, isb (by rw [nI_toInt (by omega), nI_toInt (by omega)]; omega) (by rw [nI_toInt (by omega), nI_toInt (by omega)]; omega), nI_toInt (by omega), nI_toInt (by omega), nI_toInt (by omega)]
  omega
theorem dF_z {f : FS} (hm : mInv f) (h : ¬ 0 < sS (dF f) (nF f)) : cB (fB f) (nF f) = 0 := by
  have h16 := n_le hm
  have c := cB_n (p := fB f) (nF f)
  rw [dF_N, x_ilt, i_0, nI_toInt (by omega)] at h
  omega
def rmL_isSingle : Room := { frames := 7, cells := 1, slots := 16, locals := 170 }
set_option maxHeartbeats 16000000 in
set_option maxRecDepth 100000 in
theorem mL_isSingle (l : Launch) (D : va_G) (ck : Nat → ClassId) (ca : Nat → Nat → Nat) (C : CS) (f : FS) (hC : LR C f) : xMi l yL_isSingle wsL_isSingle rmL_isSingle D ck [.ref (ca 0 0)] (clW ck ca C) (clW ck ca (gX5_step C 1).2) 1 1 16 := by
  refine xMet (by decide) rfl (Nat.le_of_ble_eq_true rfl) ?_
  intro zp ze s zm zb zt zc hx hb hr hml hown hts hlk hnm hN hK hP hD ls hl
  have hown : s.vm.findClass RL = some zm.cls := hown
  have hm := hC.1.2
  have hn := n_le hm
  have hl : lv_has ls 12 [(0, .ref (ca 0 0))] := hl
  have hS : va_S (va_A (clW ck ca C) s.heap.size) s.heap s.heap [] := va_S.rf
  have hA : ∀ zq : Nat, s.heap.size ≤ zq → (va_A (clW ck ca C) s.heap.size) zq := fun zq h => Or.inr h
  refine lv_aload_n hx hb dL_isSingle_0 rfl (lv_at hl 0 rfl) ?_
  refine lv_iconst (v := 2) hx hb dL_isSingle_1 (by decide) ?_
  refine xreti (va_runV (As := [.int 2]) (rest := []) ⟨hx, hb, hml, hown, hts⟩ (mX5_count l D ck ca C 2 _) (cwV 1 hts gL_isSingle_X5_count rfl rfl rfl (by decide +kernel) ⟨Nat.le_of_ble_eq_true rfl, Nat.le_of_ble_eq_true rfl⟩) (xpreV hN hK hP hD pm_all 0 rfl rfl rfl) rfl rfl hl.1 rfl (lv_room (Nat.le_of_ble_eq_true rfl)) dL_isSingle_2 ⟨Nat.le_of_ble_eq_true rfl, Nat.le_of_ble_eq_true rfl⟩) hP hD hS hA pm_all pm_all' (fun H locs hP hD hS => ?_)
  have hP : va_P D vwCl (clW ck ca C) H := hP
  have hD : va_D (va_A (clW ck ca C) s.heap.size) (clW ck ca C) := hD
  rw [cnt_2 hC]
  refine lv_istore_n (lv' := [(1, .int (gX6_manyWith f 1)), (0, .ref (ca 0 0))]) hx hb dL_isSingle_5 rfl hl (by decide) rfl (fun ls hl => ?_)
  refine lv_aload_n hx hb dL_isSingle_6 rfl (lv_at hl 1 rfl) ?_
  refine lv_bipush (v := 15) hx hb dL_isSingle_7 (by decide) ?_
  refine xreti (va_runV (As := [.int 15]) (rest := []) ⟨hx, hb, hml, hown, hts⟩ (mX5_count l D ck ca C 15 _) (cwV 1 hts gL_isSingle_X5_count rfl rfl rfl (by decide +kernel) ⟨Nat.le_of_ble_eq_true rfl, Nat.le_of_ble_eq_true rfl⟩) (xpreV hN hK hP hD pm_all 0 rfl rfl rfl) rfl rfl hl.1 rfl (lv_room (Nat.le_of_ble_eq_true rfl)) dL_isSingle_9 ⟨Nat.le_of_ble_eq_true rfl, Nat.le_of_ble_eq_true rfl⟩) hP hD hS hA pm_all pm_all' (fun H locs hP hD hS => ?_)
  have hP : va_P D vwCl (clW ck ca C) H := hP
  have hD : va_D (va_A (clW ck ca C) s.heap.size) (clW ck ca C) := hD
  rw [cnt_15 hC]
  refine lv_istore_n (lv' := [(2, .int (f 3)), (1, .int (gX6_manyWith f 1)), (0, .ref (ca 0 0))]) hx hb dL_isSingle_12 rfl hl (by decide) rfl (fun ls hl => ?_)
  refine lv_aload_n hx hb dL_isSingle_13 rfl (lv_at hl 2 rfl) ?_
  refine lv_bipush (v := 9) hx hb dL_isSingle_14 (by decide) ?_
  refine xreti (va_runV (As := [.int 9]) (rest := []) ⟨hx, hb, hml, hown, hts⟩ (mX5_count l D ck ca C 9 _) (cwV 1 hts gL_isSingle_X5_count rfl rfl rfl (by decide +kernel) ⟨Nat.le_of_ble_eq_true rfl, Nat.le_of_ble_eq_true rfl⟩) (xpreV hN hK hP hD pm_all 0 rfl rfl rfl) rfl rfl hl.1 rfl (lv_room (Nat.le_of_ble_eq_true rfl)) dL_isSingle_16 ⟨Nat.le_of_ble_eq_true rfl, Nat.le_of_ble_eq_true rfl⟩) hP hD hS hA pm_all pm_all' (fun H locs hP hD hS => ?_)
  have hP : va_P D vwCl (clW ck ca C) H := hP
  have hD : va_D (va_A (clW ck ca C) s.heap.size) (clW ck ca C) := hD
  rw [cnt_9 hC]
  refine lv_istore_n (lv' := [(3, .int (f 7)), (2, .int (f 3)), (1, .int (gX6_manyWith f 1)), (0, .ref (ca 0 0))]) hx hb dL_isSingle_19 rfl hl (by decide) rfl (fun ls hl => ?_)
  refine lv_bipush (v := (nI 16)) hx hb dL_isSingle_20 (by decide) ?_
  refine xnewi (N := 16) hx hb (hts (.arrayClass .int) (List.mem_of_getElem? (i := 1) rfl)) hK hP hD hS hA (by decide) (by decide) (Nat.le_of_ble_eq_true rfl) (Nat.le_of_ble_eq_true rfl) (Nat.le_of_ble_eq_true rfl) dL_isSingle_22 (fun q22 H hP hD hS => ?_)
  have hP := xP_perm List.perm_append_comm hP
  have hD := xD_perm List.perm_append_comm hD
  have hP : va_P D vwCl ([(q22, .inl (ck 0, 16, .inl (fun _ => 0)))] ++ clW ck ca C) H := hP
  have hD : va_D (va_A (clW ck ca C) s.heap.size) ([(q22, .inl (ck 0, 16, .inl (fun _ => 0)))] ++ clW ck ca C) := hD
  rw [show (fun _ : Nat => (0 : Int32)) = (lfA f 0) from lfA_z] at hP hD
  refine lv_astore (lv' := [(4, .ref q22), (3, .int (f 7)), (2, .int (f 3)), (1, .int (gX6_manyWith f 1)), (0, .ref (ca 0 0))]) hx hb dL_isSingle_24 hl (by decide) rfl (fun ls hl => ?_)
  refine lv_iconst (v := 0) hx hb dL_isSingle_26 (by decide) ?_
  refine lv_istore (lv' := [(5, .int 0), (4, .ref q22), (3, .int (f 7)), (2, .int (f 3)), (1, .int (gX6_manyWith f 1)), (0, .ref (ca 0 0))]) hx hb dL_isSingle_27 hl (by decide) rfl (fun ls hl => ?_)
  refine lv_iconst (v := 0) hx hb dL_isSingle_29 (by decide) ?_
  refine lv_istore (lv' := [(6, .int 0), (5, .int 0), (4, .ref q22), (3, .int (f 7)), (2, .int (f 3)), (1, .int (gX6_manyWith f 1)), (0, .ref (ca 0 0))]) hx hb dL_isSingle_30 hl (by decide) rfl (fun ls hl => ?_)
  refine lv_aload_n hx hb dL_isSingle_32 rfl (lv_at hl 6 rfl) ?_
  refine lv_iconst (v := 0) hx hb dL_isSingle_33 (by decide) ?_
  refine xreti (va_runV (As := [.int 0]) (rest := []) ⟨hx, hb, hml, hown, hts⟩ (mX5_count l D ck ca C 0 _) (cwV 1 hts gL_isSingle_X5_count rfl rfl rfl (by decide +kernel) ⟨Nat.le_of_ble_eq_true rfl, Nat.le_of_ble_eq_true rfl⟩) (xpreV hN hK hP hD List.perm_append_comm 0 rfl rfl rfl) rfl rfl hl.1 rfl (lv_room (Nat.le_of_ble_eq_true rfl)) dL_isSingle_34 ⟨Nat.le_of_ble_eq_true rfl, Nat.le_of_ble_eq_true rfl⟩) hP hD hS hA List.perm_append_comm List.perm_append_comm (fun H locs hP hD hS => ?_)
  have hP : va_P D vwCl ([(q22, .inl (ck 0, 16, .inl (lfA f 0)))] ++ clW ck ca C) H := hP
  have hD : va_D (va_A (clW ck ca C) s.heap.size) ([(q22, .inl (ck 0, 16, .inl (lfA f 0)))] ++ clW ck ca C) := hD
  rw [cnt0 hC]
  refine lv_istore (lv' := [(7, .int (nI (nF f))), (6, .int 0), (5, .int 0), (4, .ref q22), (3, .int (f 7)), (2, .int (f 3)), (1, .int (gX6_manyWith f 1)), (0, .ref (ca 0 0))]) hx hb dL_isSingle_37 hl (by decide) rfl (fun ls hl => ?_)
  refine lv_iconst (v := (nI 0)) hx hb dL_isSingle_39 (by decide) ?_
  refine lv_istore (lv' := [(8, .int (nI 0)), (7, .int (nI (nF f))), (6, .int 0), (5, .int 0), (4, .ref q22), (3, .int (f 7)), (2, .int (f 3)), (1, .int (gX6_manyWith f 1)), (0, .ref (ca 0 0))]) hx hb dL_isSingle_40 hl (by decide) rfl (fun ls hl => ?_)
  have loop42 : ∀ (fu42 : Nat) (i : Nat), (i + fu42 = nF f) → ∀ (H : Heap) (locs : List Loc) (ls : Array Slot), va_P D vwCl ([(q22, .inl (ck 0, 16, .inl (lfA f i)))] ++ clW ck ca C) H → va_D (va_A (clW ck ca C) s.heap.size) ([(q22, .inl (ck 0, 16, .inl (lfA f i)))] ++ clW ck ca C) → va_S (va_A (clW ck ca C) s.heap.size) s.heap H locs → lv_has ls 12 [(0, .ref (ca 0 0)), (1, .int (gX6_manyWith f 1)), (2, .int (f 3)), (3, .int (f 7)), (4, .ref q22), (5, .int (sS (offO f) i)), (6, .int (sS (dF f) i)), (7, .int (nI (nF f))), (8, .int (nI i))] → W zp l ze rmL_isSingle s zm ([.ref (ca 0 0)] : List Value).toArray zb zt zc H locs (0 + 1) (0 + 16) (MQ zb (xQi D (clW ck ca C) (clW ck ca (gX5_step C 1).2) 1 s.heap.size) ([.ref (ca 0 0)] : List Value).toArray s 1 16 (va_A (clW ck ca C) s.heap.size)) (F0 zm 42 ls []) := by
    intro fu42
    induction fu42 with
    | zero =>
        intro i hf42  H locs ls hP hD hS hl
        obtain rfl : i = nF f := by omega
        refine lv_iload hx hb dL_isSingle_42 (lv_at hl 8 rfl) ?_
        refine lv_iload hx hb dL_isSingle_44 (lv_at hl 7 rfl) ?_
        refine lv_icmp_ge (tgt := 145) hx hb dL_isSingle_46 (by decide) (fun c_46 => ?_) (fun c_46 => ?_)
        · --t
          refine lv_aload_n hx hb dL_isSingle_145 rfl (lv_at hl 0 rfl) ?_
          refine lv_bipush (v := 8) hx hb dL_isSingle_146 (by decide) ?_
          refine xreti (va_runV (As := [.int 8]) (rest := []) ⟨hx, hb, hml, hown, hts⟩ (mX5_count l D ck ca C 8 _) (cwV 1 hts gL_isSingle_X5_count rfl rfl rfl (by decide +kernel) ⟨Nat.le_of_ble_eq_true rfl, Nat.le_of_ble_eq_true rfl⟩) (xpreV hN hK hP hD List.perm_append_comm 0 rfl rfl rfl) rfl rfl hl.1 rfl (lv_room (Nat.le_of_ble_eq_true rfl)) dL_isSingle_148 ⟨Nat.le_of_ble_eq_true rfl, Nat.le_of_ble_eq_true rfl⟩) hP hD hS hA List.perm_append_comm List.perm_append_comm (fun H locs hP hD hS => ?_)
          have hP : va_P D vwCl ([(q22, .inl (ck 0, 16, .inl (lfA f (nF f))))] ++ clW ck ca C) H := hP
          have hD : va_D (va_A (clW ck ca C) s.heap.size) ([(q22, .inl (ck 0, 16, .inl (lfA f (nF f))))] ++ clW ck ca C) := hD
          rw [cnt_8 hC]
          refine lv_istore (lv' := [(8, .int (f 6)), (0, .ref (ca 0 0)), (1, .int (gX6_manyWith f 1)), (2, .int (f 3)), (3, .int (f 7)), (4, .ref q22), (5, .int (sS (offO f) (nF f))), (6, .int (sS (dF f) (nF f))), (7, .int (nI (nF f)))]) hx hb dL_isSingle_151 hl (by decide) rfl (fun ls hl => ?_)
          refine lv_aload_n hx hb dL_isSingle_153 rfl (lv_at hl 1 rfl) ?_
          refine lv_iconst (v := 1) hx hb dL_isSingle_154 (by decide) ?_
          refine xreti (va_runV (As := [.int 1]) (rest := []) ⟨hx, hb, hml, hown, hts⟩ (mX5_step l D ck ca C 1 (LR_hz hC) _) (cwV 1 hts gL_isSingle_X5_step rfl rfl rfl (by decide +kernel) ⟨Nat.le_of_ble_eq_true rfl, Nat.le_of_ble_eq_true rfl⟩) (xpreV hN hK hP hD List.perm_append_comm 0 rfl rfl rfl) rfl rfl hl.1 rfl (lv_room (Nat.le_of_ble_eq_true rfl)) dL_isSingle_155 ⟨Nat.le_of_ble_eq_true rfl, Nat.le_of_ble_eq_true rfl⟩) hP hD hS hA List.perm_append_comm List.perm_append_comm (fun H locs hP hD hS => ?_)
          have hP : va_P D vwCl ([(q22, .inl (ck 0, 16, .inl (lfA f (nF f))))] ++ clW ck ca ((gX5_step C 1).2)) H := hP
          have hD : va_D (va_A (clW ck ca C) s.heap.size) ([(q22, .inl (ck 0, 16, .inl (lfA f (nF f))))] ++ clW ck ca ((gX5_step C 1).2)) := hD
          obtain ⟨hs1, hC1⟩ := l_step1 hC
          obtain ⟨g1, g2, g3, g4, g5, g6⟩ := st_tell hm
          rw [hs1, g1, ← dF_N]
          refine lv_istore (lv' := [(9, .int (sS (dF f) (nF f))), (8, .int (f 6)), (0, .ref (ca 0 0)), (1, .int (gX6_manyWith f 1)), (2, .int (f 3)), (3, .int (f 7)), (4, .ref q22), (5, .int (sS (offO f) (nF f))), (6, .int (sS (dF f) (nF f))), (7, .int (nI (nF f)))]) hx hb dL_isSingle_158 hl (by decide) rfl (fun ls hl => ?_)
          refine lv_iload hx hb dL_isSingle_160 (lv_at hl 0 rfl) ?_
          refine lv_iload hx hb dL_isSingle_162 (lv_at hl 8 rfl) ?_
          refine lv_icmp_ne (tgt := 209) hx hb dL_isSingle_164 (by decide) (fun c_164 => ?_) (fun c_164 => ?_)
          · --t
            exact absurd rfl c_164
          · --f
            refine lv_aload_n hx hb dL_isSingle_167 rfl (lv_at hl 2 rfl) ?_
            refine lv_bipush (v := 9) hx hb dL_isSingle_168 (by decide) ?_
            refine xreti (va_runV (As := [.int 9]) (rest := []) ⟨hx, hb, hml, hown, hts⟩ (mX5_count l D ck ca ((gX5_step C 1).2) 9 _) (cwV 1 hts gL_isSingle_X5_count rfl rfl rfl (by decide +kernel) ⟨Nat.le_of_ble_eq_true rfl, Nat.le_of_ble_eq_true rfl⟩) (xpreV hN hK hP hD List.perm_append_comm 0 rfl rfl rfl) rfl rfl hl.1 rfl (lv_room (Nat.le_of_ble_eq_true rfl)) dL_isSingle_170 ⟨Nat.le_of_ble_eq_true rfl, Nat.le_of_ble_eq_true rfl⟩) hP hD hS hA List.perm_append_comm List.perm_append_comm (fun H locs hP hD hS => ?_)
            have hP : va_P D vwCl ([(q22, .inl (ck 0, 16, .inl (lfA f (nF f))))] ++ clW ck ca ((gX5_step C 1).2)) H := hP
            have hD : va_D (va_A (clW ck ca C) s.heap.size) ([(q22, .inl (ck 0, 16, .inl (lfA f (nF f))))] ++ clW ck ca ((gX5_step C 1).2)) := hD
            rw [cnt_9 hC1]
            refine lv_iload_n hx hb dL_isSingle_173 rfl (lv_at hl 5 rfl) ?_
            refine lv_iload hx hb dL_isSingle_174 (lv_at hl 7 rfl) ?_
            refine lv_iadd hx hb dL_isSingle_176 ?_
            refine lv_icmp_ne (tgt := 209) hx hb dL_isSingle_177 (by decide) (fun c_177 => ?_) (fun c_177 => ?_)
            · --t
              exact absurd g2 c_177
            · --f
              refine lv_aload_n hx hb dL_isSingle_180 rfl (lv_at hl 2 rfl) ?_
              refine lv_bipush (v := 8) hx hb dL_isSingle_181 (by decide) ?_
              refine xreti (va_runV (As := [.int 8]) (rest := []) ⟨hx, hb, hml, hown, hts⟩ (mX5_count l D ck ca ((gX5_step C 1).2) 8 _) (cwV 1 hts gL_isSingle_X5_count rfl rfl rfl (by decide +kernel) ⟨Nat.le_of_ble_eq_true rfl, Nat.le_of_ble_eq_true rfl⟩) (xpreV hN hK hP hD List.perm_append_comm 0 rfl rfl rfl) rfl rfl hl.1 rfl (lv_room (Nat.le_of_ble_eq_true rfl)) dL_isSingle_183 ⟨Nat.le_of_ble_eq_true rfl, Nat.le_of_ble_eq_true rfl⟩) hP hD hS hA List.perm_append_comm List.perm_append_comm (fun H locs hP hD hS => ?_)
              have hP : va_P D vwCl ([(q22, .inl (ck 0, 16, .inl (lfA f (nF f))))] ++ clW ck ca ((gX5_step C 1).2)) H := hP
              have hD : va_D (va_A (clW ck ca C) s.heap.size) ([(q22, .inl (ck 0, 16, .inl (lfA f (nF f))))] ++ clW ck ca ((gX5_step C 1).2)) := hD
              rw [cnt_8 hC1]
              refine lv_iload hx hb dL_isSingle_186 (lv_at hl 1 rfl) ?_
              refine lv_iconst (v := 1) hx hb dL_isSingle_188 (by decide) ?_
              refine lv_iadd hx hb dL_isSingle_189 ?_
              refine lv_icmp_ne (tgt := 209) hx hb dL_isSingle_190 (by decide) (fun c_190 => ?_) (fun c_190 => ?_)
              · --t
                exact absurd g3 c_190
              · --f
                refine lv_aload_n hx hb dL_isSingle_193 rfl (lv_at hl 2 rfl) ?_
                refine lv_iconst (v := 2) hx hb dL_isSingle_194 (by decide) ?_
                refine xreti (va_runV (As := [.int 2]) (rest := []) ⟨hx, hb, hml, hown, hts⟩ (mX5_count l D ck ca ((gX5_step C 1).2) 2 _) (cwV 1 hts gL_isSingle_X5_count rfl rfl rfl (by decide +kernel) ⟨Nat.le_of_ble_eq_true rfl, Nat.le_of_ble_eq_true rfl⟩) (xpreV hN hK hP hD List.perm_append_comm 0 rfl rfl rfl) rfl rfl hl.1 rfl (lv_room (Nat.le_of_ble_eq_true rfl)) dL_isSingle_195 ⟨Nat.le_of_ble_eq_true rfl, Nat.le_of_ble_eq_true rfl⟩) hP hD hS hA List.perm_append_comm List.perm_append_comm (fun H locs hP hD hS => ?_)
                have hP : va_P D vwCl ([(q22, .inl (ck 0, 16, .inl (lfA f (nF f))))] ++ clW ck ca ((gX5_step C 1).2)) H := hP
                have hD : va_D (va_A (clW ck ca C) s.heap.size) ([(q22, .inl (ck 0, 16, .inl (lfA f (nF f))))] ++ clW ck ca ((gX5_step C 1).2)) := hD
                rw [cnt_2 hC1]
                refine lv_iload_n hx hb dL_isSingle_198 rfl (lv_at hl 3 rfl) ?_
                refine lv_iload hx hb dL_isSingle_199 (lv_at hl 8 rfl) ?_
                refine lv_isub hx hb dL_isSingle_201 ?_
                refine lv_icmp_lt (tgt := 209) hx hb dL_isSingle_202 (by decide) (fun c_202 => ?_) (fun c_202 => ?_)
                · --t
                  exact absurd c_202 (sg_cnt hm g4 g5)
                · --f
                  refine lv_iconst (v := 1) hx hb dL_isSingle_205 (by decide) ?_
                  refine lv_goto (tgt := 210) hx hb dL_isSingle_206 (by decide) ?_
                  refine lv_istore (lv' := [(10, .int 1), (9, .int (sS (dF f) (nF f))), (8, .int (f 6)), (0, .ref (ca 0 0)), (1, .int (gX6_manyWith f 1)), (2, .int (f 3)), (3, .int (f 7)), (4, .ref q22), (5, .int (sS (offO f) (nF f))), (6, .int (sS (dF f) (nF f))), (7, .int (nI (nF f)))]) hx hb dL_isSingle_210 hl (by decide) rfl (fun ls hl => ?_)
                  refine lv_iconst (v := (nI 0)) hx hb dL_isSingle_212 (by decide) ?_
                  refine lv_istore (lv' := [(11, .int (nI 0)), (10, .int 1), (9, .int (sS (dF f) (nF f))), (8, .int (f 6)), (0, .ref (ca 0 0)), (1, .int (gX6_manyWith f 1)), (2, .int (f 3)), (3, .int (f 7)), (4, .ref q22), (5, .int (sS (offO f) (nF f))), (6, .int (sS (dF f) (nF f))), (7, .int (nI (nF f)))]) hx hb dL_isSingle_213 hl (by decide) rfl (fun ls hl => ?_)
                  have loop215 : ∀ (fu215 : Nat) (j : Nat), (j + fu215 = nF f) → ∀ (H : Heap) (locs : List Loc) (ls : Array Slot), va_P D vwCl ([(q22, .inl (ck 0, 16, .inl (lfA f (nF f))))] ++ clW ck ca ((gX5_step C 1).2)) H → va_D (va_A (clW ck ca C) s.heap.size) ([(q22, .inl (ck 0, 16, .inl (lfA f (nF f))))] ++ clW ck ca ((gX5_step C 1).2)) → va_S (va_A (clW ck ca C) s.heap.size) s.heap H locs → lv_has ls 12 [(0, .ref (ca 0 0)), (2, .int (f 3)), (4, .ref q22), (6, .int (sS (dF f) (nF f))), (7, .int (nI (nF f))), (10, .int 1), (11, .int (nI j))] → W zp l ze rmL_isSingle s zm ([.ref (ca 0 0)] : List Value).toArray zb zt zc H locs (0 + 1) (0 + 16) (MQ zb (xQi D (clW ck ca C) (clW ck ca (gX5_step C 1).2) 1 s.heap.size) ([.ref (ca 0 0)] : List Value).toArray s 1 16 (va_A (clW ck ca C) s.heap.size)) (F0 zm 215 ls []) := by
                    intro fu215
                    induction fu215 with
                    | zero =>
                        intro j hf215  H locs ls hP hD hS hl
                        refine lv_iload hx hb dL_isSingle_215 (lv_at hl 6 rfl) ?_
                        refine lv_iload hx hb dL_isSingle_217 (lv_at hl 4 rfl) ?_
                        refine lv_icmp_ge (tgt := 316) hx hb dL_isSingle_219 (by decide) (fun c_219 => ?_) (fun c_219 => ?_)
                        · --t
                          refine lv_iload hx hb dL_isSingle_316 (lv_at hl 5 rfl) ?_
                          have hP := xP_tail hP
                          have hD := xD_tail hD
                          exact xzret hx hb hr hlk hP hD hS (Or.inr rfl) rfl rfl dL_isSingle_318
                        · --f
                          exact absurd (nI_le (by omega) (by omega)) c_219
                    | succ fu215 ih215 =>
                        intro j hf215  H locs ls hP hD hS hl
                        have hj : j < nF f := by omega
                        refine lv_iload hx hb dL_isSingle_215 (lv_at hl 6 rfl) ?_
                        refine lv_iload hx hb dL_isSingle_217 (lv_at hl 4 rfl) ?_
                        refine lv_icmp_ge (tgt := 316) hx hb dL_isSingle_219 (by decide) (fun c_219 => ?_) (fun c_219 => ?_)
                        · --t
                          exact absurd c_219 (nI_ge (by omega) (by omega))
                        · --f
                          refine lv_iload hx hb dL_isSingle_222 (lv_at hl 5 rfl) ?_
                          refine lv_if_eq (tgt := 316) hx hb dL_isSingle_224 (by decide) (fun c_224 => ?_) (fun c_224 => ?_)
                          · --t
                            exact absurd c_224 (by decide)
                          · --f
                            refine lv_aload hx hb dL_isSingle_227 (lv_at hl 2 rfl) ?_
                            refine lv_iload hx hb dL_isSingle_229 (lv_at hl 6 rfl) ?_
                            refine xiald (j := j) (nI_clamp (by omega)) hx hb hK hP 0 0 rfl rfl (vp_in_nI (by omega) (by decide)) dL_isSingle_231 ?_
                            by_cases hs : oF f j 3 = 1
                            · --1
                              rw [show (((lfA f (nF f)) j) : Int32) = (oF f j 5) from (lfA_1 hj hs)]
                              refine lv_if_lt (tgt := 303) hx hb dL_isSingle_232 (by decide) (fun c_232 => ?_) (fun c_232 => ?_)
                              · --t
                                exact absurd c_232 (wk_nl hm hj hs)
                              · --f
                                refine lv_aload hx hb dL_isSingle_235 (lv_at hl 2 rfl) ?_
                                refine lv_iload hx hb dL_isSingle_237 (lv_at hl 6 rfl) ?_
                                refine xiald (j := j) (nI_clamp (by omega)) hx hb hK hP 0 0 rfl rfl (vp_in_nI (by omega) (by decide)) dL_isSingle_239 ?_
                                rw [show (((lfA f (nF f)) j) : Int32) = (oF f j 5) from (lfA_1 hj hs)]
                                refine lv_iload_n hx hb dL_isSingle_240 rfl (lv_at hl 1 rfl) ?_
                                refine lv_icmp_gt (tgt := 269) hx hb dL_isSingle_241 (by decide) (fun c_241 => ?_) (fun c_241 => ?_)
                                · --t
                                  refine lv_aload_n hx hb dL_isSingle_269 rfl (lv_at hl 0 rfl) ?_
                                  refine lv_iload hx hb dL_isSingle_270 (lv_at hl 6 rfl) ?_
                                  refine lv_iconst (v := 3) hx hb dL_isSingle_272 (by decide) ?_
                                  refine xreti (va_runV (As := [.int (nI j), .int 3]) (rest := []) ⟨hx, hb, hml, hown, hts⟩ (mX5_join l D ck ca ((gX5_step C 1).2) (nI j) 3 _) (cwV 2 hts gL_isSingle_X5_join rfl rfl rfl (by decide +kernel) ⟨Nat.le_of_ble_eq_true rfl, Nat.le_of_ble_eq_true rfl⟩) (xpreV hN hK hP hD List.perm_append_comm 0 rfl rfl rfl) rfl rfl hl.1 rfl (lv_room (Nat.le_of_ble_eq_true rfl)) dL_isSingle_273 ⟨Nat.le_of_ble_eq_true rfl, Nat.le_of_ble_eq_true rfl⟩) hP hD hS hA List.perm_append_comm List.perm_append_comm (fun H locs hP hD hS => ?_)
                                  have hP : va_P D vwCl ([(q22, .inl (ck 0, 16, .inl (lfA f (nF f))))] ++ clW ck ca ((gX5_step C 1).2)) H := hP
                                  have hD : va_D (va_A (clW ck ca C) s.heap.size) ([(q22, .inl (ck 0, 16, .inl (lfA f (nF f))))] ++ clW ck ca ((gX5_step C 1).2)) := hD
                                  rw [jn_3 hC1 (show j < nF (gX6_steps f).2 by rw [g4]; exact hj)]
                                  rw [show ((oF ((gX6_steps f).2) j 3) : Int32) = 1 from ((g6 j hj hs).2 (x_lnt c_241)).1]
                                  refine lv_iconst (v := 1) hx hb dL_isSingle_276 (by decide) ?_
                                  refine lv_icmp_ne (tgt := 307) hx hb dL_isSingle_277 (by decide) (fun c_277 => ?_) (fun c_277 => ?_)
                                  · --t
                                    exact absurd (by decide) c_277
                                  · --f
                                    refine lv_iload hx hb dL_isSingle_280 (lv_at hl 3 rfl) ?_
                                    refine lv_if_gt (tgt := 303) hx hb dL_isSingle_282 (by decide) (fun c_282 => ?_) (fun c_282 => ?_)
                                    · --t
                                      refine lv_iconst (v := 1) hx hb dL_isSingle_303 (by decide) ?_
                                      refine lv_goto (tgt := 308) hx hb dL_isSingle_304 (by decide) ?_
                                      refine lv_istore (lv' := [(10, .int 1), (0, .ref (ca 0 0)), (2, .int (f 3)), (4, .ref q22), (6, .int (sS (dF f) (nF f))), (7, .int (nI (nF f))), (11, .int (nI j))]) hx hb dL_isSingle_308 hl (by decide) rfl (fun ls hl => ?_)
                                      refine lv_iinc (v := (nI (j + 1))) (lv' := [(11, .int (nI (j + 1))), (10, .int 1), (0, .ref (ca 0 0)), (2, .int (f 3)), (4, .ref q22), (6, .int (sS (dF f) (nF f))), (7, .int (nI (nF f)))]) hx hb dL_isSingle_310 hl (k := 6) rfl (nI_1 j) (by decide) rfl (fun ls hl => ?_)
                                      refine lv_goto (tgt := 215) hx hb dL_isSingle_313 (by decide) ?_
                                      exact ih215 (j + 1) (by omega) _ _ _ hP hD hS (lv_sub hl [2, 3, 4, 5, 6, 1, 0] rfl)
                                    · --f
                                      refine lv_aload_n hx hb dL_isSingle_285 rfl (lv_at hl 0 rfl) ?_
                                      refine lv_iload hx hb dL_isSingle_286 (lv_at hl 6 rfl) ?_
                                      refine lv_bipush (v := 7) hx hb dL_isSingle_288 (by decide) ?_
                                      refine xreti (va_runV (As := [.int (nI j), .int 7]) (rest := []) ⟨hx, hb, hml, hown, hts⟩ (mX5_join l D ck ca ((gX5_step C 1).2) (nI j) 7 _) (cwV 2 hts gL_isSingle_X5_join rfl rfl rfl (by decide +kernel) ⟨Nat.le_of_ble_eq_true rfl, Nat.le_of_ble_eq_true rfl⟩) (xpreV hN hK hP hD List.perm_append_comm 0 rfl rfl rfl) rfl rfl hl.1 rfl (lv_room (Nat.le_of_ble_eq_true rfl)) dL_isSingle_290 ⟨Nat.le_of_ble_eq_true rfl, Nat.le_of_ble_eq_true rfl⟩) hP hD hS hA List.perm_append_comm List.perm_append_comm (fun H locs hP hD hS => ?_)
                                      have hP : va_P D vwCl ([(q22, .inl (ck 0, 16, .inl (lfA f (nF f))))] ++ clW ck ca ((gX5_step C 1).2)) H := hP
                                      have hD : va_D (va_A (clW ck ca C) s.heap.size) ([(q22, .inl (ck 0, 16, .inl (lfA f (nF f))))] ++ clW ck ca ((gX5_step C 1).2)) := hD
                                      rw [jn_7 hC1 (show j < nF (gX6_steps f).2 by rw [g4]; exact hj)]
                                      refine lv_aload hx hb dL_isSingle_293 (lv_at hl 2 rfl) ?_
                                      refine lv_iload hx hb dL_isSingle_295 (lv_at hl 6 rfl) ?_
                                      refine xiald (j := j) (nI_clamp (by omega)) hx hb hK hP 0 0 rfl rfl (vp_in_nI (by omega) (by decide)) dL_isSingle_297 ?_
                                      rw [show (((lfA f (nF f)) j) : Int32) = (oF f j 5) from (lfA_1 hj hs)]
                                      refine lv_iload_n hx hb dL_isSingle_298 rfl (lv_at hl 1 rfl) ?_
                                      refine lv_isub hx hb dL_isSingle_299 ?_
                                      refine lv_icmp_ne (tgt := 307) hx hb dL_isSingle_300 (by decide) (fun c_300 => ?_) (fun c_300 => ?_)
                                      · --t
                                        exact absurd (((g6 j hj hs).2 (x_lnt c_241)).2 (dF_z hm c_282)) c_300
                                      · --f
                                        refine lv_iconst (v := 1) hx hb dL_isSingle_303 (by decide) ?_
                                        refine lv_goto (tgt := 308) hx hb dL_isSingle_304 (by decide) ?_
                                        refine lv_istore (lv' := [(10, .int 1), (0, .ref (ca 0 0)), (2, .int (f 3)), (4, .ref q22), (6, .int (sS (dF f) (nF f))), (7, .int (nI (nF f))), (11, .int (nI j))]) hx hb dL_isSingle_308 hl (by decide) rfl (fun ls hl => ?_)
                                        refine lv_iinc (v := (nI (j + 1))) (lv' := [(11, .int (nI (j + 1))), (10, .int 1), (0, .ref (ca 0 0)), (2, .int (f 3)), (4, .ref q22), (6, .int (sS (dF f) (nF f))), (7, .int (nI (nF f)))]) hx hb dL_isSingle_310 hl (k := 6) rfl (nI_1 j) (by decide) rfl (fun ls hl => ?_)
                                        refine lv_goto (tgt := 215) hx hb dL_isSingle_313 (by decide) ?_
                                        exact ih215 (j + 1) (by omega) _ _ _ hP hD hS (lv_sub hl [2, 3, 4, 5, 6, 1, 0] rfl)
                                · --f
                                  refine lv_aload_n hx hb dL_isSingle_244 rfl (lv_at hl 0 rfl) ?_
                                  refine lv_iload hx hb dL_isSingle_245 (lv_at hl 6 rfl) ?_
                                  refine lv_iconst (v := 3) hx hb dL_isSingle_247 (by decide) ?_
                                  refine xreti (va_runV (As := [.int (nI j), .int 3]) (rest := []) ⟨hx, hb, hml, hown, hts⟩ (mX5_join l D ck ca ((gX5_step C 1).2) (nI j) 3 _) (cwV 2 hts gL_isSingle_X5_join rfl rfl rfl (by decide +kernel) ⟨Nat.le_of_ble_eq_true rfl, Nat.le_of_ble_eq_true rfl⟩) (xpreV hN hK hP hD List.perm_append_comm 0 rfl rfl rfl) rfl rfl hl.1 rfl (lv_room (Nat.le_of_ble_eq_true rfl)) dL_isSingle_248 ⟨Nat.le_of_ble_eq_true rfl, Nat.le_of_ble_eq_true rfl⟩) hP hD hS hA List.perm_append_comm List.perm_append_comm (fun H locs hP hD hS => ?_)
                                  have hP : va_P D vwCl ([(q22, .inl (ck 0, 16, .inl (lfA f (nF f))))] ++ clW ck ca ((gX5_step C 1).2)) H := hP
                                  have hD : va_D (va_A (clW ck ca C) s.heap.size) ([(q22, .inl (ck 0, 16, .inl (lfA f (nF f))))] ++ clW ck ca ((gX5_step C 1).2)) := hD
                                  rw [jn_3 hC1 (show j < nF (gX6_steps f).2 by rw [g4]; exact hj)]
                                  rw [show ((oF ((gX6_steps f).2) j 3) : Int32) = 2 from ((g6 j hj hs).1 (x_nlt c_241)).1]
                                  refine lv_iconst (v := 2) hx hb dL_isSingle_251 (by decide) ?_
                                  refine lv_icmp_ne (tgt := 307) hx hb dL_isSingle_252 (by decide) (fun c_252 => ?_) (fun c_252 => ?_)
                                  · --t
                                    exact absurd (by decide) c_252
                                  · --f
                                    refine lv_aload_n hx hb dL_isSingle_255 rfl (lv_at hl 0 rfl) ?_
                                    refine lv_iload hx hb dL_isSingle_256 (lv_at hl 6 rfl) ?_
                                    refine lv_bipush (v := 6) hx hb dL_isSingle_258 (by decide) ?_
                                    refine xreti (va_runV (As := [.int (nI j), .int 6]) (rest := []) ⟨hx, hb, hml, hown, hts⟩ (mX5_join l D ck ca ((gX5_step C 1).2) (nI j) 6 _) (cwV 2 hts gL_isSingle_X5_join rfl rfl rfl (by decide +kernel) ⟨Nat.le_of_ble_eq_true rfl, Nat.le_of_ble_eq_true rfl⟩) (xpreV hN hK hP hD List.perm_append_comm 0 rfl rfl rfl) rfl rfl hl.1 rfl (lv_room (Nat.le_of_ble_eq_true rfl)) dL_isSingle_260 ⟨Nat.le_of_ble_eq_true rfl, Nat.le_of_ble_eq_true rfl⟩) hP hD hS hA List.perm_append_comm List.perm_append_comm (fun H locs hP hD hS => ?_)
                                    have hP : va_P D vwCl ([(q22, .inl (ck 0, 16, .inl (lfA f (nF f))))] ++ clW ck ca ((gX5_step C 1).2)) H := hP
                                    have hD : va_D (va_A (clW ck ca C) s.heap.size) ([(q22, .inl (ck 0, 16, .inl (lfA f (nF f))))] ++ clW ck ca ((gX5_step C 1).2)) := hD
                                    rw [jn_6 hC1 (show j < nF (gX6_steps f).2 by rw [g4]; exact hj)]
                                    rw [show ((oF ((gX6_steps f).2) j 4) : Int32) = 0 from ((g6 j hj hs).1 (x_nlt c_241)).2]
                                    refine lv_if_ne (tgt := 307) hx hb dL_isSingle_263 (by decide) (fun c_263 => ?_) (fun c_263 => ?_)
                                    · --t
                                      exact absurd (by decide) c_263
                                    · --f
                                      refine lv_goto (tgt := 303) hx hb dL_isSingle_266 (by decide) ?_
                                      refine lv_iconst (v := 1) hx hb dL_isSingle_303 (by decide) ?_
                                      refine lv_goto (tgt := 308) hx hb dL_isSingle_304 (by decide) ?_
                                      refine lv_istore (lv' := [(10, .int 1), (0, .ref (ca 0 0)), (2, .int (f 3)), (4, .ref q22), (6, .int (sS (dF f) (nF f))), (7, .int (nI (nF f))), (11, .int (nI j))]) hx hb dL_isSingle_308 hl (by decide) rfl (fun ls hl => ?_)
                                      refine lv_iinc (v := (nI (j + 1))) (lv' := [(11, .int (nI (j + 1))), (10, .int 1), (0, .ref (ca 0 0)), (2, .int (f 3)), (4, .ref q22), (6, .int (sS (dF f) (nF f))), (7, .int (nI (nF f)))]) hx hb dL_isSingle_310 hl (k := 6) rfl (nI_1 j) (by decide) rfl (fun ls hl => ?_)
                                      refine lv_goto (tgt := 215) hx hb dL_isSingle_313 (by decide) ?_
                                      exact ih215 (j + 1) (by omega) _ _ _ hP hD hS (lv_sub hl [2, 3, 4, 5, 6, 1, 0] rfl)
                            · --0
                              rw [show (((lfA f (nF f)) j) : Int32) = (-1) from (lfA_0 hj hs)]
                              refine lv_if_lt (tgt := 303) hx hb dL_isSingle_232 (by decide) (fun c_232 => ?_) (fun c_232 => ?_)
                              · --t
                                refine lv_iconst (v := 1) hx hb dL_isSingle_303 (by decide) ?_
                                refine lv_goto (tgt := 308) hx hb dL_isSingle_304 (by decide) ?_
                                refine lv_istore (lv' := [(10, .int 1), (0, .ref (ca 0 0)), (2, .int (f 3)), (4, .ref q22), (6, .int (sS (dF f) (nF f))), (7, .int (nI (nF f))), (11, .int (nI j))]) hx hb dL_isSingle_308 hl (by decide) rfl (fun ls hl => ?_)
                                refine lv_iinc (v := (nI (j + 1))) (lv' := [(11, .int (nI (j + 1))), (10, .int 1), (0, .ref (ca 0 0)), (2, .int (f 3)), (4, .ref q22), (6, .int (sS (dF f) (nF f))), (7, .int (nI (nF f)))]) hx hb dL_isSingle_310 hl (k := 6) rfl (nI_1 j) (by decide) rfl (fun ls hl => ?_)
                                refine lv_goto (tgt := 215) hx hb dL_isSingle_313 (by decide) ?_
                                exact ih215 (j + 1) (by omega) _ _ _ hP hD hS (lv_sub hl [2, 3, 4, 5, 6, 1, 0] rfl)
                              · --f
                                exact absurd (by decide) c_232
                  exact loop215 (nF f) 0 (by omega) _ _ _ hP hD hS (lv_sub hl [4, 6, 8, 10, 11, 1, 0] rfl)
        · --f
          exact absurd (nI_le (by omega) (by omega)) c_46
    | succ fu42 ih42 =>
        intro i hf42  H locs ls hP hD hS hl
        have hi : i < nF f := by omega
        refine lv_iload hx hb dL_isSingle_42 (lv_at hl 8 rfl) ?_
        refine lv_iload hx hb dL_isSingle_44 (lv_at hl 7 rfl) ?_
        refine lv_icmp_ge (tgt := 145) hx hb dL_isSingle_46 (by decide) (fun c_46 => ?_) (fun c_46 => ?_)
        · --t
          exact absurd c_46 (nI_ge (by omega) (by omega))
        · --f
          refine lv_aload hx hb dL_isSingle_49 (lv_at hl 4 rfl) ?_
          refine lv_iload hx hb dL_isSingle_51 (lv_at hl 8 rfl) ?_
          refine lv_aload_n hx hb dL_isSingle_53 rfl (lv_at hl 0 rfl) ?_
          refine lv_iload hx hb dL_isSingle_54 (lv_at hl 8 rfl) ?_
          refine lv_iconst (v := 3) hx hb dL_isSingle_56 (by decide) ?_
          refine xreti (va_runV (As := [.int (nI i), .int 3]) (rest := [.int (nI i), .ref q22]) ⟨hx, hb, hml, hown, hts⟩ (mX5_join l D ck ca C (nI i) 3 _) (cwV 2 hts gL_isSingle_X5_join rfl rfl rfl (by decide +kernel) ⟨Nat.le_of_ble_eq_true rfl, Nat.le_of_ble_eq_true rfl⟩) (xpreV hN hK hP hD List.perm_append_comm 0 rfl rfl rfl) rfl rfl hl.1 rfl (lv_room (Nat.le_of_ble_eq_true rfl)) dL_isSingle_57 ⟨Nat.le_of_ble_eq_true rfl, Nat.le_of_ble_eq_true rfl⟩) hP hD hS hA List.perm_append_comm List.perm_append_comm (fun H locs hP hD hS => ?_)
          have hP : va_P D vwCl ([(q22, .inl (ck 0, 16, .inl (lfA f i)))] ++ clW ck ca C) H := hP
          have hD : va_D (va_A (clW ck ca C) s.heap.size) ([(q22, .inl (ck 0, 16, .inl (lfA f i)))] ++ clW ck ca C) := hD
          rw [jn_3 hC hi]
          refine lv_iconst (v := 1) hx hb dL_isSingle_60 (by decide) ?_
          refine lv_icmp_ne (tgt := 75) hx hb dL_isSingle_61 (by decide) (fun c_61 => ?_) (fun c_61 => ?_)
          · --t
            refine lv_iconst (v := (-1)) hx hb dL_isSingle_75 (by decide) ?_
            refine xiast (j := i) (nI_clamp (by omega)) hx hb hK hP hD hS 0 0 rfl rfl (vp_in_nI (by omega) (by decide)) dL_isSingle_76 (fun H locs hP hD hS => ?_)
            have hP : va_P D vwCl ([(q22, .inl (ck 0, 16, .inl (upd (lfA f i) i (-1))))] ++ clW ck ca C) H := hP
            have hD : va_D (va_A (clW ck ca C) s.heap.size) ([(q22, .inl (ck 0, 16, .inl (upd (lfA f i) i (-1))))] ++ clW ck ca C) := hD
            rw [show (upd (lfA f i) i (-1)) = (lfA f (i + 1)) from (lfA_s (lfF_0 c_61))] at hP hD
            refine lv_iload hx hb dL_isSingle_77 (lv_at hl 5 rfl) ?_
            refine lv_aload hx hb dL_isSingle_79 (lv_at hl 4 rfl) ?_
            refine lv_iload hx hb dL_isSingle_81 (lv_at hl 8 rfl) ?_
            refine xiald (j := i) (nI_clamp (by omega)) hx hb hK hP 0 0 rfl rfl (vp_in_nI (by omega) (by decide)) dL_isSingle_83 ?_
            rw [show (((lfA f (i + 1)) i) : Int32) = (-1) from (lfA_0 (Nat.lt_succ_self i) c_61)]
            refine lv_if_ge (tgt := 91) hx hb dL_isSingle_84 (by decide) (fun c_84 => ?_) (fun c_84 => ?_)
            · --t
              exact absurd c_84 (by decide)
            · --f
              refine lv_iconst (v := 0) hx hb dL_isSingle_87 (by decide) ?_
              refine lv_goto (tgt := 109) hx hb dL_isSingle_88 (by decide) ?_
              refine lv_iadd hx hb dL_isSingle_109 ?_
              rw [show (((sS (offO f) i) + 0) : Int32) = (sS (offO f) (i + 1)) from (off_s0 c_61)]
              refine lv_istore (lv' := [(5, .int (sS (offO f) (i + 1))), (0, .ref (ca 0 0)), (1, .int (gX6_manyWith f 1)), (2, .int (f 3)), (3, .int (f 7)), (4, .ref q22), (6, .int (sS (dF f) i)), (7, .int (nI (nF f))), (8, .int (nI i))]) hx hb dL_isSingle_110 hl (by decide) rfl (fun ls hl => ?_)
              refine lv_iload hx hb dL_isSingle_112 (lv_at hl 6 rfl) ?_
              refine lv_aload hx hb dL_isSingle_114 (lv_at hl 5 rfl) ?_
              refine lv_iload hx hb dL_isSingle_116 (lv_at hl 8 rfl) ?_
              refine xiald (j := i) (nI_clamp (by omega)) hx hb hK hP 0 0 rfl rfl (vp_in_nI (by omega) (by decide)) dL_isSingle_118 ?_
              rw [show (((lfA f (i + 1)) i) : Int32) = (-1) from (lfA_0 (Nat.lt_succ_self i) c_61)]
              refine lv_if_lt (tgt := 135) hx hb dL_isSingle_119 (by decide) (fun c_119 => ?_) (fun c_119 => ?_)
              · --t
                refine lv_iconst (v := 0) hx hb dL_isSingle_135 (by decide) ?_
                refine lv_iadd hx hb dL_isSingle_136 ?_
                rw [show (((sS (dF f) i) + 0) : Int32) = (sS (dF f) (i + 1)) from (dF_s0 c_61)]
                refine lv_istore (lv' := [(6, .int (sS (dF f) (i + 1))), (5, .int (sS (offO f) (i + 1))), (0, .ref (ca 0 0)), (1, .int (gX6_manyWith f 1)), (2, .int (f 3)), (3, .int (f 7)), (4, .ref q22), (7, .int (nI (nF f))), (8, .int (nI i))]) hx hb dL_isSingle_137 hl (by decide) rfl (fun ls hl => ?_)
                refine lv_iinc (v := (nI (i + 1))) (lv' := [(8, .int (nI (i + 1))), (6, .int (sS (dF f) (i + 1))), (5, .int (sS (offO f) (i + 1))), (0, .ref (ca 0 0)), (1, .int (gX6_manyWith f 1)), (2, .int (f 3)), (3, .int (f 7)), (4, .ref q22), (7, .int (nI (nF f)))]) hx hb dL_isSingle_139 hl (k := 8) rfl (nI_1 i) (by decide) rfl (fun ls hl => ?_)
                refine lv_goto (tgt := 42) hx hb dL_isSingle_142 (by decide) ?_
                exact ih42 (i + 1) (by omega) _ _ _ hP hD hS (lv_sub hl [3, 4, 5, 6, 7, 2, 1, 8, 0] rfl)
              · --f
                exact absurd (by decide) c_119
          · --f
            refine lv_aload_n hx hb dL_isSingle_64 rfl (lv_at hl 0 rfl) ?_
            refine lv_iload hx hb dL_isSingle_65 (lv_at hl 8 rfl) ?_
            refine lv_bipush (v := 7) hx hb dL_isSingle_67 (by decide) ?_
            refine xreti (va_runV (As := [.int (nI i), .int 7]) (rest := [.int (nI i), .ref q22]) ⟨hx, hb, hml, hown, hts⟩ (mX5_join l D ck ca C (nI i) 7 _) (cwV 2 hts gL_isSingle_X5_join rfl rfl rfl (by decide +kernel) ⟨Nat.le_of_ble_eq_true rfl, Nat.le_of_ble_eq_true rfl⟩) (xpreV hN hK hP hD List.perm_append_comm 0 rfl rfl rfl) rfl rfl hl.1 rfl (lv_room (Nat.le_of_ble_eq_true rfl)) dL_isSingle_69 ⟨Nat.le_of_ble_eq_true rfl, Nat.le_of_ble_eq_true rfl⟩) hP hD hS hA List.perm_append_comm List.perm_append_comm (fun H locs hP hD hS => ?_)
            have hP : va_P D vwCl ([(q22, .inl (ck 0, 16, .inl (lfA f i)))] ++ clW ck ca C) H := hP
            have hD : va_D (va_A (clW ck ca C) s.heap.size) ([(q22, .inl (ck 0, 16, .inl (lfA f i)))] ++ clW ck ca C) := hD
            rw [jn_7 hC hi]
            refine lv_goto (tgt := 76) hx hb dL_isSingle_72 (by decide) ?_
            refine xiast (j := i) (nI_clamp (by omega)) hx hb hK hP hD hS 0 0 rfl rfl (vp_in_nI (by omega) (by decide)) dL_isSingle_76 (fun H locs hP hD hS => ?_)
            have hP : va_P D vwCl ([(q22, .inl (ck 0, 16, .inl (upd (lfA f i) i (oF f i 5))))] ++ clW ck ca C) H := hP
            have hD : va_D (va_A (clW ck ca C) s.heap.size) ([(q22, .inl (ck 0, 16, .inl (upd (lfA f i) i (oF f i 5))))] ++ clW ck ca C) := hD
            rw [show (upd (lfA f i) i (oF f i 5)) = (lfA f (i + 1)) from (lfA_s (lfF_1 c_61))] at hP hD
            refine lv_iload hx hb dL_isSingle_77 (lv_at hl 5 rfl) ?_
            refine lv_aload hx hb dL_isSingle_79 (lv_at hl 4 rfl) ?_
            refine lv_iload hx hb dL_isSingle_81 (lv_at hl 8 rfl) ?_
            refine xiald (j := i) (nI_clamp (by omega)) hx hb hK hP 0 0 rfl rfl (vp_in_nI (by omega) (by decide)) dL_isSingle_83 ?_
            rw [show (((lfA f (i + 1)) i) : Int32) = (oF f i 5) from (lfA_1 (Nat.lt_succ_self i) c_61)]
            refine lv_if_ge (tgt := 91) hx hb dL_isSingle_84 (by decide) (fun c_84 => ?_) (fun c_84 => ?_)
            · --t
              refine lv_aload hx hb dL_isSingle_91 (lv_at hl 4 rfl) ?_
              refine lv_iload hx hb dL_isSingle_93 (lv_at hl 8 rfl) ?_
              refine xiald (j := i) (nI_clamp (by omega)) hx hb hK hP 0 0 rfl rfl (vp_in_nI (by omega) (by decide)) dL_isSingle_95 ?_
              rw [show (((lfA f (i + 1)) i) : Int32) = (oF f i 5) from (lfA_1 (Nat.lt_succ_self i) c_61)]
              refine lv_iload_n hx hb dL_isSingle_96 rfl (lv_at hl 2 rfl) ?_
              refine lv_icmp_ge (tgt := 108) hx hb dL_isSingle_97 (by decide) (fun c_97 => ?_) (fun c_97 => ?_)
              · --t
                refine lv_iload_n hx hb dL_isSingle_108 rfl (lv_at hl 2 rfl) ?_
                refine lv_iadd hx hb dL_isSingle_109 ?_
                rw [show (((sS (offO f) i) + (f 3)) : Int32) = (sS (offO f) (i + 1)) from (off_s1 c_61 c_97)]
                refine lv_istore (lv' := [(5, .int (sS (offO f) (i + 1))), (0, .ref (ca 0 0)), (1, .int (gX6_manyWith f 1)), (2, .int (f 3)), (3, .int (f 7)), (4, .ref q22), (6, .int (sS (dF f) i)), (7, .int (nI (nF f))), (8, .int (nI i))]) hx hb dL_isSingle_110 hl (by decide) rfl (fun ls hl => ?_)
                refine lv_iload hx hb dL_isSingle_112 (lv_at hl 6 rfl) ?_
                refine lv_aload hx hb dL_isSingle_114 (lv_at hl 5 rfl) ?_
                refine lv_iload hx hb dL_isSingle_116 (lv_at hl 8 rfl) ?_
                refine xiald (j := i) (nI_clamp (by omega)) hx hb hK hP 0 0 rfl rfl (vp_in_nI (by omega) (by decide)) dL_isSingle_118 ?_
                rw [show (((lfA f (i + 1)) i) : Int32) = (oF f i 5) from (lfA_1 (Nat.lt_succ_self i) c_61)]
                refine lv_if_lt (tgt := 135) hx hb dL_isSingle_119 (by decide) (fun c_119 => ?_) (fun c_119 => ?_)
                · --t
                  exact absurd c_119 (wk_nl hm hi c_61)
                · --f
                  refine lv_aload hx hb dL_isSingle_122 (lv_at hl 5 rfl) ?_
                  refine lv_iload hx hb dL_isSingle_124 (lv_at hl 8 rfl) ?_
                  refine xiald (j := i) (nI_clamp (by omega)) hx hb hK hP 0 0 rfl rfl (vp_in_nI (by omega) (by decide)) dL_isSingle_126 ?_
                  rw [show (((lfA f (i + 1)) i) : Int32) = (oF f i 5) from (lfA_1 (Nat.lt_succ_self i) c_61)]
                  refine lv_iload_n hx hb dL_isSingle_127 rfl (lv_at hl 3 rfl) ?_
                  refine lv_icmp_gt (tgt := 135) hx hb dL_isSingle_128 (by decide) (fun c_128 => ?_) (fun c_128 => ?_)
                  · --t
                    refine lv_iconst (v := 0) hx hb dL_isSingle_135 (by decide) ?_
                    refine lv_iadd hx hb dL_isSingle_136 ?_
                    rw [show (((sS (dF f) i) + 0) : Int32) = (sS (dF f) (i + 1)) from (dF_s2 c_128)]
                    refine lv_istore (lv' := [(6, .int (sS (dF f) (i + 1))), (5, .int (sS (offO f) (i + 1))), (0, .ref (ca 0 0)), (1, .int (gX6_manyWith f 1)), (2, .int (f 3)), (3, .int (f 7)), (4, .ref q22), (7, .int (nI (nF f))), (8, .int (nI i))]) hx hb dL_isSingle_137 hl (by decide) rfl (fun ls hl => ?_)
                    refine lv_iinc (v := (nI (i + 1))) (lv' := [(8, .int (nI (i + 1))), (6, .int (sS (dF f) (i + 1))), (5, .int (sS (offO f) (i + 1))), (0, .ref (ca 0 0)), (1, .int (gX6_manyWith f 1)), (2, .int (f 3)), (3, .int (f 7)), (4, .ref q22), (7, .int (nI (nF f)))]) hx hb dL_isSingle_139 hl (k := 8) rfl (nI_1 i) (by decide) rfl (fun ls hl => ?_)
                    refine lv_goto (tgt := 42) hx hb dL_isSingle_142 (by decide) ?_
                    exact ih42 (i + 1) (by omega) _ _ _ hP hD hS (lv_sub hl [3, 4, 5, 6, 7, 2, 1, 8, 0] rfl)
                  · --f
                    refine lv_iconst (v := 1) hx hb dL_isSingle_131 (by decide) ?_
                    refine lv_goto (tgt := 136) hx hb dL_isSingle_132 (by decide) ?_
                    refine lv_iadd hx hb dL_isSingle_136 ?_
                    rw [show (((sS (dF f) i) + 1) : Int32) = (sS (dF f) (i + 1)) from (dF_s1 c_61 c_128)]
                    refine lv_istore (lv' := [(6, .int (sS (dF f) (i + 1))), (5, .int (sS (offO f) (i + 1))), (0, .ref (ca 0 0)), (1, .int (gX6_manyWith f 1)), (2, .int (f 3)), (3, .int (f 7)), (4, .ref q22), (7, .int (nI (nF f))), (8, .int (nI i))]) hx hb dL_isSingle_137 hl (by decide) rfl (fun ls hl => ?_)
                    refine lv_iinc (v := (nI (i + 1))) (lv' := [(8, .int (nI (i + 1))), (6, .int (sS (dF f) (i + 1))), (5, .int (sS (offO f) (i + 1))), (0, .ref (ca 0 0)), (1, .int (gX6_manyWith f 1)), (2, .int (f 3)), (3, .int (f 7)), (4, .ref q22), (7, .int (nI (nF f)))]) hx hb dL_isSingle_139 hl (k := 8) rfl (nI_1 i) (by decide) rfl (fun ls hl => ?_)
                    refine lv_goto (tgt := 42) hx hb dL_isSingle_142 (by decide) ?_
                    exact ih42 (i + 1) (by omega) _ _ _ hP hD hS (lv_sub hl [3, 4, 5, 6, 7, 2, 1, 8, 0] rfl)
              · --f
                refine lv_aload hx hb dL_isSingle_100 (lv_at hl 4 rfl) ?_
                refine lv_iload hx hb dL_isSingle_102 (lv_at hl 8 rfl) ?_
                refine xiald (j := i) (nI_clamp (by omega)) hx hb hK hP 0 0 rfl rfl (vp_in_nI (by omega) (by decide)) dL_isSingle_104 ?_
                rw [show (((lfA f (i + 1)) i) : Int32) = (oF f i 5) from (lfA_1 (Nat.lt_succ_self i) c_61)]
                refine lv_goto (tgt := 109) hx hb dL_isSingle_105 (by decide) ?_
                refine lv_iadd hx hb dL_isSingle_109 ?_
                rw [show (((sS (offO f) i) + (oF f i 5)) : Int32) = (sS (offO f) (i + 1)) from (off_s2 c_61 c_97)]
                refine lv_istore (lv' := [(5, .int (sS (offO f) (i + 1))), (0, .ref (ca 0 0)), (1, .int (gX6_manyWith f 1)), (2, .int (f 3)), (3, .int (f 7)), (4, .ref q22), (6, .int (sS (dF f) i)), (7, .int (nI (nF f))), (8, .int (nI i))]) hx hb dL_isSingle_110 hl (by decide) rfl (fun ls hl => ?_)
                refine lv_iload hx hb dL_isSingle_112 (lv_at hl 6 rfl) ?_
                refine lv_aload hx hb dL_isSingle_114 (lv_at hl 5 rfl) ?_
                refine lv_iload hx hb dL_isSingle_116 (lv_at hl 8 rfl) ?_
                refine xiald (j := i) (nI_clamp (by omega)) hx hb hK hP 0 0 rfl rfl (vp_in_nI (by omega) (by decide)) dL_isSingle_118 ?_
                rw [show (((lfA f (i + 1)) i) : Int32) = (oF f i 5) from (lfA_1 (Nat.lt_succ_self i) c_61)]
                refine lv_if_lt (tgt := 135) hx hb dL_isSingle_119 (by decide) (fun c_119 => ?_) (fun c_119 => ?_)
                · --t
                  exact absurd c_119 (wk_nl hm hi c_61)
                · --f
                  refine lv_aload hx hb dL_isSingle_122 (lv_at hl 5 rfl) ?_
                  refine lv_iload hx hb dL_isSingle_124 (lv_at hl 8 rfl) ?_
                  refine xiald (j := i) (nI_clamp (by omega)) hx hb hK hP 0 0 rfl rfl (vp_in_nI (by omega) (by decide)) dL_isSingle_126 ?_
                  rw [show (((lfA f (i + 1)) i) : Int32) = (oF f i 5) from (lfA_1 (Nat.lt_succ_self i) c_61)]
                  refine lv_iload_n hx hb dL_isSingle_127 rfl (lv_at hl 3 rfl) ?_
                  refine lv_icmp_gt (tgt := 135) hx hb dL_isSingle_128 (by decide) (fun c_128 => ?_) (fun c_128 => ?_)
                  · --t
                    refine lv_iconst (v := 0) hx hb dL_isSingle_135 (by decide) ?_
                    refine lv_iadd hx hb dL_isSingle_136 ?_
                    rw [show (((sS (dF f) i) + 0) : Int32) = (sS (dF f) (i + 1)) from (dF_s2 c_128)]
                    refine lv_istore (lv' := [(6, .int (sS (dF f) (i + 1))), (5, .int (sS (offO f) (i + 1))), (0, .ref (ca 0 0)), (1, .int (gX6_manyWith f 1)), (2, .int (f 3)), (3, .int (f 7)), (4, .ref q22), (7, .int (nI (nF f))), (8, .int (nI i))]) hx hb dL_isSingle_137 hl (by decide) rfl (fun ls hl => ?_)
                    refine lv_iinc (v := (nI (i + 1))) (lv' := [(8, .int (nI (i + 1))), (6, .int (sS (dF f) (i + 1))), (5, .int (sS (offO f) (i + 1))), (0, .ref (ca 0 0)), (1, .int (gX6_manyWith f 1)), (2, .int (f 3)), (3, .int (f 7)), (4, .ref q22), (7, .int (nI (nF f)))]) hx hb dL_isSingle_139 hl (k := 8) rfl (nI_1 i) (by decide) rfl (fun ls hl => ?_)
                    refine lv_goto (tgt := 42) hx hb dL_isSingle_142 (by decide) ?_
                    exact ih42 (i + 1) (by omega) _ _ _ hP hD hS (lv_sub hl [3, 4, 5, 6, 7, 2, 1, 8, 0] rfl)
                  · --f
                    refine lv_iconst (v := 1) hx hb dL_isSingle_131 (by decide) ?_
                    refine lv_goto (tgt := 136) hx hb dL_isSingle_132 (by decide) ?_
                    refine lv_iadd hx hb dL_isSingle_136 ?_
                    rw [show (((sS (dF f) i) + 1) : Int32) = (sS (dF f) (i + 1)) from (dF_s1 c_61 c_128)]
                    refine lv_istore (lv' := [(6, .int (sS (dF f) (i + 1))), (5, .int (sS (offO f) (i + 1))), (0, .ref (ca 0 0)), (1, .int (gX6_manyWith f 1)), (2, .int (f 3)), (3, .int (f 7)), (4, .ref q22), (7, .int (nI (nF f))), (8, .int (nI i))]) hx hb dL_isSingle_137 hl (by decide) rfl (fun ls hl => ?_)
                    refine lv_iinc (v := (nI (i + 1))) (lv' := [(8, .int (nI (i + 1))), (6, .int (sS (dF f) (i + 1))), (5, .int (sS (offO f) (i + 1))), (0, .ref (ca 0 0)), (1, .int (gX6_manyWith f 1)), (2, .int (f 3)), (3, .int (f 7)), (4, .ref q22), (7, .int (nI (nF f)))]) hx hb dL_isSingle_139 hl (k := 8) rfl (nI_1 i) (by decide) rfl (fun ls hl => ?_)
                    refine lv_goto (tgt := 42) hx hb dL_isSingle_142 (by decide) ?_
                    exact ih42 (i + 1) (by omega) _ _ _ hP hD hS (lv_sub hl [3, 4, 5, 6, 7, 2, 1, 8, 0] rfl)
            · --f
              exact absurd (wk_nn hm hi c_61) c_84
  exact loop42 (nF f) 0 (by omega) _ _ _ hP hD hS (lv_sub hl [8, 7, 6, 5, 4, 3, 2, 1, 0] rfl)
