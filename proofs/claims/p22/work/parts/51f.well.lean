/-- how many of the first i joins are in each state -/
def stA (f : FS) (i : Nat) : Nat → Int32 := fun k => if k < 4 then nI (cB (stB f (nI k)) i) else 0
theorem stA_z {f : FS} : (fun _ : Nat => (0 : Int32)) = stA f 0 := funext fun k => by
  unfold stA
  split <;> rfl
theorem stA_v {f : FS} {i k : Nat} (hk : k < 4) : stA f i k = nI (cB (stB f (nI k)) i) := if_pos hk
theorem stA_s {f : FS} {i k : Nat} (hk : k < 4) (h : oF f i 3 = nI k) : upd (stA f i) k (stA f i k + 1) = stA f (i + 1) := by
  funext m
  rw [f_upd]
  by_cases c : m = k
  · subst c
    rw [if_pos rfl, stA_v hk, stA_v hk, nI_1]
    show nI (cB (stB f (nI m)) i + 1) = nI (cB (stB f (nI m)) i + (if stB f (nI m) i = true then 1 else 0))
    rw [if_pos (show stB f (nI m) i = true from decide_eq_true h)]
  · rw [if_neg c]
    by_cases d : m < 4
    · rw [stA_v d, stA_v d]
      show nI (cB (stB f (nI m)) i) = nI (cB (stB f (nI m)) i + (if stB f (nI m) i = true then 1 else 0))
      rw [if_neg (show ¬ stB f (nI m) i = true from fun z => c ((nI_eq (by omega) (by omega)).mp ((of_decide_eq_true z).symm.trans h)))]
      rfl
    · exact (if_neg d).trans (if_neg d).symm
theorem ex_s1 {f : FS} {i : Nat} (h : oF f i 3 = 1) : sS (gX6_extra f) i + (oF f i 4 - gX6_needs f i) = sS (gX6_extra f) (i + 1) := by
  show _ = sS (gX6_extra f) i + gX6_extra f i
  rw [extra_eq, if_pos h]
theorem ex_s0 {f : FS} {i : Nat} (h : ¬ oF f i 3 = 1) : sS (gX6_extra f) i + 0 = sS (gX6_extra f) (i + 1) := by
  show _ = sS (gX6_extra f) i + gX6_extra f i
  rw [extra_eq, if_neg h]
theorem nw_3 {f : FS} {i : Nat} (hm : mInv f) (hi : i < nF f) : ¬ gX6_needs f i < 3 := by
  have := mJ_n (hm.2 i hi)
  rw [x_ilt, i_3]
  omega
theorem nw_w {f : FS} {i : Nat} (hm : mInv f) (hi : i < nF f) : ¬ gX6_wants f i < gX6_needs f i := by
  have := mJ_wt (hm.2 i hi)
  rw [x_ilt]
  omega
theorem nw_p {f : FS} {i : Nat} (hm : mInv f) (hi : i < nF f) (h : oF f i 3 = 1) : ¬ oF f i 4 < gX6_needs f i := by
  have := (hm.2 i hi).2.2.2.2.1 h
  rw [x_ilt]
  omega
theorem nw_q {f : FS} {i : Nat} (hw : wx f) (hi : i < nF f) (h : oF f i 3 = 1) : ¬ gX6_wants f i < oF f i 4 := by
  have := hw.1 i hi h
  rw [x_ilt]
  omega
theorem nw_k {f : FS} {i : Nat} (hm : mInv f) (hi : i < nF f) (h : oF f i 3 = 1) : ¬ oF f i 5 ≤ 0 := by
  have := mJ_wk (hm.2 i hi) h
  rw [x_ile, i_0]
  omega
theorem why_ne {f : FS} {i : Nat} (hm : mInv f) (hi : i < nF f) (h : oF f i 3 = 0) : ¬ gX6_why f (nI i) = 0 := by
  rw [why_q hm hi h]
  (repeat' split) <;> decide
theorem sx_le {f : FS} {N i : Nat} (hs : sx f) (h0 : 0 ≤ (f 6).toInt) (hN : (f 6).toInt ≤ N) (hb : N ≤ 1000000) (hi : i < nF f) : ¬ f 6 < oF f i 6 + oF f i 7 := by
  obtain ⟨s1, s2, s3⟩ := hs i hi
  rw [x_ilt, ia (by omega) (by omega)]
  omega
theorem sp_0 {f : FS} {i : Nat} (h : ¬ oF f i 3 = 1) : (if gX6_spills f i = 0 then (0 : Int32) else 1) = 0 := by
  have : gX6_spills f i = 0 := by
    unfold gX6_spills
    rw [if_pos (is_ne.mpr h)]
  rw [if_pos this]
theorem sp_1 {f : FS} {i : Nat} (h : oF f i 3 = 1) : gX6_spills f i = if oF f i 0 = 0 then 0 else if gX6_wants f i ≤ oF f i 4 then 0 else 1 := by
  unfold gX6_spills
  rw [if_neg (fun z => is_ne.mp z h)]
  rfl
theorem sp_w {f : FS} {i : Nat} (h : oF f i 3 = 1) (hw : oF f i 0 = 0) : (if gX6_spills f i = 0 then (0 : Int32) else 1) = 0 := by
  rw [sp_1 h, if_pos hw, if_pos rfl]
theorem sp_g {f : FS} {i : Nat} (h : oF f i 3 = 1) (hw : ¬ oF f i 0 = 0) (hg : gX6_wants f i ≤ oF f i 4) : (if gX6_spills f i = 0 then (0 : Int32) else 1) = 0 := by
  rw [sp_1 h, if_neg hw, if_pos hg, if_pos rfl]
theorem sp_s {f : FS} {i : Nat} (h : oF f i 3 = 1) (hw : ¬ oF f i 0 = 0) (hg : ¬ gX6_wants f i ≤ oF f i 4) : (if gX6_spills f i = 0 then (0 : Int32) else 1) = 1 := by
  rw [sp_1 h, if_neg hw, if_neg hg]
  rfl
theorem way_p {f : FS} {i : Nat} (hm : mInv f) (hi : i < nF f) (hw : ¬ oF f i 0 = 0) : ¬ oF f i 0 ≤ 0 := by
  rcases (hm.2 i hi).1 with h | h | h
  · exact absurd h hw
  · rw [h]; decide
  · rw [h]; decide
theorem cnt_1v {C : CS} {f : FS} {v : Nat} (h : LR C f) (hv : v < 4) : gX5_count C (1 + nI v) = nI (cB (stB f (nI v)) (nF f)) := by
  rcases (show v = 0 ∨ v = 1 ∨ v = 2 ∨ v = 3 by omega) with rfl | rfl | rfl | rfl
  · exact (show gX5_count C (1 + nI 0) = _ from (cnt_1 h)).trans many_N
  · exact (show gX5_count C (1 + nI 1) = _ from (cnt_2 h)).trans many_N
  · exact (show gX5_count C (1 + nI 2) = _ from (cnt_3 h)).trans many_N
  · exact (show gX5_count C (1 + nI 3) = _ from (cnt_4 h)).trans many_N
theorem wq_1 {f : FS} {j : Nat} (c : ¬ gX6_needs f j ≤ f 0) : (if f 0 < gX6_needs f j then (1 : Int32) else if rkN f j = 0 then 3 else 2) = 1 := by
  rw [if_pos]
  rw [x_ile] at c
  rw [x_ilt]
  omega
theorem wq_3 {f : FS} {j : Nat} (c : gX6_needs f j ≤ f 0) (h : rkN f j = 0) : (if f 0 < gX6_needs f j then (1 : Int32) else if rkN f j = 0 then 3 else 2) = 3 := by
  rw [if_neg, if_pos h]
  rw [x_ile] at c
  rw [x_ilt]
  omega
theorem wq_2 {f : FS} {j : Nat} (c : gX6_needs f j ≤ f 0) (h : ¬ rkN f j = 0) : (if f 0 < gX6_needs f j then (1 : Int32) else if rkN f j = 0 then 3 else 2) = 2 := by
  rw [if_neg, if_neg h]
  rw [x_ile] at c
  rw [x_ilt]
  omega
theorem k_0 {k : Nat} (hk : k ≤ 16) : nI k = 0 ↔ k = 0 := nI_eq (b := 0) (by omega) (by decide)
theorem k_p {k : Nat} (hk : k ≤ 16) : 0 < nI k ↔ 0 < k := nI_ltI (a := 0) (by decide) (by omega)
theorem hd_0 {f : FS} {j : Nat} (hm : mInv f) (hd : hdq f) (hj : j < nF f) (h0 : oF f j 3 = 0) (h : rkN f j = 0) : ¬ gX6_needs f j ≤ gX6_free f := by
  have := hd j hj (rk0_at hm hj h0 h)
  rw [x_ile]
  omega
theorem fr_sub {f : FS} (hm : mInv f) (c : ¬ f 0 ≤ sS (fun j => oF f j 4) (nF f)) : gX6_free f = f 0 - sS (fun j => oF f j 4) (nF f) := by
  have hg := (granted_Z hm).2
  have h0 := hm.1.2.1
  have e : gX6_granted f = sS (fun j => oF f j 4) (nF f) := granted_eq
  rw [← e] at c ⊢
  unfold gX6_free
  rw [x_ile] at c
  rw [if_pos]
  rw [x_ile, i_0, isb (by omega) (by omega)]
  omega
theorem fr_0 {f : FS} (hm : mInv f) (c : f 0 ≤ sS (fun j => oF f j 4) (nF f)) : gX6_free f = 0 := by
  have hg := (granted_Z hm).2
  have h0 := hm.1.2.1
  have e : gX6_granted f = sS (fun j => oF f j 4) (nF f) := granted_eq
  rw [← e] at c
  unfold gX6_free
  rw [x_ile] at c
  by_cases d : 0 ≤ f 0 - gX6_granted f
  · rw [if_pos d]
    rw [x_ile, i_0, isb (by omega) (by omega)] at d
    rw [i_eq, isb (by omega) (by omega), i_0]
    omega
  · rw [if_neg d]
theorem gr_5 {f : FS} (hw : wx f) : ¬ f 5 < sS (fun j => oF f j 4) (nF f) := by
  have e : gX6_granted f = sS (fun j => oF f j 4) (nF f) := granted_eq
  rw [← e, x_ilt]
  have := hw.2.1
  omega
def rmL_isWell : Room := { frames := 5, cells := 1, slots := 4, locals := 118 }
set_option maxHeartbeats 16000000 in
set_option maxRecDepth 100000 in
theorem mL_isWell (l : Launch) (D : va_G) (ck : Nat → ClassId) (ca : Nat → Nat → Nat) (C : CS) (f : FS) (N : Nat) (hC : LR C f) (hW : WI f N) (hb6 : N ≤ 1000000) : xMi l yL_isWell wsL_isWell rmL_isWell D ck [.ref (ca 0 0)] (clW ck ca C) (clW ck ca C) 1 1 4 := by
  refine xMet (by decide) rfl (Nat.le_of_ble_eq_true rfl) ?_
  intro zp ze s zm zb zt zc hx hb hr hml hown hts hlk hnm hN hK hP hD ls hl
  have hown : s.vm.findClass RL = some zm.cls := hown
  have hm := hC.1.2
  have hn := n_le hm
  obtain ⟨-, hwx, hhd, hsx, h60, h6N⟩ := id hW
  have hWc := Nat.le_trans (cB_n (p := stB f 0) (nF f)) hn
  have hl : lv_has ls 13 [(0, .ref (ca 0 0))] := hl
  have hS : va_S (va_A (clW ck ca C) s.heap.size) s.heap s.heap [] := va_S.rf
  have hA : ∀ zq : Nat, s.heap.size ≤ zq → (va_A (clW ck ca C) s.heap.size) zq := fun zq h => Or.inr h
  refine lv_aload_n hx hb dL_isWell_0 rfl (lv_at hl 0 rfl) ?_
  refine lv_iconst (v := 0) hx hb dL_isWell_1 (by decide) ?_
  refine xreti (va_runV (As := [.int 0]) (rest := []) ⟨hx, hb, hml, hown, hts⟩ (mX5_count l D ck ca C 0 _) (cwV 1 hts gL_isWell_X5_count rfl rfl rfl (by decide +kernel) ⟨Nat.le_of_ble_eq_true rfl, Nat.le_of_ble_eq_true rfl⟩) (xpreV hN hK hP hD pm_all 0 rfl rfl rfl) rfl rfl hl.1 rfl (lv_room (Nat.le_of_ble_eq_true rfl)) dL_isWell_2 ⟨Nat.le_of_ble_eq_true rfl, Nat.le_of_ble_eq_true rfl⟩) hP hD hS hA pm_all pm_all' (fun H locs hP hD hS => ?_)
  have hP : va_P D vwCl (clW ck ca C) H := hP
  have hD : va_D (va_A (clW ck ca C) s.heap.size) (clW ck ca C) := hD
  rw [cnt0 hC]
  refine lv_istore_n (lv' := [(1, .int (nI (nF f))), (0, .ref (ca 0 0))]) hx hb dL_isWell_5 rfl hl (by decide) rfl (fun ls hl => ?_)
  refine lv_iconst (v := (nI 4)) hx hb dL_isWell_6 (by decide) ?_
  refine xnewi (N := 4) hx hb (hts (.arrayClass .int) (List.mem_of_getElem? (i := 1) rfl)) hK hP hD hS hA (by decide) (by decide) (Nat.le_of_ble_eq_true rfl) (Nat.le_of_ble_eq_true rfl) (Nat.le_of_ble_eq_true rfl) dL_isWell_7 (fun q7 H hP hD hS => ?_)
  have hP := xP_perm List.perm_append_comm hP
  have hD := xD_perm List.perm_append_comm hD
  have hP : va_P D vwCl ([(q7, .inl (ck 0, 4, .inl (fun _ => 0)))] ++ clW ck ca C) H := hP
  have hD : va_D (va_A (clW ck ca C) s.heap.size) ([(q7, .inl (ck 0, 4, .inl (fun _ => 0)))] ++ clW ck ca C) := hD
  rw [show (fun _ : Nat => (0 : Int32)) = (stA f 0) from stA_z] at hP hD
  refine lv_astore_n (lv' := [(2, .ref q7), (1, .int (nI (nF f))), (0, .ref (ca 0 0))]) hx hb dL_isWell_9 rfl hl (by decide) rfl (fun ls hl => ?_)
  refine lv_iconst (v := 0) hx hb dL_isWell_10 (by decide) ?_
  refine lv_istore_n (lv' := [(3, .int 0), (2, .ref q7), (1, .int (nI (nF f))), (0, .ref (ca 0 0))]) hx hb dL_isWell_11 rfl hl (by decide) rfl (fun ls hl => ?_)
  refine lv_iconst (v := 0) hx hb dL_isWell_12 (by decide) ?_
  refine lv_istore (lv' := [(4, .int 0), (3, .int 0), (2, .ref q7), (1, .int (nI (nF f))), (0, .ref (ca 0 0))]) hx hb dL_isWell_13 hl (by decide) rfl (fun ls hl => ?_)
  refine lv_iconst (v := 0) hx hb dL_isWell_15 (by decide) ?_
  refine lv_istore (lv' := [(5, .int 0), (4, .int 0), (3, .int 0), (2, .ref q7), (1, .int (nI (nF f))), (0, .ref (ca 0 0))]) hx hb dL_isWell_16 hl (by decide) rfl (fun ls hl => ?_)
  refine lv_iconst (v := 0) hx hb dL_isWell_18 (by decide) ?_
  refine lv_istore (lv' := [(6, .int 0), (5, .int 0), (4, .int 0), (3, .int 0), (2, .ref q7), (1, .int (nI (nF f))), (0, .ref (ca 0 0))]) hx hb dL_isWell_19 hl (by decide) rfl (fun ls hl => ?_)
  refine lv_iconst (v := 1) hx hb dL_isWell_21 (by decide) ?_
  refine lv_istore (lv' := [(7, .int 1), (6, .int 0), (5, .int 0), (4, .int 0), (3, .int 0), (2, .ref q7), (1, .int (nI (nF f))), (0, .ref (ca 0 0))]) hx hb dL_isWell_22 hl (by decide) rfl (fun ls hl => ?_)
  refine lv_iconst (v := (nI 0)) hx hb dL_isWell_24 (by decide) ?_
  refine lv_istore (lv' := [(8, .int (nI 0)), (7, .int 1), (6, .int 0), (5, .int 0), (4, .int 0), (3, .int 0), (2, .ref q7), (1, .int (nI (nF f))), (0, .ref (ca 0 0))]) hx hb dL_isWell_25 hl (by decide) rfl (fun ls hl => ?_)
  have loop27 : ∀ (fu27 : Nat) (i : Nat), (i + fu27 = nF f) → ∀ (H : Heap) (locs : List Loc) (ls : Array Slot), va_P D vwCl ([(q7, .inl (ck 0, 4, .inl (stA f i)))] ++ clW ck ca C) H → va_D (va_A (clW ck ca C) s.heap.size) ([(q7, .inl (ck 0, 4, .inl (stA f i)))] ++ clW ck ca C) → va_S (va_A (clW ck ca C) s.heap.size) s.heap H locs → lv_has ls 13 [(0, .ref (ca 0 0)), (1, .int (nI (nF f))), (2, .ref q7), (3, .int (sS (fun j => oF f j 4) i)), (4, .int (sS (gX6_extra f) i)), (5, .int (sS (fun j => oF f j 8) i)), (6, .int (sS (fun j => b01 (gX6_spills f j)) i)), (7, .int 1), (8, .int (nI i))] → W zp l ze rmL_isWell s zm ([.ref (ca 0 0)] : List Value).toArray zb zt zc H locs (0 + 1) (0 + 4) (MQ zb (xQi D (clW ck ca C) (clW ck ca C) 1 s.heap.size) ([.ref (ca 0 0)] : List Value).toArray s 1 4 (va_A (clW ck ca C) s.heap.size)) (F0 zm 27 ls []) := by
    intro fu27
    induction fu27 with
    | zero =>
        intro i hf27  H locs ls hP hD hS hl
        obtain rfl : i = nF f := by omega
        refine lv_iload hx hb dL_isWell_27 (lv_at hl 8 rfl) ?_
        refine lv_iload_n hx hb dL_isWell_29 rfl (lv_at hl 1 rfl) ?_
        refine lv_icmp_ge (tgt := 311) hx hb dL_isWell_30 (by decide) (fun c_30 => ?_) (fun c_30 => ?_)
        · --t
          refine lv_iconst (v := (-1)) hx hb dL_isWell_311 (by decide) ?_
          refine lv_istore (lv' := [(8, .int (-1)), (0, .ref (ca 0 0)), (1, .int (nI (nF f))), (2, .ref q7), (3, .int (sS (fun j => oF f j 4) (nF f))), (4, .int (sS (gX6_extra f) (nF f))), (5, .int (sS (fun j => oF f j 8) (nF f))), (6, .int (sS (fun j => b01 (gX6_spills f j)) (nF f))), (7, .int 1)]) hx hb dL_isWell_312 hl (by decide) rfl (fun ls hl => ?_)
          refine lv_iconst (v := (nI 0)) hx hb dL_isWell_314 (by decide) ?_
          refine lv_istore (lv' := [(9, .int (nI 0)), (8, .int (-1)), (0, .ref (ca 0 0)), (1, .int (nI (nF f))), (2, .ref q7), (3, .int (sS (fun j => oF f j 4) (nF f))), (4, .int (sS (gX6_extra f) (nF f))), (5, .int (sS (fun j => oF f j 8) (nF f))), (6, .int (sS (fun j => b01 (gX6_spills f j)) (nF f))), (7, .int 1)]) hx hb dL_isWell_315 hl (by decide) rfl (fun ls hl => ?_)
          have loop317 : ∀ (fu317 : Nat) (k : Nat) (u : Int32), (k + fu317 = cB (stB f 0) (nF f)) → (k = 0 ∨ ∃ w, w < nF f ∧ oF f w 3 = 0 ∧ rkN f w + 1 = k ∧ u = nI w) → ∀ (H : Heap) (locs : List Loc) (ls : Array Slot), va_P D vwCl ([(q7, .inl (ck 0, 4, .inl (stA f (nF f))))] ++ clW ck ca C) H → va_D (va_A (clW ck ca C) s.heap.size) ([(q7, .inl (ck 0, 4, .inl (stA f (nF f))))] ++ clW ck ca C) → va_S (va_A (clW ck ca C) s.heap.size) s.heap H locs → lv_has ls 13 [(0, .ref (ca 0 0)), (2, .ref q7), (3, .int (sS (fun j => oF f j 4) (nF f))), (4, .int (sS (gX6_extra f) (nF f))), (5, .int (sS (fun j => oF f j 8) (nF f))), (6, .int (sS (fun j => b01 (gX6_spills f j)) (nF f))), (7, .int 1), (8, .int u), (9, .int (nI k))] → W zp l ze rmL_isWell s zm ([.ref (ca 0 0)] : List Value).toArray zb zt zc H locs (0 + 1) (0 + 4) (MQ zb (xQi D (clW ck ca C) (clW ck ca C) 1 s.heap.size) ([.ref (ca 0 0)] : List Value).toArray s 1 4 (va_A (clW ck ca C) s.heap.size)) (F0 zm 317 ls []) := by
            intro fu317
            induction fu317 with
            | zero =>
                intro k u hf317 hk H locs ls hP hD hS hl
                refine lv_iload hx hb dL_isWell_317 (lv_at hl 8 rfl) ?_
                refine lv_aload_n hx hb dL_isWell_319 rfl (lv_at hl 1 rfl) ?_
                refine lv_iconst (v := 0) hx hb dL_isWell_320 (by decide) ?_
                refine xiald (j := 0) (by decide) hx hb hK hP 0 0 rfl rfl (by unfold vp_in; decide) dL_isWell_321 ?_
                rw [show (((stA f (nF f)) 0) : Int32) = (nI (cB (stB f 0) (nF f))) from (stA_v (by decide))]
                refine lv_icmp_ge (tgt := 496) hx hb dL_isWell_322 (by decide) (fun c_322 => ?_) (fun c_322 => ?_)
                · --t
                  refine lv_iconst (v := (nI 0)) hx hb dL_isWell_496 (by decide) ?_
                  refine lv_istore (lv' := [(9, .int (nI 0)), (0, .ref (ca 0 0)), (2, .ref q7), (3, .int (sS (fun j => oF f j 4) (nF f))), (4, .int (sS (gX6_extra f) (nF f))), (5, .int (sS (fun j => oF f j 8) (nF f))), (6, .int (sS (fun j => b01 (gX6_spills f j)) (nF f))), (7, .int 1), (8, .int u)]) hx hb dL_isWell_497 hl (by decide) rfl (fun ls hl => ?_)
                  have loop499 : ∀ (fu499 : Nat) (v : Nat), (v + fu499 = 4) → ∀ (H : Heap) (locs : List Loc) (ls : Array Slot), va_P D vwCl ([(q7, .inl (ck 0, 4, .inl (stA f (nF f))))] ++ clW ck ca C) H → va_D (va_A (clW ck ca C) s.heap.size) ([(q7, .inl (ck 0, 4, .inl (stA f (nF f))))] ++ clW ck ca C) → va_S (va_A (clW ck ca C) s.heap.size) s.heap H locs → lv_has ls 13 [(0, .ref (ca 0 0)), (2, .ref q7), (3, .int (sS (fun j => oF f j 4) (nF f))), (4, .int (sS (gX6_extra f) (nF f))), (5, .int (sS (fun j => oF f j 8) (nF f))), (6, .int (sS (fun j => b01 (gX6_spills f j)) (nF f))), (7, .int 1), (9, .int (nI v))] → W zp l ze rmL_isWell s zm ([.ref (ca 0 0)] : List Value).toArray zb zt zc H locs (0 + 1) (0 + 4) (MQ zb (xQi D (clW ck ca C) (clW ck ca C) 1 s.heap.size) ([.ref (ca 0 0)] : List Value).toArray s 1 4 (va_A (clW ck ca C) s.heap.size)) (F0 zm 499 ls []) := by
                    intro fu499
                    induction fu499 with
                    | zero =>
                        intro v hf499  H locs ls hP hD hS hl
                        refine lv_iload hx hb dL_isWell_499 (lv_at hl 7 rfl) ?_
                        refine lv_iconst (v := (nI 4)) hx hb dL_isWell_501 (by decide) ?_
                        refine lv_icmp_ge (tgt := 538) hx hb dL_isWell_502 (by decide) (fun c_502 => ?_) (fun c_502 => ?_)
                        · --t
                          refine lv_iload hx hb dL_isWell_538 (lv_at hl 6 rfl) ?_
                          refine lv_if_eq (tgt := 640) hx hb dL_isWell_540 (by decide) (fun c_540 => ?_) (fun c_540 => ?_)
                          · --t
                            exact absurd c_540 (by decide)
                          · --f
                            refine lv_aload_n hx hb dL_isWell_543 rfl (lv_at hl 0 rfl) ?_
                            refine lv_aload_n hx hb dL_isWell_544 rfl (lv_at hl 1 rfl) ?_
                            refine lv_iconst (v := 0) hx hb dL_isWell_545 (by decide) ?_
                            refine xiald (j := 0) (by decide) hx hb hK hP 0 0 rfl rfl (by unfold vp_in; decide) dL_isWell_546 ?_
                            rw [show (((stA f (nF f)) 0) : Int32) = (nI (cB (stB f 0) (nF f))) from (stA_v (by decide))]
                            refine xreti (va_runV (As := [.int (nI (cB (stB f 0) (nF f)))]) (rest := []) ⟨hx, hb, hml, hown, hts⟩ (mX5_queue l D ck ca C (nI (cB (stB f 0) (nF f))) _) (cwV 1 hts gL_isWell_X5_queue rfl rfl rfl (by decide +kernel) ⟨Nat.le_of_ble_eq_true rfl, Nat.le_of_ble_eq_true rfl⟩) (xpreV hN hK hP hD List.perm_append_comm 0 rfl rfl rfl) rfl rfl hl.1 rfl (lv_room (Nat.le_of_ble_eq_true rfl)) dL_isWell_547 ⟨Nat.le_of_ble_eq_true rfl, Nat.le_of_ble_eq_true rfl⟩) hP hD hS hA List.perm_append_comm List.perm_append_comm (fun H locs hP hD hS => ?_)
                            have hP : va_P D vwCl ([(q7, .inl (ck 0, 4, .inl (stA f (nF f))))] ++ clW ck ca C) H := hP
                            have hD : va_D (va_A (clW ck ca C) s.heap.size) ([(q7, .inl (ck 0, 4, .inl (stA f (nF f))))] ++ clW ck ca C) := hD
                            rw [eq_queue hC]
                            rw [q_end hm]
                            refine lv_bipush (v := (-5)) hx hb dL_isWell_550 (by decide) ?_
                            refine lv_icmp_ne (tgt := 640) hx hb dL_isWell_552 (by decide) (fun c_552 => ?_) (fun c_552 => ?_)
                            · --t
                              exact absurd (by decide) c_552
                            · --f
                              refine lv_iload_n hx hb dL_isWell_555 rfl (lv_at hl 2 rfl) ?_
                              refine lv_aload_n hx hb dL_isWell_556 rfl (lv_at hl 0 rfl) ?_
                              refine lv_iconst (v := 5) hx hb dL_isWell_557 (by decide) ?_
                              refine xreti (va_runV (As := [.int 5]) (rest := [.int (sS (fun j => oF f j 4) (nF f))]) ⟨hx, hb, hml, hown, hts⟩ (mX5_count l D ck ca C 5 _) (cwV 1 hts gL_isWell_X5_count rfl rfl rfl (by decide +kernel) ⟨Nat.le_of_ble_eq_true rfl, Nat.le_of_ble_eq_true rfl⟩) (xpreV hN hK hP hD List.perm_append_comm 0 rfl rfl rfl) rfl rfl hl.1 rfl (lv_room (Nat.le_of_ble_eq_true rfl)) dL_isWell_558 ⟨Nat.le_of_ble_eq_true rfl, Nat.le_of_ble_eq_true rfl⟩) hP hD hS hA List.perm_append_comm List.perm_append_comm (fun H locs hP hD hS => ?_)
                              have hP : va_P D vwCl ([(q7, .inl (ck 0, 4, .inl (stA f (nF f))))] ++ clW ck ca C) H := hP
                              have hD : va_D (va_A (clW ck ca C) s.heap.size) ([(q7, .inl (ck 0, 4, .inl (stA f (nF f))))] ++ clW ck ca C) := hD
                              rw [cnt_5 hC]
                              refine lv_icmp_ne (tgt := 640) hx hb dL_isWell_561 (by decide) (fun c_561 => ?_) (fun c_561 => ?_)
                              · --t
                                exact absurd granted_eq.symm c_561
                              · --f
                                refine lv_aload_n hx hb dL_isWell_564 rfl (lv_at hl 0 rfl) ?_
                                refine lv_bipush (v := 6) hx hb dL_isWell_565 (by decide) ?_
                                refine xreti (va_runV (As := [.int 6]) (rest := []) ⟨hx, hb, hml, hown, hts⟩ (mX5_count l D ck ca C 6 _) (cwV 1 hts gL_isWell_X5_count rfl rfl rfl (by decide +kernel) ⟨Nat.le_of_ble_eq_true rfl, Nat.le_of_ble_eq_true rfl⟩) (xpreV hN hK hP hD List.perm_append_comm 0 rfl rfl rfl) rfl rfl hl.1 rfl (lv_room (Nat.le_of_ble_eq_true rfl)) dL_isWell_567 ⟨Nat.le_of_ble_eq_true rfl, Nat.le_of_ble_eq_true rfl⟩) hP hD hS hA List.perm_append_comm List.perm_append_comm (fun H locs hP hD hS => ?_)
                                have hP : va_P D vwCl ([(q7, .inl (ck 0, 4, .inl (stA f (nF f))))] ++ clW ck ca C) H := hP
                                have hD : va_D (va_A (clW ck ca C) s.heap.size) ([(q7, .inl (ck 0, 4, .inl (stA f (nF f))))] ++ clW ck ca C) := hD
                                rw [cnt_6 hC]
                                refine lv_aload_n hx hb dL_isWell_570 rfl (lv_at hl 0 rfl) ?_
                                refine lv_bipush (v := 12) hx hb dL_isWell_571 (by decide) ?_
                                refine xreti (va_runV (As := [.int 12]) (rest := [.int (gX6_free f)]) ⟨hx, hb, hml, hown, hts⟩ (mX5_count l D ck ca C 12 _) (cwV 1 hts gL_isWell_X5_count rfl rfl rfl (by decide +kernel) ⟨Nat.le_of_ble_eq_true rfl, Nat.le_of_ble_eq_true rfl⟩) (xpreV hN hK hP hD List.perm_append_comm 0 rfl rfl rfl) rfl rfl hl.1 rfl (lv_room (Nat.le_of_ble_eq_true rfl)) dL_isWell_573 ⟨Nat.le_of_ble_eq_true rfl, Nat.le_of_ble_eq_true rfl⟩) hP hD hS hA List.perm_append_comm List.perm_append_comm (fun H locs hP hD hS => ?_)
                                have hP : va_P D vwCl ([(q7, .inl (ck 0, 4, .inl (stA f (nF f))))] ++ clW ck ca C) H := hP
                                have hD : va_D (va_A (clW ck ca C) s.heap.size) ([(q7, .inl (ck 0, 4, .inl (stA f (nF f))))] ++ clW ck ca C) := hD
                                rw [cnt_12 hC]
                                refine lv_iload_n hx hb dL_isWell_576 rfl (lv_at hl 2 rfl) ?_
                                refine lv_icmp_le (tgt := 591) hx hb dL_isWell_577 (by decide) (fun c_577 => ?_) (fun c_577 => ?_)
                                · --t
                                  refine lv_iconst (v := 0) hx hb dL_isWell_591 (by decide) ?_
                                  refine lv_icmp_ne (tgt := 640) hx hb dL_isWell_592 (by decide) (fun c_592 => ?_) (fun c_592 => ?_)
                                  · --t
                                    exact absurd (fr_0 hm c_577) c_592
                                  · --f
                                    refine lv_iload_n hx hb dL_isWell_595 rfl (lv_at hl 2 rfl) ?_
                                    refine lv_aload_n hx hb dL_isWell_596 rfl (lv_at hl 0 rfl) ?_
                                    refine lv_bipush (v := 7) hx hb dL_isWell_597 (by decide) ?_
                                    refine xreti (va_runV (As := [.int 7]) (rest := [.int (sS (fun j => oF f j 4) (nF f))]) ⟨hx, hb, hml, hown, hts⟩ (mX5_count l D ck ca C 7 _) (cwV 1 hts gL_isWell_X5_count rfl rfl rfl (by decide +kernel) ⟨Nat.le_of_ble_eq_true rfl, Nat.le_of_ble_eq_true rfl⟩) (xpreV hN hK hP hD List.perm_append_comm 0 rfl rfl rfl) rfl rfl hl.1 rfl (lv_room (Nat.le_of_ble_eq_true rfl)) dL_isWell_599 ⟨Nat.le_of_ble_eq_true rfl, Nat.le_of_ble_eq_true rfl⟩) hP hD hS hA List.perm_append_comm List.perm_append_comm (fun H locs hP hD hS => ?_)
                                    have hP : va_P D vwCl ([(q7, .inl (ck 0, 4, .inl (stA f (nF f))))] ++ clW ck ca C) H := hP
                                    have hD : va_D (va_A (clW ck ca C) s.heap.size) ([(q7, .inl (ck 0, 4, .inl (stA f (nF f))))] ++ clW ck ca C) := hD
                                    rw [cnt_7 hC]
                                    refine lv_icmp_gt (tgt := 640) hx hb dL_isWell_602 (by decide) (fun c_602 => ?_) (fun c_602 => ?_)
                                    · --t
                                      exact absurd c_602 (gr_5 hwx)
                                    · --f
                                      refine lv_iload hx hb dL_isWell_605 (lv_at hl 3 rfl) ?_
                                      refine lv_aload_n hx hb dL_isWell_607 rfl (lv_at hl 0 rfl) ?_
                                      refine xreti (va_runV (As := []) (rest := [.int (sS (gX6_extra f) (nF f))]) ⟨hx, hb, hml, hown, hts⟩ (mX5_spare l D ck ca C _) (cwV 0 hts gL_isWell_X5_spare rfl rfl rfl (by decide +kernel) ⟨Nat.le_of_ble_eq_true rfl, Nat.le_of_ble_eq_true rfl⟩) (xpreV hN hK hP hD List.perm_append_comm 0 rfl rfl rfl) rfl rfl hl.1 rfl (lv_room (Nat.le_of_ble_eq_true rfl)) dL_isWell_608 ⟨Nat.le_of_ble_eq_true rfl, Nat.le_of_ble_eq_true rfl⟩) hP hD hS hA List.perm_append_comm List.perm_append_comm (fun H locs hP hD hS => ?_)
                                      have hP : va_P D vwCl ([(q7, .inl (ck 0, 4, .inl (stA f (nF f))))] ++ clW ck ca C) H := hP
                                      have hD : va_D (va_A (clW ck ca C) s.heap.size) ([(q7, .inl (ck 0, 4, .inl (stA f (nF f))))] ++ clW ck ca C) := hD
                                      rw [eq_spare hC]
                                      refine lv_icmp_ne (tgt := 640) hx hb dL_isWell_611 (by decide) (fun c_611 => ?_) (fun c_611 => ?_)
                                      · --t
                                        exact absurd spares_eq.symm c_611
                                      · --f
                                        refine lv_iload hx hb dL_isWell_614 (lv_at hl 4 rfl) ?_
                                        refine lv_aload_n hx hb dL_isWell_616 rfl (lv_at hl 0 rfl) ?_
                                        refine lv_bipush (v := 10) hx hb dL_isWell_617 (by decide) ?_
                                        refine xreti (va_runV (As := [.int 10]) (rest := [.int (sS (fun j => oF f j 8) (nF f))]) ⟨hx, hb, hml, hown, hts⟩ (mX5_count l D ck ca C 10 _) (cwV 1 hts gL_isWell_X5_count rfl rfl rfl (by decide +kernel) ⟨Nat.le_of_ble_eq_true rfl, Nat.le_of_ble_eq_true rfl⟩) (xpreV hN hK hP hD List.perm_append_comm 0 rfl rfl rfl) rfl rfl hl.1 rfl (lv_room (Nat.le_of_ble_eq_true rfl)) dL_isWell_619 ⟨Nat.le_of_ble_eq_true rfl, Nat.le_of_ble_eq_true rfl⟩) hP hD hS hA List.perm_append_comm List.perm_append_comm (fun H locs hP hD hS => ?_)
                                        have hP : va_P D vwCl ([(q7, .inl (ck 0, 4, .inl (stA f (nF f))))] ++ clW ck ca C) H := hP
                                        have hD : va_D (va_A (clW ck ca C) s.heap.size) ([(q7, .inl (ck 0, 4, .inl (stA f (nF f))))] ++ clW ck ca C) := hD
                                        rw [cnt_10 hC]
                                        refine lv_icmp_ne (tgt := 640) hx hb dL_isWell_622 (by decide) (fun c_622 => ?_) (fun c_622 => ?_)
                                        · --t
                                          exact absurd hwx.2.2.symm c_622
                                        · --f
                                          refine lv_iload hx hb dL_isWell_625 (lv_at hl 5 rfl) ?_
                                          refine lv_aload_n hx hb dL_isWell_627 rfl (lv_at hl 0 rfl) ?_
                                          refine lv_bipush (v := 11) hx hb dL_isWell_628 (by decide) ?_
                                          refine xreti (va_runV (As := [.int 11]) (rest := [.int (sS (fun j => b01 (gX6_spills f j)) (nF f))]) ⟨hx, hb, hml, hown, hts⟩ (mX5_count l D ck ca C 11 _) (cwV 1 hts gL_isWell_X5_count rfl rfl rfl (by decide +kernel) ⟨Nat.le_of_ble_eq_true rfl, Nat.le_of_ble_eq_true rfl⟩) (xpreV hN hK hP hD List.perm_append_comm 0 rfl rfl rfl) rfl rfl hl.1 rfl (lv_room (Nat.le_of_ble_eq_true rfl)) dL_isWell_630 ⟨Nat.le_of_ble_eq_true rfl, Nat.le_of_ble_eq_true rfl⟩) hP hD hS hA List.perm_append_comm List.perm_append_comm (fun H locs hP hD hS => ?_)
                                          have hP : va_P D vwCl ([(q7, .inl (ck 0, 4, .inl (stA f (nF f))))] ++ clW ck ca C) H := hP
                                          have hD : va_D (va_A (clW ck ca C) s.heap.size) ([(q7, .inl (ck 0, 4, .inl (stA f (nF f))))] ++ clW ck ca C) := hD
                                          rw [cnt_11 hC]
                                          refine lv_icmp_ne (tgt := 640) hx hb dL_isWell_633 (by decide) (fun c_633 => ?_) (fun c_633 => ?_)
                                          · --t
                                            exact absurd spilling_eq.symm c_633
                                          · --f
                                            refine lv_iconst (v := 1) hx hb dL_isWell_636 (by decide) ?_
                                            refine lv_goto (tgt := 641) hx hb dL_isWell_637 (by decide) ?_
                                            have hP := xP_tail hP
                                            have hD := xD_tail hD
                                            exact xzret hx hb hr hlk hP hD hS (Or.inr rfl) rfl rfl dL_isWell_641
                                · --f
                                  refine lv_aload_n hx hb dL_isWell_580 rfl (lv_at hl 0 rfl) ?_
                                  refine lv_bipush (v := 12) hx hb dL_isWell_581 (by decide) ?_
                                  refine xreti (va_runV (As := [.int 12]) (rest := [.int (gX6_free f)]) ⟨hx, hb, hml, hown, hts⟩ (mX5_count l D ck ca C 12 _) (cwV 1 hts gL_isWell_X5_count rfl rfl rfl (by decide +kernel) ⟨Nat.le_of_ble_eq_true rfl, Nat.le_of_ble_eq_true rfl⟩) (xpreV hN hK hP hD List.perm_append_comm 0 rfl rfl rfl) rfl rfl hl.1 rfl (lv_room (Nat.le_of_ble_eq_true rfl)) dL_isWell_583 ⟨Nat.le_of_ble_eq_true rfl, Nat.le_of_ble_eq_true rfl⟩) hP hD hS hA List.perm_append_comm List.perm_append_comm (fun H locs hP hD hS => ?_)
                                  have hP : va_P D vwCl ([(q7, .inl (ck 0, 4, .inl (stA f (nF f))))] ++ clW ck ca C) H := hP
                                  have hD : va_D (va_A (clW ck ca C) s.heap.size) ([(q7, .inl (ck 0, 4, .inl (stA f (nF f))))] ++ clW ck ca C) := hD
                                  rw [cnt_12 hC]
                                  refine lv_iload_n hx hb dL_isWell_586 rfl (lv_at hl 2 rfl) ?_
                                  refine lv_isub hx hb dL_isWell_587 ?_
                                  refine lv_goto (tgt := 592) hx hb dL_isWell_588 (by decide) ?_
                                  refine lv_icmp_ne (tgt := 640) hx hb dL_isWell_592 (by decide) (fun c_592 => ?_) (fun c_592 => ?_)
                                  · --t
                                    exact absurd (fr_sub hm c_577) c_592
                                  · --f
                                    refine lv_iload_n hx hb dL_isWell_595 rfl (lv_at hl 2 rfl) ?_
                                    refine lv_aload_n hx hb dL_isWell_596 rfl (lv_at hl 0 rfl) ?_
                                    refine lv_bipush (v := 7) hx hb dL_isWell_597 (by decide) ?_
                                    refine xreti (va_runV (As := [.int 7]) (rest := [.int (sS (fun j => oF f j 4) (nF f))]) ⟨hx, hb, hml, hown, hts⟩ (mX5_count l D ck ca C 7 _) (cwV 1 hts gL_isWell_X5_count rfl rfl rfl (by decide +kernel) ⟨Nat.le_of_ble_eq_true rfl, Nat.le_of_ble_eq_true rfl⟩) (xpreV hN hK hP hD List.perm_append_comm 0 rfl rfl rfl) rfl rfl hl.1 rfl (lv_room (Nat.le_of_ble_eq_true rfl)) dL_isWell_599 ⟨Nat.le_of_ble_eq_true rfl, Nat.le_of_ble_eq_true rfl⟩) hP hD hS hA List.perm_append_comm List.perm_append_comm (fun H locs hP hD hS => ?_)
                                    have hP : va_P D vwCl ([(q7, .inl (ck 0, 4, .inl (stA f (nF f))))] ++ clW ck ca C) H := hP
                                    have hD : va_D (va_A (clW ck ca C) s.heap.size) ([(q7, .inl (ck 0, 4, .inl (stA f (nF f))))] ++ clW ck ca C) := hD
                                    rw [cnt_7 hC]
                                    refine lv_icmp_gt (tgt := 640) hx hb dL_isWell_602 (by decide) (fun c_602 => ?_) (fun c_602 => ?_)
                                    · --t
                                      exact absurd c_602 (gr_5 hwx)
                                    · --f
                                      refine lv_iload hx hb dL_isWell_605 (lv_at hl 3 rfl) ?_
                                      refine lv_aload_n hx hb dL_isWell_607 rfl (lv_at hl 0 rfl) ?_
                                      refine xreti (va_runV (As := []) (rest := [.int (sS (gX6_extra f) (nF f))]) ⟨hx, hb, hml, hown, hts⟩ (mX5_spare l D ck ca C _) (cwV 0 hts gL_isWell_X5_spare rfl rfl rfl (by decide +kernel) ⟨Nat.le_of_ble_eq_true rfl, Nat.le_of_ble_eq_true rfl⟩) (xpreV hN hK hP hD List.perm_append_comm 0 rfl rfl rfl) rfl rfl hl.1 rfl (lv_room (Nat.le_of_ble_eq_true rfl)) dL_isWell_608 ⟨Nat.le_of_ble_eq_true rfl, Nat.le_of_ble_eq_true rfl⟩) hP hD hS hA List.perm_append_comm List.perm_append_comm (fun H locs hP hD hS => ?_)
                                      have hP : va_P D vwCl ([(q7, .inl (ck 0, 4, .inl (stA f (nF f))))] ++ clW ck ca C) H := hP
                                      have hD : va_D (va_A (clW ck ca C) s.heap.size) ([(q7, .inl (ck 0, 4, .inl (stA f (nF f))))] ++ clW ck ca C) := hD
                                      rw [eq_spare hC]
                                      refine lv_icmp_ne (tgt := 640) hx hb dL_isWell_611 (by decide) (fun c_611 => ?_) (fun c_611 => ?_)
                                      · --t
                                        exact absurd spares_eq.symm c_611
                                      · --f
                                        refine lv_iload hx hb dL_isWell_614 (lv_at hl 4 rfl) ?_
                                        refine lv_aload_n hx hb dL_isWell_616 rfl (lv_at hl 0 rfl) ?_
                                        refine lv_bipush (v := 10) hx hb dL_isWell_617 (by decide) ?_
                                        refine xreti (va_runV (As := [.int 10]) (rest := [.int (sS (fun j => oF f j 8) (nF f))]) ⟨hx, hb, hml, hown, hts⟩ (mX5_count l D ck ca C 10 _) (cwV 1 hts gL_isWell_X5_count rfl rfl rfl (by decide +kernel) ⟨Nat.le_of_ble_eq_true rfl, Nat.le_of_ble_eq_true rfl⟩) (xpreV hN hK hP hD List.perm_append_comm 0 rfl rfl rfl) rfl rfl hl.1 rfl (lv_room (Nat.le_of_ble_eq_true rfl)) dL_isWell_619 ⟨Nat.le_of_ble_eq_true rfl, Nat.le_of_ble_eq_true rfl⟩) hP hD hS hA List.perm_append_comm List.perm_append_comm (fun H locs hP hD hS => ?_)
                                        have hP : va_P D vwCl ([(q7, .inl (ck 0, 4, .inl (stA f (nF f))))] ++ clW ck ca C) H := hP
                                        have hD : va_D (va_A (clW ck ca C) s.heap.size) ([(q7, .inl (ck 0, 4, .inl (stA f (nF f))))] ++ clW ck ca C) := hD
                                        rw [cnt_10 hC]
                                        refine lv_icmp_ne (tgt := 640) hx hb dL_isWell_622 (by decide) (fun c_622 => ?_) (fun c_622 => ?_)
                                        · --t
                                          exact absurd hwx.2.2.symm c_622
                                        · --f
                                          refine lv_iload hx hb dL_isWell_625 (lv_at hl 5 rfl) ?_
                                          refine lv_aload_n hx hb dL_isWell_627 rfl (lv_at hl 0 rfl) ?_
                                          refine lv_bipush (v := 11) hx hb dL_isWell_628 (by decide) ?_
                                          refine xreti (va_runV (As := [.int 11]) (rest := [.int (sS (fun j => b01 (gX6_spills f j)) (nF f))]) ⟨hx, hb, hml, hown, hts⟩ (mX5_count l D ck ca C 11 _) (cwV 1 hts gL_isWell_X5_count rfl rfl rfl (by decide +kernel) ⟨Nat.le_of_ble_eq_true rfl, Nat.le_of_ble_eq_true rfl⟩) (xpreV hN hK hP hD List.perm_append_comm 0 rfl rfl rfl) rfl rfl hl.1 rfl (lv_room (Nat.le_of_ble_eq_true rfl)) dL_isWell_630 ⟨Nat.le_of_ble_eq_true rfl, Nat.le_of_ble_eq_true rfl⟩) hP hD hS hA List.perm_append_comm List.perm_append_comm (fun H locs hP hD hS => ?_)
                                          have hP : va_P D vwCl ([(q7, .inl (ck 0, 4, .inl (stA f (nF f))))] ++ clW ck ca C) H := hP
                                          have hD : va_D (va_A (clW ck ca C) s.heap.size) ([(q7, .inl (ck 0, 4, .inl (stA f (nF f))))] ++ clW ck ca C) := hD
                                          rw [cnt_11 hC]
                                          refine lv_icmp_ne (tgt := 640) hx hb dL_isWell_633 (by decide) (fun c_633 => ?_) (fun c_633 => ?_)
                                          · --t
                                            exact absurd spilling_eq.symm c_633
                                          · --f
                                            refine lv_iconst (v := 1) hx hb dL_isWell_636 (by decide) ?_
                                            refine lv_goto (tgt := 641) hx hb dL_isWell_637 (by decide) ?_
                                            have hP := xP_tail hP
                                            have hD := xD_tail hD
                                            exact xzret hx hb hr hlk hP hD hS (Or.inr rfl) rfl rfl dL_isWell_641
                        · --f
                          exact absurd (nI_le (by omega) (by omega)) c_502
                    | succ fu499 ih499 =>
                        intro v hf499  H locs ls hP hD hS hl
                        refine lv_iload hx hb dL_isWell_499 (lv_at hl 7 rfl) ?_
                        refine lv_iconst (v := (nI 4)) hx hb dL_isWell_501 (by decide) ?_
                        refine lv_icmp_ge (tgt := 538) hx hb dL_isWell_502 (by decide) (fun c_502 => ?_) (fun c_502 => ?_)
                        · --t
                          exact absurd c_502 (nI_ge (by omega) (by omega))
                        · --f
                          refine lv_iload hx hb dL_isWell_505 (lv_at hl 6 rfl) ?_
                          refine lv_if_eq (tgt := 529) hx hb dL_isWell_507 (by decide) (fun c_507 => ?_) (fun c_507 => ?_)
                          · --t
                            exact absurd c_507 (by decide)
                          · --f
                            refine lv_aload_n hx hb dL_isWell_510 rfl (lv_at hl 0 rfl) ?_
                            refine lv_iconst (v := 1) hx hb dL_isWell_511 (by decide) ?_
                            refine lv_iload hx hb dL_isWell_512 (lv_at hl 7 rfl) ?_
                            refine lv_iadd hx hb dL_isWell_514 ?_
                            refine xreti (va_runV (As := [.int (1 + (nI v))]) (rest := []) ⟨hx, hb, hml, hown, hts⟩ (mX5_count l D ck ca C (1 + nI v) _) (cwV 1 hts gL_isWell_X5_count rfl rfl rfl (by decide +kernel) ⟨Nat.le_of_ble_eq_true rfl, Nat.le_of_ble_eq_true rfl⟩) (xpreV hN hK hP hD List.perm_append_comm 0 rfl rfl rfl) rfl rfl hl.1 rfl (lv_room (Nat.le_of_ble_eq_true rfl)) dL_isWell_515 ⟨Nat.le_of_ble_eq_true rfl, Nat.le_of_ble_eq_true rfl⟩) hP hD hS hA List.perm_append_comm List.perm_append_comm (fun H locs hP hD hS => ?_)
                            have hP : va_P D vwCl ([(q7, .inl (ck 0, 4, .inl (stA f (nF f))))] ++ clW ck ca C) H := hP
                            have hD : va_D (va_A (clW ck ca C) s.heap.size) ([(q7, .inl (ck 0, 4, .inl (stA f (nF f))))] ++ clW ck ca C) := hD
                            rw [cnt_1v hC (by omega)]
                            refine lv_aload_n hx hb dL_isWell_518 rfl (lv_at hl 1 rfl) ?_
                            refine lv_iload hx hb dL_isWell_519 (lv_at hl 7 rfl) ?_
                            refine xiald (j := v) (nI_clamp (by omega)) hx hb hK hP 0 0 rfl rfl (vp_in_nI (by omega) (by decide)) dL_isWell_521 ?_
                            rw [show (((stA f (nF f)) v) : Int32) = (nI (cB (stB f (nI v)) (nF f))) from (stA_v (by omega))]
                            refine lv_icmp_ne (tgt := 529) hx hb dL_isWell_522 (by decide) (fun c_522 => ?_) (fun c_522 => ?_)
                            · --t
                              exact absurd rfl c_522
                            · --f
                              refine lv_iconst (v := 1) hx hb dL_isWell_525 (by decide) ?_
                              refine lv_goto (tgt := 530) hx hb dL_isWell_526 (by decide) ?_
                              refine lv_istore (lv' := [(7, .int 1), (0, .ref (ca 0 0)), (2, .ref q7), (3, .int (sS (fun j => oF f j 4) (nF f))), (4, .int (sS (gX6_extra f) (nF f))), (5, .int (sS (fun j => oF f j 8) (nF f))), (6, .int (sS (fun j => b01 (gX6_spills f j)) (nF f))), (9, .int (nI v))]) hx hb dL_isWell_530 hl (by decide) rfl (fun ls hl => ?_)
                              refine lv_iinc (v := (nI (v + 1))) (lv' := [(9, .int (nI (v + 1))), (7, .int 1), (0, .ref (ca 0 0)), (2, .ref q7), (3, .int (sS (fun j => oF f j 4) (nF f))), (4, .int (sS (gX6_extra f) (nF f))), (5, .int (sS (fun j => oF f j 8) (nF f))), (6, .int (sS (fun j => b01 (gX6_spills f j)) (nF f)))]) hx hb dL_isWell_532 hl (k := 7) rfl (nI_1 v) (by decide) rfl (fun ls hl => ?_)
                              refine lv_goto (tgt := 499) hx hb dL_isWell_535 (by decide) ?_
                              exact ih499 (v + 1) (by omega) _ _ _ hP hD hS (lv_sub hl [2, 3, 4, 5, 6, 7, 1, 0] rfl)
                  exact loop499 4 0 (by omega) _ _ _ hP hD hS (lv_sub hl [1, 2, 3, 4, 5, 6, 7, 0] rfl)
                · --f
                  exact absurd (nI_le (by omega) (by omega)) c_322
            | succ fu317 ih317 =>
                intro k u hf317 hk H locs ls hP hD hS hl
                refine lv_iload hx hb dL_isWell_317 (lv_at hl 8 rfl) ?_
                refine lv_aload_n hx hb dL_isWell_319 rfl (lv_at hl 1 rfl) ?_
                refine lv_iconst (v := 0) hx hb dL_isWell_320 (by decide) ?_
                refine xiald (j := 0) (by decide) hx hb hK hP 0 0 rfl rfl (by unfold vp_in; decide) dL_isWell_321 ?_
                rw [show (((stA f (nF f)) 0) : Int32) = (nI (cB (stB f 0) (nF f))) from (stA_v (by decide))]
                refine lv_icmp_ge (tgt := 496) hx hb dL_isWell_322 (by decide) (fun c_322 => ?_) (fun c_322 => ?_)
                · --t
                  exact absurd c_322 (nI_ge (by omega) (by omega))
                · --f
                  refine lv_iload hx hb dL_isWell_325 (lv_at hl 6 rfl) ?_
                  refine lv_if_eq (tgt := 496) hx hb dL_isWell_327 (by decide) (fun c_327 => ?_) (fun c_327 => ?_)
                  · --t
                    exact absurd c_327 (by decide)
                  · --f
                    refine lv_aload_n hx hb dL_isWell_330 rfl (lv_at hl 0 rfl) ?_
                    refine lv_iload hx hb dL_isWell_331 (lv_at hl 8 rfl) ?_
                    refine xreti (va_runV (As := [.int (nI k)]) (rest := []) ⟨hx, hb, hml, hown, hts⟩ (mX5_queue l D ck ca C (nI k) _) (cwV 1 hts gL_isWell_X5_queue rfl rfl rfl (by decide +kernel) ⟨Nat.le_of_ble_eq_true rfl, Nat.le_of_ble_eq_true rfl⟩) (xpreV hN hK hP hD List.perm_append_comm 0 rfl rfl rfl) rfl rfl hl.1 rfl (lv_room (Nat.le_of_ble_eq_true rfl)) dL_isWell_333 ⟨Nat.le_of_ble_eq_true rfl, Nat.le_of_ble_eq_true rfl⟩) hP hD hS hA List.perm_append_comm List.perm_append_comm (fun H locs hP hD hS => ?_)
                    have hP : va_P D vwCl ([(q7, .inl (ck 0, 4, .inl (stA f (nF f))))] ++ clW ck ca C) H := hP
                    have hD : va_D (va_A (clW ck ca C) s.heap.size) ([(q7, .inl (ck 0, 4, .inl (stA f (nF f))))] ++ clW ck ca C) := hD
                    rw [eq_queue hC]
                    obtain ⟨j, hj, hq, h0, hrk⟩ := q_at (k := k) hm (by omega)
                    rw [hq]
                    refine lv_istore (lv' := [(10, .int (nI j)), (0, .ref (ca 0 0)), (2, .ref q7), (3, .int (sS (fun j => oF f j 4) (nF f))), (4, .int (sS (gX6_extra f) (nF f))), (5, .int (sS (fun j => oF f j 8) (nF f))), (6, .int (sS (fun j => b01 (gX6_spills f j)) (nF f))), (7, .int 1), (8, .int u), (9, .int (nI k))]) hx hb dL_isWell_336 hl (by decide) rfl (fun ls hl => ?_)
                    refine lv_iload hx hb dL_isWell_338 (lv_at hl 0 rfl) ?_
                    refine lv_if_lt (tgt := 483) hx hb dL_isWell_340 (by decide) (fun c_340 => ?_) (fun c_340 => ?_)
                    · --t
                      exact absurd c_340 (nI_pos (by omega))
                    · --f
                      refine lv_aload_n hx hb dL_isWell_343 rfl (lv_at hl 1 rfl) ?_
                      refine lv_iload hx hb dL_isWell_344 (lv_at hl 0 rfl) ?_
                      refine lv_iconst (v := 3) hx hb dL_isWell_346 (by decide) ?_
                      refine xreti (va_runV (As := [.int (nI j), .int 3]) (rest := []) ⟨hx, hb, hml, hown, hts⟩ (mX5_join l D ck ca C (nI j) 3 _) (cwV 2 hts gL_isWell_X5_join rfl rfl rfl (by decide +kernel) ⟨Nat.le_of_ble_eq_true rfl, Nat.le_of_ble_eq_true rfl⟩) (xpreV hN hK hP hD List.perm_append_comm 0 rfl rfl rfl) rfl rfl hl.1 rfl (lv_room (Nat.le_of_ble_eq_true rfl)) dL_isWell_347 ⟨Nat.le_of_ble_eq_true rfl, Nat.le_of_ble_eq_true rfl⟩) hP hD hS hA List.perm_append_comm List.perm_append_comm (fun H locs hP hD hS => ?_)
                      have hP : va_P D vwCl ([(q7, .inl (ck 0, 4, .inl (stA f (nF f))))] ++ clW ck ca C) H := hP
                      have hD : va_D (va_A (clW ck ca C) s.heap.size) ([(q7, .inl (ck 0, 4, .inl (stA f (nF f))))] ++ clW ck ca C) := hD
                      rw [jn_3 hC hj]
                      rw [show ((oF f j 3) : Int32) = 0 from h0]
                      refine lv_if_ne (tgt := 483) hx hb dL_isWell_350 (by decide) (fun c_350 => ?_) (fun c_350 => ?_)
                      · --t
                        exact absurd (by decide) c_350
                      · --f
                        refine lv_iload hx hb dL_isWell_353 (lv_at hl 9 rfl) ?_
                        refine lv_if_eq (tgt := 419) hx hb dL_isWell_355 (by decide) (fun c_355 => ?_) (fun c_355 => ?_)
                        · --t
                          refine lv_aload_n hx hb dL_isWell_419 rfl (lv_at hl 1 rfl) ?_
                          refine lv_iload hx hb dL_isWell_420 (lv_at hl 0 rfl) ?_
                          refine xreti (va_runV (As := [.int (nI j)]) (rest := []) ⟨hx, hb, hml, hown, hts⟩ (mX5_why l D ck ca C (nI j) _) (cwV 1 hts gL_isWell_X5_why rfl rfl rfl (by decide +kernel) ⟨Nat.le_of_ble_eq_true rfl, Nat.le_of_ble_eq_true rfl⟩) (xpreV hN hK hP hD List.perm_append_comm 0 rfl rfl rfl) rfl rfl hl.1 rfl (lv_room (Nat.le_of_ble_eq_true rfl)) dL_isWell_422 ⟨Nat.le_of_ble_eq_true rfl, Nat.le_of_ble_eq_true rfl⟩) hP hD hS hA List.perm_append_comm List.perm_append_comm (fun H locs hP hD hS => ?_)
                          have hP : va_P D vwCl ([(q7, .inl (ck 0, 4, .inl (stA f (nF f))))] ++ clW ck ca C) H := hP
                          have hD : va_D (va_A (clW ck ca C) s.heap.size) ([(q7, .inl (ck 0, 4, .inl (stA f (nF f))))] ++ clW ck ca C) := hD
                          rw [eq_why hC]
                          rw [why_q hm hj h0]
                          refine lv_aload_n hx hb dL_isWell_425 rfl (lv_at hl 1 rfl) ?_
                          refine lv_iload hx hb dL_isWell_426 (lv_at hl 0 rfl) ?_
                          refine lv_iconst (v := 4) hx hb dL_isWell_428 (by decide) ?_
                          refine xreti (va_runV (As := [.int (nI j), .int 4]) (rest := [.int (if f 0 < gX6_needs f j then 1 else if rkN f j = 0 then 3 else 2)]) ⟨hx, hb, hml, hown, hts⟩ (mX5_join l D ck ca C (nI j) 4 _) (cwV 2 hts gL_isWell_X5_join rfl rfl rfl (by decide +kernel) ⟨Nat.le_of_ble_eq_true rfl, Nat.le_of_ble_eq_true rfl⟩) (xpreV hN hK hP hD List.perm_append_comm 0 rfl rfl rfl) rfl rfl hl.1 rfl (lv_room (Nat.le_of_ble_eq_true rfl)) dL_isWell_429 ⟨Nat.le_of_ble_eq_true rfl, Nat.le_of_ble_eq_true rfl⟩) hP hD hS hA List.perm_append_comm List.perm_append_comm (fun H locs hP hD hS => ?_)
                          have hP : va_P D vwCl ([(q7, .inl (ck 0, 4, .inl (stA f (nF f))))] ++ clW ck ca C) H := hP
                          have hD : va_D (va_A (clW ck ca C) s.heap.size) ([(q7, .inl (ck 0, 4, .inl (stA f (nF f))))] ++ clW ck ca C) := hD
                          rw [jn_4 hC hj]
                          refine lv_aload_n hx hb dL_isWell_432 rfl (lv_at hl 1 rfl) ?_
                          refine lv_bipush (v := 12) hx hb dL_isWell_433 (by decide) ?_
                          refine xreti (va_runV (As := [.int 12]) (rest := [.int (gX6_needs f j), .int (if f 0 < gX6_needs f j then 1 else if rkN f j = 0 then 3 else 2)]) ⟨hx, hb, hml, hown, hts⟩ (mX5_count l D ck ca C 12 _) (cwV 1 hts gL_isWell_X5_count rfl rfl rfl (by decide +kernel) ⟨Nat.le_of_ble_eq_true rfl, Nat.le_of_ble_eq_true rfl⟩) (xpreV hN hK hP hD List.perm_append_comm 0 rfl rfl rfl) rfl rfl hl.1 rfl (lv_room (Nat.le_of_ble_eq_true rfl)) dL_isWell_435 ⟨Nat.le_of_ble_eq_true rfl, Nat.le_of_ble_eq_true rfl⟩) hP hD hS hA List.perm_append_comm List.perm_append_comm (fun H locs hP hD hS => ?_)
                          have hP : va_P D vwCl ([(q7, .inl (ck 0, 4, .inl (stA f (nF f))))] ++ clW ck ca C) H := hP
                          have hD : va_D (va_A (clW ck ca C) s.heap.size) ([(q7, .inl (ck 0, 4, .inl (stA f (nF f))))] ++ clW ck ca C) := hD
                          rw [cnt_12 hC]
                          refine lv_icmp_le (tgt := 445) hx hb dL_isWell_438 (by decide) (fun c_438 => ?_) (fun c_438 => ?_)
                          · --t
                            refine lv_iload hx hb dL_isWell_445 (lv_at hl 9 rfl) ?_
                            refine lv_if_ne (tgt := 454) hx hb dL_isWell_447 (by decide) (fun c_447 => ?_) (fun c_447 => ?_)
                            · --t
                              refine lv_iconst (v := 2) hx hb dL_isWell_454 (by decide) ?_
                              refine lv_icmp_ne (tgt := 483) hx hb dL_isWell_455 (by decide) (fun c_455 => ?_) (fun c_455 => ?_)
                              · --t
                                exact absurd (wq_2 c_438 (by rw [hrk]; exact fun z => c_447 ((k_0 (by omega)).mpr z))) c_455
                              · --f
                                refine lv_iload hx hb dL_isWell_458 (lv_at hl 9 rfl) ?_
                                refine lv_if_gt (tgt := 479) hx hb dL_isWell_460 (by decide) (fun c_460 => ?_) (fun c_460 => ?_)
                                · --t
                                  refine lv_iconst (v := 1) hx hb dL_isWell_479 (by decide) ?_
                                  refine lv_goto (tgt := 484) hx hb dL_isWell_480 (by decide) ?_
                                  refine lv_istore (lv' := [(7, .int 1), (10, .int (nI j)), (0, .ref (ca 0 0)), (2, .ref q7), (3, .int (sS (fun j => oF f j 4) (nF f))), (4, .int (sS (gX6_extra f) (nF f))), (5, .int (sS (fun j => oF f j 8) (nF f))), (6, .int (sS (fun j => b01 (gX6_spills f j)) (nF f))), (8, .int u), (9, .int (nI k))]) hx hb dL_isWell_484 hl (by decide) rfl (fun ls hl => ?_)
                                  refine lv_iload hx hb dL_isWell_486 (lv_at hl 1 rfl) ?_
                                  refine lv_istore (lv' := [(8, .int (nI j)), (7, .int 1), (10, .int (nI j)), (0, .ref (ca 0 0)), (2, .ref q7), (3, .int (sS (fun j => oF f j 4) (nF f))), (4, .int (sS (gX6_extra f) (nF f))), (5, .int (sS (fun j => oF f j 8) (nF f))), (6, .int (sS (fun j => b01 (gX6_spills f j)) (nF f))), (9, .int (nI k))]) hx hb dL_isWell_488 hl (by decide) rfl (fun ls hl => ?_)
                                  refine lv_iinc (v := (nI (k + 1))) (lv' := [(9, .int (nI (k + 1))), (8, .int (nI j)), (7, .int 1), (10, .int (nI j)), (0, .ref (ca 0 0)), (2, .ref q7), (3, .int (sS (fun j => oF f j 4) (nF f))), (4, .int (sS (gX6_extra f) (nF f))), (5, .int (sS (fun j => oF f j 8) (nF f))), (6, .int (sS (fun j => b01 (gX6_spills f j)) (nF f)))]) hx hb dL_isWell_490 hl (k := 9) rfl (nI_1 k) (by decide) rfl (fun ls hl => ?_)
                                  refine lv_goto (tgt := 317) hx hb dL_isWell_493 (by decide) ?_
                                  exact ih317 (k + 1) (nI j) (by omega) (Or.inr ⟨j, hj, h0, by omega, rfl⟩) _ _ _ hP hD hS (lv_sub hl [4, 5, 6, 7, 8, 9, 2, 1, 0] rfl)
                                · --f
                                  refine lv_aload_n hx hb dL_isWell_463 rfl (lv_at hl 1 rfl) ?_
                                  refine lv_iload hx hb dL_isWell_464 (lv_at hl 0 rfl) ?_
                                  refine lv_iconst (v := 4) hx hb dL_isWell_466 (by decide) ?_
                                  refine xreti (va_runV (As := [.int (nI j), .int 4]) (rest := []) ⟨hx, hb, hml, hown, hts⟩ (mX5_join l D ck ca C (nI j) 4 _) (cwV 2 hts gL_isWell_X5_join rfl rfl rfl (by decide +kernel) ⟨Nat.le_of_ble_eq_true rfl, Nat.le_of_ble_eq_true rfl⟩) (xpreV hN hK hP hD List.perm_append_comm 0 rfl rfl rfl) rfl rfl hl.1 rfl (lv_room (Nat.le_of_ble_eq_true rfl)) dL_isWell_467 ⟨Nat.le_of_ble_eq_true rfl, Nat.le_of_ble_eq_true rfl⟩) hP hD hS hA List.perm_append_comm List.perm_append_comm (fun H locs hP hD hS => ?_)
                                  have hP : va_P D vwCl ([(q7, .inl (ck 0, 4, .inl (stA f (nF f))))] ++ clW ck ca C) H := hP
                                  have hD : va_D (va_A (clW ck ca C) s.heap.size) ([(q7, .inl (ck 0, 4, .inl (stA f (nF f))))] ++ clW ck ca C) := hD
                                  rw [jn_4 hC hj]
                                  refine lv_aload_n hx hb dL_isWell_470 rfl (lv_at hl 1 rfl) ?_
                                  refine lv_bipush (v := 6) hx hb dL_isWell_471 (by decide) ?_
                                  refine xreti (va_runV (As := [.int 6]) (rest := [.int (gX6_needs f j)]) ⟨hx, hb, hml, hown, hts⟩ (mX5_count l D ck ca C 6 _) (cwV 1 hts gL_isWell_X5_count rfl rfl rfl (by decide +kernel) ⟨Nat.le_of_ble_eq_true rfl, Nat.le_of_ble_eq_true rfl⟩) (xpreV hN hK hP hD List.perm_append_comm 0 rfl rfl rfl) rfl rfl hl.1 rfl (lv_room (Nat.le_of_ble_eq_true rfl)) dL_isWell_473 ⟨Nat.le_of_ble_eq_true rfl, Nat.le_of_ble_eq_true rfl⟩) hP hD hS hA List.perm_append_comm List.perm_append_comm (fun H locs hP hD hS => ?_)
                                  have hP : va_P D vwCl ([(q7, .inl (ck 0, 4, .inl (stA f (nF f))))] ++ clW ck ca C) H := hP
                                  have hD : va_D (va_A (clW ck ca C) s.heap.size) ([(q7, .inl (ck 0, 4, .inl (stA f (nF f))))] ++ clW ck ca C) := hD
                                  rw [cnt_6 hC]
                                  refine lv_icmp_le (tgt := 483) hx hb dL_isWell_476 (by decide) (fun c_476 => ?_) (fun c_476 => ?_)
                                  · --t
                                    exact absurd c_476 (hd_0 hm hhd hj h0 (by rw [hrk]; have := mt (k_p (k := k) (by omega)).mpr c_460; omega))
                                  · --f
                                    refine lv_iconst (v := 1) hx hb dL_isWell_479 (by decide) ?_
                                    refine lv_goto (tgt := 484) hx hb dL_isWell_480 (by decide) ?_
                                    refine lv_istore (lv' := [(7, .int 1), (10, .int (nI j)), (0, .ref (ca 0 0)), (2, .ref q7), (3, .int (sS (fun j => oF f j 4) (nF f))), (4, .int (sS (gX6_extra f) (nF f))), (5, .int (sS (fun j => oF f j 8) (nF f))), (6, .int (sS (fun j => b01 (gX6_spills f j)) (nF f))), (8, .int u), (9, .int (nI k))]) hx hb dL_isWell_484 hl (by decide) rfl (fun ls hl => ?_)
                                    refine lv_iload hx hb dL_isWell_486 (lv_at hl 1 rfl) ?_
                                    refine lv_istore (lv' := [(8, .int (nI j)), (7, .int 1), (10, .int (nI j)), (0, .ref (ca 0 0)), (2, .ref q7), (3, .int (sS (fun j => oF f j 4) (nF f))), (4, .int (sS (gX6_extra f) (nF f))), (5, .int (sS (fun j => oF f j 8) (nF f))), (6, .int (sS (fun j => b01 (gX6_spills f j)) (nF f))), (9, .int (nI k))]) hx hb dL_isWell_488 hl (by decide) rfl (fun ls hl => ?_)
                                    refine lv_iinc (v := (nI (k + 1))) (lv' := [(9, .int (nI (k + 1))), (8, .int (nI j)), (7, .int 1), (10, .int (nI j)), (0, .ref (ca 0 0)), (2, .ref q7), (3, .int (sS (fun j => oF f j 4) (nF f))), (4, .int (sS (gX6_extra f) (nF f))), (5, .int (sS (fun j => oF f j 8) (nF f))), (6, .int (sS (fun j => b01 (gX6_spills f j)) (nF f)))]) hx hb dL_isWell_490 hl (k := 9) rfl (nI_1 k) (by decide) rfl (fun ls hl => ?_)
                                    refine lv_goto (tgt := 317) hx hb dL_isWell_493 (by decide) ?_
                                    exact ih317 (k + 1) (nI j) (by omega) (Or.inr ⟨j, hj, h0, by omega, rfl⟩) _ _ _ hP hD hS (lv_sub hl [4, 5, 6, 7, 8, 9, 2, 1, 0] rfl)
                            · --f
                              refine lv_iconst (v := 3) hx hb dL_isWell_450 (by decide) ?_
                              refine lv_goto (tgt := 455) hx hb dL_isWell_451 (by decide) ?_
                              refine lv_icmp_ne (tgt := 483) hx hb dL_isWell_455 (by decide) (fun c_455 => ?_) (fun c_455 => ?_)
                              · --t
                                exact absurd (wq_3 c_438 (by rw [hrk]; exact (k_0 (by omega)).mp c_447)) c_455
                              · --f
                                refine lv_iload hx hb dL_isWell_458 (lv_at hl 9 rfl) ?_
                                refine lv_if_gt (tgt := 479) hx hb dL_isWell_460 (by decide) (fun c_460 => ?_) (fun c_460 => ?_)
                                · --t
                                  refine lv_iconst (v := 1) hx hb dL_isWell_479 (by decide) ?_
                                  refine lv_goto (tgt := 484) hx hb dL_isWell_480 (by decide) ?_
                                  refine lv_istore (lv' := [(7, .int 1), (10, .int (nI j)), (0, .ref (ca 0 0)), (2, .ref q7), (3, .int (sS (fun j => oF f j 4) (nF f))), (4, .int (sS (gX6_extra f) (nF f))), (5, .int (sS (fun j => oF f j 8) (nF f))), (6, .int (sS (fun j => b01 (gX6_spills f j)) (nF f))), (8, .int u), (9, .int (nI k))]) hx hb dL_isWell_484 hl (by decide) rfl (fun ls hl => ?_)
                                  refine lv_iload hx hb dL_isWell_486 (lv_at hl 1 rfl) ?_
                                  refine lv_istore (lv' := [(8, .int (nI j)), (7, .int 1), (10, .int (nI j)), (0, .ref (ca 0 0)), (2, .ref q7), (3, .int (sS (fun j => oF f j 4) (nF f))), (4, .int (sS (gX6_extra f) (nF f))), (5, .int (sS (fun j => oF f j 8) (nF f))), (6, .int (sS (fun j => b01 (gX6_spills f j)) (nF f))), (9, .int (nI k))]) hx hb dL_isWell_488 hl (by decide) rfl (fun ls hl => ?_)
                                  refine lv_iinc (v := (nI (k + 1))) (lv' := [(9, .int (nI (k + 1))), (8, .int (nI j)), (7, .int 1), (10, .int (nI j)), (0, .ref (ca 0 0)), (2, .ref q7), (3, .int (sS (fun j => oF f j 4) (nF f))), (4, .int (sS (gX6_extra f) (nF f))), (5, .int (sS (fun j => oF f j 8) (nF f))), (6, .int (sS (fun j => b01 (gX6_spills f j)) (nF f)))]) hx hb dL_isWell_490 hl (k := 9) rfl (nI_1 k) (by decide) rfl (fun ls hl => ?_)
                                  refine lv_goto (tgt := 317) hx hb dL_isWell_493 (by decide) ?_
                                  exact ih317 (k + 1) (nI j) (by omega) (Or.inr ⟨j, hj, h0, by omega, rfl⟩) _ _ _ hP hD hS (lv_sub hl [4, 5, 6, 7, 8, 9, 2, 1, 0] rfl)
                                · --f
                                  refine lv_aload_n hx hb dL_isWell_463 rfl (lv_at hl 1 rfl) ?_
                                  refine lv_iload hx hb dL_isWell_464 (lv_at hl 0 rfl) ?_
                                  refine lv_iconst (v := 4) hx hb dL_isWell_466 (by decide) ?_
                                  refine xreti (va_runV (As := [.int (nI j), .int 4]) (rest := []) ⟨hx, hb, hml, hown, hts⟩ (mX5_join l D ck ca C (nI j) 4 _) (cwV 2 hts gL_isWell_X5_join rfl rfl rfl (by decide +kernel) ⟨Nat.le_of_ble_eq_true rfl, Nat.le_of_ble_eq_true rfl⟩) (xpreV hN hK hP hD List.perm_append_comm 0 rfl rfl rfl) rfl rfl hl.1 rfl (lv_room (Nat.le_of_ble_eq_true rfl)) dL_isWell_467 ⟨Nat.le_of_ble_eq_true rfl, Nat.le_of_ble_eq_true rfl⟩) hP hD hS hA List.perm_append_comm List.perm_append_comm (fun H locs hP hD hS => ?_)
                                  have hP : va_P D vwCl ([(q7, .inl (ck 0, 4, .inl (stA f (nF f))))] ++ clW ck ca C) H := hP
                                  have hD : va_D (va_A (clW ck ca C) s.heap.size) ([(q7, .inl (ck 0, 4, .inl (stA f (nF f))))] ++ clW ck ca C) := hD
                                  rw [jn_4 hC hj]
                                  refine lv_aload_n hx hb dL_isWell_470 rfl (lv_at hl 1 rfl) ?_
                                  refine lv_bipush (v := 6) hx hb dL_isWell_471 (by decide) ?_
                                  refine xreti (va_runV (As := [.int 6]) (rest := [.int (gX6_needs f j)]) ⟨hx, hb, hml, hown, hts⟩ (mX5_count l D ck ca C 6 _) (cwV 1 hts gL_isWell_X5_count rfl rfl rfl (by decide +kernel) ⟨Nat.le_of_ble_eq_true rfl, Nat.le_of_ble_eq_true rfl⟩) (xpreV hN hK hP hD List.perm_append_comm 0 rfl rfl rfl) rfl rfl hl.1 rfl (lv_room (Nat.le_of_ble_eq_true rfl)) dL_isWell_473 ⟨Nat.le_of_ble_eq_true rfl, Nat.le_of_ble_eq_true rfl⟩) hP hD hS hA List.perm_append_comm List.perm_append_comm (fun H locs hP hD hS => ?_)
                                  have hP : va_P D vwCl ([(q7, .inl (ck 0, 4, .inl (stA f (nF f))))] ++ clW ck ca C) H := hP
                                  have hD : va_D (va_A (clW ck ca C) s.heap.size) ([(q7, .inl (ck 0, 4, .inl (stA f (nF f))))] ++ clW ck ca C) := hD
                                  rw [cnt_6 hC]
                                  refine lv_icmp_le (tgt := 483) hx hb dL_isWell_476 (by decide) (fun c_476 => ?_) (fun c_476 => ?_)
                                  · --t
                                    exact absurd c_476 (hd_0 hm hhd hj h0 (by rw [hrk]; have := mt (k_p (k := k) (by omega)).mpr c_460; omega))
                                  · --f
                                    refine lv_iconst (v := 1) hx hb dL_isWell_479 (by decide) ?_
                                    refine lv_goto (tgt := 484) hx hb dL_isWell_480 (by decide) ?_
                                    refine lv_istore (lv' := [(7, .int 1), (10, .int (nI j)), (0, .ref (ca 0 0)), (2, .ref q7), (3, .int (sS (fun j => oF f j 4) (nF f))), (4, .int (sS (gX6_extra f) (nF f))), (5, .int (sS (fun j => oF f j 8) (nF f))), (6, .int (sS (fun j => b01 (gX6_spills f j)) (nF f))), (8, .int u), (9, .int (nI k))]) hx hb dL_isWell_484 hl (by decide) rfl (fun ls hl => ?_)
                                    refine lv_iload hx hb dL_isWell_486 (lv_at hl 1 rfl) ?_
                                    refine lv_istore (lv' := [(8, .int (nI j)), (7, .int 1), (10, .int (nI j)), (0, .ref (ca 0 0)), (2, .ref q7), (3, .int (sS (fun j => oF f j 4) (nF f))), (4, .int (sS (gX6_extra f) (nF f))), (5, .int (sS (fun j => oF f j 8) (nF f))), (6, .int (sS (fun j => b01 (gX6_spills f j)) (nF f))), (9, .int (nI k))]) hx hb dL_isWell_488 hl (by decide) rfl (fun ls hl => ?_)
                                    refine lv_iinc (v := (nI (k + 1))) (lv' := [(9, .int (nI (k + 1))), (8, .int (nI j)), (7, .int 1), (10, .int (nI j)), (0, .ref (ca 0 0)), (2, .ref q7), (3, .int (sS (fun j => oF f j 4) (nF f))), (4, .int (sS (gX6_extra f) (nF f))), (5, .int (sS (fun j => oF f j 8) (nF f))), (6, .int (sS (fun j => b01 (gX6_spills f j)) (nF f)))]) hx hb dL_isWell_490 hl (k := 9) rfl (nI_1 k) (by decide) rfl (fun ls hl => ?_)
                                    refine lv_goto (tgt := 317) hx hb dL_isWell_493 (by decide) ?_
                                    exact ih317 (k + 1) (nI j) (by omega) (Or.inr ⟨j, hj, h0, by omega, rfl⟩) _ _ _ hP hD hS (lv_sub hl [4, 5, 6, 7, 8, 9, 2, 1, 0] rfl)
                          · --f
                            refine lv_iconst (v := 1) hx hb dL_isWell_441 (by decide) ?_
                            refine lv_goto (tgt := 455) hx hb dL_isWell_442 (by decide) ?_
                            refine lv_icmp_ne (tgt := 483) hx hb dL_isWell_455 (by decide) (fun c_455 => ?_) (fun c_455 => ?_)
                            · --t
                              exact absurd (wq_1 c_438) c_455
                            · --f
                              refine lv_iload hx hb dL_isWell_458 (lv_at hl 9 rfl) ?_
                              refine lv_if_gt (tgt := 479) hx hb dL_isWell_460 (by decide) (fun c_460 => ?_) (fun c_460 => ?_)
                              · --t
                                refine lv_iconst (v := 1) hx hb dL_isWell_479 (by decide) ?_
                                refine lv_goto (tgt := 484) hx hb dL_isWell_480 (by decide) ?_
                                refine lv_istore (lv' := [(7, .int 1), (10, .int (nI j)), (0, .ref (ca 0 0)), (2, .ref q7), (3, .int (sS (fun j => oF f j 4) (nF f))), (4, .int (sS (gX6_extra f) (nF f))), (5, .int (sS (fun j => oF f j 8) (nF f))), (6, .int (sS (fun j => b01 (gX6_spills f j)) (nF f))), (8, .int u), (9, .int (nI k))]) hx hb dL_isWell_484 hl (by decide) rfl (fun ls hl => ?_)
                                refine lv_iload hx hb dL_isWell_486 (lv_at hl 1 rfl) ?_
                                refine lv_istore (lv' := [(8, .int (nI j)), (7, .int 1), (10, .int (nI j)), (0, .ref (ca 0 0)), (2, .ref q7), (3, .int (sS (fun j => oF f j 4) (nF f))), (4, .int (sS (gX6_extra f) (nF f))), (5, .int (sS (fun j => oF f j 8) (nF f))), (6, .int (sS (fun j => b01 (gX6_spills f j)) (nF f))), (9, .int (nI k))]) hx hb dL_isWell_488 hl (by decide) rfl (fun ls hl => ?_)
                                refine lv_iinc (v := (nI (k + 1))) (lv' := [(9, .int (nI (k + 1))), (8, .int (nI j)), (7, .int 1), (10, .int (nI j)), (0, .ref (ca 0 0)), (2, .ref q7), (3, .int (sS (fun j => oF f j 4) (nF f))), (4, .int (sS (gX6_extra f) (nF f))), (5, .int (sS (fun j => oF f j 8) (nF f))), (6, .int (sS (fun j => b01 (gX6_spills f j)) (nF f)))]) hx hb dL_isWell_490 hl (k := 9) rfl (nI_1 k) (by decide) rfl (fun ls hl => ?_)
                                refine lv_goto (tgt := 317) hx hb dL_isWell_493 (by decide) ?_
                                exact ih317 (k + 1) (nI j) (by omega) (Or.inr ⟨j, hj, h0, by omega, rfl⟩) _ _ _ hP hD hS (lv_sub hl [4, 5, 6, 7, 8, 9, 2, 1, 0] rfl)
                              · --f
                                refine lv_aload_n hx hb dL_isWell_463 rfl (lv_at hl 1 rfl) ?_
                                refine lv_iload hx hb dL_isWell_464 (lv_at hl 0 rfl) ?_
                                refine lv_iconst (v := 4) hx hb dL_isWell_466 (by decide) ?_
                                refine xreti (va_runV (As := [.int (nI j), .int 4]) (rest := []) ⟨hx, hb, hml, hown, hts⟩ (mX5_join l D ck ca C (nI j) 4 _) (cwV 2 hts gL_isWell_X5_join rfl rfl rfl (by decide +kernel) ⟨Nat.le_of_ble_eq_true rfl, Nat.le_of_ble_eq_true rfl⟩) (xpreV hN hK hP hD List.perm_append_comm 0 rfl rfl rfl) rfl rfl hl.1 rfl (lv_room (Nat.le_of_ble_eq_true rfl)) dL_isWell_467 ⟨Nat.le_of_ble_eq_true rfl, Nat.le_of_ble_eq_true rfl⟩) hP hD hS hA List.perm_append_comm List.perm_append_comm (fun H locs hP hD hS => ?_)
                                have hP : va_P D vwCl ([(q7, .inl (ck 0, 4, .inl (stA f (nF f))))] ++ clW ck ca C) H := hP
                                have hD : va_D (va_A (clW ck ca C) s.heap.size) ([(q7, .inl (ck 0, 4, .inl (stA f (nF f))))] ++ clW ck ca C) := hD
                                rw [jn_4 hC hj]
                                refine lv_aload_n hx hb dL_isWell_470 rfl (lv_at hl 1 rfl) ?_
                                refine lv_bipush (v := 6) hx hb dL_isWell_471 (by decide) ?_
                                refine xreti (va_runV (As := [.int 6]) (rest := [.int (gX6_needs f j)]) ⟨hx, hb, hml, hown, hts⟩ (mX5_count l D ck ca C 6 _) (cwV 1 hts gL_isWell_X5_count rfl rfl rfl (by decide +kernel) ⟨Nat.le_of_ble_eq_true rfl, Nat.le_of_ble_eq_true rfl⟩) (xpreV hN hK hP hD List.perm_append_comm 0 rfl rfl rfl) rfl rfl hl.1 rfl (lv_room (Nat.le_of_ble_eq_true rfl)) dL_isWell_473 ⟨Nat.le_of_ble_eq_true rfl, Nat.le_of_ble_eq_true rfl⟩) hP hD hS hA List.perm_append_comm List.perm_append_comm (fun H locs hP hD hS => ?_)
                                have hP : va_P D vwCl ([(q7, .inl (ck 0, 4, .inl (stA f (nF f))))] ++ clW ck ca C) H := hP
                                have hD : va_D (va_A (clW ck ca C) s.heap.size) ([(q7, .inl (ck 0, 4, .inl (stA f (nF f))))] ++ clW ck ca C) := hD
                                rw [cnt_6 hC]
                                refine lv_icmp_le (tgt := 483) hx hb dL_isWell_476 (by decide) (fun c_476 => ?_) (fun c_476 => ?_)
                                · --t
                                  exact absurd c_476 (hd_0 hm hhd hj h0 (by rw [hrk]; have := mt (k_p (k := k) (by omega)).mpr c_460; omega))
                                · --f
                                  refine lv_iconst (v := 1) hx hb dL_isWell_479 (by decide) ?_
                                  refine lv_goto (tgt := 484) hx hb dL_isWell_480 (by decide) ?_
                                  refine lv_istore (lv' := [(7, .int 1), (10, .int (nI j)), (0, .ref (ca 0 0)), (2, .ref q7), (3, .int (sS (fun j => oF f j 4) (nF f))), (4, .int (sS (gX6_extra f) (nF f))), (5, .int (sS (fun j => oF f j 8) (nF f))), (6, .int (sS (fun j => b01 (gX6_spills f j)) (nF f))), (8, .int u), (9, .int (nI k))]) hx hb dL_isWell_484 hl (by decide) rfl (fun ls hl => ?_)
                                  refine lv_iload hx hb dL_isWell_486 (lv_at hl 1 rfl) ?_
                                  refine lv_istore (lv' := [(8, .int (nI j)), (7, .int 1), (10, .int (nI j)), (0, .ref (ca 0 0)), (2, .ref q7), (3, .int (sS (fun j => oF f j 4) (nF f))), (4, .int (sS (gX6_extra f) (nF f))), (5, .int (sS (fun j => oF f j 8) (nF f))), (6, .int (sS (fun j => b01 (gX6_spills f j)) (nF f))), (9, .int (nI k))]) hx hb dL_isWell_488 hl (by decide) rfl (fun ls hl => ?_)
                                  refine lv_iinc (v := (nI (k + 1))) (lv' := [(9, .int (nI (k + 1))), (8, .int (nI j)), (7, .int 1), (10, .int (nI j)), (0, .ref (ca 0 0)), (2, .ref q7), (3, .int (sS (fun j => oF f j 4) (nF f))), (4, .int (sS (gX6_extra f) (nF f))), (5, .int (sS (fun j => oF f j 8) (nF f))), (6, .int (sS (fun j => b01 (gX6_spills f j)) (nF f)))]) hx hb dL_isWell_490 hl (k := 9) rfl (nI_1 k) (by decide) rfl (fun ls hl => ?_)
                                  refine lv_goto (tgt := 317) hx hb dL_isWell_493 (by decide) ?_
                                  exact ih317 (k + 1) (nI j) (by omega) (Or.inr ⟨j, hj, h0, by omega, rfl⟩) _ _ _ hP hD hS (lv_sub hl [4, 5, 6, 7, 8, 9, 2, 1, 0] rfl)
                        · --f
                          obtain ⟨w, hw, hw0, hwr, rfl⟩ := hk.resolve_left (fun z => c_355 ((k_0 (by omega)).mpr z))
                          have hkey := rk_mono (f := f) (i := w) (j := j) (by omega)
                          refine lv_aload_n hx hb dL_isWell_358 rfl (lv_at hl 1 rfl) ?_
                          refine lv_bipush (v := 13) hx hb dL_isWell_359 (by decide) ?_
                          refine xreti (va_runV (As := [.int 13]) (rest := []) ⟨hx, hb, hml, hown, hts⟩ (mX5_count l D ck ca C 13 _) (cwV 1 hts gL_isWell_X5_count rfl rfl rfl (by decide +kernel) ⟨Nat.le_of_ble_eq_true rfl, Nat.le_of_ble_eq_true rfl⟩) (xpreV hN hK hP hD List.perm_append_comm 0 rfl rfl rfl) rfl rfl hl.1 rfl (lv_room (Nat.le_of_ble_eq_true rfl)) dL_isWell_361 ⟨Nat.le_of_ble_eq_true rfl, Nat.le_of_ble_eq_true rfl⟩) hP hD hS hA List.perm_append_comm List.perm_append_comm (fun H locs hP hD hS => ?_)
                          have hP : va_P D vwCl ([(q7, .inl (ck 0, 4, .inl (stA f (nF f))))] ++ clW ck ca C) H := hP
                          have hD : va_D (va_A (clW ck ca C) s.heap.size) ([(q7, .inl (ck 0, 4, .inl (stA f (nF f))))] ++ clW ck ca C) := hD
                          rw [cnt_13 hC]
                          refine lv_iconst (v := 1) hx hb dL_isWell_364 (by decide) ?_
                          refine lv_icmp_ne (tgt := 412) hx hb dL_isWell_365 (by decide) (fun c_365 => ?_) (fun c_365 => ?_)
                          · --t
                            refine lv_iload hx hb dL_isWell_412 (lv_at hl 0 rfl) ?_
                            refine lv_iload hx hb dL_isWell_414 (lv_at hl 8 rfl) ?_
                            refine lv_icmp_le (tgt := 483) hx hb dL_isWell_416 (by decide) (fun c_416 => ?_) (fun c_416 => ?_)
                            · --t
                              exact absurd c_416 (nI_ge (key_0 c_365 hkey) (by omega))
                            · --f
                              refine lv_aload_n hx hb dL_isWell_419 rfl (lv_at hl 1 rfl) ?_
                              refine lv_iload hx hb dL_isWell_420 (lv_at hl 0 rfl) ?_
                              refine xreti (va_runV (As := [.int (nI j)]) (rest := []) ⟨hx, hb, hml, hown, hts⟩ (mX5_why l D ck ca C (nI j) _) (cwV 1 hts gL_isWell_X5_why rfl rfl rfl (by decide +kernel) ⟨Nat.le_of_ble_eq_true rfl, Nat.le_of_ble_eq_true rfl⟩) (xpreV hN hK hP hD List.perm_append_comm 0 rfl rfl rfl) rfl rfl hl.1 rfl (lv_room (Nat.le_of_ble_eq_true rfl)) dL_isWell_422 ⟨Nat.le_of_ble_eq_true rfl, Nat.le_of_ble_eq_true rfl⟩) hP hD hS hA List.perm_append_comm List.perm_append_comm (fun H locs hP hD hS => ?_)
                              have hP : va_P D vwCl ([(q7, .inl (ck 0, 4, .inl (stA f (nF f))))] ++ clW ck ca C) H := hP
                              have hD : va_D (va_A (clW ck ca C) s.heap.size) ([(q7, .inl (ck 0, 4, .inl (stA f (nF f))))] ++ clW ck ca C) := hD
                              rw [eq_why hC]
                              rw [why_q hm hj h0]
                              refine lv_aload_n hx hb dL_isWell_425 rfl (lv_at hl 1 rfl) ?_
                              refine lv_iload hx hb dL_isWell_426 (lv_at hl 0 rfl) ?_
                              refine lv_iconst (v := 4) hx hb dL_isWell_428 (by decide) ?_
                              refine xreti (va_runV (As := [.int (nI j), .int 4]) (rest := [.int (if f 0 < gX6_needs f j then 1 else if rkN f j = 0 then 3 else 2)]) ⟨hx, hb, hml, hown, hts⟩ (mX5_join l D ck ca C (nI j) 4 _) (cwV 2 hts gL_isWell_X5_join rfl rfl rfl (by decide +kernel) ⟨Nat.le_of_ble_eq_true rfl, Nat.le_of_ble_eq_true rfl⟩) (xpreV hN hK hP hD List.perm_append_comm 0 rfl rfl rfl) rfl rfl hl.1 rfl (lv_room (Nat.le_of_ble_eq_true rfl)) dL_isWell_429 ⟨Nat.le_of_ble_eq_true rfl, Nat.le_of_ble_eq_true rfl⟩) hP hD hS hA List.perm_append_comm List.perm_append_comm (fun H locs hP hD hS => ?_)
                              have hP : va_P D vwCl ([(q7, .inl (ck 0, 4, .inl (stA f (nF f))))] ++ clW ck ca C) H := hP
                              have hD : va_D (va_A (clW ck ca C) s.heap.size) ([(q7, .inl (ck 0, 4, .inl (stA f (nF f))))] ++ clW ck ca C) := hD
                              rw [jn_4 hC hj]
                              refine lv_aload_n hx hb dL_isWell_432 rfl (lv_at hl 1 rfl) ?_
                              refine lv_bipush (v := 12) hx hb dL_isWell_433 (by decide) ?_
                              refine xreti (va_runV (As := [.int 12]) (rest := [.int (gX6_needs f j), .int (if f 0 < gX6_needs f j then 1 else if rkN f j = 0 then 3 else 2)]) ⟨hx, hb, hml, hown, hts⟩ (mX5_count l D ck ca C 12 _) (cwV 1 hts gL_isWell_X5_count rfl rfl rfl (by decide +kernel) ⟨Nat.le_of_ble_eq_true rfl, Nat.le_of_ble_eq_true rfl⟩) (xpreV hN hK hP hD List.perm_append_comm 0 rfl rfl rfl) rfl rfl hl.1 rfl (lv_room (Nat.le_of_ble_eq_true rfl)) dL_isWell_435 ⟨Nat.le_of_ble_eq_true rfl, Nat.le_of_ble_eq_true rfl⟩) hP hD hS hA List.perm_append_comm List.perm_append_comm (fun H locs hP hD hS => ?_)
                              have hP : va_P D vwCl ([(q7, .inl (ck 0, 4, .inl (stA f (nF f))))] ++ clW ck ca C) H := hP
                              have hD : va_D (va_A (clW ck ca C) s.heap.size) ([(q7, .inl (ck 0, 4, .inl (stA f (nF f))))] ++ clW ck ca C) := hD
                              rw [cnt_12 hC]
                              refine lv_icmp_le (tgt := 445) hx hb dL_isWell_438 (by decide) (fun c_438 => ?_) (fun c_438 => ?_)
                              · --t
                                refine lv_iload hx hb dL_isWell_445 (lv_at hl 9 rfl) ?_
                                refine lv_if_ne (tgt := 454) hx hb dL_isWell_447 (by decide) (fun c_447 => ?_) (fun c_447 => ?_)
                                · --t
                                  refine lv_iconst (v := 2) hx hb dL_isWell_454 (by decide) ?_
                                  refine lv_icmp_ne (tgt := 483) hx hb dL_isWell_455 (by decide) (fun c_455 => ?_) (fun c_455 => ?_)
                                  · --t
                                    exact absurd (wq_2 c_438 (by rw [hrk]; exact fun z => c_447 ((k_0 (by omega)).mpr z))) c_455
                                  · --f
                                    refine lv_iload hx hb dL_isWell_458 (lv_at hl 9 rfl) ?_
                                    refine lv_if_gt (tgt := 479) hx hb dL_isWell_460 (by decide) (fun c_460 => ?_) (fun c_460 => ?_)
                                    · --t
                                      refine lv_iconst (v := 1) hx hb dL_isWell_479 (by decide) ?_
                                      refine lv_goto (tgt := 484) hx hb dL_isWell_480 (by decide) ?_
                                      refine lv_istore (lv' := [(7, .int 1), (10, .int (nI j)), (0, .ref (ca 0 0)), (2, .ref q7), (3, .int (sS (fun j => oF f j 4) (nF f))), (4, .int (sS (gX6_extra f) (nF f))), (5, .int (sS (fun j => oF f j 8) (nF f))), (6, .int (sS (fun j => b01 (gX6_spills f j)) (nF f))), (8, .int (nI w)), (9, .int (nI k))]) hx hb dL_isWell_484 hl (by decide) rfl (fun ls hl => ?_)
                                      refine lv_iload hx hb dL_isWell_486 (lv_at hl 1 rfl) ?_
                                      refine lv_istore (lv' := [(8, .int (nI j)), (7, .int 1), (10, .int (nI j)), (0, .ref (ca 0 0)), (2, .ref q7), (3, .int (sS (fun j => oF f j 4) (nF f))), (4, .int (sS (gX6_extra f) (nF f))), (5, .int (sS (fun j => oF f j 8) (nF f))), (6, .int (sS (fun j => b01 (gX6_spills f j)) (nF f))), (9, .int (nI k))]) hx hb dL_isWell_488 hl (by decide) rfl (fun ls hl => ?_)
                                      refine lv_iinc (v := (nI (k + 1))) (lv' := [(9, .int (nI (k + 1))), (8, .int (nI j)), (7, .int 1), (10, .int (nI j)), (0, .ref (ca 0 0)), (2, .ref q7), (3, .int (sS (fun j => oF f j 4) (nF f))), (4, .int (sS (gX6_extra f) (nF f))), (5, .int (sS (fun j => oF f j 8) (nF f))), (6, .int (sS (fun j => b01 (gX6_spills f j)) (nF f)))]) hx hb dL_isWell_490 hl (k := 9) rfl (nI_1 k) (by decide) rfl (fun ls hl => ?_)
                                      refine lv_goto (tgt := 317) hx hb dL_isWell_493 (by decide) ?_
                                      exact ih317 (k + 1) (nI j) (by omega) (Or.inr ⟨j, hj, h0, by omega, rfl⟩) _ _ _ hP hD hS (lv_sub hl [4, 5, 6, 7, 8, 9, 2, 1, 0] rfl)
                                    · --f
                                      refine lv_aload_n hx hb dL_isWell_463 rfl (lv_at hl 1 rfl) ?_
                                      refine lv_iload hx hb dL_isWell_464 (lv_at hl 0 rfl) ?_
                                      refine lv_iconst (v := 4) hx hb dL_isWell_466 (by decide) ?_
                                      refine xreti (va_runV (As := [.int (nI j), .int 4]) (rest := []) ⟨hx, hb, hml, hown, hts⟩ (mX5_join l D ck ca C (nI j) 4 _) (cwV 2 hts gL_isWell_X5_join rfl rfl rfl (by decide +kernel) ⟨Nat.le_of_ble_eq_true rfl, Nat.le_of_ble_eq_true rfl⟩) (xpreV hN hK hP hD List.perm_append_comm 0 rfl rfl rfl) rfl rfl hl.1 rfl (lv_room (Nat.le_of_ble_eq_true rfl)) dL_isWell_467 ⟨Nat.le_of_ble_eq_true rfl, Nat.le_of_ble_eq_true rfl⟩) hP hD hS hA List.perm_append_comm List.perm_append_comm (fun H locs hP hD hS => ?_)
                                      have hP : va_P D vwCl ([(q7, .inl (ck 0, 4, .inl (stA f (nF f))))] ++ clW ck ca C) H := hP
                                      have hD : va_D (va_A (clW ck ca C) s.heap.size) ([(q7, .inl (ck 0, 4, .inl (stA f (nF f))))] ++ clW ck ca C) := hD
                                      rw [jn_4 hC hj]
                                      refine lv_aload_n hx hb dL_isWell_470 rfl (lv_at hl 1 rfl) ?_
                                      refine lv_bipush (v := 6) hx hb dL_isWell_471 (by decide) ?_
                                      refine xreti (va_runV (As := [.int 6]) (rest := [.int (gX6_needs f j)]) ⟨hx, hb, hml, hown, hts⟩ (mX5_count l D ck ca C 6 _) (cwV 1 hts gL_isWell_X5_count rfl rfl rfl (by decide +kernel) ⟨Nat.le_of_ble_eq_true rfl, Nat.le_of_ble_eq_true rfl⟩) (xpreV hN hK hP hD List.perm_append_comm 0 rfl rfl rfl) rfl rfl hl.1 rfl (lv_room (Nat.le_of_ble_eq_true rfl)) dL_isWell_473 ⟨Nat.le_of_ble_eq_true rfl, Nat.le_of_ble_eq_true rfl⟩) hP hD hS hA List.perm_append_comm List.perm_append_comm (fun H locs hP hD hS => ?_)
                                      have hP : va_P D vwCl ([(q7, .inl (ck 0, 4, .inl (stA f (nF f))))] ++ clW ck ca C) H := hP
                                      have hD : va_D (va_A (clW ck ca C) s.heap.size) ([(q7, .inl (ck 0, 4, .inl (stA f (nF f))))] ++ clW ck ca C) := hD
                                      rw [cnt_6 hC]
                                      refine lv_icmp_le (tgt := 483) hx hb dL_isWell_476 (by decide) (fun c_476 => ?_) (fun c_476 => ?_)
                                      · --t
                                        exact absurd c_476 (hd_0 hm hhd hj h0 (by rw [hrk]; have := mt (k_p (k := k) (by omega)).mpr c_460; omega))
                                      · --f
                                        refine lv_iconst (v := 1) hx hb dL_isWell_479 (by decide) ?_
                                        refine lv_goto (tgt := 484) hx hb dL_isWell_480 (by decide) ?_
                                        refine lv_istore (lv' := [(7, .int 1), (10, .int (nI j)), (0, .ref (ca 0 0)), (2, .ref q7), (3, .int (sS (fun j => oF f j 4) (nF f))), (4, .int (sS (gX6_extra f) (nF f))), (5, .int (sS (fun j => oF f j 8) (nF f))), (6, .int (sS (fun j => b01 (gX6_spills f j)) (nF f))), (8, .int (nI w)), (9, .int (nI k))]) hx hb dL_isWell_484 hl (by decide) rfl (fun ls hl => ?_)
                                        refine lv_iload hx hb dL_isWell_486 (lv_at hl 1 rfl) ?_
                                        refine lv_istore (lv' := [(8, .int (nI j)), (7, .int 1), (10, .int (nI j)), (0, .ref (ca 0 0)), (2, .ref q7), (3, .int (sS (fun j => oF f j 4) (nF f))), (4, .int (sS (gX6_extra f) (nF f))), (5, .int (sS (fun j => oF f j 8) (nF f))), (6, .int (sS (fun j => b01 (gX6_spills f j)) (nF f))), (9, .int (nI k))]) hx hb dL_isWell_488 hl (by decide) rfl (fun ls hl => ?_)
                                        refine lv_iinc (v := (nI (k + 1))) (lv' := [(9, .int (nI (k + 1))), (8, .int (nI j)), (7, .int 1), (10, .int (nI j)), (0, .ref (ca 0 0)), (2, .ref q7), (3, .int (sS (fun j => oF f j 4) (nF f))), (4, .int (sS (gX6_extra f) (nF f))), (5, .int (sS (fun j => oF f j 8) (nF f))), (6, .int (sS (fun j => b01 (gX6_spills f j)) (nF f)))]) hx hb dL_isWell_490 hl (k := 9) rfl (nI_1 k) (by decide) rfl (fun ls hl => ?_)
                                        refine lv_goto (tgt := 317) hx hb dL_isWell_493 (by decide) ?_
                                        exact ih317 (k + 1) (nI j) (by omega) (Or.inr ⟨j, hj, h0, by omega, rfl⟩) _ _ _ hP hD hS (lv_sub hl [4, 5, 6, 7, 8, 9, 2, 1, 0] rfl)
                                · --f
                                  refine lv_iconst (v := 3) hx hb dL_isWell_450 (by decide) ?_
                                  refine lv_goto (tgt := 455) hx hb dL_isWell_451 (by decide) ?_
                                  refine lv_icmp_ne (tgt := 483) hx hb dL_isWell_455 (by decide) (fun c_455 => ?_) (fun c_455 => ?_)
                                  · --t
                                    exact absurd (wq_3 c_438 (by rw [hrk]; exact (k_0 (by omega)).mp c_447)) c_455
                                  · --f
                                    refine lv_iload hx hb dL_isWell_458 (lv_at hl 9 rfl) ?_
                                    refine lv_if_gt (tgt := 479) hx hb dL_isWell_460 (by decide) (fun c_460 => ?_) (fun c_460 => ?_)
                                    · --t
                                      refine lv_iconst (v := 1) hx hb dL_isWell_479 (by decide) ?_
                                      refine lv_goto (tgt := 484) hx hb dL_isWell_480 (by decide) ?_
                                      refine lv_istore (lv' := [(7, .int 1), (10, .int (nI j)), (0, .ref (ca 0 0)), (2, .ref q7), (3, .int (sS (fun j => oF f j 4) (nF f))), (4, .int (sS (gX6_extra f) (nF f))), (5, .int (sS (fun j => oF f j 8) (nF f))), (6, .int (sS (fun j => b01 (gX6_spills f j)) (nF f))), (8, .int (nI w)), (9, .int (nI k))]) hx hb dL_isWell_484 hl (by decide) rfl (fun ls hl => ?_)
                                      refine lv_iload hx hb dL_isWell_486 (lv_at hl 1 rfl) ?_
                                      refine lv_istore (lv' := [(8, .int (nI j)), (7, .int 1), (10, .int (nI j)), (0, .ref (ca 0 0)), (2, .ref q7), (3, .int (sS (fun j => oF f j 4) (nF f))), (4, .int (sS (gX6_extra f) (nF f))), (5, .int (sS (fun j => oF f j 8) (nF f))), (6, .int (sS (fun j => b01 (gX6_spills f j)) (nF f))), (9, .int (nI k))]) hx hb dL_isWell_488 hl (by decide) rfl (fun ls hl => ?_)
                                      refine lv_iinc (v := (nI (k + 1))) (lv' := [(9, .int (nI (k + 1))), (8, .int (nI j)), (7, .int 1), (10, .int (nI j)), (0, .ref (ca 0 0)), (2, .ref q7), (3, .int (sS (fun j => oF f j 4) (nF f))), (4, .int (sS (gX6_extra f) (nF f))), (5, .int (sS (fun j => oF f j 8) (nF f))), (6, .int (sS (fun j => b01 (gX6_spills f j)) (nF f)))]) hx hb dL_isWell_490 hl (k := 9) rfl (nI_1 k) (by decide) rfl (fun ls hl => ?_)
                                      refine lv_goto (tgt := 317) hx hb dL_isWell_493 (by decide) ?_
                                      exact ih317 (k + 1) (nI j) (by omega) (Or.inr ⟨j, hj, h0, by omega, rfl⟩) _ _ _ hP hD hS (lv_sub hl [4, 5, 6, 7, 8, 9, 2, 1, 0] rfl)
                                    · --f
                                      refine lv_aload_n hx hb dL_isWell_463 rfl (lv_at hl 1 rfl) ?_
                                      refine lv_iload hx hb dL_isWell_464 (lv_at hl 0 rfl) ?_
                                      refine lv_iconst (v := 4) hx hb dL_isWell_466 (by decide) ?_
                                      refine xreti (va_runV (As := [.int (nI j), .int 4]) (rest := []) ⟨hx, hb, hml, hown, hts⟩ (mX5_join l D ck ca C (nI j) 4 _) (cwV 2 hts gL_isWell_X5_join rfl rfl rfl (by decide +kernel) ⟨Nat.le_of_ble_eq_true rfl, Nat.le_of_ble_eq_true rfl⟩) (xpreV hN hK hP hD List.perm_append_comm 0 rfl rfl rfl) rfl rfl hl.1 rfl (lv_room (Nat.le_of_ble_eq_true rfl)) dL_isWell_467 ⟨Nat.le_of_ble_eq_true rfl, Nat.le_of_ble_eq_true rfl⟩) hP hD hS hA List.perm_append_comm List.perm_append_comm (fun H locs hP hD hS => ?_)
                                      have hP : va_P D vwCl ([(q7, .inl (ck 0, 4, .inl (stA f (nF f))))] ++ clW ck ca C) H := hP
                                      have hD : va_D (va_A (clW ck ca C) s.heap.size) ([(q7, .inl (ck 0, 4, .inl (stA f (nF f))))] ++ clW ck ca C) := hD
                                      rw [jn_4 hC hj]
                                      refine lv_aload_n hx hb dL_isWell_470 rfl (lv_at hl 1 rfl) ?_
                                      refine lv_bipush (v := 6) hx hb dL_isWell_471 (by decide) ?_
                                      refine xreti (va_runV (As := [.int 6]) (rest := [.int (gX6_needs f j)]) ⟨hx, hb, hml, hown, hts⟩ (mX5_count l D ck ca C 6 _) (cwV 1 hts gL_isWell_X5_count rfl rfl rfl (by decide +kernel) ⟨Nat.le_of_ble_eq_true rfl, Nat.le_of_ble_eq_true rfl⟩) (xpreV hN hK hP hD List.perm_append_comm 0 rfl rfl rfl) rfl rfl hl.1 rfl (lv_room (Nat.le_of_ble_eq_true rfl)) dL_isWell_473 ⟨Nat.le_of_ble_eq_true rfl, Nat.le_of_ble_eq_true rfl⟩) hP hD hS hA List.perm_append_comm List.perm_append_comm (fun H locs hP hD hS => ?_)
                                      have hP : va_P D vwCl ([(q7, .inl (ck 0, 4, .inl (stA f (nF f))))] ++ clW ck ca C) H := hP
                                      have hD : va_D (va_A (clW ck ca C) s.heap.size) ([(q7, .inl (ck 0, 4, .inl (stA f (nF f))))] ++ clW ck ca C) := hD
                                      rw [cnt_6 hC]
                                      refine lv_icmp_le (tgt := 483) hx hb dL_isWell_476 (by decide) (fun c_476 => ?_) (fun c_476 => ?_)
                                      · --t
                                        exact absurd c_476 (hd_0 hm hhd hj h0 (by rw [hrk]; have := mt (k_p (k := k) (by omega)).mpr c_460; omega))
                                      · --f
                                        refine lv_iconst (v := 1) hx hb dL_isWell_479 (by decide) ?_
                                        refine lv_goto (tgt := 484) hx hb dL_isWell_480 (by decide) ?_
                                        refine lv_istore (lv' := [(7, .int 1), (10, .int (nI j)), (0, .ref (ca 0 0)), (2, .ref q7), (3, .int (sS (fun j => oF f j 4) (nF f))), (4, .int (sS (gX6_extra f) (nF f))), (5, .int (sS (fun j => oF f j 8) (nF f))), (6, .int (sS (fun j => b01 (gX6_spills f j)) (nF f))), (8, .int (nI w)), (9, .int (nI k))]) hx hb dL_isWell_484 hl (by decide) rfl (fun ls hl => ?_)
                                        refine lv_iload hx hb dL_isWell_486 (lv_at hl 1 rfl) ?_
                                        refine lv_istore (lv' := [(8, .int (nI j)), (7, .int 1), (10, .int (nI j)), (0, .ref (ca 0 0)), (2, .ref q7), (3, .int (sS (fun j => oF f j 4) (nF f))), (4, .int (sS (gX6_extra f) (nF f))), (5, .int (sS (fun j => oF f j 8) (nF f))), (6, .int (sS (fun j => b01 (gX6_spills f j)) (nF f))), (9, .int (nI k))]) hx hb dL_isWell_488 hl (by decide) rfl (fun ls hl => ?_)
                                        refine lv_iinc (v := (nI (k + 1))) (lv' := [(9, .int (nI (k + 1))), (8, .int (nI j)), (7, .int 1), (10, .int (nI j)), (0, .ref (ca 0 0)), (2, .ref q7), (3, .int (sS (fun j => oF f j 4) (nF f))), (4, .int (sS (gX6_extra f) (nF f))), (5, .int (sS (fun j => oF f j 8) (nF f))), (6, .int (sS (fun j => b01 (gX6_spills f j)) (nF f)))]) hx hb dL_isWell_490 hl (k := 9) rfl (nI_1 k) (by decide) rfl (fun ls hl => ?_)
                                        refine lv_goto (tgt := 317) hx hb dL_isWell_493 (by decide) ?_
                                        exact ih317 (k + 1) (nI j) (by omega) (Or.inr ⟨j, hj, h0, by omega, rfl⟩) _ _ _ hP hD hS (lv_sub hl [4, 5, 6, 7, 8, 9, 2, 1, 0] rfl)
                              · --f
                                refine lv_iconst (v := 1) hx hb dL_isWell_441 (by decide) ?_
                                refine lv_goto (tgt := 455) hx hb dL_isWell_442 (by decide) ?_
                                refine lv_icmp_ne (tgt := 483) hx hb dL_isWell_455 (by decide) (fun c_455 => ?_) (fun c_455 => ?_)
                                · --t
                                  exact absurd (wq_1 c_438) c_455
                                · --f
                                  refine lv_iload hx hb dL_isWell_458 (lv_at hl 9 rfl) ?_
                                  refine lv_if_gt (tgt := 479) hx hb dL_isWell_460 (by decide) (fun c_460 => ?_) (fun c_460 => ?_)
                                  · --t
                                    refine lv_iconst (v := 1) hx hb dL_isWell_479 (by decide) ?_
                                    refine lv_goto (tgt := 484) hx hb dL_isWell_480 (by decide) ?_
                                    refine lv_istore (lv' := [(7, .int 1), (10, .int (nI j)), (0, .ref (ca 0 0)), (2, .ref q7), (3, .int (sS (fun j => oF f j 4) (nF f))), (4, .int (sS (gX6_extra f) (nF f))), (5, .int (sS (fun j => oF f j 8) (nF f))), (6, .int (sS (fun j => b01 (gX6_spills f j)) (nF f))), (8, .int (nI w)), (9, .int (nI k))]) hx hb dL_isWell_484 hl (by decide) rfl (fun ls hl => ?_)
                                    refine lv_iload hx hb dL_isWell_486 (lv_at hl 1 rfl) ?_
                                    refine lv_istore (lv' := [(8, .int (nI j)), (7, .int 1), (10, .int (nI j)), (0, .ref (ca 0 0)), (2, .ref q7), (3, .int (sS (fun j => oF f j 4) (nF f))), (4, .int (sS (gX6_extra f) (nF f))), (5, .int (sS (fun j => oF f j 8) (nF f))), (6, .int (sS (fun j => b01 (gX6_spills f j)) (nF f))), (9, .int (nI k))]) hx hb dL_isWell_488 hl (by decide) rfl (fun ls hl => ?_)
                                    refine lv_iinc (v := (nI (k + 1))) (lv' := [(9, .int (nI (k + 1))), (8, .int (nI j)), (7, .int 1), (10, .int (nI j)), (0, .ref (ca 0 0)), (2, .ref q7), (3, .int (sS (fun j => oF f j 4) (nF f))), (4, .int (sS (gX6_extra f) (nF f))), (5, .int (sS (fun j => oF f j 8) (nF f))), (6, .int (sS (fun j => b01 (gX6_spills f j)) (nF f)))]) hx hb dL_isWell_490 hl (k := 9) rfl (nI_1 k) (by decide) rfl (fun ls hl => ?_)
                                    refine lv_goto (tgt := 317) hx hb dL_isWell_493 (by decide) ?_
                                    exact ih317 (k + 1) (nI j) (by omega) (Or.inr ⟨j, hj, h0, by omega, rfl⟩) _ _ _ hP hD hS (lv_sub hl [4, 5, 6, 7, 8, 9, 2, 1, 0] rfl)
                                  · --f
                                    refine lv_aload_n hx hb dL_isWell_463 rfl (lv_at hl 1 rfl) ?_
                                    refine lv_iload hx hb dL_isWell_464 (lv_at hl 0 rfl) ?_
                                    refine lv_iconst (v := 4) hx hb dL_isWell_466 (by decide) ?_
                                    refine xreti (va_runV (As := [.int (nI j), .int 4]) (rest := []) ⟨hx, hb, hml, hown, hts⟩ (mX5_join l D ck ca C (nI j) 4 _) (cwV 2 hts gL_isWell_X5_join rfl rfl rfl (by decide +kernel) ⟨Nat.le_of_ble_eq_true rfl, Nat.le_of_ble_eq_true rfl⟩) (xpreV hN hK hP hD List.perm_append_comm 0 rfl rfl rfl) rfl rfl hl.1 rfl (lv_room (Nat.le_of_ble_eq_true rfl)) dL_isWell_467 ⟨Nat.le_of_ble_eq_true rfl, Nat.le_of_ble_eq_true rfl⟩) hP hD hS hA List.perm_append_comm List.perm_append_comm (fun H locs hP hD hS => ?_)
                                    have hP : va_P D vwCl ([(q7, .inl (ck 0, 4, .inl (stA f (nF f))))] ++ clW ck ca C) H := hP
                                    have hD : va_D (va_A (clW ck ca C) s.heap.size) ([(q7, .inl (ck 0, 4, .inl (stA f (nF f))))] ++ clW ck ca C) := hD
                                    rw [jn_4 hC hj]
                                    refine lv_aload_n hx hb dL_isWell_470 rfl (lv_at hl 1 rfl) ?_
                                    refine lv_bipush (v := 6) hx hb dL_isWell_471 (by decide) ?_
                                    refine xreti (va_runV (As := [.int 6]) (rest := [.int (gX6_needs f j)]) ⟨hx, hb, hml, hown, hts⟩ (mX5_count l D ck ca C 6 _) (cwV 1 hts gL_isWell_X5_count rfl rfl rfl (by decide +kernel) ⟨Nat.le_of_ble_eq_true rfl, Nat.le_of_ble_eq_true rfl⟩) (xpreV hN hK hP hD List.perm_append_comm 0 rfl rfl rfl) rfl rfl hl.1 rfl (lv_room (Nat.le_of_ble_eq_true rfl)) dL_isWell_473 ⟨Nat.le_of_ble_eq_true rfl, Nat.le_of_ble_eq_true rfl⟩) hP hD hS hA List.perm_append_comm List.perm_append_comm (fun H locs hP hD hS => ?_)
                                    have hP : va_P D vwCl ([(q7, .inl (ck 0, 4, .inl (stA f (nF f))))] ++ clW ck ca C) H := hP
                                    have hD : va_D (va_A (clW ck ca C) s.heap.size) ([(q7, .inl (ck 0, 4, .inl (stA f (nF f))))] ++ clW ck ca C) := hD
                                    rw [cnt_6 hC]
                                    refine lv_icmp_le (tgt := 483) hx hb dL_isWell_476 (by decide) (fun c_476 => ?_) (fun c_476 => ?_)
                                    · --t
                                      exact absurd c_476 (hd_0 hm hhd hj h0 (by rw [hrk]; have := mt (k_p (k := k) (by omega)).mpr c_460; omega))
                                    · --f
                                      refine lv_iconst (v := 1) hx hb dL_isWell_479 (by decide) ?_
                                      refine lv_goto (tgt := 484) hx hb dL_isWell_480 (by decide) ?_
                                      refine lv_istore (lv' := [(7, .int 1), (10, .int (nI j)), (0, .ref (ca 0 0)), (2, .ref q7), (3, .int (sS (fun j => oF f j 4) (nF f))), (4, .int (sS (gX6_extra f) (nF f))), (5, .int (sS (fun j => oF f j 8) (nF f))), (6, .int (sS (fun j => b01 (gX6_spills f j)) (nF f))), (8, .int (nI w)), (9, .int (nI k))]) hx hb dL_isWell_484 hl (by decide) rfl (fun ls hl => ?_)
                                      refine lv_iload hx hb dL_isWell_486 (lv_at hl 1 rfl) ?_
                                      refine lv_istore (lv' := [(8, .int (nI j)), (7, .int 1), (10, .int (nI j)), (0, .ref (ca 0 0)), (2, .ref q7), (3, .int (sS (fun j => oF f j 4) (nF f))), (4, .int (sS (gX6_extra f) (nF f))), (5, .int (sS (fun j => oF f j 8) (nF f))), (6, .int (sS (fun j => b01 (gX6_spills f j)) (nF f))), (9, .int (nI k))]) hx hb dL_isWell_488 hl (by decide) rfl (fun ls hl => ?_)
                                      refine lv_iinc (v := (nI (k + 1))) (lv' := [(9, .int (nI (k + 1))), (8, .int (nI j)), (7, .int 1), (10, .int (nI j)), (0, .ref (ca 0 0)), (2, .ref q7), (3, .int (sS (fun j => oF f j 4) (nF f))), (4, .int (sS (gX6_extra f) (nF f))), (5, .int (sS (fun j => oF f j 8) (nF f))), (6, .int (sS (fun j => b01 (gX6_spills f j)) (nF f)))]) hx hb dL_isWell_490 hl (k := 9) rfl (nI_1 k) (by decide) rfl (fun ls hl => ?_)
                                      refine lv_goto (tgt := 317) hx hb dL_isWell_493 (by decide) ?_
                                      exact ih317 (k + 1) (nI j) (by omega) (Or.inr ⟨j, hj, h0, by omega, rfl⟩) _ _ _ hP hD hS (lv_sub hl [4, 5, 6, 7, 8, 9, 2, 1, 0] rfl)
                          · --f
                            refine lv_aload_n hx hb dL_isWell_368 rfl (lv_at hl 1 rfl) ?_
                            refine lv_iload hx hb dL_isWell_369 (lv_at hl 0 rfl) ?_
                            refine lv_iconst (v := 4) hx hb dL_isWell_371 (by decide) ?_
                            refine xreti (va_runV (As := [.int (nI j), .int 4]) (rest := []) ⟨hx, hb, hml, hown, hts⟩ (mX5_join l D ck ca C (nI j) 4 _) (cwV 2 hts gL_isWell_X5_join rfl rfl rfl (by decide +kernel) ⟨Nat.le_of_ble_eq_true rfl, Nat.le_of_ble_eq_true rfl⟩) (xpreV hN hK hP hD List.perm_append_comm 0 rfl rfl rfl) rfl rfl hl.1 rfl (lv_room (Nat.le_of_ble_eq_true rfl)) dL_isWell_372 ⟨Nat.le_of_ble_eq_true rfl, Nat.le_of_ble_eq_true rfl⟩) hP hD hS hA List.perm_append_comm List.perm_append_comm (fun H locs hP hD hS => ?_)
                            have hP : va_P D vwCl ([(q7, .inl (ck 0, 4, .inl (stA f (nF f))))] ++ clW ck ca C) H := hP
                            have hD : va_D (va_A (clW ck ca C) s.heap.size) ([(q7, .inl (ck 0, 4, .inl (stA f (nF f))))] ++ clW ck ca C) := hD
                            rw [jn_4 hC hj]
                            refine lv_aload_n hx hb dL_isWell_375 rfl (lv_at hl 1 rfl) ?_
                            refine lv_iload hx hb dL_isWell_376 (lv_at hl 8 rfl) ?_
                            refine lv_iconst (v := 4) hx hb dL_isWell_378 (by decide) ?_
                            refine xreti (va_runV (As := [.int (nI w), .int 4]) (rest := [.int (gX6_needs f j)]) ⟨hx, hb, hml, hown, hts⟩ (mX5_join l D ck ca C (nI w) 4 _) (cwV 2 hts gL_isWell_X5_join rfl rfl rfl (by decide +kernel) ⟨Nat.le_of_ble_eq_true rfl, Nat.le_of_ble_eq_true rfl⟩) (xpreV hN hK hP hD List.perm_append_comm 0 rfl rfl rfl) rfl rfl hl.1 rfl (lv_room (Nat.le_of_ble_eq_true rfl)) dL_isWell_379 ⟨Nat.le_of_ble_eq_true rfl, Nat.le_of_ble_eq_true rfl⟩) hP hD hS hA List.perm_append_comm List.perm_append_comm (fun H locs hP hD hS => ?_)
                            have hP : va_P D vwCl ([(q7, .inl (ck 0, 4, .inl (stA f (nF f))))] ++ clW ck ca C) H := hP
                            have hD : va_D (va_A (clW ck ca C) s.heap.size) ([(q7, .inl (ck 0, 4, .inl (stA f (nF f))))] ++ clW ck ca C) := hD
                            rw [jn_4 hC hw]
                            refine lv_icmp_gt (tgt := 419) hx hb dL_isWell_382 (by decide) (fun c_382 => ?_) (fun c_382 => ?_)
                            · --t
                              refine lv_aload_n hx hb dL_isWell_419 rfl (lv_at hl 1 rfl) ?_
                              refine lv_iload hx hb dL_isWell_420 (lv_at hl 0 rfl) ?_
                              refine xreti (va_runV (As := [.int (nI j)]) (rest := []) ⟨hx, hb, hml, hown, hts⟩ (mX5_why l D ck ca C (nI j) _) (cwV 1 hts gL_isWell_X5_why rfl rfl rfl (by decide +kernel) ⟨Nat.le_of_ble_eq_true rfl, Nat.le_of_ble_eq_true rfl⟩) (xpreV hN hK hP hD List.perm_append_comm 0 rfl rfl rfl) rfl rfl hl.1 rfl (lv_room (Nat.le_of_ble_eq_true rfl)) dL_isWell_422 ⟨Nat.le_of_ble_eq_true rfl, Nat.le_of_ble_eq_true rfl⟩) hP hD hS hA List.perm_append_comm List.perm_append_comm (fun H locs hP hD hS => ?_)
                              have hP : va_P D vwCl ([(q7, .inl (ck 0, 4, .inl (stA f (nF f))))] ++ clW ck ca C) H := hP
                              have hD : va_D (va_A (clW ck ca C) s.heap.size) ([(q7, .inl (ck 0, 4, .inl (stA f (nF f))))] ++ clW ck ca C) := hD
                              rw [eq_why hC]
                              rw [why_q hm hj h0]
                              refine lv_aload_n hx hb dL_isWell_425 rfl (lv_at hl 1 rfl) ?_
                              refine lv_iload hx hb dL_isWell_426 (lv_at hl 0 rfl) ?_
                              refine lv_iconst (v := 4) hx hb dL_isWell_428 (by decide) ?_
                              refine xreti (va_runV (As := [.int (nI j), .int 4]) (rest := [.int (if f 0 < gX6_needs f j then 1 else if rkN f j = 0 then 3 else 2)]) ⟨hx, hb, hml, hown, hts⟩ (mX5_join l D ck ca C (nI j) 4 _) (cwV 2 hts gL_isWell_X5_join rfl rfl rfl (by decide +kernel) ⟨Nat.le_of_ble_eq_true rfl, Nat.le_of_ble_eq_true rfl⟩) (xpreV hN hK hP hD List.perm_append_comm 0 rfl rfl rfl) rfl rfl hl.1 rfl (lv_room (Nat.le_of_ble_eq_true rfl)) dL_isWell_429 ⟨Nat.le_of_ble_eq_true rfl, Nat.le_of_ble_eq_true rfl⟩) hP hD hS hA List.perm_append_comm List.perm_append_comm (fun H locs hP hD hS => ?_)
                              have hP : va_P D vwCl ([(q7, .inl (ck 0, 4, .inl (stA f (nF f))))] ++ clW ck ca C) H := hP
                              have hD : va_D (va_A (clW ck ca C) s.heap.size) ([(q7, .inl (ck 0, 4, .inl (stA f (nF f))))] ++ clW ck ca C) := hD
                              rw [jn_4 hC hj]
                              refine lv_aload_n hx hb dL_isWell_432 rfl (lv_at hl 1 rfl) ?_
                              refine lv_bipush (v := 12) hx hb dL_isWell_433 (by decide) ?_
                              refine xreti (va_runV (As := [.int 12]) (rest := [.int (gX6_needs f j), .int (if f 0 < gX6_needs f j then 1 else if rkN f j = 0 then 3 else 2)]) ⟨hx, hb, hml, hown, hts⟩ (mX5_count l D ck ca C 12 _) (cwV 1 hts gL_isWell_X5_count rfl rfl rfl (by decide +kernel) ⟨Nat.le_of_ble_eq_true rfl, Nat.le_of_ble_eq_true rfl⟩) (xpreV hN hK hP hD List.perm_append_comm 0 rfl rfl rfl) rfl rfl hl.1 rfl (lv_room (Nat.le_of_ble_eq_true rfl)) dL_isWell_435 ⟨Nat.le_of_ble_eq_true rfl, Nat.le_of_ble_eq_true rfl⟩) hP hD hS hA List.perm_append_comm List.perm_append_comm (fun H locs hP hD hS => ?_)
                              have hP : va_P D vwCl ([(q7, .inl (ck 0, 4, .inl (stA f (nF f))))] ++ clW ck ca C) H := hP
                              have hD : va_D (va_A (clW ck ca C) s.heap.size) ([(q7, .inl (ck 0, 4, .inl (stA f (nF f))))] ++ clW ck ca C) := hD
                              rw [cnt_12 hC]
                              refine lv_icmp_le (tgt := 445) hx hb dL_isWell_438 (by decide) (fun c_438 => ?_) (fun c_438 => ?_)
                              · --t
                                refine lv_iload hx hb dL_isWell_445 (lv_at hl 9 rfl) ?_
                                refine lv_if_ne (tgt := 454) hx hb dL_isWell_447 (by decide) (fun c_447 => ?_) (fun c_447 => ?_)
                                · --t
                                  refine lv_iconst (v := 2) hx hb dL_isWell_454 (by decide) ?_
                                  refine lv_icmp_ne (tgt := 483) hx hb dL_isWell_455 (by decide) (fun c_455 => ?_) (fun c_455 => ?_)
                                  · --t
                                    exact absurd (wq_2 c_438 (by rw [hrk]; exact fun z => c_447 ((k_0 (by omega)).mpr z))) c_455
                                  · --f
                                    refine lv_iload hx hb dL_isWell_458 (lv_at hl 9 rfl) ?_
                                    refine lv_if_gt (tgt := 479) hx hb dL_isWell_460 (by decide) (fun c_460 => ?_) (fun c_460 => ?_)
                                    · --t
                                      refine lv_iconst (v := 1) hx hb dL_isWell_479 (by decide) ?_
                                      refine lv_goto (tgt := 484) hx hb dL_isWell_480 (by decide) ?_
                                      refine lv_istore (lv' := [(7, .int 1), (10, .int (nI j)), (0, .ref (ca 0 0)), (2, .ref q7), (3, .int (sS (fun j => oF f j 4) (nF f))), (4, .int (sS (gX6_extra f) (nF f))), (5, .int (sS (fun j => oF f j 8) (nF f))), (6, .int (sS (fun j => b01 (gX6_spills f j)) (nF f))), (8, .int (nI w)), (9, .int (nI k))]) hx hb dL_isWell_484 hl (by decide) rfl (fun ls hl => ?_)
                                      refine lv_iload hx hb dL_isWell_486 (lv_at hl 1 rfl) ?_
                                      refine lv_istore (lv' := [(8, .int (nI j)), (7, .int 1), (10, .int (nI j)), (0, .ref (ca 0 0)), (2, .ref q7), (3, .int (sS (fun j => oF f j 4) (nF f))), (4, .int (sS (gX6_extra f) (nF f))), (5, .int (sS (fun j => oF f j 8) (nF f))), (6, .int (sS (fun j => b01 (gX6_spills f j)) (nF f))), (9, .int (nI k))]) hx hb dL_isWell_488 hl (by decide) rfl (fun ls hl => ?_)
                                      refine lv_iinc (v := (nI (k + 1))) (lv' := [(9, .int (nI (k + 1))), (8, .int (nI j)), (7, .int 1), (10, .int (nI j)), (0, .ref (ca 0 0)), (2, .ref q7), (3, .int (sS (fun j => oF f j 4) (nF f))), (4, .int (sS (gX6_extra f) (nF f))), (5, .int (sS (fun j => oF f j 8) (nF f))), (6, .int (sS (fun j => b01 (gX6_spills f j)) (nF f)))]) hx hb dL_isWell_490 hl (k := 9) rfl (nI_1 k) (by decide) rfl (fun ls hl => ?_)
                                      refine lv_goto (tgt := 317) hx hb dL_isWell_493 (by decide) ?_
                                      exact ih317 (k + 1) (nI j) (by omega) (Or.inr ⟨j, hj, h0, by omega, rfl⟩) _ _ _ hP hD hS (lv_sub hl [4, 5, 6, 7, 8, 9, 2, 1, 0] rfl)
                                    · --f
                                      refine lv_aload_n hx hb dL_isWell_463 rfl (lv_at hl 1 rfl) ?_
                                      refine lv_iload hx hb dL_isWell_464 (lv_at hl 0 rfl) ?_
                                      refine lv_iconst (v := 4) hx hb dL_isWell_466 (by decide) ?_
                                      refine xreti (va_runV (As := [.int (nI j), .int 4]) (rest := []) ⟨hx, hb, hml, hown, hts⟩ (mX5_join l D ck ca C (nI j) 4 _) (cwV 2 hts gL_isWell_X5_join rfl rfl rfl (by decide +kernel) ⟨Nat.le_of_ble_eq_true rfl, Nat.le_of_ble_eq_true rfl⟩) (xpreV hN hK hP hD List.perm_append_comm 0 rfl rfl rfl) rfl rfl hl.1 rfl (lv_room (Nat.le_of_ble_eq_true rfl)) dL_isWell_467 ⟨Nat.le_of_ble_eq_true rfl, Nat.le_of_ble_eq_true rfl⟩) hP hD hS hA List.perm_append_comm List.perm_append_comm (fun H locs hP hD hS => ?_)
                                      have hP : va_P D vwCl ([(q7, .inl (ck 0, 4, .inl (stA f (nF f))))] ++ clW ck ca C) H := hP
                                      have hD : va_D (va_A (clW ck ca C) s.heap.size) ([(q7, .inl (ck 0, 4, .inl (stA f (nF f))))] ++ clW ck ca C) := hD
                                      rw [jn_4 hC hj]
                                      refine lv_aload_n hx hb dL_isWell_470 rfl (lv_at hl 1 rfl) ?_
                                      refine lv_bipush (v := 6) hx hb dL_isWell_471 (by decide) ?_
                                      refine xreti (va_runV (As := [.int 6]) (rest := [.int (gX6_needs f j)]) ⟨hx, hb, hml, hown, hts⟩ (mX5_count l D ck ca C 6 _) (cwV 1 hts gL_isWell_X5_count rfl rfl rfl (by decide +kernel) ⟨Nat.le_of_ble_eq_true rfl, Nat.le_of_ble_eq_true rfl⟩) (xpreV hN hK hP hD List.perm_append_comm 0 rfl rfl rfl) rfl rfl hl.1 rfl (lv_room (Nat.le_of_ble_eq_true rfl)) dL_isWell_473 ⟨Nat.le_of_ble_eq_true rfl, Nat.le_of_ble_eq_true rfl⟩) hP hD hS hA List.perm_append_comm List.perm_append_comm (fun H locs hP hD hS => ?_)
                                      have hP : va_P D vwCl ([(q7, .inl (ck 0, 4, .inl (stA f (nF f))))] ++ clW ck ca C) H := hP
                                      have hD : va_D (va_A (clW ck ca C) s.heap.size) ([(q7, .inl (ck 0, 4, .inl (stA f (nF f))))] ++ clW ck ca C) := hD
                                      rw [cnt_6 hC]
                                      refine lv_icmp_le (tgt := 483) hx hb dL_isWell_476 (by decide) (fun c_476 => ?_) (fun c_476 => ?_)
                                      · --t
                                        exact absurd c_476 (hd_0 hm hhd hj h0 (by rw [hrk]; have := mt (k_p (k := k) (by omega)).mpr c_460; omega))
                                      · --f
                                        refine lv_iconst (v := 1) hx hb dL_isWell_479 (by decide) ?_
                                        refine lv_goto (tgt := 484) hx hb dL_isWell_480 (by decide) ?_
                                        refine lv_istore (lv' := [(7, .int 1), (10, .int (nI j)), (0, .ref (ca 0 0)), (2, .ref q7), (3, .int (sS (fun j => oF f j 4) (nF f))), (4, .int (sS (gX6_extra f) (nF f))), (5, .int (sS (fun j => oF f j 8) (nF f))), (6, .int (sS (fun j => b01 (gX6_spills f j)) (nF f))), (8, .int (nI w)), (9, .int (nI k))]) hx hb dL_isWell_484 hl (by decide) rfl (fun ls hl => ?_)
                                        refine lv_iload hx hb dL_isWell_486 (lv_at hl 1 rfl) ?_
                                        refine lv_istore (lv' := [(8, .int (nI j)), (7, .int 1), (10, .int (nI j)), (0, .ref (ca 0 0)), (2, .ref q7), (3, .int (sS (fun j => oF f j 4) (nF f))), (4, .int (sS (gX6_extra f) (nF f))), (5, .int (sS (fun j => oF f j 8) (nF f))), (6, .int (sS (fun j => b01 (gX6_spills f j)) (nF f))), (9, .int (nI k))]) hx hb dL_isWell_488 hl (by decide) rfl (fun ls hl => ?_)
                                        refine lv_iinc (v := (nI (k + 1))) (lv' := [(9, .int (nI (k + 1))), (8, .int (nI j)), (7, .int 1), (10, .int (nI j)), (0, .ref (ca 0 0)), (2, .ref q7), (3, .int (sS (fun j => oF f j 4) (nF f))), (4, .int (sS (gX6_extra f) (nF f))), (5, .int (sS (fun j => oF f j 8) (nF f))), (6, .int (sS (fun j => b01 (gX6_spills f j)) (nF f)))]) hx hb dL_isWell_490 hl (k := 9) rfl (nI_1 k) (by decide) rfl (fun ls hl => ?_)
                                        refine lv_goto (tgt := 317) hx hb dL_isWell_493 (by decide) ?_
                                        exact ih317 (k + 1) (nI j) (by omega) (Or.inr ⟨j, hj, h0, by omega, rfl⟩) _ _ _ hP hD hS (lv_sub hl [4, 5, 6, 7, 8, 9, 2, 1, 0] rfl)
                                · --f
                                  refine lv_iconst (v := 3) hx hb dL_isWell_450 (by decide) ?_
                                  refine lv_goto (tgt := 455) hx hb dL_isWell_451 (by decide) ?_
                                  refine lv_icmp_ne (tgt := 483) hx hb dL_isWell_455 (by decide) (fun c_455 => ?_) (fun c_455 => ?_)
                                  · --t
                                    exact absurd (wq_3 c_438 (by rw [hrk]; exact (k_0 (by omega)).mp c_447)) c_455
                                  · --f
                                    refine lv_iload hx hb dL_isWell_458 (lv_at hl 9 rfl) ?_
                                    refine lv_if_gt (tgt := 479) hx hb dL_isWell_460 (by decide) (fun c_460 => ?_) (fun c_460 => ?_)
                                    · --t
                                      refine lv_iconst (v := 1) hx hb dL_isWell_479 (by decide) ?_
                                      refine lv_goto (tgt := 484) hx hb dL_isWell_480 (by decide) ?_
                                      refine lv_istore (lv' := [(7, .int 1), (10, .int (nI j)), (0, .ref (ca 0 0)), (2, .ref q7), (3, .int (sS (fun j => oF f j 4) (nF f))), (4, .int (sS (gX6_extra f) (nF f))), (5, .int (sS (fun j => oF f j 8) (nF f))), (6, .int (sS (fun j => b01 (gX6_spills f j)) (nF f))), (8, .int (nI w)), (9, .int (nI k))]) hx hb dL_isWell_484 hl (by decide) rfl (fun ls hl => ?_)
                                      refine lv_iload hx hb dL_isWell_486 (lv_at hl 1 rfl) ?_
                                      refine lv_istore (lv' := [(8, .int (nI j)), (7, .int 1), (10, .int (nI j)), (0, .ref (ca 0 0)), (2, .ref q7), (3, .int (sS (fun j => oF f j 4) (nF f))), (4, .int (sS (gX6_extra f) (nF f))), (5, .int (sS (fun j => oF f j 8) (nF f))), (6, .int (sS (fun j => b01 (gX6_spills f j)) (nF f))), (9, .int (nI k))]) hx hb dL_isWell_488 hl (by decide) rfl (fun ls hl => ?_)
                                      refine lv_iinc (v := (nI (k + 1))) (lv' := [(9, .int (nI (k + 1))), (8, .int (nI j)), (7, .int 1), (10, .int (nI j)), (0, .ref (ca 0 0)), (2, .ref q7), (3, .int (sS (fun j => oF f j 4) (nF f))), (4, .int (sS (gX6_extra f) (nF f))), (5, .int (sS (fun j => oF f j 8) (nF f))), (6, .int (sS (fun j => b01 (gX6_spills f j)) (nF f)))]) hx hb dL_isWell_490 hl (k := 9) rfl (nI_1 k) (by decide) rfl (fun ls hl => ?_)
                                      refine lv_goto (tgt := 317) hx hb dL_isWell_493 (by decide) ?_
                                      exact ih317 (k + 1) (nI j) (by omega) (Or.inr ⟨j, hj, h0, by omega, rfl⟩) _ _ _ hP hD hS (lv_sub hl [4, 5, 6, 7, 8, 9, 2, 1, 0] rfl)
                                    · --f
                                      refine lv_aload_n hx hb dL_isWell_463 rfl (lv_at hl 1 rfl) ?_
                                      refine lv_iload hx hb dL_isWell_464 (lv_at hl 0 rfl) ?_
                                      refine lv_iconst (v := 4) hx hb dL_isWell_466 (by decide) ?_
                                      refine xreti (va_runV (As := [.int (nI j), .int 4]) (rest := []) ⟨hx, hb, hml, hown, hts⟩ (mX5_join l D ck ca C (nI j) 4 _) (cwV 2 hts gL_isWell_X5_join rfl rfl rfl (by decide +kernel) ⟨Nat.le_of_ble_eq_true rfl, Nat.le_of_ble_eq_true rfl⟩) (xpreV hN hK hP hD List.perm_append_comm 0 rfl rfl rfl) rfl rfl hl.1 rfl (lv_room (Nat.le_of_ble_eq_true rfl)) dL_isWell_467 ⟨Nat.le_of_ble_eq_true rfl, Nat.le_of_ble_eq_true rfl⟩) hP hD hS hA List.perm_append_comm List.perm_append_comm (fun H locs hP hD hS => ?_)
                                      have hP : va_P D vwCl ([(q7, .inl (ck 0, 4, .inl (stA f (nF f))))] ++ clW ck ca C) H := hP
                                      have hD : va_D (va_A (clW ck ca C) s.heap.size) ([(q7, .inl (ck 0, 4, .inl (stA f (nF f))))] ++ clW ck ca C) := hD
                                      rw [jn_4 hC hj]
                                      refine lv_aload_n hx hb dL_isWell_470 rfl (lv_at hl 1 rfl) ?_
                                      refine lv_bipush (v := 6) hx hb dL_isWell_471 (by decide) ?_
                                      refine xreti (va_runV (As := [.int 6]) (rest := [.int (gX6_needs f j)]) ⟨hx, hb, hml, hown, hts⟩ (mX5_count l D ck ca C 6 _) (cwV 1 hts gL_isWell_X5_count rfl rfl rfl (by decide +kernel) ⟨Nat.le_of_ble_eq_true rfl, Nat.le_of_ble_eq_true rfl⟩) (xpreV hN hK hP hD List.perm_append_comm 0 rfl rfl rfl) rfl rfl hl.1 rfl (lv_room (Nat.le_of_ble_eq_true rfl)) dL_isWell_473 ⟨Nat.le_of_ble_eq_true rfl, Nat.le_of_ble_eq_true rfl⟩) hP hD hS hA List.perm_append_comm List.perm_append_comm (fun H locs hP hD hS => ?_)
                                      have hP : va_P D vwCl ([(q7, .inl (ck 0, 4, .inl (stA f (nF f))))] ++ clW ck ca C) H := hP
                                      have hD : va_D (va_A (clW ck ca C) s.heap.size) ([(q7, .inl (ck 0, 4, .inl (stA f (nF f))))] ++ clW ck ca C) := hD
                                      rw [cnt_6 hC]
                                      refine lv_icmp_le (tgt := 483) hx hb dL_isWell_476 (by decide) (fun c_476 => ?_) (fun c_476 => ?_)
                                      · --t
                                        exact absurd c_476 (hd_0 hm hhd hj h0 (by rw [hrk]; have := mt (k_p (k := k) (by omega)).mpr c_460; omega))
                                      · --f
                                        refine lv_iconst (v := 1) hx hb dL_isWell_479 (by decide) ?_
                                        refine lv_goto (tgt := 484) hx hb dL_isWell_480 (by decide) ?_
                                        refine lv_istore (lv' := [(7, .int 1), (10, .int (nI j)), (0, .ref (ca 0 0)), (2, .ref q7), (3, .int (sS (fun j => oF f j 4) (nF f))), (4, .int (sS (gX6_extra f) (nF f))), (5, .int (sS (fun j => oF f j 8) (nF f))), (6, .int (sS (fun j => b01 (gX6_spills f j)) (nF f))), (8, .int (nI w)), (9, .int (nI k))]) hx hb dL_isWell_484 hl (by decide) rfl (fun ls hl => ?_)
                                        refine lv_iload hx hb dL_isWell_486 (lv_at hl 1 rfl) ?_
                                        refine lv_istore (lv' := [(8, .int (nI j)), (7, .int 1), (10, .int (nI j)), (0, .ref (ca 0 0)), (2, .ref q7), (3, .int (sS (fun j => oF f j 4) (nF f))), (4, .int (sS (gX6_extra f) (nF f))), (5, .int (sS (fun j => oF f j 8) (nF f))), (6, .int (sS (fun j => b01 (gX6_spills f j)) (nF f))), (9, .int (nI k))]) hx hb dL_isWell_488 hl (by decide) rfl (fun ls hl => ?_)
                                        refine lv_iinc (v := (nI (k + 1))) (lv' := [(9, .int (nI (k + 1))), (8, .int (nI j)), (7, .int 1), (10, .int (nI j)), (0, .ref (ca 0 0)), (2, .ref q7), (3, .int (sS (fun j => oF f j 4) (nF f))), (4, .int (sS (gX6_extra f) (nF f))), (5, .int (sS (fun j => oF f j 8) (nF f))), (6, .int (sS (fun j => b01 (gX6_spills f j)) (nF f)))]) hx hb dL_isWell_490 hl (k := 9) rfl (nI_1 k) (by decide) rfl (fun ls hl => ?_)
                                        refine lv_goto (tgt := 317) hx hb dL_isWell_493 (by decide) ?_
                                        exact ih317 (k + 1) (nI j) (by omega) (Or.inr ⟨j, hj, h0, by omega, rfl⟩) _ _ _ hP hD hS (lv_sub hl [4, 5, 6, 7, 8, 9, 2, 1, 0] rfl)
                              · --f
                                refine lv_iconst (v := 1) hx hb dL_isWell_441 (by decide) ?_
                                refine lv_goto (tgt := 455) hx hb dL_isWell_442 (by decide) ?_
                                refine lv_icmp_ne (tgt := 483) hx hb dL_isWell_455 (by decide) (fun c_455 => ?_) (fun c_455 => ?_)
                                · --t
                                  exact absurd (wq_1 c_438) c_455
                                · --f
                                  refine lv_iload hx hb dL_isWell_458 (lv_at hl 9 rfl) ?_
                                  refine lv_if_gt (tgt := 479) hx hb dL_isWell_460 (by decide) (fun c_460 => ?_) (fun c_460 => ?_)
                                  · --t
                                    refine lv_iconst (v := 1) hx hb dL_isWell_479 (by decide) ?_
                                    refine lv_goto (tgt := 484) hx hb dL_isWell_480 (by decide) ?_
                                    refine lv_istore (lv' := [(7, .int 1), (10, .int (nI j)), (0, .ref (ca 0 0)), (2, .ref q7), (3, .int (sS (fun j => oF f j 4) (nF f))), (4, .int (sS (gX6_extra f) (nF f))), (5, .int (sS (fun j => oF f j 8) (nF f))), (6, .int (sS (fun j => b01 (gX6_spills f j)) (nF f))), (8, .int (nI w)), (9, .int (nI k))]) hx hb dL_isWell_484 hl (by decide) rfl (fun ls hl => ?_)
                                    refine lv_iload hx hb dL_isWell_486 (lv_at hl 1 rfl) ?_
                                    refine lv_istore (lv' := [(8, .int (nI j)), (7, .int 1), (10, .int (nI j)), (0, .ref (ca 0 0)), (2, .ref q7), (3, .int (sS (fun j => oF f j 4) (nF f))), (4, .int (sS (gX6_extra f) (nF f))), (5, .int (sS (fun j => oF f j 8) (nF f))), (6, .int (sS (fun j => b01 (gX6_spills f j)) (nF f))), (9, .int (nI k))]) hx hb dL_isWell_488 hl (by decide) rfl (fun ls hl => ?_)
                                    refine lv_iinc (v := (nI (k + 1))) (lv' := [(9, .int (nI (k + 1))), (8, .int (nI j)), (7, .int 1), (10, .int (nI j)), (0, .ref (ca 0 0)), (2, .ref q7), (3, .int (sS (fun j => oF f j 4) (nF f))), (4, .int (sS (gX6_extra f) (nF f))), (5, .int (sS (fun j => oF f j 8) (nF f))), (6, .int (sS (fun j => b01 (gX6_spills f j)) (nF f)))]) hx hb dL_isWell_490 hl (k := 9) rfl (nI_1 k) (by decide) rfl (fun ls hl => ?_)
                                    refine lv_goto (tgt := 317) hx hb dL_isWell_493 (by decide) ?_
                                    exact ih317 (k + 1) (nI j) (by omega) (Or.inr ⟨j, hj, h0, by omega, rfl⟩) _ _ _ hP hD hS (lv_sub hl [4, 5, 6, 7, 8, 9, 2, 1, 0] rfl)
                                  · --f
                                    refine lv_aload_n hx hb dL_isWell_463 rfl (lv_at hl 1 rfl) ?_
                                    refine lv_iload hx hb dL_isWell_464 (lv_at hl 0 rfl) ?_
                                    refine lv_iconst (v := 4) hx hb dL_isWell_466 (by decide) ?_
                                    refine xreti (va_runV (As := [.int (nI j), .int 4]) (rest := []) ⟨hx, hb, hml, hown, hts⟩ (mX5_join l D ck ca C (nI j) 4 _) (cwV 2 hts gL_isWell_X5_join rfl rfl rfl (by decide +kernel) ⟨Nat.le_of_ble_eq_true rfl, Nat.le_of_ble_eq_true rfl⟩) (xpreV hN hK hP hD List.perm_append_comm 0 rfl rfl rfl) rfl rfl hl.1 rfl (lv_room (Nat.le_of_ble_eq_true rfl)) dL_isWell_467 ⟨Nat.le_of_ble_eq_true rfl, Nat.le_of_ble_eq_true rfl⟩) hP hD hS hA List.perm_append_comm List.perm_append_comm (fun H locs hP hD hS => ?_)
                                    have hP : va_P D vwCl ([(q7, .inl (ck 0, 4, .inl (stA f (nF f))))] ++ clW ck ca C) H := hP
                                    have hD : va_D (va_A (clW ck ca C) s.heap.size) ([(q7, .inl (ck 0, 4, .inl (stA f (nF f))))] ++ clW ck ca C) := hD
                                    rw [jn_4 hC hj]
                                    refine lv_aload_n hx hb dL_isWell_470 rfl (lv_at hl 1 rfl) ?_
                                    refine lv_bipush (v := 6) hx hb dL_isWell_471 (by decide) ?_
                                    refine xreti (va_runV (As := [.int 6]) (rest := [.int (gX6_needs f j)]) ⟨hx, hb, hml, hown, hts⟩ (mX5_count l D ck ca C 6 _) (cwV 1 hts gL_isWell_X5_count rfl rfl rfl (by decide +kernel) ⟨Nat.le_of_ble_eq_true rfl, Nat.le_of_ble_eq_true rfl⟩) (xpreV hN hK hP hD List.perm_append_comm 0 rfl rfl rfl) rfl rfl hl.1 rfl (lv_room (Nat.le_of_ble_eq_true rfl)) dL_isWell_473 ⟨Nat.le_of_ble_eq_true rfl, Nat.le_of_ble_eq_true rfl⟩) hP hD hS hA List.perm_append_comm List.perm_append_comm (fun H locs hP hD hS => ?_)
                                    have hP : va_P D vwCl ([(q7, .inl (ck 0, 4, .inl (stA f (nF f))))] ++ clW ck ca C) H := hP
                                    have hD : va_D (va_A (clW ck ca C) s.heap.size) ([(q7, .inl (ck 0, 4, .inl (stA f (nF f))))] ++ clW ck ca C) := hD
                                    rw [cnt_6 hC]
                                    refine lv_icmp_le (tgt := 483) hx hb dL_isWell_476 (by decide) (fun c_476 => ?_) (fun c_476 => ?_)
                                    · --t
                                      exact absurd c_476 (hd_0 hm hhd hj h0 (by rw [hrk]; have := mt (k_p (k := k) (by omega)).mpr c_460; omega))
                                    · --f
                                      refine lv_iconst (v := 1) hx hb dL_isWell_479 (by decide) ?_
                                      refine lv_goto (tgt := 484) hx hb dL_isWell_480 (by decide) ?_
                                      refine lv_istore (lv' := [(7, .int 1), (10, .int (nI j)), (0, .ref (ca 0 0)), (2, .ref q7), (3, .int (sS (fun j => oF f j 4) (nF f))), (4, .int (sS (gX6_extra f) (nF f))), (5, .int (sS (fun j => oF f j 8) (nF f))), (6, .int (sS (fun j => b01 (gX6_spills f j)) (nF f))), (8, .int (nI w)), (9, .int (nI k))]) hx hb dL_isWell_484 hl (by decide) rfl (fun ls hl => ?_)
                                      refine lv_iload hx hb dL_isWell_486 (lv_at hl 1 rfl) ?_
                                      refine lv_istore (lv' := [(8, .int (nI j)), (7, .int 1), (10, .int (nI j)), (0, .ref (ca 0 0)), (2, .ref q7), (3, .int (sS (fun j => oF f j 4) (nF f))), (4, .int (sS (gX6_extra f) (nF f))), (5, .int (sS (fun j => oF f j 8) (nF f))), (6, .int (sS (fun j => b01 (gX6_spills f j)) (nF f))), (9, .int (nI k))]) hx hb dL_isWell_488 hl (by decide) rfl (fun ls hl => ?_)
                                      refine lv_iinc (v := (nI (k + 1))) (lv' := [(9, .int (nI (k + 1))), (8, .int (nI j)), (7, .int 1), (10, .int (nI j)), (0, .ref (ca 0 0)), (2, .ref q7), (3, .int (sS (fun j => oF f j 4) (nF f))), (4, .int (sS (gX6_extra f) (nF f))), (5, .int (sS (fun j => oF f j 8) (nF f))), (6, .int (sS (fun j => b01 (gX6_spills f j)) (nF f)))]) hx hb dL_isWell_490 hl (k := 9) rfl (nI_1 k) (by decide) rfl (fun ls hl => ?_)
                                      refine lv_goto (tgt := 317) hx hb dL_isWell_493 (by decide) ?_
                                      exact ih317 (k + 1) (nI j) (by omega) (Or.inr ⟨j, hj, h0, by omega, rfl⟩) _ _ _ hP hD hS (lv_sub hl [4, 5, 6, 7, 8, 9, 2, 1, 0] rfl)
                            · --f
                              refine lv_aload_n hx hb dL_isWell_385 rfl (lv_at hl 1 rfl) ?_
                              refine lv_iload hx hb dL_isWell_386 (lv_at hl 0 rfl) ?_
                              refine lv_iconst (v := 4) hx hb dL_isWell_388 (by decide) ?_
                              refine xreti (va_runV (As := [.int (nI j), .int 4]) (rest := []) ⟨hx, hb, hml, hown, hts⟩ (mX5_join l D ck ca C (nI j) 4 _) (cwV 2 hts gL_isWell_X5_join rfl rfl rfl (by decide +kernel) ⟨Nat.le_of_ble_eq_true rfl, Nat.le_of_ble_eq_true rfl⟩) (xpreV hN hK hP hD List.perm_append_comm 0 rfl rfl rfl) rfl rfl hl.1 rfl (lv_room (Nat.le_of_ble_eq_true rfl)) dL_isWell_389 ⟨Nat.le_of_ble_eq_true rfl, Nat.le_of_ble_eq_true rfl⟩) hP hD hS hA List.perm_append_comm List.perm_append_comm (fun H locs hP hD hS => ?_)
                              have hP : va_P D vwCl ([(q7, .inl (ck 0, 4, .inl (stA f (nF f))))] ++ clW ck ca C) H := hP
                              have hD : va_D (va_A (clW ck ca C) s.heap.size) ([(q7, .inl (ck 0, 4, .inl (stA f (nF f))))] ++ clW ck ca C) := hD
                              rw [jn_4 hC hj]
                              refine lv_aload_n hx hb dL_isWell_392 rfl (lv_at hl 1 rfl) ?_
                              refine lv_iload hx hb dL_isWell_393 (lv_at hl 8 rfl) ?_
                              refine lv_iconst (v := 4) hx hb dL_isWell_395 (by decide) ?_
                              refine xreti (va_runV (As := [.int (nI w), .int 4]) (rest := [.int (gX6_needs f j)]) ⟨hx, hb, hml, hown, hts⟩ (mX5_join l D ck ca C (nI w) 4 _) (cwV 2 hts gL_isWell_X5_join rfl rfl rfl (by decide +kernel) ⟨Nat.le_of_ble_eq_true rfl, Nat.le_of_ble_eq_true rfl⟩) (xpreV hN hK hP hD List.perm_append_comm 0 rfl rfl rfl) rfl rfl hl.1 rfl (lv_room (Nat.le_of_ble_eq_true rfl)) dL_isWell_396 ⟨Nat.le_of_ble_eq_true rfl, Nat.le_of_ble_eq_true rfl⟩) hP hD hS hA List.perm_append_comm List.perm_append_comm (fun H locs hP hD hS => ?_)
                              have hP : va_P D vwCl ([(q7, .inl (ck 0, 4, .inl (stA f (nF f))))] ++ clW ck ca C) H := hP
                              have hD : va_D (va_A (clW ck ca C) s.heap.size) ([(q7, .inl (ck 0, 4, .inl (stA f (nF f))))] ++ clW ck ca C) := hD
                              rw [jn_4 hC hw]
                              refine lv_icmp_ne (tgt := 483) hx hb dL_isWell_399 (by decide) (fun c_399 => ?_) (fun c_399 => ?_)
                              · --t
                                exact absurd (show gX6_needs f j = gX6_needs f w from (key_1 hm hw hj c_365 hkey).elim (fun q => absurd q c_382) (fun q => q.1.symm)) c_399
                              · --f
                                refine lv_iload hx hb dL_isWell_402 (lv_at hl 0 rfl) ?_
                                refine lv_iload hx hb dL_isWell_404 (lv_at hl 8 rfl) ?_
                                refine lv_icmp_le (tgt := 483) hx hb dL_isWell_406 (by decide) (fun c_406 => ?_) (fun c_406 => ?_)
                                · --t
                                  exact absurd c_406 (nI_ge ((key_1 hm hw hj c_365 hkey).elim (fun q => absurd q c_382) (fun q => q.2)) (by omega))
                                · --f
                                  refine lv_goto (tgt := 419) hx hb dL_isWell_409 (by decide) ?_
                                  refine lv_aload_n hx hb dL_isWell_419 rfl (lv_at hl 1 rfl) ?_
                                  refine lv_iload hx hb dL_isWell_420 (lv_at hl 0 rfl) ?_
                                  refine xreti (va_runV (As := [.int (nI j)]) (rest := []) ⟨hx, hb, hml, hown, hts⟩ (mX5_why l D ck ca C (nI j) _) (cwV 1 hts gL_isWell_X5_why rfl rfl rfl (by decide +kernel) ⟨Nat.le_of_ble_eq_true rfl, Nat.le_of_ble_eq_true rfl⟩) (xpreV hN hK hP hD List.perm_append_comm 0 rfl rfl rfl) rfl rfl hl.1 rfl (lv_room (Nat.le_of_ble_eq_true rfl)) dL_isWell_422 ⟨Nat.le_of_ble_eq_true rfl, Nat.le_of_ble_eq_true rfl⟩) hP hD hS hA List.perm_append_comm List.perm_append_comm (fun H locs hP hD hS => ?_)
                                  have hP : va_P D vwCl ([(q7, .inl (ck 0, 4, .inl (stA f (nF f))))] ++ clW ck ca C) H := hP
                                  have hD : va_D (va_A (clW ck ca C) s.heap.size) ([(q7, .inl (ck 0, 4, .inl (stA f (nF f))))] ++ clW ck ca C) := hD
                                  rw [eq_why hC]
                                  rw [why_q hm hj h0]
                                  refine lv_aload_n hx hb dL_isWell_425 rfl (lv_at hl 1 rfl) ?_
                                  refine lv_iload hx hb dL_isWell_426 (lv_at hl 0 rfl) ?_
                                  refine lv_iconst (v := 4) hx hb dL_isWell_428 (by decide) ?_
                                  refine xreti (va_runV (As := [.int (nI j), .int 4]) (rest := [.int (if f 0 < gX6_needs f j then 1 else if rkN f j = 0 then 3 else 2)]) ⟨hx, hb, hml, hown, hts⟩ (mX5_join l D ck ca C (nI j) 4 _) (cwV 2 hts gL_isWell_X5_join rfl rfl rfl (by decide +kernel) ⟨Nat.le_of_ble_eq_true rfl, Nat.le_of_ble_eq_true rfl⟩) (xpreV hN hK hP hD List.perm_append_comm 0 rfl rfl rfl) rfl rfl hl.1 rfl (lv_room (Nat.le_of_ble_eq_true rfl)) dL_isWell_429 ⟨Nat.le_of_ble_eq_true rfl, Nat.le_of_ble_eq_true rfl⟩) hP hD hS hA List.perm_append_comm List.perm_append_comm (fun H locs hP hD hS => ?_)
                                  have hP : va_P D vwCl ([(q7, .inl (ck 0, 4, .inl (stA f (nF f))))] ++ clW ck ca C) H := hP
                                  have hD : va_D (va_A (clW ck ca C) s.heap.size) ([(q7, .inl (ck 0, 4, .inl (stA f (nF f))))] ++ clW ck ca C) := hD
                                  rw [jn_4 hC hj]
                                  refine lv_aload_n hx hb dL_isWell_432 rfl (lv_at hl 1 rfl) ?_
                                  refine lv_bipush (v := 12) hx hb dL_isWell_433 (by decide) ?_
                                  refine xreti (va_runV (As := [.int 12]) (rest := [.int (gX6_needs f j), .int (if f 0 < gX6_needs f j then 1 else if rkN f j = 0 then 3 else 2)]) ⟨hx, hb, hml, hown, hts⟩ (mX5_count l D ck ca C 12 _) (cwV 1 hts gL_isWell_X5_count rfl rfl rfl (by decide +kernel) ⟨Nat.le_of_ble_eq_true rfl, Nat.le_of_ble_eq_true rfl⟩) (xpreV hN hK hP hD List.perm_append_comm 0 rfl rfl rfl) rfl rfl hl.1 rfl (lv_room (Nat.le_of_ble_eq_true rfl)) dL_isWell_435 ⟨Nat.le_of_ble_eq_true rfl, Nat.le_of_ble_eq_true rfl⟩) hP hD hS hA List.perm_append_comm List.perm_append_comm (fun H locs hP hD hS => ?_)
                                  have hP : va_P D vwCl ([(q7, .inl (ck 0, 4, .inl (stA f (nF f))))] ++ clW ck ca C) H := hP
                                  have hD : va_D (va_A (clW ck ca C) s.heap.size) ([(q7, .inl (ck 0, 4, .inl (stA f (nF f))))] ++ clW ck ca C) := hD
                                  rw [cnt_12 hC]
                                  refine lv_icmp_le (tgt := 445) hx hb dL_isWell_438 (by decide) (fun c_438 => ?_) (fun c_438 => ?_)
                                  · --t
                                    refine lv_iload hx hb dL_isWell_445 (lv_at hl 9 rfl) ?_
                                    refine lv_if_ne (tgt := 454) hx hb dL_isWell_447 (by decide) (fun c_447 => ?_) (fun c_447 => ?_)
                                    · --t
                                      refine lv_iconst (v := 2) hx hb dL_isWell_454 (by decide) ?_
                                      refine lv_icmp_ne (tgt := 483) hx hb dL_isWell_455 (by decide) (fun c_455 => ?_) (fun c_455 => ?_)
                                      · --t
                                        exact absurd (wq_2 c_438 (by rw [hrk]; exact fun z => c_447 ((k_0 (by omega)).mpr z))) c_455
                                      · --f
                                        refine lv_iload hx hb dL_isWell_458 (lv_at hl 9 rfl) ?_
                                        refine lv_if_gt (tgt := 479) hx hb dL_isWell_460 (by decide) (fun c_460 => ?_) (fun c_460 => ?_)
                                        · --t
                                          refine lv_iconst (v := 1) hx hb dL_isWell_479 (by decide) ?_
                                          refine lv_goto (tgt := 484) hx hb dL_isWell_480 (by decide) ?_
                                          refine lv_istore (lv' := [(7, .int 1), (10, .int (nI j)), (0, .ref (ca 0 0)), (2, .ref q7), (3, .int (sS (fun j => oF f j 4) (nF f))), (4, .int (sS (gX6_extra f) (nF f))), (5, .int (sS (fun j => oF f j 8) (nF f))), (6, .int (sS (fun j => b01 (gX6_spills f j)) (nF f))), (8, .int (nI w)), (9, .int (nI k))]) hx hb dL_isWell_484 hl (by decide) rfl (fun ls hl => ?_)
                                          refine lv_iload hx hb dL_isWell_486 (lv_at hl 1 rfl) ?_
                                          refine lv_istore (lv' := [(8, .int (nI j)), (7, .int 1), (10, .int (nI j)), (0, .ref (ca 0 0)), (2, .ref q7), (3, .int (sS (fun j => oF f j 4) (nF f))), (4, .int (sS (gX6_extra f) (nF f))), (5, .int (sS (fun j => oF f j 8) (nF f))), (6, .int (sS (fun j => b01 (gX6_spills f j)) (nF f))), (9, .int (nI k))]) hx hb dL_isWell_488 hl (by decide) rfl (fun ls hl => ?_)
                                          refine lv_iinc (v := (nI (k + 1))) (lv' := [(9, .int (nI (k + 1))), (8, .int (nI j)), (7, .int 1), (10, .int (nI j)), (0, .ref (ca 0 0)), (2, .ref q7), (3, .int (sS (fun j => oF f j 4) (nF f))), (4, .int (sS (gX6_extra f) (nF f))), (5, .int (sS (fun j => oF f j 8) (nF f))), (6, .int (sS (fun j => b01 (gX6_spills f j)) (nF f)))]) hx hb dL_isWell_490 hl (k := 9) rfl (nI_1 k) (by decide) rfl (fun ls hl => ?_)
                                          refine lv_goto (tgt := 317) hx hb dL_isWell_493 (by decide) ?_
                                          exact ih317 (k + 1) (nI j) (by omega) (Or.inr ⟨j, hj, h0, by omega, rfl⟩) _ _ _ hP hD hS (lv_sub hl [4, 5, 6, 7, 8, 9, 2, 1, 0] rfl)
                                        · --f
                                          refine lv_aload_n hx hb dL_isWell_463 rfl (lv_at hl 1 rfl) ?_
                                          refine lv_iload hx hb dL_isWell_464 (lv_at hl 0 rfl) ?_
                                          refine lv_iconst (v := 4) hx hb dL_isWell_466 (by decide) ?_
                                          refine xreti (va_runV (As := [.int (nI j), .int 4]) (rest := []) ⟨hx, hb, hml, hown, hts⟩ (mX5_join l D ck ca C (nI j) 4 _) (cwV 2 hts gL_isWell_X5_join rfl rfl rfl (by decide +kernel) ⟨Nat.le_of_ble_eq_true rfl, Nat.le_of_ble_eq_true rfl⟩) (xpreV hN hK hP hD List.perm_append_comm 0 rfl rfl rfl) rfl rfl hl.1 rfl (lv_room (Nat.le_of_ble_eq_true rfl)) dL_isWell_467 ⟨Nat.le_of_ble_eq_true rfl, Nat.le_of_ble_eq_true rfl⟩) hP hD hS hA List.perm_append_comm List.perm_append_comm (fun H locs hP hD hS => ?_)
                                          have hP : va_P D vwCl ([(q7, .inl (ck 0, 4, .inl (stA f (nF f))))] ++ clW ck ca C) H := hP
                                          have hD : va_D (va_A (clW ck ca C) s.heap.size) ([(q7, .inl (ck 0, 4, .inl (stA f (nF f))))] ++ clW ck ca C) := hD
                                          rw [jn_4 hC hj]
                                          refine lv_aload_n hx hb dL_isWell_470 rfl (lv_at hl 1 rfl) ?_
                                          refine lv_bipush (v := 6) hx hb dL_isWell_471 (by decide) ?_
                                          refine xreti (va_runV (As := [.int 6]) (rest := [.int (gX6_needs f j)]) ⟨hx, hb, hml, hown, hts⟩ (mX5_count l D ck ca C 6 _) (cwV 1 hts gL_isWell_X5_count rfl rfl rfl (by decide +kernel) ⟨Nat.le_of_ble_eq_true rfl, Nat.le_of_ble_eq_true rfl⟩) (xpreV hN hK hP hD List.perm_append_comm 0 rfl rfl rfl) rfl rfl hl.1 rfl (lv_room (Nat.le_of_ble_eq_true rfl)) dL_isWell_473 ⟨Nat.le_of_ble_eq_true rfl, Nat.le_of_ble_eq_true rfl⟩) hP hD hS hA List.perm_append_comm List.perm_append_comm (fun H locs hP hD hS => ?_)
                                          have hP : va_P D vwCl ([(q7, .inl (ck 0, 4, .inl (stA f (nF f))))] ++ clW ck ca C) H := hP
                                          have hD : va_D (va_A (clW ck ca C) s.heap.size) ([(q7, .inl (ck 0, 4, .inl (stA f (nF f))))] ++ clW ck ca C) := hD
                                          rw [cnt_6 hC]
                                          refine lv_icmp_le (tgt := 483) hx hb dL_isWell_476 (by decide) (fun c_476 => ?_) (fun c_476 => ?_)
                                          · --t
                                            exact absurd c_476 (hd_0 hm hhd hj h0 (by rw [hrk]; have := mt (k_p (k := k) (by omega)).mpr c_460; omega))
                                          · --f
                                            refine lv_iconst (v := 1) hx hb dL_isWell_479 (by decide) ?_
                                            refine lv_goto (tgt := 484) hx hb dL_isWell_480 (by decide) ?_
                                            refine lv_istore (lv' := [(7, .int 1), (10, .int (nI j)), (0, .ref (ca 0 0)), (2, .ref q7), (3, .int (sS (fun j => oF f j 4) (nF f))), (4, .int (sS (gX6_extra f) (nF f))), (5, .int (sS (fun j => oF f j 8) (nF f))), (6, .int (sS (fun j => b01 (gX6_spills f j)) (nF f))), (8, .int (nI w)), (9, .int (nI k))]) hx hb dL_isWell_484 hl (by decide) rfl (fun ls hl => ?_)
                                            refine lv_iload hx hb dL_isWell_486 (lv_at hl 1 rfl) ?_
                                            refine lv_istore (lv' := [(8, .int (nI j)), (7, .int 1), (10, .int (nI j)), (0, .ref (ca 0 0)), (2, .ref q7), (3, .int (sS (fun j => oF f j 4) (nF f))), (4, .int (sS (gX6_extra f) (nF f))), (5, .int (sS (fun j => oF f j 8) (nF f))), (6, .int (sS (fun j => b01 (gX6_spills f j)) (nF f))), (9, .int (nI k))]) hx hb dL_isWell_488 hl (by decide) rfl (fun ls hl => ?_)
                                            refine lv_iinc (v := (nI (k + 1))) (lv' := [(9, .int (nI (k + 1))), (8, .int (nI j)), (7, .int 1), (10, .int (nI j)), (0, .ref (ca 0 0)), (2, .ref q7), (3, .int (sS (fun j => oF f j 4) (nF f))), (4, .int (sS (gX6_extra f) (nF f))), (5, .int (sS (fun j => oF f j 8) (nF f))), (6, .int (sS (fun j => b01 (gX6_spills f j)) (nF f)))]) hx hb dL_isWell_490 hl (k := 9) rfl (nI_1 k) (by decide) rfl (fun ls hl => ?_)
                                            refine lv_goto (tgt := 317) hx hb dL_isWell_493 (by decide) ?_
                                            exact ih317 (k + 1) (nI j) (by omega) (Or.inr ⟨j, hj, h0, by omega, rfl⟩) _ _ _ hP hD hS (lv_sub hl [4, 5, 6, 7, 8, 9, 2, 1, 0] rfl)
                                    · --f
                                      refine lv_iconst (v := 3) hx hb dL_isWell_450 (by decide) ?_
                                      refine lv_goto (tgt := 455) hx hb dL_isWell_451 (by decide) ?_
                                      refine lv_icmp_ne (tgt := 483) hx hb dL_isWell_455 (by decide) (fun c_455 => ?_) (fun c_455 => ?_)
                                      · --t
                                        exact absurd (wq_3 c_438 (by rw [hrk]; exact (k_0 (by omega)).mp c_447)) c_455
                                      · --f
                                        refine lv_iload hx hb dL_isWell_458 (lv_at hl 9 rfl) ?_
                                        refine lv_if_gt (tgt := 479) hx hb dL_isWell_460 (by decide) (fun c_460 => ?_) (fun c_460 => ?_)
                                        · --t
                                          refine lv_iconst (v := 1) hx hb dL_isWell_479 (by decide) ?_
                                          refine lv_goto (tgt := 484) hx hb dL_isWell_480 (by decide) ?_
                                          refine lv_istore (lv' := [(7, .int 1), (10, .int (nI j)), (0, .ref (ca 0 0)), (2, .ref q7), (3, .int (sS (fun j => oF f j 4) (nF f))), (4, .int (sS (gX6_extra f) (nF f))), (5, .int (sS (fun j => oF f j 8) (nF f))), (6, .int (sS (fun j => b01 (gX6_spills f j)) (nF f))), (8, .int (nI w)), (9, .int (nI k))]) hx hb dL_isWell_484 hl (by decide) rfl (fun ls hl => ?_)
                                          refine lv_iload hx hb dL_isWell_486 (lv_at hl 1 rfl) ?_
                                          refine lv_istore (lv' := [(8, .int (nI j)), (7, .int 1), (10, .int (nI j)), (0, .ref (ca 0 0)), (2, .ref q7), (3, .int (sS (fun j => oF f j 4) (nF f))), (4, .int (sS (gX6_extra f) (nF f))), (5, .int (sS (fun j => oF f j 8) (nF f))), (6, .int (sS (fun j => b01 (gX6_spills f j)) (nF f))), (9, .int (nI k))]) hx hb dL_isWell_488 hl (by decide) rfl (fun ls hl => ?_)
                                          refine lv_iinc (v := (nI (k + 1))) (lv' := [(9, .int (nI (k + 1))), (8, .int (nI j)), (7, .int 1), (10, .int (nI j)), (0, .ref (ca 0 0)), (2, .ref q7), (3, .int (sS (fun j => oF f j 4) (nF f))), (4, .int (sS (gX6_extra f) (nF f))), (5, .int (sS (fun j => oF f j 8) (nF f))), (6, .int (sS (fun j => b01 (gX6_spills f j)) (nF f)))]) hx hb dL_isWell_490 hl (k := 9) rfl (nI_1 k) (by decide) rfl (fun ls hl => ?_)
                                          refine lv_goto (tgt := 317) hx hb dL_isWell_493 (by decide) ?_
                                          exact ih317 (k + 1) (nI j) (by omega) (Or.inr ⟨j, hj, h0, by omega, rfl⟩) _ _ _ hP hD hS (lv_sub hl [4, 5, 6, 7, 8, 9, 2, 1, 0] rfl)
                                        · --f
                                          refine lv_aload_n hx hb dL_isWell_463 rfl (lv_at hl 1 rfl) ?_
                                          refine lv_iload hx hb dL_isWell_464 (lv_at hl 0 rfl) ?_
                                          refine lv_iconst (v := 4) hx hb dL_isWell_466 (by decide) ?_
                                          refine xreti (va_runV (As := [.int (nI j), .int 4]) (rest := []) ⟨hx, hb, hml, hown, hts⟩ (mX5_join l D ck ca C (nI j) 4 _) (cwV 2 hts gL_isWell_X5_join rfl rfl rfl (by decide +kernel) ⟨Nat.le_of_ble_eq_true rfl, Nat.le_of_ble_eq_true rfl⟩) (xpreV hN hK hP hD List.perm_append_comm 0 rfl rfl rfl) rfl rfl hl.1 rfl (lv_room (Nat.le_of_ble_eq_true rfl)) dL_isWell_467 ⟨Nat.le_of_ble_eq_true rfl, Nat.le_of_ble_eq_true rfl⟩) hP hD hS hA List.perm_append_comm List.perm_append_comm (fun H locs hP hD hS => ?_)
                                          have hP : va_P D vwCl ([(q7, .inl (ck 0, 4, .inl (stA f (nF f))))] ++ clW ck ca C) H := hP
                                          have hD : va_D (va_A (clW ck ca C) s.heap.size) ([(q7, .inl (ck 0, 4, .inl (stA f (nF f))))] ++ clW ck ca C) := hD
                                          rw [jn_4 hC hj]
                                          refine lv_aload_n hx hb dL_isWell_470 rfl (lv_at hl 1 rfl) ?_
                                          refine lv_bipush (v := 6) hx hb dL_isWell_471 (by decide) ?_
                                          refine xreti (va_runV (As := [.int 6]) (rest := [.int (gX6_needs f j)]) ⟨hx, hb, hml, hown, hts⟩ (mX5_count l D ck ca C 6 _) (cwV 1 hts gL_isWell_X5_count rfl rfl rfl (by decide +kernel) ⟨Nat.le_of_ble_eq_true rfl, Nat.le_of_ble_eq_true rfl⟩) (xpreV hN hK hP hD List.perm_append_comm 0 rfl rfl rfl) rfl rfl hl.1 rfl (lv_room (Nat.le_of_ble_eq_true rfl)) dL_isWell_473 ⟨Nat.le_of_ble_eq_true rfl, Nat.le_of_ble_eq_true rfl⟩) hP hD hS hA List.perm_append_comm List.perm_append_comm (fun H locs hP hD hS => ?_)
                                          have hP : va_P D vwCl ([(q7, .inl (ck 0, 4, .inl (stA f (nF f))))] ++ clW ck ca C) H := hP
                                          have hD : va_D (va_A (clW ck ca C) s.heap.size) ([(q7, .inl (ck 0, 4, .inl (stA f (nF f))))] ++ clW ck ca C) := hD
                                          rw [cnt_6 hC]
                                          refine lv_icmp_le (tgt := 483) hx hb dL_isWell_476 (by decide) (fun c_476 => ?_) (fun c_476 => ?_)
                                          · --t
                                            exact absurd c_476 (hd_0 hm hhd hj h0 (by rw [hrk]; have := mt (k_p (k := k) (by omega)).mpr c_460; omega))
                                          · --f
                                            refine lv_iconst (v := 1) hx hb dL_isWell_479 (by decide) ?_
                                            refine lv_goto (tgt := 484) hx hb dL_isWell_480 (by decide) ?_
                                            refine lv_istore (lv' := [(7, .int 1), (10, .int (nI j)), (0, .ref (ca 0 0)), (2, .ref q7), (3, .int (sS (fun j => oF f j 4) (nF f))), (4, .int (sS (gX6_extra f) (nF f))), (5, .int (sS (fun j => oF f j 8) (nF f))), (6, .int (sS (fun j => b01 (gX6_spills f j)) (nF f))), (8, .int (nI w)), (9, .int (nI k))]) hx hb dL_isWell_484 hl (by decide) rfl (fun ls hl => ?_)
                                            refine lv_iload hx hb dL_isWell_486 (lv_at hl 1 rfl) ?_
                                            refine lv_istore (lv' := [(8, .int (nI j)), (7, .int 1), (10, .int (nI j)), (0, .ref (ca 0 0)), (2, .ref q7), (3, .int (sS (fun j => oF f j 4) (nF f))), (4, .int (sS (gX6_extra f) (nF f))), (5, .int (sS (fun j => oF f j 8) (nF f))), (6, .int (sS (fun j => b01 (gX6_spills f j)) (nF f))), (9, .int (nI k))]) hx hb dL_isWell_488 hl (by decide) rfl (fun ls hl => ?_)
                                            refine lv_iinc (v := (nI (k + 1))) (lv' := [(9, .int (nI (k + 1))), (8, .int (nI j)), (7, .int 1), (10, .int (nI j)), (0, .ref (ca 0 0)), (2, .ref q7), (3, .int (sS (fun j => oF f j 4) (nF f))), (4, .int (sS (gX6_extra f) (nF f))), (5, .int (sS (fun j => oF f j 8) (nF f))), (6, .int (sS (fun j => b01 (gX6_spills f j)) (nF f)))]) hx hb dL_isWell_490 hl (k := 9) rfl (nI_1 k) (by decide) rfl (fun ls hl => ?_)
                                            refine lv_goto (tgt := 317) hx hb dL_isWell_493 (by decide) ?_
                                            exact ih317 (k + 1) (nI j) (by omega) (Or.inr ⟨j, hj, h0, by omega, rfl⟩) _ _ _ hP hD hS (lv_sub hl [4, 5, 6, 7, 8, 9, 2, 1, 0] rfl)
                                  · --f
                                    refine lv_iconst (v := 1) hx hb dL_isWell_441 (by decide) ?_
                                    refine lv_goto (tgt := 455) hx hb dL_isWell_442 (by decide) ?_
                                    refine lv_icmp_ne (tgt := 483) hx hb dL_isWell_455 (by decide) (fun c_455 => ?_) (fun c_455 => ?_)
                                    · --t
                                      exact absurd (wq_1 c_438) c_455
                                    · --f
                                      refine lv_iload hx hb dL_isWell_458 (lv_at hl 9 rfl) ?_
                                      refine lv_if_gt (tgt := 479) hx hb dL_isWell_460 (by decide) (fun c_460 => ?_) (fun c_460 => ?_)
                                      · --t
                                        refine lv_iconst (v := 1) hx hb dL_isWell_479 (by decide) ?_
                                        refine lv_goto (tgt := 484) hx hb dL_isWell_480 (by decide) ?_
                                        refine lv_istore (lv' := [(7, .int 1), (10, .int (nI j)), (0, .ref (ca 0 0)), (2, .ref q7), (3, .int (sS (fun j => oF f j 4) (nF f))), (4, .int (sS (gX6_extra f) (nF f))), (5, .int (sS (fun j => oF f j 8) (nF f))), (6, .int (sS (fun j => b01 (gX6_spills f j)) (nF f))), (8, .int (nI w)), (9, .int (nI k))]) hx hb dL_isWell_484 hl (by decide) rfl (fun ls hl => ?_)
                                        refine lv_iload hx hb dL_isWell_486 (lv_at hl 1 rfl) ?_
                                        refine lv_istore (lv' := [(8, .int (nI j)), (7, .int 1), (10, .int (nI j)), (0, .ref (ca 0 0)), (2, .ref q7), (3, .int (sS (fun j => oF f j 4) (nF f))), (4, .int (sS (gX6_extra f) (nF f))), (5, .int (sS (fun j => oF f j 8) (nF f))), (6, .int (sS (fun j => b01 (gX6_spills f j)) (nF f))), (9, .int (nI k))]) hx hb dL_isWell_488 hl (by decide) rfl (fun ls hl => ?_)
                                        refine lv_iinc (v := (nI (k + 1))) (lv' := [(9, .int (nI (k + 1))), (8, .int (nI j)), (7, .int 1), (10, .int (nI j)), (0, .ref (ca 0 0)), (2, .ref q7), (3, .int (sS (fun j => oF f j 4) (nF f))), (4, .int (sS (gX6_extra f) (nF f))), (5, .int (sS (fun j => oF f j 8) (nF f))), (6, .int (sS (fun j => b01 (gX6_spills f j)) (nF f)))]) hx hb dL_isWell_490 hl (k := 9) rfl (nI_1 k) (by decide) rfl (fun ls hl => ?_)
                                        refine lv_goto (tgt := 317) hx hb dL_isWell_493 (by decide) ?_
                                        exact ih317 (k + 1) (nI j) (by omega) (Or.inr ⟨j, hj, h0, by omega, rfl⟩) _ _ _ hP hD hS (lv_sub hl [4, 5, 6, 7, 8, 9, 2, 1, 0] rfl)
                                      · --f
                                        refine lv_aload_n hx hb dL_isWell_463 rfl (lv_at hl 1 rfl) ?_
                                        refine lv_iload hx hb dL_isWell_464 (lv_at hl 0 rfl) ?_
                                        refine lv_iconst (v := 4) hx hb dL_isWell_466 (by decide) ?_
                                        refine xreti (va_runV (As := [.int (nI j), .int 4]) (rest := []) ⟨hx, hb, hml, hown, hts⟩ (mX5_join l D ck ca C (nI j) 4 _) (cwV 2 hts gL_isWell_X5_join rfl rfl rfl (by decide +kernel) ⟨Nat.le_of_ble_eq_true rfl, Nat.le_of_ble_eq_true rfl⟩) (xpreV hN hK hP hD List.perm_append_comm 0 rfl rfl rfl) rfl rfl hl.1 rfl (lv_room (Nat.le_of_ble_eq_true rfl)) dL_isWell_467 ⟨Nat.le_of_ble_eq_true rfl, Nat.le_of_ble_eq_true rfl⟩) hP hD hS hA List.perm_append_comm List.perm_append_comm (fun H locs hP hD hS => ?_)
                                        have hP : va_P D vwCl ([(q7, .inl (ck 0, 4, .inl (stA f (nF f))))] ++ clW ck ca C) H := hP
                                        have hD : va_D (va_A (clW ck ca C) s.heap.size) ([(q7, .inl (ck 0, 4, .inl (stA f (nF f))))] ++ clW ck ca C) := hD
                                        rw [jn_4 hC hj]
                                        refine lv_aload_n hx hb dL_isWell_470 rfl (lv_at hl 1 rfl) ?_
                                        refine lv_bipush (v := 6) hx hb dL_isWell_471 (by decide) ?_
                                        refine xreti (va_runV (As := [.int 6]) (rest := [.int (gX6_needs f j)]) ⟨hx, hb, hml, hown, hts⟩ (mX5_count l D ck ca C 6 _) (cwV 1 hts gL_isWell_X5_count rfl rfl rfl (by decide +kernel) ⟨Nat.le_of_ble_eq_true rfl, Nat.le_of_ble_eq_true rfl⟩) (xpreV hN hK hP hD List.perm_append_comm 0 rfl rfl rfl) rfl rfl hl.1 rfl (lv_room (Nat.le_of_ble_eq_true rfl)) dL_isWell_473 ⟨Nat.le_of_ble_eq_true rfl, Nat.le_of_ble_eq_true rfl⟩) hP hD hS hA List.perm_append_comm List.perm_append_comm (fun H locs hP hD hS => ?_)
                                        have hP : va_P D vwCl ([(q7, .inl (ck 0, 4, .inl (stA f (nF f))))] ++ clW ck ca C) H := hP
                                        have hD : va_D (va_A (clW ck ca C) s.heap.size) ([(q7, .inl (ck 0, 4, .inl (stA f (nF f))))] ++ clW ck ca C) := hD
                                        rw [cnt_6 hC]
                                        refine lv_icmp_le (tgt := 483) hx hb dL_isWell_476 (by decide) (fun c_476 => ?_) (fun c_476 => ?_)
                                        · --t
                                          exact absurd c_476 (hd_0 hm hhd hj h0 (by rw [hrk]; have := mt (k_p (k := k) (by omega)).mpr c_460; omega))
                                        · --f
                                          refine lv_iconst (v := 1) hx hb dL_isWell_479 (by decide) ?_
                                          refine lv_goto (tgt := 484) hx hb dL_isWell_480 (by decide) ?_
                                          refine lv_istore (lv' := [(7, .int 1), (10, .int (nI j)), (0, .ref (ca 0 0)), (2, .ref q7), (3, .int (sS (fun j => oF f j 4) (nF f))), (4, .int (sS (gX6_extra f) (nF f))), (5, .int (sS (fun j => oF f j 8) (nF f))), (6, .int (sS (fun j => b01 (gX6_spills f j)) (nF f))), (8, .int (nI w)), (9, .int (nI k))]) hx hb dL_isWell_484 hl (by decide) rfl (fun ls hl => ?_)
                                          refine lv_iload hx hb dL_isWell_486 (lv_at hl 1 rfl) ?_
                                          refine lv_istore (lv' := [(8, .int (nI j)), (7, .int 1), (10, .int (nI j)), (0, .ref (ca 0 0)), (2, .ref q7), (3, .int (sS (fun j => oF f j 4) (nF f))), (4, .int (sS (gX6_extra f) (nF f))), (5, .int (sS (fun j => oF f j 8) (nF f))), (6, .int (sS (fun j => b01 (gX6_spills f j)) (nF f))), (9, .int (nI k))]) hx hb dL_isWell_488 hl (by decide) rfl (fun ls hl => ?_)
                                          refine lv_iinc (v := (nI (k + 1))) (lv' := [(9, .int (nI (k + 1))), (8, .int (nI j)), (7, .int 1), (10, .int (nI j)), (0, .ref (ca 0 0)), (2, .ref q7), (3, .int (sS (fun j => oF f j 4) (nF f))), (4, .int (sS (gX6_extra f) (nF f))), (5, .int (sS (fun j => oF f j 8) (nF f))), (6, .int (sS (fun j => b01 (gX6_spills f j)) (nF f)))]) hx hb dL_isWell_490 hl (k := 9) rfl (nI_1 k) (by decide) rfl (fun ls hl => ?_)
                                          refine lv_goto (tgt := 317) hx hb dL_isWell_493 (by decide) ?_
                                          exact ih317 (k + 1) (nI j) (by omega) (Or.inr ⟨j, hj, h0, by omega, rfl⟩) _ _ _ hP hD hS (lv_sub hl [4, 5, 6, 7, 8, 9, 2, 1, 0] rfl)
          exact loop317 (cB (stB f 0) (nF f)) 0 (-1) (by omega) (Or.inl rfl) _ _ _ hP hD hS (lv_sub hl [2, 4, 5, 6, 7, 8, 9, 1, 0] rfl)
        · --f
          exact absurd (nI_le (by omega) (by omega)) c_30
    | succ fu27 ih27 =>
        intro i hf27  H locs ls hP hD hS hl
        have hi : i < nF f := by omega
        refine lv_iload hx hb dL_isWell_27 (lv_at hl 8 rfl) ?_
        refine lv_iload_n hx hb dL_isWell_29 rfl (lv_at hl 1 rfl) ?_
        refine lv_icmp_ge (tgt := 311) hx hb dL_isWell_30 (by decide) (fun c_30 => ?_) (fun c_30 => ?_)
        · --t
          exact absurd c_30 (nI_ge (by omega) (by omega))
        · --f
          refine lv_iload hx hb dL_isWell_33 (lv_at hl 7 rfl) ?_
          refine lv_if_eq (tgt := 311) hx hb dL_isWell_35 (by decide) (fun c_35 => ?_) (fun c_35 => ?_)
          · --t
            exact absurd c_35 (by decide)
          · --f
            refine lv_aload_n hx hb dL_isWell_38 rfl (lv_at hl 0 rfl) ?_
            refine lv_iload hx hb dL_isWell_39 (lv_at hl 8 rfl) ?_
            refine lv_iconst (v := 3) hx hb dL_isWell_41 (by decide) ?_
            refine xreti (va_runV (As := [.int (nI i), .int 3]) (rest := []) ⟨hx, hb, hml, hown, hts⟩ (mX5_join l D ck ca C (nI i) 3 _) (cwV 2 hts gL_isWell_X5_join rfl rfl rfl (by decide +kernel) ⟨Nat.le_of_ble_eq_true rfl, Nat.le_of_ble_eq_true rfl⟩) (xpreV hN hK hP hD List.perm_append_comm 0 rfl rfl rfl) rfl rfl hl.1 rfl (lv_room (Nat.le_of_ble_eq_true rfl)) dL_isWell_42 ⟨Nat.le_of_ble_eq_true rfl, Nat.le_of_ble_eq_true rfl⟩) hP hD hS hA List.perm_append_comm List.perm_append_comm (fun H locs hP hD hS => ?_)
            have hP : va_P D vwCl ([(q7, .inl (ck 0, 4, .inl (stA f i)))] ++ clW ck ca C) H := hP
            have hD : va_D (va_A (clW ck ca C) s.heap.size) ([(q7, .inl (ck 0, 4, .inl (stA f i)))] ++ clW ck ca C) := hD
            rw [jn_3 hC hi]
            rcases (hm.2 i hi).2.2.2.1 with hs | hs | hs | hs
            · --state 0
              rw [show ((oF f i 3) : Int32) = 0 from hs]
              refine lv_istore (lv' := [(9, .int 0), (0, .ref (ca 0 0)), (1, .int (nI (nF f))), (2, .ref q7), (3, .int (sS (fun j => oF f j 4) i)), (4, .int (sS (gX6_extra f) i)), (5, .int (sS (fun j => oF f j 8) i)), (6, .int (sS (fun j => b01 (gX6_spills f j)) i)), (7, .int 1), (8, .int (nI i))]) hx hb dL_isWell_45 hl (by decide) rfl (fun ls hl => ?_)
              refine lv_aload_n hx hb dL_isWell_47 rfl (lv_at hl 1 rfl) ?_
              refine lv_iload hx hb dL_isWell_48 (lv_at hl 9 rfl) ?_
              refine lv_bipush (v := 6) hx hb dL_isWell_50 (by decide) ?_
              refine xreti (va_runV (As := [.int (nI i), .int 6]) (rest := []) ⟨hx, hb, hml, hown, hts⟩ (mX5_join l D ck ca C (nI i) 6 _) (cwV 2 hts gL_isWell_X5_join rfl rfl rfl (by decide +kernel) ⟨Nat.le_of_ble_eq_true rfl, Nat.le_of_ble_eq_true rfl⟩) (xpreV hN hK hP hD List.perm_append_comm 0 rfl rfl rfl) rfl rfl hl.1 rfl (lv_room (Nat.le_of_ble_eq_true rfl)) dL_isWell_52 ⟨Nat.le_of_ble_eq_true rfl, Nat.le_of_ble_eq_true rfl⟩) hP hD hS hA List.perm_append_comm List.perm_append_comm (fun H locs hP hD hS => ?_)
              have hP : va_P D vwCl ([(q7, .inl (ck 0, 4, .inl (stA f i)))] ++ clW ck ca C) H := hP
              have hD : va_D (va_A (clW ck ca C) s.heap.size) ([(q7, .inl (ck 0, 4, .inl (stA f i)))] ++ clW ck ca C) := hD
              rw [jn_6 hC hi]
              refine lv_istore (lv' := [(10, .int (oF f i 4)), (9, .int 0), (0, .ref (ca 0 0)), (1, .int (nI (nF f))), (2, .ref q7), (3, .int (sS (fun j => oF f j 4) i)), (4, .int (sS (gX6_extra f) i)), (5, .int (sS (fun j => oF f j 8) i)), (6, .int (sS (fun j => b01 (gX6_spills f j)) i)), (7, .int 1), (8, .int (nI i))]) hx hb dL_isWell_55 hl (by decide) rfl (fun ls hl => ?_)
              refine lv_aload_n hx hb dL_isWell_57 rfl (lv_at hl 2 rfl) ?_
              refine lv_iload hx hb dL_isWell_58 (lv_at hl 10 rfl) ?_
              refine lv_iconst (v := 4) hx hb dL_isWell_60 (by decide) ?_
              refine xreti (va_runV (As := [.int (nI i), .int 4]) (rest := []) ⟨hx, hb, hml, hown, hts⟩ (mX5_join l D ck ca C (nI i) 4 _) (cwV 2 hts gL_isWell_X5_join rfl rfl rfl (by decide +kernel) ⟨Nat.le_of_ble_eq_true rfl, Nat.le_of_ble_eq_true rfl⟩) (xpreV hN hK hP hD List.perm_append_comm 0 rfl rfl rfl) rfl rfl hl.1 rfl (lv_room (Nat.le_of_ble_eq_true rfl)) dL_isWell_61 ⟨Nat.le_of_ble_eq_true rfl, Nat.le_of_ble_eq_true rfl⟩) hP hD hS hA List.perm_append_comm List.perm_append_comm (fun H locs hP hD hS => ?_)
              have hP : va_P D vwCl ([(q7, .inl (ck 0, 4, .inl (stA f i)))] ++ clW ck ca C) H := hP
              have hD : va_D (va_A (clW ck ca C) s.heap.size) ([(q7, .inl (ck 0, 4, .inl (stA f i)))] ++ clW ck ca C) := hD
              rw [jn_4 hC hi]
              refine lv_istore (lv' := [(11, .int (gX6_needs f i)), (10, .int (oF f i 4)), (9, .int 0), (0, .ref (ca 0 0)), (1, .int (nI (nF f))), (2, .ref q7), (3, .int (sS (fun j => oF f j 4) i)), (4, .int (sS (gX6_extra f) i)), (5, .int (sS (fun j => oF f j 8) i)), (6, .int (sS (fun j => b01 (gX6_spills f j)) i)), (7, .int 1), (8, .int (nI i))]) hx hb dL_isWell_64 hl (by decide) rfl (fun ls hl => ?_)
              refine lv_aload_n hx hb dL_isWell_66 rfl (lv_at hl 3 rfl) ?_
              refine lv_iload hx hb dL_isWell_67 (lv_at hl 11 rfl) ?_
              refine lv_iconst (v := 5) hx hb dL_isWell_69 (by decide) ?_
              refine xreti (va_runV (As := [.int (nI i), .int 5]) (rest := []) ⟨hx, hb, hml, hown, hts⟩ (mX5_join l D ck ca C (nI i) 5 _) (cwV 2 hts gL_isWell_X5_join rfl rfl rfl (by decide +kernel) ⟨Nat.le_of_ble_eq_true rfl, Nat.le_of_ble_eq_true rfl⟩) (xpreV hN hK hP hD List.perm_append_comm 0 rfl rfl rfl) rfl rfl hl.1 rfl (lv_room (Nat.le_of_ble_eq_true rfl)) dL_isWell_70 ⟨Nat.le_of_ble_eq_true rfl, Nat.le_of_ble_eq_true rfl⟩) hP hD hS hA List.perm_append_comm List.perm_append_comm (fun H locs hP hD hS => ?_)
              have hP : va_P D vwCl ([(q7, .inl (ck 0, 4, .inl (stA f i)))] ++ clW ck ca C) H := hP
              have hD : va_D (va_A (clW ck ca C) s.heap.size) ([(q7, .inl (ck 0, 4, .inl (stA f i)))] ++ clW ck ca C) := hD
              rw [jn_5 hC hi]
              refine lv_istore (lv' := [(12, .int (gX6_wants f i)), (11, .int (gX6_needs f i)), (10, .int (oF f i 4)), (9, .int 0), (0, .ref (ca 0 0)), (1, .int (nI (nF f))), (2, .ref q7), (3, .int (sS (fun j => oF f j 4) i)), (4, .int (sS (gX6_extra f) i)), (5, .int (sS (fun j => oF f j 8) i)), (6, .int (sS (fun j => b01 (gX6_spills f j)) i)), (7, .int 1), (8, .int (nI i))]) hx hb dL_isWell_73 hl (by decide) rfl (fun ls hl => ?_)
              refine lv_aload_n hx hb dL_isWell_75 rfl (lv_at hl 6 rfl) ?_
              refine lv_iload hx hb dL_isWell_76 (lv_at hl 3 rfl) ?_
              refine lv_dup2_11 hx hb dL_isWell_78 rfl rfl ?_
              refine xiald (j := 0) (by decide) hx hb hK hP 0 0 rfl rfl (by unfold vp_in; decide) dL_isWell_79 ?_
              refine lv_iconst (v := 1) hx hb dL_isWell_80 (by decide) ?_
              refine lv_iadd hx hb dL_isWell_81 ?_
              refine xiast (j := 0) (by decide) hx hb hK hP hD hS 0 0 rfl rfl (by unfold vp_in; decide) dL_isWell_82 (fun H locs hP hD hS => ?_)
              have hP : va_P D vwCl ([(q7, .inl (ck 0, 4, .inl (upd (stA f i) 0 (((stA f i) 0) + 1))))] ++ clW ck ca C) H := hP
              have hD : va_D (va_A (clW ck ca C) s.heap.size) ([(q7, .inl (ck 0, 4, .inl (upd (stA f i) 0 (((stA f i) 0) + 1))))] ++ clW ck ca C) := hD
              rw [show (upd (stA f i) 0 (((stA f i) 0) + 1)) = (stA f (i + 1)) from (stA_s (by decide) hs)] at hP hD
              refine lv_iload_n hx hb dL_isWell_83 rfl (lv_at hl 7 rfl) ?_
              refine lv_iload hx hb dL_isWell_84 (lv_at hl 2 rfl) ?_
              refine lv_iadd hx hb dL_isWell_86 ?_
              rw [show (((sS (fun j => oF f j 4) i) + (oF f i 4)) : Int32) = (sS (fun j => oF f j 4) (i + 1)) from rfl]
              refine lv_istore_n (lv' := [(3, .int (sS (fun j => oF f j 4) (i + 1))), (12, .int (gX6_wants f i)), (11, .int (gX6_needs f i)), (10, .int (oF f i 4)), (9, .int 0), (0, .ref (ca 0 0)), (1, .int (nI (nF f))), (2, .ref q7), (4, .int (sS (gX6_extra f) i)), (5, .int (sS (fun j => oF f j 8) i)), (6, .int (sS (fun j => b01 (gX6_spills f j)) i)), (7, .int 1), (8, .int (nI i))]) hx hb dL_isWell_87 rfl hl (by decide) rfl (fun ls hl => ?_)
              refine lv_iload hx hb dL_isWell_88 (lv_at hl 8 rfl) ?_
              refine lv_iload hx hb dL_isWell_90 (lv_at hl 4 rfl) ?_
              refine lv_iconst (v := 1) hx hb dL_isWell_92 (by decide) ?_
              refine lv_icmp_ne (tgt := 104) hx hb dL_isWell_93 (by decide) (fun c_93 => ?_) (fun c_93 => ?_)
              · --t
                refine lv_iconst (v := 0) hx hb dL_isWell_104 (by decide) ?_
                refine lv_iadd hx hb dL_isWell_105 ?_
                rw [show (((sS (gX6_extra f) i) + 0) : Int32) = (sS (gX6_extra f) (i + 1)) from (ex_s0 (by rw [hs]; decide))]
                refine lv_istore (lv' := [(4, .int (sS (gX6_extra f) (i + 1))), (3, .int (sS (fun j => oF f j 4) (i + 1))), (12, .int (gX6_wants f i)), (11, .int (gX6_needs f i)), (10, .int (oF f i 4)), (9, .int 0), (0, .ref (ca 0 0)), (1, .int (nI (nF f))), (2, .ref q7), (5, .int (sS (fun j => oF f j 8) i)), (6, .int (sS (fun j => b01 (gX6_spills f j)) i)), (7, .int 1), (8, .int (nI i))]) hx hb dL_isWell_106 hl (by decide) rfl (fun ls hl => ?_)
                refine lv_iload hx hb dL_isWell_108 (lv_at hl 9 rfl) ?_
                refine lv_aload_n hx hb dL_isWell_110 rfl (lv_at hl 6 rfl) ?_
                refine lv_iload hx hb dL_isWell_111 (lv_at hl 12 rfl) ?_
                refine lv_bipush (v := 10) hx hb dL_isWell_113 (by decide) ?_
                refine xreti (va_runV (As := [.int (nI i), .int 10]) (rest := [.int (sS (fun j => oF f j 8) i)]) ⟨hx, hb, hml, hown, hts⟩ (mX5_join l D ck ca C (nI i) 10 _) (cwV 2 hts gL_isWell_X5_join rfl rfl rfl (by decide +kernel) ⟨Nat.le_of_ble_eq_true rfl, Nat.le_of_ble_eq_true rfl⟩) (xpreV hN hK hP hD List.perm_append_comm 0 rfl rfl rfl) rfl rfl hl.1 rfl (lv_room (Nat.le_of_ble_eq_true rfl)) dL_isWell_115 ⟨Nat.le_of_ble_eq_true rfl, Nat.le_of_ble_eq_true rfl⟩) hP hD hS hA List.perm_append_comm List.perm_append_comm (fun H locs hP hD hS => ?_)
                have hP : va_P D vwCl ([(q7, .inl (ck 0, 4, .inl (stA f (i + 1))))] ++ clW ck ca C) H := hP
                have hD : va_D (va_A (clW ck ca C) s.heap.size) ([(q7, .inl (ck 0, 4, .inl (stA f (i + 1))))] ++ clW ck ca C) := hD
                rw [jn_10 hC hi]
                refine lv_iadd hx hb dL_isWell_118 ?_
                rw [show (((sS (fun j => oF f j 8) i) + (oF f i 8)) : Int32) = (sS (fun j => oF f j 8) (i + 1)) from rfl]
                refine lv_istore (lv' := [(5, .int (sS (fun j => oF f j 8) (i + 1))), (4, .int (sS (gX6_extra f) (i + 1))), (3, .int (sS (fun j => oF f j 4) (i + 1))), (12, .int (gX6_wants f i)), (11, .int (gX6_needs f i)), (10, .int (oF f i 4)), (9, .int 0), (0, .ref (ca 0 0)), (1, .int (nI (nF f))), (2, .ref q7), (6, .int (sS (fun j => b01 (gX6_spills f j)) i)), (7, .int 1), (8, .int (nI i))]) hx hb dL_isWell_119 hl (by decide) rfl (fun ls hl => ?_)
                refine lv_iload hx hb dL_isWell_121 (lv_at hl 10 rfl) ?_
                refine lv_aload_n hx hb dL_isWell_123 rfl (lv_at hl 7 rfl) ?_
                refine lv_iload hx hb dL_isWell_124 (lv_at hl 12 rfl) ?_
                refine lv_bipush (v := 11) hx hb dL_isWell_126 (by decide) ?_
                refine xreti (va_runV (As := [.int (nI i), .int 11]) (rest := [.int (sS (fun j => b01 (gX6_spills f j)) i)]) ⟨hx, hb, hml, hown, hts⟩ (mX5_join l D ck ca C (nI i) 11 _) (cwV 2 hts gL_isWell_X5_join rfl rfl rfl (by decide +kernel) ⟨Nat.le_of_ble_eq_true rfl, Nat.le_of_ble_eq_true rfl⟩) (xpreV hN hK hP hD List.perm_append_comm 0 rfl rfl rfl) rfl rfl hl.1 rfl (lv_room (Nat.le_of_ble_eq_true rfl)) dL_isWell_128 ⟨Nat.le_of_ble_eq_true rfl, Nat.le_of_ble_eq_true rfl⟩) hP hD hS hA List.perm_append_comm List.perm_append_comm (fun H locs hP hD hS => ?_)
                have hP : va_P D vwCl ([(q7, .inl (ck 0, 4, .inl (stA f (i + 1))))] ++ clW ck ca C) H := hP
                have hD : va_D (va_A (clW ck ca C) s.heap.size) ([(q7, .inl (ck 0, 4, .inl (stA f (i + 1))))] ++ clW ck ca C) := hD
                rw [jn_11 hC hi]
                refine lv_iadd hx hb dL_isWell_131 ?_
                rw [show (((sS (fun j => b01 (gX6_spills f j)) i) + (if gX6_spills f i = 0 then 0 else 1)) : Int32) = (sS (fun j => b01 (gX6_spills f j)) (i + 1)) from rfl]
                refine lv_istore (lv' := [(6, .int (sS (fun j => b01 (gX6_spills f j)) (i + 1))), (5, .int (sS (fun j => oF f j 8) (i + 1))), (4, .int (sS (gX6_extra f) (i + 1))), (3, .int (sS (fun j => oF f j 4) (i + 1))), (12, .int (gX6_wants f i)), (11, .int (gX6_needs f i)), (10, .int (oF f i 4)), (9, .int 0), (0, .ref (ca 0 0)), (1, .int (nI (nF f))), (2, .ref q7), (7, .int 1), (8, .int (nI i))]) hx hb dL_isWell_132 hl (by decide) rfl (fun ls hl => ?_)
                refine lv_iload hx hb dL_isWell_134 (lv_at hl 5 rfl) ?_
                refine lv_iconst (v := 3) hx hb dL_isWell_136 (by decide) ?_
                refine lv_icmp_lt (tgt := 302) hx hb dL_isWell_137 (by decide) (fun c_137 => ?_) (fun c_137 => ?_)
                · --t
                  exact absurd c_137 (nw_3 hm hi)
                · --f
                  refine lv_iload hx hb dL_isWell_140 (lv_at hl 4 rfl) ?_
                  refine lv_iload hx hb dL_isWell_142 (lv_at hl 5 rfl) ?_
                  refine lv_icmp_lt (tgt := 302) hx hb dL_isWell_144 (by decide) (fun c_144 => ?_) (fun c_144 => ?_)
                  · --t
                    exact absurd c_144 (nw_w hm hi)
                  · --f
                    refine lv_iload hx hb dL_isWell_147 (lv_at hl 7 rfl) ?_
                    refine lv_iconst (v := 1) hx hb dL_isWell_149 (by decide) ?_
                    refine lv_icmp_ne (tgt := 181) hx hb dL_isWell_150 (by decide) (fun c_150 => ?_) (fun c_150 => ?_)
                    · --t
                      refine lv_iload hx hb dL_isWell_181 (lv_at hl 6 rfl) ?_
                      refine lv_if_ne (tgt := 302) hx hb dL_isWell_183 (by decide) (fun c_183 => ?_) (fun c_183 => ?_)
                      · --t
                        exact absurd ((hm.2 i hi).2.2.2.2.2 (by rw [hs]; decide)).1 c_183
                      · --f
                        refine lv_aload_n hx hb dL_isWell_186 rfl (lv_at hl 8 rfl) ?_
                        refine lv_iload hx hb dL_isWell_187 (lv_at hl 12 rfl) ?_
                        refine lv_bipush (v := 7) hx hb dL_isWell_189 (by decide) ?_
                        refine xreti (va_runV (As := [.int (nI i), .int 7]) (rest := []) ⟨hx, hb, hml, hown, hts⟩ (mX5_join l D ck ca C (nI i) 7 _) (cwV 2 hts gL_isWell_X5_join rfl rfl rfl (by decide +kernel) ⟨Nat.le_of_ble_eq_true rfl, Nat.le_of_ble_eq_true rfl⟩) (xpreV hN hK hP hD List.perm_append_comm 0 rfl rfl rfl) rfl rfl hl.1 rfl (lv_room (Nat.le_of_ble_eq_true rfl)) dL_isWell_191 ⟨Nat.le_of_ble_eq_true rfl, Nat.le_of_ble_eq_true rfl⟩) hP hD hS hA List.perm_append_comm List.perm_append_comm (fun H locs hP hD hS => ?_)
                        have hP : va_P D vwCl ([(q7, .inl (ck 0, 4, .inl (stA f (i + 1))))] ++ clW ck ca C) H := hP
                        have hD : va_D (va_A (clW ck ca C) s.heap.size) ([(q7, .inl (ck 0, 4, .inl (stA f (i + 1))))] ++ clW ck ca C) := hD
                        rw [jn_7 hC hi]
                        refine lv_if_ne (tgt := 302) hx hb dL_isWell_194 (by decide) (fun c_194 => ?_) (fun c_194 => ?_)
                        · --t
                          exact absurd ((hm.2 i hi).2.2.2.2.2 (by rw [hs]; decide)).2 c_194
                        · --f
                          refine lv_iload hx hb dL_isWell_197 (lv_at hl 7 rfl) ?_
                          refine lv_if_le (tgt := 206) hx hb dL_isWell_199 (by decide) (fun c_199 => ?_) (fun c_199 => ?_)
                          · --t
                            refine lv_iconst (v := 0) hx hb dL_isWell_206 (by decide) ?_
                            refine lv_aload_n hx hb dL_isWell_207 rfl (lv_at hl 8 rfl) ?_
                            refine lv_iload hx hb dL_isWell_208 (lv_at hl 12 rfl) ?_
                            refine xreti (va_runV (As := [.int (nI i)]) (rest := [.int 0]) ⟨hx, hb, hml, hown, hts⟩ (mX5_why l D ck ca C (nI i) _) (cwV 1 hts gL_isWell_X5_why rfl rfl rfl (by decide +kernel) ⟨Nat.le_of_ble_eq_true rfl, Nat.le_of_ble_eq_true rfl⟩) (xpreV hN hK hP hD List.perm_append_comm 0 rfl rfl rfl) rfl rfl hl.1 rfl (lv_room (Nat.le_of_ble_eq_true rfl)) dL_isWell_210 ⟨Nat.le_of_ble_eq_true rfl, Nat.le_of_ble_eq_true rfl⟩) hP hD hS hA List.perm_append_comm List.perm_append_comm (fun H locs hP hD hS => ?_)
                            have hP : va_P D vwCl ([(q7, .inl (ck 0, 4, .inl (stA f (i + 1))))] ++ clW ck ca C) H := hP
                            have hD : va_D (va_A (clW ck ca C) s.heap.size) ([(q7, .inl (ck 0, 4, .inl (stA f (i + 1))))] ++ clW ck ca C) := hD
                            rw [eq_why hC]
                            refine lv_if_ne (tgt := 220) hx hb dL_isWell_213 (by decide) (fun c_213 => ?_) (fun c_213 => ?_)
                            · --t
                              refine lv_iconst (v := 0) hx hb dL_isWell_220 (by decide) ?_
                              refine lv_icmp_ne (tgt := 302) hx hb dL_isWell_221 (by decide) (fun c_221 => ?_) (fun c_221 => ?_)
                              · --t
                                exact absurd (by decide) c_221
                              · --f
                                refine lv_aload_n hx hb dL_isWell_224 rfl (lv_at hl 8 rfl) ?_
                                refine lv_iload hx hb dL_isWell_225 (lv_at hl 12 rfl) ?_
                                refine lv_bipush (v := 8) hx hb dL_isWell_227 (by decide) ?_
                                refine xreti (va_runV (As := [.int (nI i), .int 8]) (rest := []) ⟨hx, hb, hml, hown, hts⟩ (mX5_join l D ck ca C (nI i) 8 _) (cwV 2 hts gL_isWell_X5_join rfl rfl rfl (by decide +kernel) ⟨Nat.le_of_ble_eq_true rfl, Nat.le_of_ble_eq_true rfl⟩) (xpreV hN hK hP hD List.perm_append_comm 0 rfl rfl rfl) rfl rfl hl.1 rfl (lv_room (Nat.le_of_ble_eq_true rfl)) dL_isWell_229 ⟨Nat.le_of_ble_eq_true rfl, Nat.le_of_ble_eq_true rfl⟩) hP hD hS hA List.perm_append_comm List.perm_append_comm (fun H locs hP hD hS => ?_)
                                have hP : va_P D vwCl ([(q7, .inl (ck 0, 4, .inl (stA f (i + 1))))] ++ clW ck ca C) H := hP
                                have hD : va_D (va_A (clW ck ca C) s.heap.size) ([(q7, .inl (ck 0, 4, .inl (stA f (i + 1))))] ++ clW ck ca C) := hD
                                rw [jn_8 hC hi]
                                refine lv_aload_n hx hb dL_isWell_232 rfl (lv_at hl 8 rfl) ?_
                                refine lv_iload hx hb dL_isWell_233 (lv_at hl 12 rfl) ?_
                                refine lv_bipush (v := 9) hx hb dL_isWell_235 (by decide) ?_
                                refine xreti (va_runV (As := [.int (nI i), .int 9]) (rest := [.int (oF f i 6)]) ⟨hx, hb, hml, hown, hts⟩ (mX5_join l D ck ca C (nI i) 9 _) (cwV 2 hts gL_isWell_X5_join rfl rfl rfl (by decide +kernel) ⟨Nat.le_of_ble_eq_true rfl, Nat.le_of_ble_eq_true rfl⟩) (xpreV hN hK hP hD List.perm_append_comm 0 rfl rfl rfl) rfl rfl hl.1 rfl (lv_room (Nat.le_of_ble_eq_true rfl)) dL_isWell_237 ⟨Nat.le_of_ble_eq_true rfl, Nat.le_of_ble_eq_true rfl⟩) hP hD hS hA List.perm_append_comm List.perm_append_comm (fun H locs hP hD hS => ?_)
                                have hP : va_P D vwCl ([(q7, .inl (ck 0, 4, .inl (stA f (i + 1))))] ++ clW ck ca C) H := hP
                                have hD : va_D (va_A (clW ck ca C) s.heap.size) ([(q7, .inl (ck 0, 4, .inl (stA f (i + 1))))] ++ clW ck ca C) := hD
                                rw [jn_9 hC hi]
                                refine lv_iadd hx hb dL_isWell_240 ?_
                                refine lv_aload_n hx hb dL_isWell_241 rfl (lv_at hl 8 rfl) ?_
                                refine lv_bipush (v := 8) hx hb dL_isWell_242 (by decide) ?_
                                refine xreti (va_runV (As := [.int 8]) (rest := [.int ((oF f i 6) + (oF f i 7))]) ⟨hx, hb, hml, hown, hts⟩ (mX5_count l D ck ca C 8 _) (cwV 1 hts gL_isWell_X5_count rfl rfl rfl (by decide +kernel) ⟨Nat.le_of_ble_eq_true rfl, Nat.le_of_ble_eq_true rfl⟩) (xpreV hN hK hP hD List.perm_append_comm 0 rfl rfl rfl) rfl rfl hl.1 rfl (lv_room (Nat.le_of_ble_eq_true rfl)) dL_isWell_244 ⟨Nat.le_of_ble_eq_true rfl, Nat.le_of_ble_eq_true rfl⟩) hP hD hS hA List.perm_append_comm List.perm_append_comm (fun H locs hP hD hS => ?_)
                                have hP : va_P D vwCl ([(q7, .inl (ck 0, 4, .inl (stA f (i + 1))))] ++ clW ck ca C) H := hP
                                have hD : va_D (va_A (clW ck ca C) s.heap.size) ([(q7, .inl (ck 0, 4, .inl (stA f (i + 1))))] ++ clW ck ca C) := hD
                                rw [cnt_8 hC]
                                refine lv_icmp_gt (tgt := 302) hx hb dL_isWell_247 (by decide) (fun c_247 => ?_) (fun c_247 => ?_)
                                · --t
                                  exact absurd c_247 (sx_le hsx h60 h6N hb6 hi)
                                · --f
                                  refine lv_aload_n hx hb dL_isWell_250 rfl (lv_at hl 8 rfl) ?_
                                  refine lv_iload hx hb dL_isWell_251 (lv_at hl 12 rfl) ?_
                                  refine lv_bipush (v := 11) hx hb dL_isWell_253 (by decide) ?_
                                  refine xreti (va_runV (As := [.int (nI i), .int 11]) (rest := []) ⟨hx, hb, hml, hown, hts⟩ (mX5_join l D ck ca C (nI i) 11 _) (cwV 2 hts gL_isWell_X5_join rfl rfl rfl (by decide +kernel) ⟨Nat.le_of_ble_eq_true rfl, Nat.le_of_ble_eq_true rfl⟩) (xpreV hN hK hP hD List.perm_append_comm 0 rfl rfl rfl) rfl rfl hl.1 rfl (lv_room (Nat.le_of_ble_eq_true rfl)) dL_isWell_255 ⟨Nat.le_of_ble_eq_true rfl, Nat.le_of_ble_eq_true rfl⟩) hP hD hS hA List.perm_append_comm List.perm_append_comm (fun H locs hP hD hS => ?_)
                                  have hP : va_P D vwCl ([(q7, .inl (ck 0, 4, .inl (stA f (i + 1))))] ++ clW ck ca C) H := hP
                                  have hD : va_D (va_A (clW ck ca C) s.heap.size) ([(q7, .inl (ck 0, 4, .inl (stA f (i + 1))))] ++ clW ck ca C) := hD
                                  rw [jn_11 hC hi]
                                  rw [show ((if gX6_spills f i = 0 then 0 else 1) : Int32) = 0 from (sp_0 (by rw [hs]; decide))]
                                  refine lv_iconst (v := 1) hx hb dL_isWell_258 (by decide) ?_
                                  refine lv_icmp_ne (tgt := 266) hx hb dL_isWell_259 (by decide) (fun c_259 => ?_) (fun c_259 => ?_)
                                  · --t
                                    refine lv_iconst (v := 0) hx hb dL_isWell_266 (by decide) ?_
                                    refine lv_iload hx hb dL_isWell_267 (lv_at hl 7 rfl) ?_
                                    refine lv_iconst (v := 1) hx hb dL_isWell_269 (by decide) ?_
                                    refine lv_icmp_ne (tgt := 294) hx hb dL_isWell_270 (by decide) (fun c_270 => ?_) (fun c_270 => ?_)
                                    · --t
                                      refine lv_iconst (v := 0) hx hb dL_isWell_294 (by decide) ?_
                                      refine lv_icmp_ne (tgt := 302) hx hb dL_isWell_295 (by decide) (fun c_295 => ?_) (fun c_295 => ?_)
                                      · --t
                                        exact absurd (by decide) c_295
                                      · --f
                                        refine lv_iconst (v := 1) hx hb dL_isWell_298 (by decide) ?_
                                        refine lv_goto (tgt := 303) hx hb dL_isWell_299 (by decide) ?_
                                        refine lv_istore (lv' := [(7, .int 1), (6, .int (sS (fun j => b01 (gX6_spills f j)) (i + 1))), (5, .int (sS (fun j => oF f j 8) (i + 1))), (4, .int (sS (gX6_extra f) (i + 1))), (3, .int (sS (fun j => oF f j 4) (i + 1))), (12, .int (gX6_wants f i)), (11, .int (gX6_needs f i)), (10, .int (oF f i 4)), (9, .int 0), (0, .ref (ca 0 0)), (1, .int (nI (nF f))), (2, .ref q7), (8, .int (nI i))]) hx hb dL_isWell_303 hl (by decide) rfl (fun ls hl => ?_)
                                        refine lv_iinc (v := (nI (i + 1))) (lv' := [(8, .int (nI (i + 1))), (7, .int 1), (6, .int (sS (fun j => b01 (gX6_spills f j)) (i + 1))), (5, .int (sS (fun j => oF f j 8) (i + 1))), (4, .int (sS (gX6_extra f) (i + 1))), (3, .int (sS (fun j => oF f j 4) (i + 1))), (12, .int (gX6_wants f i)), (11, .int (gX6_needs f i)), (10, .int (oF f i 4)), (9, .int 0), (0, .ref (ca 0 0)), (1, .int (nI (nF f))), (2, .ref q7)]) hx hb dL_isWell_305 hl (k := 12) rfl (nI_1 i) (by decide) rfl (fun ls hl => ?_)
                                        refine lv_goto (tgt := 27) hx hb dL_isWell_308 (by decide) ?_
                                        exact ih27 (i + 1) (by omega) _ _ _ hP hD hS (lv_sub hl [10, 11, 12, 5, 4, 3, 2, 1, 0] rfl)
                                    · --f
                                      exact absurd c_270 (by decide)
                                  · --f
                                    exact absurd c_259 (by decide)
                            · --f
                              exact absurd c_213 (why_ne hm hi hs)
                          · --f
                            exact absurd (by decide) c_199
                    · --f
                      exact absurd c_150 (by decide)
              · --f
                exact absurd c_93 (by decide)
            · --state 1
              rw [show ((oF f i 3) : Int32) = 1 from hs]
              refine lv_istore (lv' := [(9, .int 1), (0, .ref (ca 0 0)), (1, .int (nI (nF f))), (2, .ref q7), (3, .int (sS (fun j => oF f j 4) i)), (4, .int (sS (gX6_extra f) i)), (5, .int (sS (fun j => oF f j 8) i)), (6, .int (sS (fun j => b01 (gX6_spills f j)) i)), (7, .int 1), (8, .int (nI i))]) hx hb dL_isWell_45 hl (by decide) rfl (fun ls hl => ?_)
              refine lv_aload_n hx hb dL_isWell_47 rfl (lv_at hl 1 rfl) ?_
              refine lv_iload hx hb dL_isWell_48 (lv_at hl 9 rfl) ?_
              refine lv_bipush (v := 6) hx hb dL_isWell_50 (by decide) ?_
              refine xreti (va_runV (As := [.int (nI i), .int 6]) (rest := []) ⟨hx, hb, hml, hown, hts⟩ (mX5_join l D ck ca C (nI i) 6 _) (cwV 2 hts gL_isWell_X5_join rfl rfl rfl (by decide +kernel) ⟨Nat.le_of_ble_eq_true rfl, Nat.le_of_ble_eq_true rfl⟩) (xpreV hN hK hP hD List.perm_append_comm 0 rfl rfl rfl) rfl rfl hl.1 rfl (lv_room (Nat.le_of_ble_eq_true rfl)) dL_isWell_52 ⟨Nat.le_of_ble_eq_true rfl, Nat.le_of_ble_eq_true rfl⟩) hP hD hS hA List.perm_append_comm List.perm_append_comm (fun H locs hP hD hS => ?_)
              have hP : va_P D vwCl ([(q7, .inl (ck 0, 4, .inl (stA f i)))] ++ clW ck ca C) H := hP
              have hD : va_D (va_A (clW ck ca C) s.heap.size) ([(q7, .inl (ck 0, 4, .inl (stA f i)))] ++ clW ck ca C) := hD
              rw [jn_6 hC hi]
              refine lv_istore (lv' := [(10, .int (oF f i 4)), (9, .int 1), (0, .ref (ca 0 0)), (1, .int (nI (nF f))), (2, .ref q7), (3, .int (sS (fun j => oF f j 4) i)), (4, .int (sS (gX6_extra f) i)), (5, .int (sS (fun j => oF f j 8) i)), (6, .int (sS (fun j => b01 (gX6_spills f j)) i)), (7, .int 1), (8, .int (nI i))]) hx hb dL_isWell_55 hl (by decide) rfl (fun ls hl => ?_)
              refine lv_aload_n hx hb dL_isWell_57 rfl (lv_at hl 2 rfl) ?_
              refine lv_iload hx hb dL_isWell_58 (lv_at hl 10 rfl) ?_
              refine lv_iconst (v := 4) hx hb dL_isWell_60 (by decide) ?_
              refine xreti (va_runV (As := [.int (nI i), .int 4]) (rest := []) ⟨hx, hb, hml, hown, hts⟩ (mX5_join l D ck ca C (nI i) 4 _) (cwV 2 hts gL_isWell_X5_join rfl rfl rfl (by decide +kernel) ⟨Nat.le_of_ble_eq_true rfl, Nat.le_of_ble_eq_true rfl⟩) (xpreV hN hK hP hD List.perm_append_comm 0 rfl rfl rfl) rfl rfl hl.1 rfl (lv_room (Nat.le_of_ble_eq_true rfl)) dL_isWell_61 ⟨Nat.le_of_ble_eq_true rfl, Nat.le_of_ble_eq_true rfl⟩) hP hD hS hA List.perm_append_comm List.perm_append_comm (fun H locs hP hD hS => ?_)
              have hP : va_P D vwCl ([(q7, .inl (ck 0, 4, .inl (stA f i)))] ++ clW ck ca C) H := hP
              have hD : va_D (va_A (clW ck ca C) s.heap.size) ([(q7, .inl (ck 0, 4, .inl (stA f i)))] ++ clW ck ca C) := hD
              rw [jn_4 hC hi]
              refine lv_istore (lv' := [(11, .int (gX6_needs f i)), (10, .int (oF f i 4)), (9, .int 1), (0, .ref (ca 0 0)), (1, .int (nI (nF f))), (2, .ref q7), (3, .int (sS (fun j => oF f j 4) i)), (4, .int (sS (gX6_extra f) i)), (5, .int (sS (fun j => oF f j 8) i)), (6, .int (sS (fun j => b01 (gX6_spills f j)) i)), (7, .int 1), (8, .int (nI i))]) hx hb dL_isWell_64 hl (by decide) rfl (fun ls hl => ?_)
              refine lv_aload_n hx hb dL_isWell_66 rfl (lv_at hl 3 rfl) ?_
              refine lv_iload hx hb dL_isWell_67 (lv_at hl 11 rfl) ?_
              refine lv_iconst (v := 5) hx hb dL_isWell_69 (by decide) ?_
              refine xreti (va_runV (As := [.int (nI i), .int 5]) (rest := []) ⟨hx, hb, hml, hown, hts⟩ (mX5_join l D ck ca C (nI i) 5 _) (cwV 2 hts gL_isWell_X5_join rfl rfl rfl (by decide +kernel) ⟨Nat.le_of_ble_eq_true rfl, Nat.le_of_ble_eq_true rfl⟩) (xpreV hN hK hP hD List.perm_append_comm 0 rfl rfl rfl) rfl rfl hl.1 rfl (lv_room (Nat.le_of_ble_eq_true rfl)) dL_isWell_70 ⟨Nat.le_of_ble_eq_true rfl, Nat.le_of_ble_eq_true rfl⟩) hP hD hS hA List.perm_append_comm List.perm_append_comm (fun H locs hP hD hS => ?_)
              have hP : va_P D vwCl ([(q7, .inl (ck 0, 4, .inl (stA f i)))] ++ clW ck ca C) H := hP
              have hD : va_D (va_A (clW ck ca C) s.heap.size) ([(q7, .inl (ck 0, 4, .inl (stA f i)))] ++ clW ck ca C) := hD
              rw [jn_5 hC hi]
              refine lv_istore (lv' := [(12, .int (gX6_wants f i)), (11, .int (gX6_needs f i)), (10, .int (oF f i 4)), (9, .int 1), (0, .ref (ca 0 0)), (1, .int (nI (nF f))), (2, .ref q7), (3, .int (sS (fun j => oF f j 4) i)), (4, .int (sS (gX6_extra f) i)), (5, .int (sS (fun j => oF f j 8) i)), (6, .int (sS (fun j => b01 (gX6_spills f j)) i)), (7, .int 1), (8, .int (nI i))]) hx hb dL_isWell_73 hl (by decide) rfl (fun ls hl => ?_)
              refine lv_aload_n hx hb dL_isWell_75 rfl (lv_at hl 6 rfl) ?_
              refine lv_iload hx hb dL_isWell_76 (lv_at hl 3 rfl) ?_
              refine lv_dup2_11 hx hb dL_isWell_78 rfl rfl ?_
              refine xiald (j := 1) (by decide) hx hb hK hP 0 0 rfl rfl (by unfold vp_in; decide) dL_isWell_79 ?_
              refine lv_iconst (v := 1) hx hb dL_isWell_80 (by decide) ?_
              refine lv_iadd hx hb dL_isWell_81 ?_
              refine xiast (j := 1) (by decide) hx hb hK hP hD hS 0 0 rfl rfl (by unfold vp_in; decide) dL_isWell_82 (fun H locs hP hD hS => ?_)
              have hP : va_P D vwCl ([(q7, .inl (ck 0, 4, .inl (upd (stA f i) 1 (((stA f i) 1) + 1))))] ++ clW ck ca C) H := hP
              have hD : va_D (va_A (clW ck ca C) s.heap.size) ([(q7, .inl (ck 0, 4, .inl (upd (stA f i) 1 (((stA f i) 1) + 1))))] ++ clW ck ca C) := hD
              rw [show (upd (stA f i) 1 (((stA f i) 1) + 1)) = (stA f (i + 1)) from (stA_s (by decide) hs)] at hP hD
              refine lv_iload_n hx hb dL_isWell_83 rfl (lv_at hl 7 rfl) ?_
              refine lv_iload hx hb dL_isWell_84 (lv_at hl 2 rfl) ?_
              refine lv_iadd hx hb dL_isWell_86 ?_
              rw [show (((sS (fun j => oF f j 4) i) + (oF f i 4)) : Int32) = (sS (fun j => oF f j 4) (i + 1)) from rfl]
              refine lv_istore_n (lv' := [(3, .int (sS (fun j => oF f j 4) (i + 1))), (12, .int (gX6_wants f i)), (11, .int (gX6_needs f i)), (10, .int (oF f i 4)), (9, .int 1), (0, .ref (ca 0 0)), (1, .int (nI (nF f))), (2, .ref q7), (4, .int (sS (gX6_extra f) i)), (5, .int (sS (fun j => oF f j 8) i)), (6, .int (sS (fun j => b01 (gX6_spills f j)) i)), (7, .int 1), (8, .int (nI i))]) hx hb dL_isWell_87 rfl hl (by decide) rfl (fun ls hl => ?_)
              refine lv_iload hx hb dL_isWell_88 (lv_at hl 8 rfl) ?_
              refine lv_iload hx hb dL_isWell_90 (lv_at hl 4 rfl) ?_
              refine lv_iconst (v := 1) hx hb dL_isWell_92 (by decide) ?_
              refine lv_icmp_ne (tgt := 104) hx hb dL_isWell_93 (by decide) (fun c_93 => ?_) (fun c_93 => ?_)
              · --t
                exact absurd (by decide) c_93
              · --f
                refine lv_iload hx hb dL_isWell_96 (lv_at hl 3 rfl) ?_
                refine lv_iload hx hb dL_isWell_98 (lv_at hl 2 rfl) ?_
                refine lv_isub hx hb dL_isWell_100 ?_
                refine lv_goto (tgt := 105) hx hb dL_isWell_101 (by decide) ?_
                refine lv_iadd hx hb dL_isWell_105 ?_
                rw [show (((sS (gX6_extra f) i) + ((oF f i 4) - (gX6_needs f i))) : Int32) = (sS (gX6_extra f) (i + 1)) from (ex_s1 hs)]
                refine lv_istore (lv' := [(4, .int (sS (gX6_extra f) (i + 1))), (3, .int (sS (fun j => oF f j 4) (i + 1))), (12, .int (gX6_wants f i)), (11, .int (gX6_needs f i)), (10, .int (oF f i 4)), (9, .int 1), (0, .ref (ca 0 0)), (1, .int (nI (nF f))), (2, .ref q7), (5, .int (sS (fun j => oF f j 8) i)), (6, .int (sS (fun j => b01 (gX6_spills f j)) i)), (7, .int 1), (8, .int (nI i))]) hx hb dL_isWell_106 hl (by decide) rfl (fun ls hl => ?_)
                refine lv_iload hx hb dL_isWell_108 (lv_at hl 9 rfl) ?_
                refine lv_aload_n hx hb dL_isWell_110 rfl (lv_at hl 6 rfl) ?_
                refine lv_iload hx hb dL_isWell_111 (lv_at hl 12 rfl) ?_
                refine lv_bipush (v := 10) hx hb dL_isWell_113 (by decide) ?_
                refine xreti (va_runV (As := [.int (nI i), .int 10]) (rest := [.int (sS (fun j => oF f j 8) i)]) ⟨hx, hb, hml, hown, hts⟩ (mX5_join l D ck ca C (nI i) 10 _) (cwV 2 hts gL_isWell_X5_join rfl rfl rfl (by decide +kernel) ⟨Nat.le_of_ble_eq_true rfl, Nat.le_of_ble_eq_true rfl⟩) (xpreV hN hK hP hD List.perm_append_comm 0 rfl rfl rfl) rfl rfl hl.1 rfl (lv_room (Nat.le_of_ble_eq_true rfl)) dL_isWell_115 ⟨Nat.le_of_ble_eq_true rfl, Nat.le_of_ble_eq_true rfl⟩) hP hD hS hA List.perm_append_comm List.perm_append_comm (fun H locs hP hD hS => ?_)
                have hP : va_P D vwCl ([(q7, .inl (ck 0, 4, .inl (stA f (i + 1))))] ++ clW ck ca C) H := hP
                have hD : va_D (va_A (clW ck ca C) s.heap.size) ([(q7, .inl (ck 0, 4, .inl (stA f (i + 1))))] ++ clW ck ca C) := hD
                rw [jn_10 hC hi]
                refine lv_iadd hx hb dL_isWell_118 ?_
                rw [show (((sS (fun j => oF f j 8) i) + (oF f i 8)) : Int32) = (sS (fun j => oF f j 8) (i + 1)) from rfl]
                refine lv_istore (lv' := [(5, .int (sS (fun j => oF f j 8) (i + 1))), (4, .int (sS (gX6_extra f) (i + 1))), (3, .int (sS (fun j => oF f j 4) (i + 1))), (12, .int (gX6_wants f i)), (11, .int (gX6_needs f i)), (10, .int (oF f i 4)), (9, .int 1), (0, .ref (ca 0 0)), (1, .int (nI (nF f))), (2, .ref q7), (6, .int (sS (fun j => b01 (gX6_spills f j)) i)), (7, .int 1), (8, .int (nI i))]) hx hb dL_isWell_119 hl (by decide) rfl (fun ls hl => ?_)
                refine lv_iload hx hb dL_isWell_121 (lv_at hl 10 rfl) ?_
                refine lv_aload_n hx hb dL_isWell_123 rfl (lv_at hl 7 rfl) ?_
                refine lv_iload hx hb dL_isWell_124 (lv_at hl 12 rfl) ?_
                refine lv_bipush (v := 11) hx hb dL_isWell_126 (by decide) ?_
                refine xreti (va_runV (As := [.int (nI i), .int 11]) (rest := [.int (sS (fun j => b01 (gX6_spills f j)) i)]) ⟨hx, hb, hml, hown, hts⟩ (mX5_join l D ck ca C (nI i) 11 _) (cwV 2 hts gL_isWell_X5_join rfl rfl rfl (by decide +kernel) ⟨Nat.le_of_ble_eq_true rfl, Nat.le_of_ble_eq_true rfl⟩) (xpreV hN hK hP hD List.perm_append_comm 0 rfl rfl rfl) rfl rfl hl.1 rfl (lv_room (Nat.le_of_ble_eq_true rfl)) dL_isWell_128 ⟨Nat.le_of_ble_eq_true rfl, Nat.le_of_ble_eq_true rfl⟩) hP hD hS hA List.perm_append_comm List.perm_append_comm (fun H locs hP hD hS => ?_)
                have hP : va_P D vwCl ([(q7, .inl (ck 0, 4, .inl (stA f (i + 1))))] ++ clW ck ca C) H := hP
                have hD : va_D (va_A (clW ck ca C) s.heap.size) ([(q7, .inl (ck 0, 4, .inl (stA f (i + 1))))] ++ clW ck ca C) := hD
                rw [jn_11 hC hi]
                refine lv_iadd hx hb dL_isWell_131 ?_
                rw [show (((sS (fun j => b01 (gX6_spills f j)) i) + (if gX6_spills f i = 0 then 0 else 1)) : Int32) = (sS (fun j => b01 (gX6_spills f j)) (i + 1)) from rfl]
                refine lv_istore (lv' := [(6, .int (sS (fun j => b01 (gX6_spills f j)) (i + 1))), (5, .int (sS (fun j => oF f j 8) (i + 1))), (4, .int (sS (gX6_extra f) (i + 1))), (3, .int (sS (fun j => oF f j 4) (i + 1))), (12, .int (gX6_wants f i)), (11, .int (gX6_needs f i)), (10, .int (oF f i 4)), (9, .int 1), (0, .ref (ca 0 0)), (1, .int (nI (nF f))), (2, .ref q7), (7, .int 1), (8, .int (nI i))]) hx hb dL_isWell_132 hl (by decide) rfl (fun ls hl => ?_)
                refine lv_iload hx hb dL_isWell_134 (lv_at hl 5 rfl) ?_
                refine lv_iconst (v := 3) hx hb dL_isWell_136 (by decide) ?_
                refine lv_icmp_lt (tgt := 302) hx hb dL_isWell_137 (by decide) (fun c_137 => ?_) (fun c_137 => ?_)
                · --t
                  exact absurd c_137 (nw_3 hm hi)
                · --f
                  refine lv_iload hx hb dL_isWell_140 (lv_at hl 4 rfl) ?_
                  refine lv_iload hx hb dL_isWell_142 (lv_at hl 5 rfl) ?_
                  refine lv_icmp_lt (tgt := 302) hx hb dL_isWell_144 (by decide) (fun c_144 => ?_) (fun c_144 => ?_)
                  · --t
                    exact absurd c_144 (nw_w hm hi)
                  · --f
                    refine lv_iload hx hb dL_isWell_147 (lv_at hl 7 rfl) ?_
                    refine lv_iconst (v := 1) hx hb dL_isWell_149 (by decide) ?_
                    refine lv_icmp_ne (tgt := 181) hx hb dL_isWell_150 (by decide) (fun c_150 => ?_) (fun c_150 => ?_)
                    · --t
                      exact absurd (by decide) c_150
                    · --f
                      refine lv_iload hx hb dL_isWell_153 (lv_at hl 6 rfl) ?_
                      refine lv_iload hx hb dL_isWell_155 (lv_at hl 5 rfl) ?_
                      refine lv_icmp_lt (tgt := 302) hx hb dL_isWell_157 (by decide) (fun c_157 => ?_) (fun c_157 => ?_)
                      · --t
                        exact absurd c_157 (nw_p hm hi hs)
                      · --f
                        refine lv_iload hx hb dL_isWell_160 (lv_at hl 6 rfl) ?_
                        refine lv_iload hx hb dL_isWell_162 (lv_at hl 4 rfl) ?_
                        refine lv_icmp_gt (tgt := 302) hx hb dL_isWell_164 (by decide) (fun c_164 => ?_) (fun c_164 => ?_)
                        · --t
                          exact absurd c_164 (nw_q hwx hi hs)
                        · --f
                          refine lv_aload_n hx hb dL_isWell_167 rfl (lv_at hl 8 rfl) ?_
                          refine lv_iload hx hb dL_isWell_168 (lv_at hl 12 rfl) ?_
                          refine lv_bipush (v := 7) hx hb dL_isWell_170 (by decide) ?_
                          refine xreti (va_runV (As := [.int (nI i), .int 7]) (rest := []) ⟨hx, hb, hml, hown, hts⟩ (mX5_join l D ck ca C (nI i) 7 _) (cwV 2 hts gL_isWell_X5_join rfl rfl rfl (by decide +kernel) ⟨Nat.le_of_ble_eq_true rfl, Nat.le_of_ble_eq_true rfl⟩) (xpreV hN hK hP hD List.perm_append_comm 0 rfl rfl rfl) rfl rfl hl.1 rfl (lv_room (Nat.le_of_ble_eq_true rfl)) dL_isWell_172 ⟨Nat.le_of_ble_eq_true rfl, Nat.le_of_ble_eq_true rfl⟩) hP hD hS hA List.perm_append_comm List.perm_append_comm (fun H locs hP hD hS => ?_)
                          have hP : va_P D vwCl ([(q7, .inl (ck 0, 4, .inl (stA f (i + 1))))] ++ clW ck ca C) H := hP
                          have hD : va_D (va_A (clW ck ca C) s.heap.size) ([(q7, .inl (ck 0, 4, .inl (stA f (i + 1))))] ++ clW ck ca C) := hD
                          rw [jn_7 hC hi]
                          refine lv_if_le (tgt := 302) hx hb dL_isWell_175 (by decide) (fun c_175 => ?_) (fun c_175 => ?_)
                          · --t
                            exact absurd c_175 (nw_k hm hi hs)
                          · --f
                            refine lv_goto (tgt := 197) hx hb dL_isWell_178 (by decide) ?_
                            refine lv_iload hx hb dL_isWell_197 (lv_at hl 7 rfl) ?_
                            refine lv_if_le (tgt := 206) hx hb dL_isWell_199 (by decide) (fun c_199 => ?_) (fun c_199 => ?_)
                            · --t
                              exact absurd c_199 (by decide)
                            · --f
                              refine lv_iconst (v := 1) hx hb dL_isWell_202 (by decide) ?_
                              refine lv_goto (tgt := 207) hx hb dL_isWell_203 (by decide) ?_
                              refine lv_aload_n hx hb dL_isWell_207 rfl (lv_at hl 8 rfl) ?_
                              refine lv_iload hx hb dL_isWell_208 (lv_at hl 12 rfl) ?_
                              refine xreti (va_runV (As := [.int (nI i)]) (rest := [.int 1]) ⟨hx, hb, hml, hown, hts⟩ (mX5_why l D ck ca C (nI i) _) (cwV 1 hts gL_isWell_X5_why rfl rfl rfl (by decide +kernel) ⟨Nat.le_of_ble_eq_true rfl, Nat.le_of_ble_eq_true rfl⟩) (xpreV hN hK hP hD List.perm_append_comm 0 rfl rfl rfl) rfl rfl hl.1 rfl (lv_room (Nat.le_of_ble_eq_true rfl)) dL_isWell_210 ⟨Nat.le_of_ble_eq_true rfl, Nat.le_of_ble_eq_true rfl⟩) hP hD hS hA List.perm_append_comm List.perm_append_comm (fun H locs hP hD hS => ?_)
                              have hP : va_P D vwCl ([(q7, .inl (ck 0, 4, .inl (stA f (i + 1))))] ++ clW ck ca C) H := hP
                              have hD : va_D (va_A (clW ck ca C) s.heap.size) ([(q7, .inl (ck 0, 4, .inl (stA f (i + 1))))] ++ clW ck ca C) := hD
                              rw [eq_why hC]
                              rw [show ((gX6_why f (nI i)) : Int32) = 0 from (why_n hm hi (by rw [hs]; decide))]
                              refine lv_if_ne (tgt := 220) hx hb dL_isWell_213 (by decide) (fun c_213 => ?_) (fun c_213 => ?_)
                              · --t
                                exact absurd (by decide) c_213
                              · --f
                                refine lv_iconst (v := 1) hx hb dL_isWell_216 (by decide) ?_
                                refine lv_goto (tgt := 221) hx hb dL_isWell_217 (by decide) ?_
                                refine lv_icmp_ne (tgt := 302) hx hb dL_isWell_221 (by decide) (fun c_221 => ?_) (fun c_221 => ?_)
                                · --t
                                  exact absurd (by decide) c_221
                                · --f
                                  refine lv_aload_n hx hb dL_isWell_224 rfl (lv_at hl 8 rfl) ?_
                                  refine lv_iload hx hb dL_isWell_225 (lv_at hl 12 rfl) ?_
                                  refine lv_bipush (v := 8) hx hb dL_isWell_227 (by decide) ?_
                                  refine xreti (va_runV (As := [.int (nI i), .int 8]) (rest := []) ⟨hx, hb, hml, hown, hts⟩ (mX5_join l D ck ca C (nI i) 8 _) (cwV 2 hts gL_isWell_X5_join rfl rfl rfl (by decide +kernel) ⟨Nat.le_of_ble_eq_true rfl, Nat.le_of_ble_eq_true rfl⟩) (xpreV hN hK hP hD List.perm_append_comm 0 rfl rfl rfl) rfl rfl hl.1 rfl (lv_room (Nat.le_of_ble_eq_true rfl)) dL_isWell_229 ⟨Nat.le_of_ble_eq_true rfl, Nat.le_of_ble_eq_true rfl⟩) hP hD hS hA List.perm_append_comm List.perm_append_comm (fun H locs hP hD hS => ?_)
                                  have hP : va_P D vwCl ([(q7, .inl (ck 0, 4, .inl (stA f (i + 1))))] ++ clW ck ca C) H := hP
                                  have hD : va_D (va_A (clW ck ca C) s.heap.size) ([(q7, .inl (ck 0, 4, .inl (stA f (i + 1))))] ++ clW ck ca C) := hD
                                  rw [jn_8 hC hi]
                                  refine lv_aload_n hx hb dL_isWell_232 rfl (lv_at hl 8 rfl) ?_
                                  refine lv_iload hx hb dL_isWell_233 (lv_at hl 12 rfl) ?_
                                  refine lv_bipush (v := 9) hx hb dL_isWell_235 (by decide) ?_
                                  refine xreti (va_runV (As := [.int (nI i), .int 9]) (rest := [.int (oF f i 6)]) ⟨hx, hb, hml, hown, hts⟩ (mX5_join l D ck ca C (nI i) 9 _) (cwV 2 hts gL_isWell_X5_join rfl rfl rfl (by decide +kernel) ⟨Nat.le_of_ble_eq_true rfl, Nat.le_of_ble_eq_true rfl⟩) (xpreV hN hK hP hD List.perm_append_comm 0 rfl rfl rfl) rfl rfl hl.1 rfl (lv_room (Nat.le_of_ble_eq_true rfl)) dL_isWell_237 ⟨Nat.le_of_ble_eq_true rfl, Nat.le_of_ble_eq_true rfl⟩) hP hD hS hA List.perm_append_comm List.perm_append_comm (fun H locs hP hD hS => ?_)
                                  have hP : va_P D vwCl ([(q7, .inl (ck 0, 4, .inl (stA f (i + 1))))] ++ clW ck ca C) H := hP
                                  have hD : va_D (va_A (clW ck ca C) s.heap.size) ([(q7, .inl (ck 0, 4, .inl (stA f (i + 1))))] ++ clW ck ca C) := hD
                                  rw [jn_9 hC hi]
                                  refine lv_iadd hx hb dL_isWell_240 ?_
                                  refine lv_aload_n hx hb dL_isWell_241 rfl (lv_at hl 8 rfl) ?_
                                  refine lv_bipush (v := 8) hx hb dL_isWell_242 (by decide) ?_
                                  refine xreti (va_runV (As := [.int 8]) (rest := [.int ((oF f i 6) + (oF f i 7))]) ⟨hx, hb, hml, hown, hts⟩ (mX5_count l D ck ca C 8 _) (cwV 1 hts gL_isWell_X5_count rfl rfl rfl (by decide +kernel) ⟨Nat.le_of_ble_eq_true rfl, Nat.le_of_ble_eq_true rfl⟩) (xpreV hN hK hP hD List.perm_append_comm 0 rfl rfl rfl) rfl rfl hl.1 rfl (lv_room (Nat.le_of_ble_eq_true rfl)) dL_isWell_244 ⟨Nat.le_of_ble_eq_true rfl, Nat.le_of_ble_eq_true rfl⟩) hP hD hS hA List.perm_append_comm List.perm_append_comm (fun H locs hP hD hS => ?_)
                                  have hP : va_P D vwCl ([(q7, .inl (ck 0, 4, .inl (stA f (i + 1))))] ++ clW ck ca C) H := hP
                                  have hD : va_D (va_A (clW ck ca C) s.heap.size) ([(q7, .inl (ck 0, 4, .inl (stA f (i + 1))))] ++ clW ck ca C) := hD
                                  rw [cnt_8 hC]
                                  refine lv_icmp_gt (tgt := 302) hx hb dL_isWell_247 (by decide) (fun c_247 => ?_) (fun c_247 => ?_)
                                  · --t
                                    exact absurd c_247 (sx_le hsx h60 h6N hb6 hi)
                                  · --f
                                    refine lv_aload_n hx hb dL_isWell_250 rfl (lv_at hl 8 rfl) ?_
                                    refine lv_iload hx hb dL_isWell_251 (lv_at hl 12 rfl) ?_
                                    refine lv_bipush (v := 11) hx hb dL_isWell_253 (by decide) ?_
                                    refine xreti (va_runV (As := [.int (nI i), .int 11]) (rest := []) ⟨hx, hb, hml, hown, hts⟩ (mX5_join l D ck ca C (nI i) 11 _) (cwV 2 hts gL_isWell_X5_join rfl rfl rfl (by decide +kernel) ⟨Nat.le_of_ble_eq_true rfl, Nat.le_of_ble_eq_true rfl⟩) (xpreV hN hK hP hD List.perm_append_comm 0 rfl rfl rfl) rfl rfl hl.1 rfl (lv_room (Nat.le_of_ble_eq_true rfl)) dL_isWell_255 ⟨Nat.le_of_ble_eq_true rfl, Nat.le_of_ble_eq_true rfl⟩) hP hD hS hA List.perm_append_comm List.perm_append_comm (fun H locs hP hD hS => ?_)
                                    have hP : va_P D vwCl ([(q7, .inl (ck 0, 4, .inl (stA f (i + 1))))] ++ clW ck ca C) H := hP
                                    have hD : va_D (va_A (clW ck ca C) s.heap.size) ([(q7, .inl (ck 0, 4, .inl (stA f (i + 1))))] ++ clW ck ca C) := hD
                                    rw [jn_11 hC hi]
                                    by_cases hw0 : oF f i 0 = 0
                                    · --loops
                                      rw [show ((if gX6_spills f i = 0 then 0 else 1) : Int32) = 0 from (sp_w hs hw0)]
                                      refine lv_iconst (v := 1) hx hb dL_isWell_258 (by decide) ?_
                                      refine lv_icmp_ne (tgt := 266) hx hb dL_isWell_259 (by decide) (fun c_259 => ?_) (fun c_259 => ?_)
                                      · --t
                                        refine lv_iconst (v := 0) hx hb dL_isWell_266 (by decide) ?_
                                        refine lv_iload hx hb dL_isWell_267 (lv_at hl 7 rfl) ?_
                                        refine lv_iconst (v := 1) hx hb dL_isWell_269 (by decide) ?_
                                        refine lv_icmp_ne (tgt := 294) hx hb dL_isWell_270 (by decide) (fun c_270 => ?_) (fun c_270 => ?_)
                                        · --t
                                          exact absurd (by decide) c_270
                                        · --f
                                          refine lv_aload_n hx hb dL_isWell_273 rfl (lv_at hl 8 rfl) ?_
                                          refine lv_iload hx hb dL_isWell_274 (lv_at hl 12 rfl) ?_
                                          refine lv_iconst (v := 0) hx hb dL_isWell_276 (by decide) ?_
                                          refine xreti (va_runV (As := [.int (nI i), .int 0]) (rest := [.int 0]) ⟨hx, hb, hml, hown, hts⟩ (mX5_join l D ck ca C (nI i) 0 _) (cwV 2 hts gL_isWell_X5_join rfl rfl rfl (by decide +kernel) ⟨Nat.le_of_ble_eq_true rfl, Nat.le_of_ble_eq_true rfl⟩) (xpreV hN hK hP hD List.perm_append_comm 0 rfl rfl rfl) rfl rfl hl.1 rfl (lv_room (Nat.le_of_ble_eq_true rfl)) dL_isWell_277 ⟨Nat.le_of_ble_eq_true rfl, Nat.le_of_ble_eq_true rfl⟩) hP hD hS hA List.perm_append_comm List.perm_append_comm (fun H locs hP hD hS => ?_)
                                          have hP : va_P D vwCl ([(q7, .inl (ck 0, 4, .inl (stA f (i + 1))))] ++ clW ck ca C) H := hP
                                          have hD : va_D (va_A (clW ck ca C) s.heap.size) ([(q7, .inl (ck 0, 4, .inl (stA f (i + 1))))] ++ clW ck ca C) := hD
                                          rw [jn_0 hC hi]
                                          rw [show ((oF f i 0) : Int32) = 0 from hw0]
                                          refine lv_if_le (tgt := 294) hx hb dL_isWell_280 (by decide) (fun c_280 => ?_) (fun c_280 => ?_)
                                          · --t
                                            refine lv_iconst (v := 0) hx hb dL_isWell_294 (by decide) ?_
                                            refine lv_icmp_ne (tgt := 302) hx hb dL_isWell_295 (by decide) (fun c_295 => ?_) (fun c_295 => ?_)
                                            · --t
                                              exact absurd (by decide) c_295
                                            · --f
                                              refine lv_iconst (v := 1) hx hb dL_isWell_298 (by decide) ?_
                                              refine lv_goto (tgt := 303) hx hb dL_isWell_299 (by decide) ?_
                                              refine lv_istore (lv' := [(7, .int 1), (6, .int (sS (fun j => b01 (gX6_spills f j)) (i + 1))), (5, .int (sS (fun j => oF f j 8) (i + 1))), (4, .int (sS (gX6_extra f) (i + 1))), (3, .int (sS (fun j => oF f j 4) (i + 1))), (12, .int (gX6_wants f i)), (11, .int (gX6_needs f i)), (10, .int (oF f i 4)), (9, .int 1), (0, .ref (ca 0 0)), (1, .int (nI (nF f))), (2, .ref q7), (8, .int (nI i))]) hx hb dL_isWell_303 hl (by decide) rfl (fun ls hl => ?_)
                                              refine lv_iinc (v := (nI (i + 1))) (lv' := [(8, .int (nI (i + 1))), (7, .int 1), (6, .int (sS (fun j => b01 (gX6_spills f j)) (i + 1))), (5, .int (sS (fun j => oF f j 8) (i + 1))), (4, .int (sS (gX6_extra f) (i + 1))), (3, .int (sS (fun j => oF f j 4) (i + 1))), (12, .int (gX6_wants f i)), (11, .int (gX6_needs f i)), (10, .int (oF f i 4)), (9, .int 1), (0, .ref (ca 0 0)), (1, .int (nI (nF f))), (2, .ref q7)]) hx hb dL_isWell_305 hl (k := 12) rfl (nI_1 i) (by decide) rfl (fun ls hl => ?_)
                                              refine lv_goto (tgt := 27) hx hb dL_isWell_308 (by decide) ?_
                                              exact ih27 (i + 1) (by omega) _ _ _ hP hD hS (lv_sub hl [10, 11, 12, 5, 4, 3, 2, 1, 0] rfl)
                                          · --f
                                            exact absurd (by decide) c_280
                                      · --f
                                        exact absurd c_259 (by decide)
                                    · --others
                                      by_cases hge : gX6_wants f i ≤ oF f i 4
                                      · --g
                                        rw [show ((if gX6_spills f i = 0 then 0 else 1) : Int32) = 0 from (sp_g hs hw0 hge)]
                                        refine lv_iconst (v := 1) hx hb dL_isWell_258 (by decide) ?_
                                        refine lv_icmp_ne (tgt := 266) hx hb dL_isWell_259 (by decide) (fun c_259 => ?_) (fun c_259 => ?_)
                                        · --t
                                          refine lv_iconst (v := 0) hx hb dL_isWell_266 (by decide) ?_
                                          refine lv_iload hx hb dL_isWell_267 (lv_at hl 7 rfl) ?_
                                          refine lv_iconst (v := 1) hx hb dL_isWell_269 (by decide) ?_
                                          refine lv_icmp_ne (tgt := 294) hx hb dL_isWell_270 (by decide) (fun c_270 => ?_) (fun c_270 => ?_)
                                          · --t
                                            exact absurd (by decide) c_270
                                          · --f
                                            refine lv_aload_n hx hb dL_isWell_273 rfl (lv_at hl 8 rfl) ?_
                                            refine lv_iload hx hb dL_isWell_274 (lv_at hl 12 rfl) ?_
                                            refine lv_iconst (v := 0) hx hb dL_isWell_276 (by decide) ?_
                                            refine xreti (va_runV (As := [.int (nI i), .int 0]) (rest := [.int 0]) ⟨hx, hb, hml, hown, hts⟩ (mX5_join l D ck ca C (nI i) 0 _) (cwV 2 hts gL_isWell_X5_join rfl rfl rfl (by decide +kernel) ⟨Nat.le_of_ble_eq_true rfl, Nat.le_of_ble_eq_true rfl⟩) (xpreV hN hK hP hD List.perm_append_comm 0 rfl rfl rfl) rfl rfl hl.1 rfl (lv_room (Nat.le_of_ble_eq_true rfl)) dL_isWell_277 ⟨Nat.le_of_ble_eq_true rfl, Nat.le_of_ble_eq_true rfl⟩) hP hD hS hA List.perm_append_comm List.perm_append_comm (fun H locs hP hD hS => ?_)
                                            have hP : va_P D vwCl ([(q7, .inl (ck 0, 4, .inl (stA f (i + 1))))] ++ clW ck ca C) H := hP
                                            have hD : va_D (va_A (clW ck ca C) s.heap.size) ([(q7, .inl (ck 0, 4, .inl (stA f (i + 1))))] ++ clW ck ca C) := hD
                                            rw [jn_0 hC hi]
                                            refine lv_if_le (tgt := 294) hx hb dL_isWell_280 (by decide) (fun c_280 => ?_) (fun c_280 => ?_)
                                            · --t
                                              exact absurd c_280 (way_p hm hi hw0)
                                            · --f
                                              refine lv_iload hx hb dL_isWell_283 (lv_at hl 6 rfl) ?_
                                              refine lv_iload hx hb dL_isWell_285 (lv_at hl 4 rfl) ?_
                                              refine lv_icmp_ge (tgt := 294) hx hb dL_isWell_287 (by decide) (fun c_287 => ?_) (fun c_287 => ?_)
                                              · --t
                                                refine lv_iconst (v := 0) hx hb dL_isWell_294 (by decide) ?_
                                                refine lv_icmp_ne (tgt := 302) hx hb dL_isWell_295 (by decide) (fun c_295 => ?_) (fun c_295 => ?_)
                                                · --t
                                                  exact absurd (by decide) c_295
                                                · --f
                                                  refine lv_iconst (v := 1) hx hb dL_isWell_298 (by decide) ?_
                                                  refine lv_goto (tgt := 303) hx hb dL_isWell_299 (by decide) ?_
                                                  refine lv_istore (lv' := [(7, .int 1), (6, .int (sS (fun j => b01 (gX6_spills f j)) (i + 1))), (5, .int (sS (fun j => oF f j 8) (i + 1))), (4, .int (sS (gX6_extra f) (i + 1))), (3, .int (sS (fun j => oF f j 4) (i + 1))), (12, .int (gX6_wants f i)), (11, .int (gX6_needs f i)), (10, .int (oF f i 4)), (9, .int 1), (0, .ref (ca 0 0)), (1, .int (nI (nF f))), (2, .ref q7), (8, .int (nI i))]) hx hb dL_isWell_303 hl (by decide) rfl (fun ls hl => ?_)
                                                  refine lv_iinc (v := (nI (i + 1))) (lv' := [(8, .int (nI (i + 1))), (7, .int 1), (6, .int (sS (fun j => b01 (gX6_spills f j)) (i + 1))), (5, .int (sS (fun j => oF f j 8) (i + 1))), (4, .int (sS (gX6_extra f) (i + 1))), (3, .int (sS (fun j => oF f j 4) (i + 1))), (12, .int (gX6_wants f i)), (11, .int (gX6_needs f i)), (10, .int (oF f i 4)), (9, .int 1), (0, .ref (ca 0 0)), (1, .int (nI (nF f))), (2, .ref q7)]) hx hb dL_isWell_305 hl (k := 12) rfl (nI_1 i) (by decide) rfl (fun ls hl => ?_)
                                                  refine lv_goto (tgt := 27) hx hb dL_isWell_308 (by decide) ?_
                                                  exact ih27 (i + 1) (by omega) _ _ _ hP hD hS (lv_sub hl [10, 11, 12, 5, 4, 3, 2, 1, 0] rfl)
                                              · --f
                                                exact absurd hge c_287
                                        · --f
                                          exact absurd c_259 (by decide)
                                      · --s
                                        rw [show ((if gX6_spills f i = 0 then 0 else 1) : Int32) = 1 from (sp_s hs hw0 hge)]
                                        refine lv_iconst (v := 1) hx hb dL_isWell_258 (by decide) ?_
                                        refine lv_icmp_ne (tgt := 266) hx hb dL_isWell_259 (by decide) (fun c_259 => ?_) (fun c_259 => ?_)
                                        · --t
                                          exact absurd (by decide) c_259
                                        · --f
                                          refine lv_iconst (v := 1) hx hb dL_isWell_262 (by decide) ?_
                                          refine lv_goto (tgt := 267) hx hb dL_isWell_263 (by decide) ?_
                                          refine lv_iload hx hb dL_isWell_267 (lv_at hl 7 rfl) ?_
                                          refine lv_iconst (v := 1) hx hb dL_isWell_269 (by decide) ?_
                                          refine lv_icmp_ne (tgt := 294) hx hb dL_isWell_270 (by decide) (fun c_270 => ?_) (fun c_270 => ?_)
                                          · --t
                                            exact absurd (by decide) c_270
                                          · --f
                                            refine lv_aload_n hx hb dL_isWell_273 rfl (lv_at hl 8 rfl) ?_
                                            refine lv_iload hx hb dL_isWell_274 (lv_at hl 12 rfl) ?_
                                            refine lv_iconst (v := 0) hx hb dL_isWell_276 (by decide) ?_
                                            refine xreti (va_runV (As := [.int (nI i), .int 0]) (rest := [.int 1]) ⟨hx, hb, hml, hown, hts⟩ (mX5_join l D ck ca C (nI i) 0 _) (cwV 2 hts gL_isWell_X5_join rfl rfl rfl (by decide +kernel) ⟨Nat.le_of_ble_eq_true rfl, Nat.le_of_ble_eq_true rfl⟩) (xpreV hN hK hP hD List.perm_append_comm 0 rfl rfl rfl) rfl rfl hl.1 rfl (lv_room (Nat.le_of_ble_eq_true rfl)) dL_isWell_277 ⟨Nat.le_of_ble_eq_true rfl, Nat.le_of_ble_eq_true rfl⟩) hP hD hS hA List.perm_append_comm List.perm_append_comm (fun H locs hP hD hS => ?_)
                                            have hP : va_P D vwCl ([(q7, .inl (ck 0, 4, .inl (stA f (i + 1))))] ++ clW ck ca C) H := hP
                                            have hD : va_D (va_A (clW ck ca C) s.heap.size) ([(q7, .inl (ck 0, 4, .inl (stA f (i + 1))))] ++ clW ck ca C) := hD
                                            rw [jn_0 hC hi]
                                            refine lv_if_le (tgt := 294) hx hb dL_isWell_280 (by decide) (fun c_280 => ?_) (fun c_280 => ?_)
                                            · --t
                                              exact absurd c_280 (way_p hm hi hw0)
                                            · --f
                                              refine lv_iload hx hb dL_isWell_283 (lv_at hl 6 rfl) ?_
                                              refine lv_iload hx hb dL_isWell_285 (lv_at hl 4 rfl) ?_
                                              refine lv_icmp_ge (tgt := 294) hx hb dL_isWell_287 (by decide) (fun c_287 => ?_) (fun c_287 => ?_)
                                              · --t
                                                exact absurd c_287 hge
                                              · --f
                                                refine lv_iconst (v := 1) hx hb dL_isWell_290 (by decide) ?_
                                                refine lv_goto (tgt := 295) hx hb dL_isWell_291 (by decide) ?_
                                                refine lv_icmp_ne (tgt := 302) hx hb dL_isWell_295 (by decide) (fun c_295 => ?_) (fun c_295 => ?_)
                                                · --t
                                                  exact absurd (by decide) c_295
                                                · --f
                                                  refine lv_iconst (v := 1) hx hb dL_isWell_298 (by decide) ?_
                                                  refine lv_goto (tgt := 303) hx hb dL_isWell_299 (by decide) ?_
                                                  refine lv_istore (lv' := [(7, .int 1), (6, .int (sS (fun j => b01 (gX6_spills f j)) (i + 1))), (5, .int (sS (fun j => oF f j 8) (i + 1))), (4, .int (sS (gX6_extra f) (i + 1))), (3, .int (sS (fun j => oF f j 4) (i + 1))), (12, .int (gX6_wants f i)), (11, .int (gX6_needs f i)), (10, .int (oF f i 4)), (9, .int 1), (0, .ref (ca 0 0)), (1, .int (nI (nF f))), (2, .ref q7), (8, .int (nI i))]) hx hb dL_isWell_303 hl (by decide) rfl (fun ls hl => ?_)
                                                  refine lv_iinc (v := (nI (i + 1))) (lv' := [(8, .int (nI (i + 1))), (7, .int 1), (6, .int (sS (fun j => b01 (gX6_spills f j)) (i + 1))), (5, .int (sS (fun j => oF f j 8) (i + 1))), (4, .int (sS (gX6_extra f) (i + 1))), (3, .int (sS (fun j => oF f j 4) (i + 1))), (12, .int (gX6_wants f i)), (11, .int (gX6_needs f i)), (10, .int (oF f i 4)), (9, .int 1), (0, .ref (ca 0 0)), (1, .int (nI (nF f))), (2, .ref q7)]) hx hb dL_isWell_305 hl (k := 12) rfl (nI_1 i) (by decide) rfl (fun ls hl => ?_)
                                                  refine lv_goto (tgt := 27) hx hb dL_isWell_308 (by decide) ?_
                                                  exact ih27 (i + 1) (by omega) _ _ _ hP hD hS (lv_sub hl [10, 11, 12, 5, 4, 3, 2, 1, 0] rfl)
            · --state 2
              rw [show ((oF f i 3) : Int32) = 2 from hs]
              refine lv_istore (lv' := [(9, .int 2), (0, .ref (ca 0 0)), (1, .int (nI (nF f))), (2, .ref q7), (3, .int (sS (fun j => oF f j 4) i)), (4, .int (sS (gX6_extra f) i)), (5, .int (sS (fun j => oF f j 8) i)), (6, .int (sS (fun j => b01 (gX6_spills f j)) i)), (7, .int 1), (8, .int (nI i))]) hx hb dL_isWell_45 hl (by decide) rfl (fun ls hl => ?_)
              refine lv_aload_n hx hb dL_isWell_47 rfl (lv_at hl 1 rfl) ?_
              refine lv_iload hx hb dL_isWell_48 (lv_at hl 9 rfl) ?_
              refine lv_bipush (v := 6) hx hb dL_isWell_50 (by decide) ?_
              refine xreti (va_runV (As := [.int (nI i), .int 6]) (rest := []) ⟨hx, hb, hml, hown, hts⟩ (mX5_join l D ck ca C (nI i) 6 _) (cwV 2 hts gL_isWell_X5_join rfl rfl rfl (by decide +kernel) ⟨Nat.le_of_ble_eq_true rfl, Nat.le_of_ble_eq_true rfl⟩) (xpreV hN hK hP hD List.perm_append_comm 0 rfl rfl rfl) rfl rfl hl.1 rfl (lv_room (Nat.le_of_ble_eq_true rfl)) dL_isWell_52 ⟨Nat.le_of_ble_eq_true rfl, Nat.le_of_ble_eq_true rfl⟩) hP hD hS hA List.perm_append_comm List.perm_append_comm (fun H locs hP hD hS => ?_)
              have hP : va_P D vwCl ([(q7, .inl (ck 0, 4, .inl (stA f i)))] ++ clW ck ca C) H := hP
              have hD : va_D (va_A (clW ck ca C) s.heap.size) ([(q7, .inl (ck 0, 4, .inl (stA f i)))] ++ clW ck ca C) := hD
              rw [jn_6 hC hi]
              refine lv_istore (lv' := [(10, .int (oF f i 4)), (9, .int 2), (0, .ref (ca 0 0)), (1, .int (nI (nF f))), (2, .ref q7), (3, .int (sS (fun j => oF f j 4) i)), (4, .int (sS (gX6_extra f) i)), (5, .int (sS (fun j => oF f j 8) i)), (6, .int (sS (fun j => b01 (gX6_spills f j)) i)), (7, .int 1), (8, .int (nI i))]) hx hb dL_isWell_55 hl (by decide) rfl (fun ls hl => ?_)
              refine lv_aload_n hx hb dL_isWell_57 rfl (lv_at hl 2 rfl) ?_
              refine lv_iload hx hb dL_isWell_58 (lv_at hl 10 rfl) ?_
              refine lv_iconst (v := 4) hx hb dL_isWell_60 (by decide) ?_
              refine xreti (va_runV (As := [.int (nI i), .int 4]) (rest := []) ⟨hx, hb, hml, hown, hts⟩ (mX5_join l D ck ca C (nI i) 4 _) (cwV 2 hts gL_isWell_X5_join rfl rfl rfl (by decide +kernel) ⟨Nat.le_of_ble_eq_true rfl, Nat.le_of_ble_eq_true rfl⟩) (xpreV hN hK hP hD List.perm_append_comm 0 rfl rfl rfl) rfl rfl hl.1 rfl (lv_room (Nat.le_of_ble_eq_true rfl)) dL_isWell_61 ⟨Nat.le_of_ble_eq_true rfl, Nat.le_of_ble_eq_true rfl⟩) hP hD hS hA List.perm_append_comm List.perm_append_comm (fun H locs hP hD hS => ?_)
              have hP : va_P D vwCl ([(q7, .inl (ck 0, 4, .inl (stA f i)))] ++ clW ck ca C) H := hP
              have hD : va_D (va_A (clW ck ca C) s.heap.size) ([(q7, .inl (ck 0, 4, .inl (stA f i)))] ++ clW ck ca C) := hD
              rw [jn_4 hC hi]
              refine lv_istore (lv' := [(11, .int (gX6_needs f i)), (10, .int (oF f i 4)), (9, .int 2), (0, .ref (ca 0 0)), (1, .int (nI (nF f))), (2, .ref q7), (3, .int (sS (fun j => oF f j 4) i)), (4, .int (sS (gX6_extra f) i)), (5, .int (sS (fun j => oF f j 8) i)), (6, .int (sS (fun j => b01 (gX6_spills f j)) i)), (7, .int 1), (8, .int (nI i))]) hx hb dL_isWell_64 hl (by decide) rfl (fun ls hl => ?_)
              refine lv_aload_n hx hb dL_isWell_66 rfl (lv_at hl 3 rfl) ?_
              refine lv_iload hx hb dL_isWell_67 (lv_at hl 11 rfl) ?_
              refine lv_iconst (v := 5) hx hb dL_isWell_69 (by decide) ?_
              refine xreti (va_runV (As := [.int (nI i), .int 5]) (rest := []) ⟨hx, hb, hml, hown, hts⟩ (mX5_join l D ck ca C (nI i) 5 _) (cwV 2 hts gL_isWell_X5_join rfl rfl rfl (by decide +kernel) ⟨Nat.le_of_ble_eq_true rfl, Nat.le_of_ble_eq_true rfl⟩) (xpreV hN hK hP hD List.perm_append_comm 0 rfl rfl rfl) rfl rfl hl.1 rfl (lv_room (Nat.le_of_ble_eq_true rfl)) dL_isWell_70 ⟨Nat.le_of_ble_eq_true rfl, Nat.le_of_ble_eq_true rfl⟩) hP hD hS hA List.perm_append_comm List.perm_append_comm (fun H locs hP hD hS => ?_)
              have hP : va_P D vwCl ([(q7, .inl (ck 0, 4, .inl (stA f i)))] ++ clW ck ca C) H := hP
              have hD : va_D (va_A (clW ck ca C) s.heap.size) ([(q7, .inl (ck 0, 4, .inl (stA f i)))] ++ clW ck ca C) := hD
              rw [jn_5 hC hi]
              refine lv_istore (lv' := [(12, .int (gX6_wants f i)), (11, .int (gX6_needs f i)), (10, .int (oF f i 4)), (9, .int 2), (0, .ref (ca 0 0)), (1, .int (nI (nF f))), (2, .ref q7), (3, .int (sS (fun j => oF f j 4) i)), (4, .int (sS (gX6_extra f) i)), (5, .int (sS (fun j => oF f j 8) i)), (6, .int (sS (fun j => b01 (gX6_spills f j)) i)), (7, .int 1), (8, .int (nI i))]) hx hb dL_isWell_73 hl (by decide) rfl (fun ls hl => ?_)
              refine lv_aload_n hx hb dL_isWell_75 rfl (lv_at hl 6 rfl) ?_
              refine lv_iload hx hb dL_isWell_76 (lv_at hl 3 rfl) ?_
              refine lv_dup2_11 hx hb dL_isWell_78 rfl rfl ?_
              refine xiald (j := 2) (by decide) hx hb hK hP 0 0 rfl rfl (by unfold vp_in; decide) dL_isWell_79 ?_
              refine lv_iconst (v := 1) hx hb dL_isWell_80 (by decide) ?_
              refine lv_iadd hx hb dL_isWell_81 ?_
              refine xiast (j := 2) (by decide) hx hb hK hP hD hS 0 0 rfl rfl (by unfold vp_in; decide) dL_isWell_82 (fun H locs hP hD hS => ?_)
              have hP : va_P D vwCl ([(q7, .inl (ck 0, 4, .inl (upd (stA f i) 2 (((stA f i) 2) + 1))))] ++ clW ck ca C) H := hP
              have hD : va_D (va_A (clW ck ca C) s.heap.size) ([(q7, .inl (ck 0, 4, .inl (upd (stA f i) 2 (((stA f i) 2) + 1))))] ++ clW ck ca C) := hD
              rw [show (upd (stA f i) 2 (((stA f i) 2) + 1)) = (stA f (i + 1)) from (stA_s (by decide) hs)] at hP hD
              refine lv_iload_n hx hb dL_isWell_83 rfl (lv_at hl 7 rfl) ?_
              refine lv_iload hx hb dL_isWell_84 (lv_at hl 2 rfl) ?_
              refine lv_iadd hx hb dL_isWell_86 ?_
              rw [show (((sS (fun j => oF f j 4) i) + (oF f i 4)) : Int32) = (sS (fun j => oF f j 4) (i + 1)) from rfl]
              refine lv_istore_n (lv' := [(3, .int (sS (fun j => oF f j 4) (i + 1))), (12, .int (gX6_wants f i)), (11, .int (gX6_needs f i)), (10, .int (oF f i 4)), (9, .int 2), (0, .ref (ca 0 0)), (1, .int (nI (nF f))), (2, .ref q7), (4, .int (sS (gX6_extra f) i)), (5, .int (sS (fun j => oF f j 8) i)), (6, .int (sS (fun j => b01 (gX6_spills f j)) i)), (7, .int 1), (8, .int (nI i))]) hx hb dL_isWell_87 rfl hl (by decide) rfl (fun ls hl => ?_)
              refine lv_iload hx hb dL_isWell_88 (lv_at hl 8 rfl) ?_
              refine lv_iload hx hb dL_isWell_90 (lv_at hl 4 rfl) ?_
              refine lv_iconst (v := 1) hx hb dL_isWell_92 (by decide) ?_
              refine lv_icmp_ne (tgt := 104) hx hb dL_isWell_93 (by decide) (fun c_93 => ?_) (fun c_93 => ?_)
              · --t
                refine lv_iconst (v := 0) hx hb dL_isWell_104 (by decide) ?_
                refine lv_iadd hx hb dL_isWell_105 ?_
                rw [show (((sS (gX6_extra f) i) + 0) : Int32) = (sS (gX6_extra f) (i + 1)) from (ex_s0 (by rw [hs]; decide))]
                refine lv_istore (lv' := [(4, .int (sS (gX6_extra f) (i + 1))), (3, .int (sS (fun j => oF f j 4) (i + 1))), (12, .int (gX6_wants f i)), (11, .int (gX6_needs f i)), (10, .int (oF f i 4)), (9, .int 2), (0, .ref (ca 0 0)), (1, .int (nI (nF f))), (2, .ref q7), (5, .int (sS (fun j => oF f j 8) i)), (6, .int (sS (fun j => b01 (gX6_spills f j)) i)), (7, .int 1), (8, .int (nI i))]) hx hb dL_isWell_106 hl (by decide) rfl (fun ls hl => ?_)
                refine lv_iload hx hb dL_isWell_108 (lv_at hl 9 rfl) ?_
                refine lv_aload_n hx hb dL_isWell_110 rfl (lv_at hl 6 rfl) ?_
                refine lv_iload hx hb dL_isWell_111 (lv_at hl 12 rfl) ?_
                refine lv_bipush (v := 10) hx hb dL_isWell_113 (by decide) ?_
                refine xreti (va_runV (As := [.int (nI i), .int 10]) (rest := [.int (sS (fun j => oF f j 8) i)]) ⟨hx, hb, hml, hown, hts⟩ (mX5_join l D ck ca C (nI i) 10 _) (cwV 2 hts gL_isWell_X5_join rfl rfl rfl (by decide +kernel) ⟨Nat.le_of_ble_eq_true rfl, Nat.le_of_ble_eq_true rfl⟩) (xpreV hN hK hP hD List.perm_append_comm 0 rfl rfl rfl) rfl rfl hl.1 rfl (lv_room (Nat.le_of_ble_eq_true rfl)) dL_isWell_115 ⟨Nat.le_of_ble_eq_true rfl, Nat.le_of_ble_eq_true rfl⟩) hP hD hS hA List.perm_append_comm List.perm_append_comm (fun H locs hP hD hS => ?_)
                have hP : va_P D vwCl ([(q7, .inl (ck 0, 4, .inl (stA f (i + 1))))] ++ clW ck ca C) H := hP
                have hD : va_D (va_A (clW ck ca C) s.heap.size) ([(q7, .inl (ck 0, 4, .inl (stA f (i + 1))))] ++ clW ck ca C) := hD
                rw [jn_10 hC hi]
                refine lv_iadd hx hb dL_isWell_118 ?_
                rw [show (((sS (fun j => oF f j 8) i) + (oF f i 8)) : Int32) = (sS (fun j => oF f j 8) (i + 1)) from rfl]
                refine lv_istore (lv' := [(5, .int (sS (fun j => oF f j 8) (i + 1))), (4, .int (sS (gX6_extra f) (i + 1))), (3, .int (sS (fun j => oF f j 4) (i + 1))), (12, .int (gX6_wants f i)), (11, .int (gX6_needs f i)), (10, .int (oF f i 4)), (9, .int 2), (0, .ref (ca 0 0)), (1, .int (nI (nF f))), (2, .ref q7), (6, .int (sS (fun j => b01 (gX6_spills f j)) i)), (7, .int 1), (8, .int (nI i))]) hx hb dL_isWell_119 hl (by decide) rfl (fun ls hl => ?_)
                refine lv_iload hx hb dL_isWell_121 (lv_at hl 10 rfl) ?_
                refine lv_aload_n hx hb dL_isWell_123 rfl (lv_at hl 7 rfl) ?_
                refine lv_iload hx hb dL_isWell_124 (lv_at hl 12 rfl) ?_
                refine lv_bipush (v := 11) hx hb dL_isWell_126 (by decide) ?_
                refine xreti (va_runV (As := [.int (nI i), .int 11]) (rest := [.int (sS (fun j => b01 (gX6_spills f j)) i)]) ⟨hx, hb, hml, hown, hts⟩ (mX5_join l D ck ca C (nI i) 11 _) (cwV 2 hts gL_isWell_X5_join rfl rfl rfl (by decide +kernel) ⟨Nat.le_of_ble_eq_true rfl, Nat.le_of_ble_eq_true rfl⟩) (xpreV hN hK hP hD List.perm_append_comm 0 rfl rfl rfl) rfl rfl hl.1 rfl (lv_room (Nat.le_of_ble_eq_true rfl)) dL_isWell_128 ⟨Nat.le_of_ble_eq_true rfl, Nat.le_of_ble_eq_true rfl⟩) hP hD hS hA List.perm_append_comm List.perm_append_comm (fun H locs hP hD hS => ?_)
                have hP : va_P D vwCl ([(q7, .inl (ck 0, 4, .inl (stA f (i + 1))))] ++ clW ck ca C) H := hP
                have hD : va_D (va_A (clW ck ca C) s.heap.size) ([(q7, .inl (ck 0, 4, .inl (stA f (i + 1))))] ++ clW ck ca C) := hD
                rw [jn_11 hC hi]
                refine lv_iadd hx hb dL_isWell_131 ?_
                rw [show (((sS (fun j => b01 (gX6_spills f j)) i) + (if gX6_spills f i = 0 then 0 else 1)) : Int32) = (sS (fun j => b01 (gX6_spills f j)) (i + 1)) from rfl]
                refine lv_istore (lv' := [(6, .int (sS (fun j => b01 (gX6_spills f j)) (i + 1))), (5, .int (sS (fun j => oF f j 8) (i + 1))), (4, .int (sS (gX6_extra f) (i + 1))), (3, .int (sS (fun j => oF f j 4) (i + 1))), (12, .int (gX6_wants f i)), (11, .int (gX6_needs f i)), (10, .int (oF f i 4)), (9, .int 2), (0, .ref (ca 0 0)), (1, .int (nI (nF f))), (2, .ref q7), (7, .int 1), (8, .int (nI i))]) hx hb dL_isWell_132 hl (by decide) rfl (fun ls hl => ?_)
                refine lv_iload hx hb dL_isWell_134 (lv_at hl 5 rfl) ?_
                refine lv_iconst (v := 3) hx hb dL_isWell_136 (by decide) ?_
                refine lv_icmp_lt (tgt := 302) hx hb dL_isWell_137 (by decide) (fun c_137 => ?_) (fun c_137 => ?_)
                · --t
                  exact absurd c_137 (nw_3 hm hi)
                · --f
                  refine lv_iload hx hb dL_isWell_140 (lv_at hl 4 rfl) ?_
                  refine lv_iload hx hb dL_isWell_142 (lv_at hl 5 rfl) ?_
                  refine lv_icmp_lt (tgt := 302) hx hb dL_isWell_144 (by decide) (fun c_144 => ?_) (fun c_144 => ?_)
                  · --t
                    exact absurd c_144 (nw_w hm hi)
                  · --f
                    refine lv_iload hx hb dL_isWell_147 (lv_at hl 7 rfl) ?_
                    refine lv_iconst (v := 1) hx hb dL_isWell_149 (by decide) ?_
                    refine lv_icmp_ne (tgt := 181) hx hb dL_isWell_150 (by decide) (fun c_150 => ?_) (fun c_150 => ?_)
                    · --t
                      refine lv_iload hx hb dL_isWell_181 (lv_at hl 6 rfl) ?_
                      refine lv_if_ne (tgt := 302) hx hb dL_isWell_183 (by decide) (fun c_183 => ?_) (fun c_183 => ?_)
                      · --t
                        exact absurd ((hm.2 i hi).2.2.2.2.2 (by rw [hs]; decide)).1 c_183
                      · --f
                        refine lv_aload_n hx hb dL_isWell_186 rfl (lv_at hl 8 rfl) ?_
                        refine lv_iload hx hb dL_isWell_187 (lv_at hl 12 rfl) ?_
                        refine lv_bipush (v := 7) hx hb dL_isWell_189 (by decide) ?_
                        refine xreti (va_runV (As := [.int (nI i), .int 7]) (rest := []) ⟨hx, hb, hml, hown, hts⟩ (mX5_join l D ck ca C (nI i) 7 _) (cwV 2 hts gL_isWell_X5_join rfl rfl rfl (by decide +kernel) ⟨Nat.le_of_ble_eq_true rfl, Nat.le_of_ble_eq_true rfl⟩) (xpreV hN hK hP hD List.perm_append_comm 0 rfl rfl rfl) rfl rfl hl.1 rfl (lv_room (Nat.le_of_ble_eq_true rfl)) dL_isWell_191 ⟨Nat.le_of_ble_eq_true rfl, Nat.le_of_ble_eq_true rfl⟩) hP hD hS hA List.perm_append_comm List.perm_append_comm (fun H locs hP hD hS => ?_)
                        have hP : va_P D vwCl ([(q7, .inl (ck 0, 4, .inl (stA f (i + 1))))] ++ clW ck ca C) H := hP
                        have hD : va_D (va_A (clW ck ca C) s.heap.size) ([(q7, .inl (ck 0, 4, .inl (stA f (i + 1))))] ++ clW ck ca C) := hD
                        rw [jn_7 hC hi]
                        refine lv_if_ne (tgt := 302) hx hb dL_isWell_194 (by decide) (fun c_194 => ?_) (fun c_194 => ?_)
                        · --t
                          exact absurd ((hm.2 i hi).2.2.2.2.2 (by rw [hs]; decide)).2 c_194
                        · --f
                          refine lv_iload hx hb dL_isWell_197 (lv_at hl 7 rfl) ?_
                          refine lv_if_le (tgt := 206) hx hb dL_isWell_199 (by decide) (fun c_199 => ?_) (fun c_199 => ?_)
                          · --t
                            exact absurd c_199 (by decide)
                          · --f
                            refine lv_iconst (v := 1) hx hb dL_isWell_202 (by decide) ?_
                            refine lv_goto (tgt := 207) hx hb dL_isWell_203 (by decide) ?_
                            refine lv_aload_n hx hb dL_isWell_207 rfl (lv_at hl 8 rfl) ?_
                            refine lv_iload hx hb dL_isWell_208 (lv_at hl 12 rfl) ?_
                            refine xreti (va_runV (As := [.int (nI i)]) (rest := [.int 1]) ⟨hx, hb, hml, hown, hts⟩ (mX5_why l D ck ca C (nI i) _) (cwV 1 hts gL_isWell_X5_why rfl rfl rfl (by decide +kernel) ⟨Nat.le_of_ble_eq_true rfl, Nat.le_of_ble_eq_true rfl⟩) (xpreV hN hK hP hD List.perm_append_comm 0 rfl rfl rfl) rfl rfl hl.1 rfl (lv_room (Nat.le_of_ble_eq_true rfl)) dL_isWell_210 ⟨Nat.le_of_ble_eq_true rfl, Nat.le_of_ble_eq_true rfl⟩) hP hD hS hA List.perm_append_comm List.perm_append_comm (fun H locs hP hD hS => ?_)
                            have hP : va_P D vwCl ([(q7, .inl (ck 0, 4, .inl (stA f (i + 1))))] ++ clW ck ca C) H := hP
                            have hD : va_D (va_A (clW ck ca C) s.heap.size) ([(q7, .inl (ck 0, 4, .inl (stA f (i + 1))))] ++ clW ck ca C) := hD
                            rw [eq_why hC]
                            rw [show ((gX6_why f (nI i)) : Int32) = 0 from (why_n hm hi (by rw [hs]; decide))]
                            refine lv_if_ne (tgt := 220) hx hb dL_isWell_213 (by decide) (fun c_213 => ?_) (fun c_213 => ?_)
                            · --t
                              exact absurd (by decide) c_213
                            · --f
                              refine lv_iconst (v := 1) hx hb dL_isWell_216 (by decide) ?_
                              refine lv_goto (tgt := 221) hx hb dL_isWell_217 (by decide) ?_
                              refine lv_icmp_ne (tgt := 302) hx hb dL_isWell_221 (by decide) (fun c_221 => ?_) (fun c_221 => ?_)
                              · --t
                                exact absurd (by decide) c_221
                              · --f
                                refine lv_aload_n hx hb dL_isWell_224 rfl (lv_at hl 8 rfl) ?_
                                refine lv_iload hx hb dL_isWell_225 (lv_at hl 12 rfl) ?_
                                refine lv_bipush (v := 8) hx hb dL_isWell_227 (by decide) ?_
                                refine xreti (va_runV (As := [.int (nI i), .int 8]) (rest := []) ⟨hx, hb, hml, hown, hts⟩ (mX5_join l D ck ca C (nI i) 8 _) (cwV 2 hts gL_isWell_X5_join rfl rfl rfl (by decide +kernel) ⟨Nat.le_of_ble_eq_true rfl, Nat.le_of_ble_eq_true rfl⟩) (xpreV hN hK hP hD List.perm_append_comm 0 rfl rfl rfl) rfl rfl hl.1 rfl (lv_room (Nat.le_of_ble_eq_true rfl)) dL_isWell_229 ⟨Nat.le_of_ble_eq_true rfl, Nat.le_of_ble_eq_true rfl⟩) hP hD hS hA List.perm_append_comm List.perm_append_comm (fun H locs hP hD hS => ?_)
                                have hP : va_P D vwCl ([(q7, .inl (ck 0, 4, .inl (stA f (i + 1))))] ++ clW ck ca C) H := hP
                                have hD : va_D (va_A (clW ck ca C) s.heap.size) ([(q7, .inl (ck 0, 4, .inl (stA f (i + 1))))] ++ clW ck ca C) := hD
                                rw [jn_8 hC hi]
                                refine lv_aload_n hx hb dL_isWell_232 rfl (lv_at hl 8 rfl) ?_
                                refine lv_iload hx hb dL_isWell_233 (lv_at hl 12 rfl) ?_
                                refine lv_bipush (v := 9) hx hb dL_isWell_235 (by decide) ?_
                                refine xreti (va_runV (As := [.int (nI i), .int 9]) (rest := [.int (oF f i 6)]) ⟨hx, hb, hml, hown, hts⟩ (mX5_join l D ck ca C (nI i) 9 _) (cwV 2 hts gL_isWell_X5_join rfl rfl rfl (by decide +kernel) ⟨Nat.le_of_ble_eq_true rfl, Nat.le_of_ble_eq_true rfl⟩) (xpreV hN hK hP hD List.perm_append_comm 0 rfl rfl rfl) rfl rfl hl.1 rfl (lv_room (Nat.le_of_ble_eq_true rfl)) dL_isWell_237 ⟨Nat.le_of_ble_eq_true rfl, Nat.le_of_ble_eq_true rfl⟩) hP hD hS hA List.perm_append_comm List.perm_append_comm (fun H locs hP hD hS => ?_)
                                have hP : va_P D vwCl ([(q7, .inl (ck 0, 4, .inl (stA f (i + 1))))] ++ clW ck ca C) H := hP
                                have hD : va_D (va_A (clW ck ca C) s.heap.size) ([(q7, .inl (ck 0, 4, .inl (stA f (i + 1))))] ++ clW ck ca C) := hD
                                rw [jn_9 hC hi]
                                refine lv_iadd hx hb dL_isWell_240 ?_
                                refine lv_aload_n hx hb dL_isWell_241 rfl (lv_at hl 8 rfl) ?_
                                refine lv_bipush (v := 8) hx hb dL_isWell_242 (by decide) ?_
                                refine xreti (va_runV (As := [.int 8]) (rest := [.int ((oF f i 6) + (oF f i 7))]) ⟨hx, hb, hml, hown, hts⟩ (mX5_count l D ck ca C 8 _) (cwV 1 hts gL_isWell_X5_count rfl rfl rfl (by decide +kernel) ⟨Nat.le_of_ble_eq_true rfl, Nat.le_of_ble_eq_true rfl⟩) (xpreV hN hK hP hD List.perm_append_comm 0 rfl rfl rfl) rfl rfl hl.1 rfl (lv_room (Nat.le_of_ble_eq_true rfl)) dL_isWell_244 ⟨Nat.le_of_ble_eq_true rfl, Nat.le_of_ble_eq_true rfl⟩) hP hD hS hA List.perm_append_comm List.perm_append_comm (fun H locs hP hD hS => ?_)
                                have hP : va_P D vwCl ([(q7, .inl (ck 0, 4, .inl (stA f (i + 1))))] ++ clW ck ca C) H := hP
                                have hD : va_D (va_A (clW ck ca C) s.heap.size) ([(q7, .inl (ck 0, 4, .inl (stA f (i + 1))))] ++ clW ck ca C) := hD
                                rw [cnt_8 hC]
                                refine lv_icmp_gt (tgt := 302) hx hb dL_isWell_247 (by decide) (fun c_247 => ?_) (fun c_247 => ?_)
                                · --t
                                  exact absurd c_247 (sx_le hsx h60 h6N hb6 hi)
                                · --f
                                  refine lv_aload_n hx hb dL_isWell_250 rfl (lv_at hl 8 rfl) ?_
                                  refine lv_iload hx hb dL_isWell_251 (lv_at hl 12 rfl) ?_
                                  refine lv_bipush (v := 11) hx hb dL_isWell_253 (by decide) ?_
                                  refine xreti (va_runV (As := [.int (nI i), .int 11]) (rest := []) ⟨hx, hb, hml, hown, hts⟩ (mX5_join l D ck ca C (nI i) 11 _) (cwV 2 hts gL_isWell_X5_join rfl rfl rfl (by decide +kernel) ⟨Nat.le_of_ble_eq_true rfl, Nat.le_of_ble_eq_true rfl⟩) (xpreV hN hK hP hD List.perm_append_comm 0 rfl rfl rfl) rfl rfl hl.1 rfl (lv_room (Nat.le_of_ble_eq_true rfl)) dL_isWell_255 ⟨Nat.le_of_ble_eq_true rfl, Nat.le_of_ble_eq_true rfl⟩) hP hD hS hA List.perm_append_comm List.perm_append_comm (fun H locs hP hD hS => ?_)
                                  have hP : va_P D vwCl ([(q7, .inl (ck 0, 4, .inl (stA f (i + 1))))] ++ clW ck ca C) H := hP
                                  have hD : va_D (va_A (clW ck ca C) s.heap.size) ([(q7, .inl (ck 0, 4, .inl (stA f (i + 1))))] ++ clW ck ca C) := hD
                                  rw [jn_11 hC hi]
                                  rw [show ((if gX6_spills f i = 0 then 0 else 1) : Int32) = 0 from (sp_0 (by rw [hs]; decide))]
                                  refine lv_iconst (v := 1) hx hb dL_isWell_258 (by decide) ?_
                                  refine lv_icmp_ne (tgt := 266) hx hb dL_isWell_259 (by decide) (fun c_259 => ?_) (fun c_259 => ?_)
                                  · --t
                                    refine lv_iconst (v := 0) hx hb dL_isWell_266 (by decide) ?_
                                    refine lv_iload hx hb dL_isWell_267 (lv_at hl 7 rfl) ?_
                                    refine lv_iconst (v := 1) hx hb dL_isWell_269 (by decide) ?_
                                    refine lv_icmp_ne (tgt := 294) hx hb dL_isWell_270 (by decide) (fun c_270 => ?_) (fun c_270 => ?_)
                                    · --t
                                      refine lv_iconst (v := 0) hx hb dL_isWell_294 (by decide) ?_
                                      refine lv_icmp_ne (tgt := 302) hx hb dL_isWell_295 (by decide) (fun c_295 => ?_) (fun c_295 => ?_)
                                      · --t
                                        exact absurd (by decide) c_295
                                      · --f
                                        refine lv_iconst (v := 1) hx hb dL_isWell_298 (by decide) ?_
                                        refine lv_goto (tgt := 303) hx hb dL_isWell_299 (by decide) ?_
                                        refine lv_istore (lv' := [(7, .int 1), (6, .int (sS (fun j => b01 (gX6_spills f j)) (i + 1))), (5, .int (sS (fun j => oF f j 8) (i + 1))), (4, .int (sS (gX6_extra f) (i + 1))), (3, .int (sS (fun j => oF f j 4) (i + 1))), (12, .int (gX6_wants f i)), (11, .int (gX6_needs f i)), (10, .int (oF f i 4)), (9, .int 2), (0, .ref (ca 0 0)), (1, .int (nI (nF f))), (2, .ref q7), (8, .int (nI i))]) hx hb dL_isWell_303 hl (by decide) rfl (fun ls hl => ?_)
                                        refine lv_iinc (v := (nI (i + 1))) (lv' := [(8, .int (nI (i + 1))), (7, .int 1), (6, .int (sS (fun j => b01 (gX6_spills f j)) (i + 1))), (5, .int (sS (fun j => oF f j 8) (i + 1))), (4, .int (sS (gX6_extra f) (i + 1))), (3, .int (sS (fun j => oF f j 4) (i + 1))), (12, .int (gX6_wants f i)), (11, .int (gX6_needs f i)), (10, .int (oF f i 4)), (9, .int 2), (0, .ref (ca 0 0)), (1, .int (nI (nF f))), (2, .ref q7)]) hx hb dL_isWell_305 hl (k := 12) rfl (nI_1 i) (by decide) rfl (fun ls hl => ?_)
                                        refine lv_goto (tgt := 27) hx hb dL_isWell_308 (by decide) ?_
                                        exact ih27 (i + 1) (by omega) _ _ _ hP hD hS (lv_sub hl [10, 11, 12, 5, 4, 3, 2, 1, 0] rfl)
                                    · --f
                                      exact absurd c_270 (by decide)
                                  · --f
                                    exact absurd c_259 (by decide)
                    · --f
                      exact absurd c_150 (by decide)
              · --f
                exact absurd c_93 (by decide)
            · --state 3
              rw [show ((oF f i 3) : Int32) = 3 from hs]
              refine lv_istore (lv' := [(9, .int 3), (0, .ref (ca 0 0)), (1, .int (nI (nF f))), (2, .ref q7), (3, .int (sS (fun j => oF f j 4) i)), (4, .int (sS (gX6_extra f) i)), (5, .int (sS (fun j => oF f j 8) i)), (6, .int (sS (fun j => b01 (gX6_spills f j)) i)), (7, .int 1), (8, .int (nI i))]) hx hb dL_isWell_45 hl (by decide) rfl (fun ls hl => ?_)
              refine lv_aload_n hx hb dL_isWell_47 rfl (lv_at hl 1 rfl) ?_
              refine lv_iload hx hb dL_isWell_48 (lv_at hl 9 rfl) ?_
              refine lv_bipush (v := 6) hx hb dL_isWell_50 (by decide) ?_
              refine xreti (va_runV (As := [.int (nI i), .int 6]) (rest := []) ⟨hx, hb, hml, hown, hts⟩ (mX5_join l D ck ca C (nI i) 6 _) (cwV 2 hts gL_isWell_X5_join rfl rfl rfl (by decide +kernel) ⟨Nat.le_of_ble_eq_true rfl, Nat.le_of_ble_eq_true rfl⟩) (xpreV hN hK hP hD List.perm_append_comm 0 rfl rfl rfl) rfl rfl hl.1 rfl (lv_room (Nat.le_of_ble_eq_true rfl)) dL_isWell_52 ⟨Nat.le_of_ble_eq_true rfl, Nat.le_of_ble_eq_true rfl⟩) hP hD hS hA List.perm_append_comm List.perm_append_comm (fun H locs hP hD hS => ?_)
              have hP : va_P D vwCl ([(q7, .inl (ck 0, 4, .inl (stA f i)))] ++ clW ck ca C) H := hP
              have hD : va_D (va_A (clW ck ca C) s.heap.size) ([(q7, .inl (ck 0, 4, .inl (stA f i)))] ++ clW ck ca C) := hD
              rw [jn_6 hC hi]
              refine lv_istore (lv' := [(10, .int (oF f i 4)), (9, .int 3), (0, .ref (ca 0 0)), (1, .int (nI (nF f))), (2, .ref q7), (3, .int (sS (fun j => oF f j 4) i)), (4, .int (sS (gX6_extra f) i)), (5, .int (sS (fun j => oF f j 8) i)), (6, .int (sS (fun j => b01 (gX6_spills f j)) i)), (7, .int 1), (8, .int (nI i))]) hx hb dL_isWell_55 hl (by decide) rfl (fun ls hl => ?_)
              refine lv_aload_n hx hb dL_isWell_57 rfl (lv_at hl 2 rfl) ?_
              refine lv_iload hx hb dL_isWell_58 (lv_at hl 10 rfl) ?_
              refine lv_iconst (v := 4) hx hb dL_isWell_60 (by decide) ?_
              refine xreti (va_runV (As := [.int (nI i), .int 4]) (rest := []) ⟨hx, hb, hml, hown, hts⟩ (mX5_join l D ck ca C (nI i) 4 _) (cwV 2 hts gL_isWell_X5_join rfl rfl rfl (by decide +kernel) ⟨Nat.le_of_ble_eq_true rfl, Nat.le_of_ble_eq_true rfl⟩) (xpreV hN hK hP hD List.perm_append_comm 0 rfl rfl rfl) rfl rfl hl.1 rfl (lv_room (Nat.le_of_ble_eq_true rfl)) dL_isWell_61 ⟨Nat.le_of_ble_eq_true rfl, Nat.le_of_ble_eq_true rfl⟩) hP hD hS hA List.perm_append_comm List.perm_append_comm (fun H locs hP hD hS => ?_)
              have hP : va_P D vwCl ([(q7, .inl (ck 0, 4, .inl (stA f i)))] ++ clW ck ca C) H := hP
              have hD : va_D (va_A (clW ck ca C) s.heap.size) ([(q7, .inl (ck 0, 4, .inl (stA f i)))] ++ clW ck ca C) := hD
              rw [jn_4 hC hi]
              refine lv_istore (lv' := [(11, .int (gX6_needs f i)), (10, .int (oF f i 4)), (9, .int 3), (0, .ref (ca 0 0)), (1, .int (nI (nF f))), (2, .ref q7), (3, .int (sS (fun j => oF f j 4) i)), (4, .int (sS (gX6_extra f) i)), (5, .int (sS (fun j => oF f j 8) i)), (6, .int (sS (fun j => b01 (gX6_spills f j)) i)), (7, .int 1), (8, .int (nI i))]) hx hb dL_isWell_64 hl (by decide) rfl (fun ls hl => ?_)
              refine lv_aload_n hx hb dL_isWell_66 rfl (lv_at hl 3 rfl) ?_
              refine lv_iload hx hb dL_isWell_67 (lv_at hl 11 rfl) ?_
              refine lv_iconst (v := 5) hx hb dL_isWell_69 (by decide) ?_
              refine xreti (va_runV (As := [.int (nI i), .int 5]) (rest := []) ⟨hx, hb, hml, hown, hts⟩ (mX5_join l D ck ca C (nI i) 5 _) (cwV 2 hts gL_isWell_X5_join rfl rfl rfl (by decide +kernel) ⟨Nat.le_of_ble_eq_true rfl, Nat.le_of_ble_eq_true rfl⟩) (xpreV hN hK hP hD List.perm_append_comm 0 rfl rfl rfl) rfl rfl hl.1 rfl (lv_room (Nat.le_of_ble_eq_true rfl)) dL_isWell_70 ⟨Nat.le_of_ble_eq_true rfl, Nat.le_of_ble_eq_true rfl⟩) hP hD hS hA List.perm_append_comm List.perm_append_comm (fun H locs hP hD hS => ?_)
              have hP : va_P D vwCl ([(q7, .inl (ck 0, 4, .inl (stA f i)))] ++ clW ck ca C) H := hP
              have hD : va_D (va_A (clW ck ca C) s.heap.size) ([(q7, .inl (ck 0, 4, .inl (stA f i)))] ++ clW ck ca C) := hD
              rw [jn_5 hC hi]
              refine lv_istore (lv' := [(12, .int (gX6_wants f i)), (11, .int (gX6_needs f i)), (10, .int (oF f i 4)), (9, .int 3), (0, .ref (ca 0 0)), (1, .int (nI (nF f))), (2, .ref q7), (3, .int (sS (fun j => oF f j 4) i)), (4, .int (sS (gX6_extra f) i)), (5, .int (sS (fun j => oF f j 8) i)), (6, .int (sS (fun j => b01 (gX6_spills f j)) i)), (7, .int 1), (8, .int (nI i))]) hx hb dL_isWell_73 hl (by decide) rfl (fun ls hl => ?_)
              refine lv_aload_n hx hb dL_isWell_75 rfl (lv_at hl 6 rfl) ?_
              refine lv_iload hx hb dL_isWell_76 (lv_at hl 3 rfl) ?_
              refine lv_dup2_11 hx hb dL_isWell_78 rfl rfl ?_
              refine xiald (j := 3) (by decide) hx hb hK hP 0 0 rfl rfl (by unfold vp_in; decide) dL_isWell_79 ?_
              refine lv_iconst (v := 1) hx hb dL_isWell_80 (by decide) ?_
              refine lv_iadd hx hb dL_isWell_81 ?_
              refine xiast (j := 3) (by decide) hx hb hK hP hD hS 0 0 rfl rfl (by unfold vp_in; decide) dL_isWell_82 (fun H locs hP hD hS => ?_)
              have hP : va_P D vwCl ([(q7, .inl (ck 0, 4, .inl (upd (stA f i) 3 (((stA f i) 3) + 1))))] ++ clW ck ca C) H := hP
              have hD : va_D (va_A (clW ck ca C) s.heap.size) ([(q7, .inl (ck 0, 4, .inl (upd (stA f i) 3 (((stA f i) 3) + 1))))] ++ clW ck ca C) := hD
              rw [show (upd (stA f i) 3 (((stA f i) 3) + 1)) = (stA f (i + 1)) from (stA_s (by decide) hs)] at hP hD
              refine lv_iload_n hx hb dL_isWell_83 rfl (lv_at hl 7 rfl) ?_
              refine lv_iload hx hb dL_isWell_84 (lv_at hl 2 rfl) ?_
              refine lv_iadd hx hb dL_isWell_86 ?_
              rw [show (((sS (fun j => oF f j 4) i) + (oF f i 4)) : Int32) = (sS (fun j => oF f j 4) (i + 1)) from rfl]
              refine lv_istore_n (lv' := [(3, .int (sS (fun j => oF f j 4) (i + 1))), (12, .int (gX6_wants f i)), (11, .int (gX6_needs f i)), (10, .int (oF f i 4)), (9, .int 3), (0, .ref (ca 0 0)), (1, .int (nI (nF f))), (2, .ref q7), (4, .int (sS (gX6_extra f) i)), (5, .int (sS (fun j => oF f j 8) i)), (6, .int (sS (fun j => b01 (gX6_spills f j)) i)), (7, .int 1), (8, .int (nI i))]) hx hb dL_isWell_87 rfl hl (by decide) rfl (fun ls hl => ?_)
              refine lv_iload hx hb dL_isWell_88 (lv_at hl 8 rfl) ?_
              refine lv_iload hx hb dL_isWell_90 (lv_at hl 4 rfl) ?_
              refine lv_iconst (v := 1) hx hb dL_isWell_92 (by decide) ?_
              refine lv_icmp_ne (tgt := 104) hx hb dL_isWell_93 (by decide) (fun c_93 => ?_) (fun c_93 => ?_)
              · --t
                refine lv_iconst (v := 0) hx hb dL_isWell_104 (by decide) ?_
                refine lv_iadd hx hb dL_isWell_105 ?_
                rw [show (((sS (gX6_extra f) i) + 0) : Int32) = (sS (gX6_extra f) (i + 1)) from (ex_s0 (by rw [hs]; decide))]
                refine lv_istore (lv' := [(4, .int (sS (gX6_extra f) (i + 1))), (3, .int (sS (fun j => oF f j 4) (i + 1))), (12, .int (gX6_wants f i)), (11, .int (gX6_needs f i)), (10, .int (oF f i 4)), (9, .int 3), (0, .ref (ca 0 0)), (1, .int (nI (nF f))), (2, .ref q7), (5, .int (sS (fun j => oF f j 8) i)), (6, .int (sS (fun j => b01 (gX6_spills f j)) i)), (7, .int 1), (8, .int (nI i))]) hx hb dL_isWell_106 hl (by decide) rfl (fun ls hl => ?_)
                refine lv_iload hx hb dL_isWell_108 (lv_at hl 9 rfl) ?_
                refine lv_aload_n hx hb dL_isWell_110 rfl (lv_at hl 6 rfl) ?_
                refine lv_iload hx hb dL_isWell_111 (lv_at hl 12 rfl) ?_
                refine lv_bipush (v := 10) hx hb dL_isWell_113 (by decide) ?_
                refine xreti (va_runV (As := [.int (nI i), .int 10]) (rest := [.int (sS (fun j => oF f j 8) i)]) ⟨hx, hb, hml, hown, hts⟩ (mX5_join l D ck ca C (nI i) 10 _) (cwV 2 hts gL_isWell_X5_join rfl rfl rfl (by decide +kernel) ⟨Nat.le_of_ble_eq_true rfl, Nat.le_of_ble_eq_true rfl⟩) (xpreV hN hK hP hD List.perm_append_comm 0 rfl rfl rfl) rfl rfl hl.1 rfl (lv_room (Nat.le_of_ble_eq_true rfl)) dL_isWell_115 ⟨Nat.le_of_ble_eq_true rfl, Nat.le_of_ble_eq_true rfl⟩) hP hD hS hA List.perm_append_comm List.perm_append_comm (fun H locs hP hD hS => ?_)
                have hP : va_P D vwCl ([(q7, .inl (ck 0, 4, .inl (stA f (i + 1))))] ++ clW ck ca C) H := hP
                have hD : va_D (va_A (clW ck ca C) s.heap.size) ([(q7, .inl (ck 0, 4, .inl (stA f (i + 1))))] ++ clW ck ca C) := hD
                rw [jn_10 hC hi]
                refine lv_iadd hx hb dL_isWell_118 ?_
                rw [show (((sS (fun j => oF f j 8) i) + (oF f i 8)) : Int32) = (sS (fun j => oF f j 8) (i + 1)) from rfl]
                refine lv_istore (lv' := [(5, .int (sS (fun j => oF f j 8) (i + 1))), (4, .int (sS (gX6_extra f) (i + 1))), (3, .int (sS (fun j => oF f j 4) (i + 1))), (12, .int (gX6_wants f i)), (11, .int (gX6_needs f i)), (10, .int (oF f i 4)), (9, .int 3), (0, .ref (ca 0 0)), (1, .int (nI (nF f))), (2, .ref q7), (6, .int (sS (fun j => b01 (gX6_spills f j)) i)), (7, .int 1), (8, .int (nI i))]) hx hb dL_isWell_119 hl (by decide) rfl (fun ls hl => ?_)
                refine lv_iload hx hb dL_isWell_121 (lv_at hl 10 rfl) ?_
                refine lv_aload_n hx hb dL_isWell_123 rfl (lv_at hl 7 rfl) ?_
                refine lv_iload hx hb dL_isWell_124 (lv_at hl 12 rfl) ?_
                refine lv_bipush (v := 11) hx hb dL_isWell_126 (by decide) ?_
                refine xreti (va_runV (As := [.int (nI i), .int 11]) (rest := [.int (sS (fun j => b01 (gX6_spills f j)) i)]) ⟨hx, hb, hml, hown, hts⟩ (mX5_join l D ck ca C (nI i) 11 _) (cwV 2 hts gL_isWell_X5_join rfl rfl rfl (by decide +kernel) ⟨Nat.le_of_ble_eq_true rfl, Nat.le_of_ble_eq_true rfl⟩) (xpreV hN hK hP hD List.perm_append_comm 0 rfl rfl rfl) rfl rfl hl.1 rfl (lv_room (Nat.le_of_ble_eq_true rfl)) dL_isWell_128 ⟨Nat.le_of_ble_eq_true rfl, Nat.le_of_ble_eq_true rfl⟩) hP hD hS hA List.perm_append_comm List.perm_append_comm (fun H locs hP hD hS => ?_)
                have hP : va_P D vwCl ([(q7, .inl (ck 0, 4, .inl (stA f (i + 1))))] ++ clW ck ca C) H := hP
                have hD : va_D (va_A (clW ck ca C) s.heap.size) ([(q7, .inl (ck 0, 4, .inl (stA f (i + 1))))] ++ clW ck ca C) := hD
                rw [jn_11 hC hi]
                refine lv_iadd hx hb dL_isWell_131 ?_
                rw [show (((sS (fun j => b01 (gX6_spills f j)) i) + (if gX6_spills f i = 0 then 0 else 1)) : Int32) = (sS (fun j => b01 (gX6_spills f j)) (i + 1)) from rfl]
                refine lv_istore (lv' := [(6, .int (sS (fun j => b01 (gX6_spills f j)) (i + 1))), (5, .int (sS (fun j => oF f j 8) (i + 1))), (4, .int (sS (gX6_extra f) (i + 1))), (3, .int (sS (fun j => oF f j 4) (i + 1))), (12, .int (gX6_wants f i)), (11, .int (gX6_needs f i)), (10, .int (oF f i 4)), (9, .int 3), (0, .ref (ca 0 0)), (1, .int (nI (nF f))), (2, .ref q7), (7, .int 1), (8, .int (nI i))]) hx hb dL_isWell_132 hl (by decide) rfl (fun ls hl => ?_)
                refine lv_iload hx hb dL_isWell_134 (lv_at hl 5 rfl) ?_
                refine lv_iconst (v := 3) hx hb dL_isWell_136 (by decide) ?_
                refine lv_icmp_lt (tgt := 302) hx hb dL_isWell_137 (by decide) (fun c_137 => ?_) (fun c_137 => ?_)
                · --t
                  exact absurd c_137 (nw_3 hm hi)
                · --f
                  refine lv_iload hx hb dL_isWell_140 (lv_at hl 4 rfl) ?_
                  refine lv_iload hx hb dL_isWell_142 (lv_at hl 5 rfl) ?_
                  refine lv_icmp_lt (tgt := 302) hx hb dL_isWell_144 (by decide) (fun c_144 => ?_) (fun c_144 => ?_)
                  · --t
                    exact absurd c_144 (nw_w hm hi)
                  · --f
                    refine lv_iload hx hb dL_isWell_147 (lv_at hl 7 rfl) ?_
                    refine lv_iconst (v := 1) hx hb dL_isWell_149 (by decide) ?_
                    refine lv_icmp_ne (tgt := 181) hx hb dL_isWell_150 (by decide) (fun c_150 => ?_) (fun c_150 => ?_)
                    · --t
                      refine lv_iload hx hb dL_isWell_181 (lv_at hl 6 rfl) ?_
                      refine lv_if_ne (tgt := 302) hx hb dL_isWell_183 (by decide) (fun c_183 => ?_) (fun c_183 => ?_)
                      · --t
                        exact absurd ((hm.2 i hi).2.2.2.2.2 (by rw [hs]; decide)).1 c_183
                      · --f
                        refine lv_aload_n hx hb dL_isWell_186 rfl (lv_at hl 8 rfl) ?_
                        refine lv_iload hx hb dL_isWell_187 (lv_at hl 12 rfl) ?_
                        refine lv_bipush (v := 7) hx hb dL_isWell_189 (by decide) ?_
                        refine xreti (va_runV (As := [.int (nI i), .int 7]) (rest := []) ⟨hx, hb, hml, hown, hts⟩ (mX5_join l D ck ca C (nI i) 7 _) (cwV 2 hts gL_isWell_X5_join rfl rfl rfl (by decide +kernel) ⟨Nat.le_of_ble_eq_true rfl, Nat.le_of_ble_eq_true rfl⟩) (xpreV hN hK hP hD List.perm_append_comm 0 rfl rfl rfl) rfl rfl hl.1 rfl (lv_room (Nat.le_of_ble_eq_true rfl)) dL_isWell_191 ⟨Nat.le_of_ble_eq_true rfl, Nat.le_of_ble_eq_true rfl⟩) hP hD hS hA List.perm_append_comm List.perm_append_comm (fun H locs hP hD hS => ?_)
                        have hP : va_P D vwCl ([(q7, .inl (ck 0, 4, .inl (stA f (i + 1))))] ++ clW ck ca C) H := hP
                        have hD : va_D (va_A (clW ck ca C) s.heap.size) ([(q7, .inl (ck 0, 4, .inl (stA f (i + 1))))] ++ clW ck ca C) := hD
                        rw [jn_7 hC hi]
                        refine lv_if_ne (tgt := 302) hx hb dL_isWell_194 (by decide) (fun c_194 => ?_) (fun c_194 => ?_)
                        · --t
                          exact absurd ((hm.2 i hi).2.2.2.2.2 (by rw [hs]; decide)).2 c_194
                        · --f
                          refine lv_iload hx hb dL_isWell_197 (lv_at hl 7 rfl) ?_
                          refine lv_if_le (tgt := 206) hx hb dL_isWell_199 (by decide) (fun c_199 => ?_) (fun c_199 => ?_)
                          · --t
                            exact absurd c_199 (by decide)
                          · --f
                            refine lv_iconst (v := 1) hx hb dL_isWell_202 (by decide) ?_
                            refine lv_goto (tgt := 207) hx hb dL_isWell_203 (by decide) ?_
                            refine lv_aload_n hx hb dL_isWell_207 rfl (lv_at hl 8 rfl) ?_
                            refine lv_iload hx hb dL_isWell_208 (lv_at hl 12 rfl) ?_
                            refine xreti (va_runV (As := [.int (nI i)]) (rest := [.int 1]) ⟨hx, hb, hml, hown, hts⟩ (mX5_why l D ck ca C (nI i) _) (cwV 1 hts gL_isWell_X5_why rfl rfl rfl (by decide +kernel) ⟨Nat.le_of_ble_eq_true rfl, Nat.le_of_ble_eq_true rfl⟩) (xpreV hN hK hP hD List.perm_append_comm 0 rfl rfl rfl) rfl rfl hl.1 rfl (lv_room (Nat.le_of_ble_eq_true rfl)) dL_isWell_210 ⟨Nat.le_of_ble_eq_true rfl, Nat.le_of_ble_eq_true rfl⟩) hP hD hS hA List.perm_append_comm List.perm_append_comm (fun H locs hP hD hS => ?_)
                            have hP : va_P D vwCl ([(q7, .inl (ck 0, 4, .inl (stA f (i + 1))))] ++ clW ck ca C) H := hP
                            have hD : va_D (va_A (clW ck ca C) s.heap.size) ([(q7, .inl (ck 0, 4, .inl (stA f (i + 1))))] ++ clW ck ca C) := hD
                            rw [eq_why hC]
                            rw [show ((gX6_why f (nI i)) : Int32) = 0 from (why_n hm hi (by rw [hs]; decide))]
                            refine lv_if_ne (tgt := 220) hx hb dL_isWell_213 (by decide) (fun c_213 => ?_) (fun c_213 => ?_)
                            · --t
                              exact absurd (by decide) c_213
                            · --f
                              refine lv_iconst (v := 1) hx hb dL_isWell_216 (by decide) ?_
                              refine lv_goto (tgt := 221) hx hb dL_isWell_217 (by decide) ?_
                              refine lv_icmp_ne (tgt := 302) hx hb dL_isWell_221 (by decide) (fun c_221 => ?_) (fun c_221 => ?_)
                              · --t
                                exact absurd (by decide) c_221
                              · --f
                                refine lv_aload_n hx hb dL_isWell_224 rfl (lv_at hl 8 rfl) ?_
                                refine lv_iload hx hb dL_isWell_225 (lv_at hl 12 rfl) ?_
                                refine lv_bipush (v := 8) hx hb dL_isWell_227 (by decide) ?_
                                refine xreti (va_runV (As := [.int (nI i), .int 8]) (rest := []) ⟨hx, hb, hml, hown, hts⟩ (mX5_join l D ck ca C (nI i) 8 _) (cwV 2 hts gL_isWell_X5_join rfl rfl rfl (by decide +kernel) ⟨Nat.le_of_ble_eq_true rfl, Nat.le_of_ble_eq_true rfl⟩) (xpreV hN hK hP hD List.perm_append_comm 0 rfl rfl rfl) rfl rfl hl.1 rfl (lv_room (Nat.le_of_ble_eq_true rfl)) dL_isWell_229 ⟨Nat.le_of_ble_eq_true rfl, Nat.le_of_ble_eq_true rfl⟩) hP hD hS hA List.perm_append_comm List.perm_append_comm (fun H locs hP hD hS => ?_)
                                have hP : va_P D vwCl ([(q7, .inl (ck 0, 4, .inl (stA f (i + 1))))] ++ clW ck ca C) H := hP
                                have hD : va_D (va_A (clW ck ca C) s.heap.size) ([(q7, .inl (ck 0, 4, .inl (stA f (i + 1))))] ++ clW ck ca C) := hD
                                rw [jn_8 hC hi]
                                refine lv_aload_n hx hb dL_isWell_232 rfl (lv_at hl 8 rfl) ?_
                                refine lv_iload hx hb dL_isWell_233 (lv_at hl 12 rfl) ?_
                                refine lv_bipush (v := 9) hx hb dL_isWell_235 (by decide) ?_
                                refine xreti (va_runV (As := [.int (nI i), .int 9]) (rest := [.int (oF f i 6)]) ⟨hx, hb, hml, hown, hts⟩ (mX5_join l D ck ca C (nI i) 9 _) (cwV 2 hts gL_isWell_X5_join rfl rfl rfl (by decide +kernel) ⟨Nat.le_of_ble_eq_true rfl, Nat.le_of_ble_eq_true rfl⟩) (xpreV hN hK hP hD List.perm_append_comm 0 rfl rfl rfl) rfl rfl hl.1 rfl (lv_room (Nat.le_of_ble_eq_true rfl)) dL_isWell_237 ⟨Nat.le_of_ble_eq_true rfl, Nat.le_of_ble_eq_true rfl⟩) hP hD hS hA List.perm_append_comm List.perm_append_comm (fun H locs hP hD hS => ?_)
                                have hP : va_P D vwCl ([(q7, .inl (ck 0, 4, .inl (stA f (i + 1))))] ++ clW ck ca C) H := hP
                                have hD : va_D (va_A (clW ck ca C) s.heap.size) ([(q7, .inl (ck 0, 4, .inl (stA f (i + 1))))] ++ clW ck ca C) := hD
                                rw [jn_9 hC hi]
                                refine lv_iadd hx hb dL_isWell_240 ?_
                                refine lv_aload_n hx hb dL_isWell_241 rfl (lv_at hl 8 rfl) ?_
                                refine lv_bipush (v := 8) hx hb dL_isWell_242 (by decide) ?_
                                refine xreti (va_runV (As := [.int 8]) (rest := [.int ((oF f i 6) + (oF f i 7))]) ⟨hx, hb, hml, hown, hts⟩ (mX5_count l D ck ca C 8 _) (cwV 1 hts gL_isWell_X5_count rfl rfl rfl (by decide +kernel) ⟨Nat.le_of_ble_eq_true rfl, Nat.le_of_ble_eq_true rfl⟩) (xpreV hN hK hP hD List.perm_append_comm 0 rfl rfl rfl) rfl rfl hl.1 rfl (lv_room (Nat.le_of_ble_eq_true rfl)) dL_isWell_244 ⟨Nat.le_of_ble_eq_true rfl, Nat.le_of_ble_eq_true rfl⟩) hP hD hS hA List.perm_append_comm List.perm_append_comm (fun H locs hP hD hS => ?_)
                                have hP : va_P D vwCl ([(q7, .inl (ck 0, 4, .inl (stA f (i + 1))))] ++ clW ck ca C) H := hP
                                have hD : va_D (va_A (clW ck ca C) s.heap.size) ([(q7, .inl (ck 0, 4, .inl (stA f (i + 1))))] ++ clW ck ca C) := hD
                                rw [cnt_8 hC]
                                refine lv_icmp_gt (tgt := 302) hx hb dL_isWell_247 (by decide) (fun c_247 => ?_) (fun c_247 => ?_)
                                · --t
                                  exact absurd c_247 (sx_le hsx h60 h6N hb6 hi)
                                · --f
                                  refine lv_aload_n hx hb dL_isWell_250 rfl (lv_at hl 8 rfl) ?_
                                  refine lv_iload hx hb dL_isWell_251 (lv_at hl 12 rfl) ?_
                                  refine lv_bipush (v := 11) hx hb dL_isWell_253 (by decide) ?_
                                  refine xreti (va_runV (As := [.int (nI i), .int 11]) (rest := []) ⟨hx, hb, hml, hown, hts⟩ (mX5_join l D ck ca C (nI i) 11 _) (cwV 2 hts gL_isWell_X5_join rfl rfl rfl (by decide +kernel) ⟨Nat.le_of_ble_eq_true rfl, Nat.le_of_ble_eq_true rfl⟩) (xpreV hN hK hP hD List.perm_append_comm 0 rfl rfl rfl) rfl rfl hl.1 rfl (lv_room (Nat.le_of_ble_eq_true rfl)) dL_isWell_255 ⟨Nat.le_of_ble_eq_true rfl, Nat.le_of_ble_eq_true rfl⟩) hP hD hS hA List.perm_append_comm List.perm_append_comm (fun H locs hP hD hS => ?_)
                                  have hP : va_P D vwCl ([(q7, .inl (ck 0, 4, .inl (stA f (i + 1))))] ++ clW ck ca C) H := hP
                                  have hD : va_D (va_A (clW ck ca C) s.heap.size) ([(q7, .inl (ck 0, 4, .inl (stA f (i + 1))))] ++ clW ck ca C) := hD
                                  rw [jn_11 hC hi]
                                  rw [show ((if gX6_spills f i = 0 then 0 else 1) : Int32) = 0 from (sp_0 (by rw [hs]; decide))]
                                  refine lv_iconst (v := 1) hx hb dL_isWell_258 (by decide) ?_
                                  refine lv_icmp_ne (tgt := 266) hx hb dL_isWell_259 (by decide) (fun c_259 => ?_) (fun c_259 => ?_)
                                  · --t
                                    refine lv_iconst (v := 0) hx hb dL_isWell_266 (by decide) ?_
                                    refine lv_iload hx hb dL_isWell_267 (lv_at hl 7 rfl) ?_
                                    refine lv_iconst (v := 1) hx hb dL_isWell_269 (by decide) ?_
                                    refine lv_icmp_ne (tgt := 294) hx hb dL_isWell_270 (by decide) (fun c_270 => ?_) (fun c_270 => ?_)
                                    · --t
                                      refine lv_iconst (v := 0) hx hb dL_isWell_294 (by decide) ?_
                                      refine lv_icmp_ne (tgt := 302) hx hb dL_isWell_295 (by decide) (fun c_295 => ?_) (fun c_295 => ?_)
                                      · --t
                                        exact absurd (by decide) c_295
                                      · --f
                                        refine lv_iconst (v := 1) hx hb dL_isWell_298 (by decide) ?_
                                        refine lv_goto (tgt := 303) hx hb dL_isWell_299 (by decide) ?_
                                        refine lv_istore (lv' := [(7, .int 1), (6, .int (sS (fun j => b01 (gX6_spills f j)) (i + 1))), (5, .int (sS (fun j => oF f j 8) (i + 1))), (4, .int (sS (gX6_extra f) (i + 1))), (3, .int (sS (fun j => oF f j 4) (i + 1))), (12, .int (gX6_wants f i)), (11, .int (gX6_needs f i)), (10, .int (oF f i 4)), (9, .int 3), (0, .ref (ca 0 0)), (1, .int (nI (nF f))), (2, .ref q7), (8, .int (nI i))]) hx hb dL_isWell_303 hl (by decide) rfl (fun ls hl => ?_)
                                        refine lv_iinc (v := (nI (i + 1))) (lv' := [(8, .int (nI (i + 1))), (7, .int 1), (6, .int (sS (fun j => b01 (gX6_spills f j)) (i + 1))), (5, .int (sS (fun j => oF f j 8) (i + 1))), (4, .int (sS (gX6_extra f) (i + 1))), (3, .int (sS (fun j => oF f j 4) (i + 1))), (12, .int (gX6_wants f i)), (11, .int (gX6_needs f i)), (10, .int (oF f i 4)), (9, .int 3), (0, .ref (ca 0 0)), (1, .int (nI (nF f))), (2, .ref q7)]) hx hb dL_isWell_305 hl (k := 12) rfl (nI_1 i) (by decide) rfl (fun ls hl => ?_)
                                        refine lv_goto (tgt := 27) hx hb dL_isWell_308 (by decide) ?_
                                        exact ih27 (i + 1) (by omega) _ _ _ hP hD hS (lv_sub hl [10, 11, 12, 5, 4, 3, 2, 1, 0] rfl)
                                    · --f
                                      exact absurd c_270 (by decide)
                                  · --f
                                    exact absurd c_259 (by decide)
                    · --f
                      exact absurd c_150 (by decide)
              · --f
                exact absurd c_93 (by decide)
  exact loop27 (nF f) 0 (by omega) _ _ _ hP hD hS (lv_sub hl [8, 7, 6, 5, 4, 3, 2, 1, 0] rfl)
