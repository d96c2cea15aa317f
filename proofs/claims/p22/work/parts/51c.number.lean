theorem dg_nar {a b : Nat} : vp_nar .char (dg a b) = dg a b := nar_nI (by omega)
theorem dg_eq {a : Nat} (b : Int32) {n : Nat} (hb : b = nI n) (hn : 0 < n ∧ n < 2 ^ 31) (ha : a < 2 ^ 31) : ((48 + (nI a / b - nI a / b / 10 * 10)).toUInt32 % 65536).toInt32 = dg a n := by
  subst hb
  unfold dg
  have h : a / n < 2 ^ 31 := Nat.lt_of_le_of_lt (Nat.div_le_self _ _) ha
  rw [pk_div ha hn.1 hn.2, show (10 : Int32) = nI 10 from rfl, pk_rem h (by decide) (by decide), show (48 : Int32) = nI 48 from rfl, nI_add, pk_char, pk_tn (by omega), Nat.mod_eq_of_lt (by omega)]
def rmL_number : Room := { frames := 2, cells := 0, slots := 0, locals := 42 }
set_option maxHeartbeats 16000000 in
set_option maxRecDepth 100000 in
theorem mL_number (l : Launch) (D : va_G) (ck : Nat → ClassId) (ca : Nat → Nat → Nat) (C : CS) (a : Nat) (ha : 1 ≤ a ∧ a ≤ 200) (tl : List Int32) (ht : TLs C.2.2.1 tl) (htl : tl.length ≤ 50) : xMe l yL_number wsL_number rmL_number D ck [.ref (ca 0 0), .int (nI a)] (clW ck ca C) (fun u : CS => clW ck ca u) (fun u : CS => TLs u.2.2.1 (tl ++ dgs a) ∧ u.1 = C.1 ∧ u.2.1 = C.2.1) (fun _ => 1) 0 0 := by
  refine xMet (by decide) rfl (Nat.le_of_ble_eq_true rfl) ?_
  intro zp ze s zm zb zt zc hx hb hr hml hown hts hlk hnm hN hK hP hD ls hl
  have hown : s.vm.findClass RL = some zm.cls := hown
  have hl : lv_has ls 4 [(0, .ref (ca 0 0)), (1, .int (nI a))] := hl
  have hS : va_S (va_A (clW ck ca C) s.heap.size) s.heap s.heap [] := va_S.rf
  have hA : ∀ zq : Nat, s.heap.size ≤ zq → (va_A (clW ck ca C) s.heap.size) zq := fun zq h => Or.inr h
  refine lv_iconst (v := 1) hx hb dL_number_0 (by decide) ?_
  refine lv_istore_n (lv' := [(2, .int 1), (0, .ref (ca 0 0)), (1, .int (nI a))]) hx hb dL_number_1 rfl hl (by decide) rfl (fun ls hl => ?_)
  refine lv_iload_n hx hb dL_number_2 rfl (lv_at hl 2 rfl) ?_
  refine lv_bipush (v := (nI 99)) hx hb dL_number_3 (by decide) ?_
  refine lv_icmp_le (tgt := 13) hx hb dL_number_5 (by decide) (fun c_5 => ?_) (fun c_5 => ?_)
  · --t
    refine lv_iload_n hx hb dL_number_13 rfl (lv_at hl 2 rfl) ?_
    refine lv_bipush (v := (nI 9)) hx hb dL_number_14 (by decide) ?_
    refine lv_icmp_le (tgt := 24) hx hb dL_number_16 (by decide) (fun c_16 => ?_) (fun c_16 => ?_)
    · --t
      refine lv_iconst (v := 1) hx hb dL_number_24 (by decide) ?_
      refine lv_istore_n (lv' := [(3, .int 1), (2, .int 1), (0, .ref (ca 0 0)), (1, .int (nI a))]) hx hb dL_number_25 rfl hl (by decide) rfl (fun ls hl => ?_)
      refine lv_iload_n hx hb dL_number_26 rfl (lv_at hl 0 rfl) ?_
      refine lv_if_le (tgt := 65) hx hb dL_number_27 (by decide) (fun c_27 => ?_) (fun c_27 => ?_)
      · --t
        exact absurd c_27 (by decide)
      · --f
        refine lv_iload_n hx hb dL_number_30 rfl (lv_at hl 1 rfl) ?_
        refine lv_if_eq (tgt := 55) hx hb dL_number_31 (by decide) (fun c_31 => ?_) (fun c_31 => ?_)
        · --t
          exact absurd c_31 (by decide)
        · --f
          refine lv_aload_n hx hb dL_number_34 rfl (lv_at hl 2 rfl) ?_
          refine lv_bipush (v := 48) hx hb dL_number_35 (by decide) ?_
          refine lv_iload_n hx hb dL_number_37 rfl (lv_at hl 3 rfl) ?_
          refine lv_iload_n hx hb dL_number_38 rfl (lv_at hl 0 rfl) ?_
          refine lv_idiv hx hb dL_number_39 (by decide) ?_
          refine lv_bipush (v := 10) hx hb dL_number_40 (by decide) ?_
          refine lv_irem hx hb dL_number_42 (by decide) ?_
          refine lv_iadd hx hb dL_number_43 ?_
          refine lv_i2c (v := (((48 + (((nI a) / 1) - ((nI a) / 1) / 10 * 10))).toUInt32 % 65536).toInt32) hx hb dL_number_44 rfl ?_
          rw [show ((((48 + (((nI a) / 1) - ((nI a) / 1) / 10 * 10))).toUInt32 % 65536).toInt32 : Int32) = (dg a 1) from (dg_eq 1 (by decide) (by decide) (by omega))]
          refine xreti (va_runV (As := [.int (dg a 1)]) (rest := []) ⟨hx, hb, hml, hown, hts⟩ (mX5_type l D ck ca C (dg a 1) (TLs_ht ht (by first | omega | (simp only [List.length_append, List.length_cons, List.length_nil]; omega))) _) (cwV 1 hts gL_number_X5_type rfl rfl rfl (by decide +kernel) ⟨Nat.le_of_ble_eq_true rfl, Nat.le_of_ble_eq_true rfl⟩) (xpreV hN hK hP hD pm_all 0 rfl rfl rfl) rfl rfl hl.1 rfl (lv_room (Nat.le_of_ble_eq_true rfl)) dL_number_45 ⟨Nat.le_of_ble_eq_true rfl, Nat.le_of_ble_eq_true rfl⟩) hP hD hS hA pm_all pm_all' (fun H locs hP hD hS => ?_)
          have hP : va_P D vwCl (clW ck ca ((gX5_type C (dg a 1)).2)) H := hP
          have hD : va_D (va_A (clW ck ca C) s.heap.size) (clW ck ca ((gX5_type C (dg a 1)).2)) := hD
          obtain ⟨t1_1, t2_1, t3_1, t4_1⟩ := ty_TL (C := C) (l := tl) (c := dg a 1) ht (by first | omega | (simp only [List.length_append, List.length_cons, List.length_nil]; omega)) dg_nar
          rw [t1_1]
          generalize (gX5_type C (dg a 1)).2 = C1 at hP hD t2_1 t3_1 t4_1
          have hP : va_P D vwCl (clW ck ca C1) H := hP
          have hD : va_D (va_A (clW ck ca C) s.heap.size) (clW ck ca C1) := hD
          refine lv_if_le (tgt := 55) hx hb dL_number_48 (by decide) (fun c_48 => ?_) (fun c_48 => ?_)
          · --t
            exact absurd c_48 (nI_nle (by omega) (by first | omega | (simp only [List.length_append, List.length_cons, List.length_nil]; omega)))
          · --f
            refine lv_iconst (v := 1) hx hb dL_number_51 (by decide) ?_
            refine lv_goto (tgt := 56) hx hb dL_number_52 (by decide) ?_
            refine lv_istore_n (lv' := [(2, .int 1), (3, .int 1), (0, .ref (ca 0 0)), (1, .int (nI a))]) hx hb dL_number_56 rfl hl (by decide) rfl (fun ls hl => ?_)
            refine lv_iload_n hx hb dL_number_57 rfl (lv_at hl 1 rfl) ?_
            refine lv_bipush (v := 10) hx hb dL_number_58 (by decide) ?_
            refine lv_idiv hx hb dL_number_60 (by decide) ?_
            rw [show ((1 / 10) : Int32) = 0 from (by decide)]
            refine lv_istore_n (lv' := [(3, .int 0), (2, .int 1), (0, .ref (ca 0 0)), (1, .int (nI a))]) hx hb dL_number_61 rfl hl (by decide) rfl (fun ls hl => ?_)
            refine lv_goto (tgt := 26) hx hb dL_number_62 (by decide) ?_
            refine lv_iload_n hx hb dL_number_26 rfl (lv_at hl 0 rfl) ?_
            refine lv_if_le (tgt := 65) hx hb dL_number_27 (by decide) (fun c_27 => ?_) (fun c_27 => ?_)
            · --t
              refine lv_iload_n hx hb dL_number_65 rfl (lv_at hl 1 rfl) ?_
              have e99 : nI a ≤ nI 99 ↔ a ≤ 99 := nI_leI (by omega) (by decide)
              have e9 : nI a ≤ nI 9 ↔ a ≤ 9 := nI_leI (by omega) (by decide)
              have z5 := And.intro (e99.mp c_5) (e9.mp c_16)
              have hd : dgs a = [dg a 1] := by
                unfold dgs
                rw [if_neg (show ¬ 99 < a by omega), if_neg (show ¬ 9 < a by omega)]
              exact xezret C1 ⟨by rw [hd]; simpa [List.append_assoc] using t2_1, t3_1, t4_1⟩ hx hb hr hlk hP hD hS (Or.inr rfl) rfl rfl dL_number_66
            · --f
              exact absurd (by decide) c_27
    · --f
      refine lv_bipush (v := 10) hx hb dL_number_19 (by decide) ?_
      refine lv_goto (tgt := 25) hx hb dL_number_21 (by decide) ?_
      refine lv_istore_n (lv' := [(3, .int 10), (2, .int 1), (0, .ref (ca 0 0)), (1, .int (nI a))]) hx hb dL_number_25 rfl hl (by decide) rfl (fun ls hl => ?_)
      refine lv_iload_n hx hb dL_number_26 rfl (lv_at hl 0 rfl) ?_
      refine lv_if_le (tgt := 65) hx hb dL_number_27 (by decide) (fun c_27 => ?_) (fun c_27 => ?_)
      · --t
        exact absurd c_27 (by decide)
      · --f
        refine lv_iload_n hx hb dL_number_30 rfl (lv_at hl 1 rfl) ?_
        refine lv_if_eq (tgt := 55) hx hb dL_number_31 (by decide) (fun c_31 => ?_) (fun c_31 => ?_)
        · --t
          exact absurd c_31 (by decide)
        · --f
          refine lv_aload_n hx hb dL_number_34 rfl (lv_at hl 2 rfl) ?_
          refine lv_bipush (v := 48) hx hb dL_number_35 (by decide) ?_
          refine lv_iload_n hx hb dL_number_37 rfl (lv_at hl 3 rfl) ?_
          refine lv_iload_n hx hb dL_number_38 rfl (lv_at hl 0 rfl) ?_
          refine lv_idiv hx hb dL_number_39 (by decide) ?_
          refine lv_bipush (v := 10) hx hb dL_number_40 (by decide) ?_
          refine lv_irem hx hb dL_number_42 (by decide) ?_
          refine lv_iadd hx hb dL_number_43 ?_
          refine lv_i2c (v := (((48 + (((nI a) / 10) - ((nI a) / 10) / 10 * 10))).toUInt32 % 65536).toInt32) hx hb dL_number_44 rfl ?_
          rw [show ((((48 + (((nI a) / 10) - ((nI a) / 10) / 10 * 10))).toUInt32 % 65536).toInt32 : Int32) = (dg a 10) from (dg_eq 10 (by decide) (by decide) (by omega))]
          refine xreti (va_runV (As := [.int (dg a 10)]) (rest := []) ⟨hx, hb, hml, hown, hts⟩ (mX5_type l D ck ca C (dg a 10) (TLs_ht ht (by first | omega | (simp only [List.length_append, List.length_cons, List.length_nil]; omega))) _) (cwV 1 hts gL_number_X5_type rfl rfl rfl (by decide +kernel) ⟨Nat.le_of_ble_eq_true rfl, Nat.le_of_ble_eq_true rfl⟩) (xpreV hN hK hP hD pm_all 0 rfl rfl rfl) rfl rfl hl.1 rfl (lv_room (Nat.le_of_ble_eq_true rfl)) dL_number_45 ⟨Nat.le_of_ble_eq_true rfl, Nat.le_of_ble_eq_true rfl⟩) hP hD hS hA pm_all pm_all' (fun H locs hP hD hS => ?_)
          have hP : va_P D vwCl (clW ck ca ((gX5_type C (dg a 10)).2)) H := hP
          have hD : va_D (va_A (clW ck ca C) s.heap.size) (clW ck ca ((gX5_type C (dg a 10)).2)) := hD
          obtain ⟨t1_1, t2_1, t3_1, t4_1⟩ := ty_TL (C := C) (l := tl) (c := dg a 10) ht (by first | omega | (simp only [List.length_append, List.length_cons, List.length_nil]; omega)) dg_nar
          rw [t1_1]
          generalize (gX5_type C (dg a 10)).2 = C1 at hP hD t2_1 t3_1 t4_1
          have hP : va_P D vwCl (clW ck ca C1) H := hP
          have hD : va_D (va_A (clW ck ca C) s.heap.size) (clW ck ca C1) := hD
          refine lv_if_le (tgt := 55) hx hb dL_number_48 (by decide) (fun c_48 => ?_) (fun c_48 => ?_)
          · --t
            exact absurd c_48 (nI_nle (by omega) (by first | omega | (simp only [List.length_append, List.length_cons, List.length_nil]; omega)))
          · --f
            refine lv_iconst (v := 1) hx hb dL_number_51 (by decide) ?_
            refine lv_goto (tgt := 56) hx hb dL_number_52 (by decide) ?_
            refine lv_istore_n (lv' := [(2, .int 1), (3, .int 10), (0, .ref (ca 0 0)), (1, .int (nI a))]) hx hb dL_number_56 rfl hl (by decide) rfl (fun ls hl => ?_)
            refine lv_iload_n hx hb dL_number_57 rfl (lv_at hl 1 rfl) ?_
            refine lv_bipush (v := 10) hx hb dL_number_58 (by decide) ?_
            refine lv_idiv hx hb dL_number_60 (by decide) ?_
            rw [show ((10 / 10) : Int32) = 1 from (by decide)]
            refine lv_istore_n (lv' := [(3, .int 1), (2, .int 1), (0, .ref (ca 0 0)), (1, .int (nI a))]) hx hb dL_number_61 rfl hl (by decide) rfl (fun ls hl => ?_)
            refine lv_goto (tgt := 26) hx hb dL_number_62 (by decide) ?_
            refine lv_iload_n hx hb dL_number_26 rfl (lv_at hl 0 rfl) ?_
            refine lv_if_le (tgt := 65) hx hb dL_number_27 (by decide) (fun c_27 => ?_) (fun c_27 => ?_)
            · --t
              exact absurd c_27 (by decide)
            · --f
              refine lv_iload_n hx hb dL_number_30 rfl (lv_at hl 1 rfl) ?_
              refine lv_if_eq (tgt := 55) hx hb dL_number_31 (by decide) (fun c_31 => ?_) (fun c_31 => ?_)
              · --t
                exact absurd c_31 (by decide)
              · --f
                refine lv_aload_n hx hb dL_number_34 rfl (lv_at hl 2 rfl) ?_
                refine lv_bipush (v := 48) hx hb dL_number_35 (by decide) ?_
                refine lv_iload_n hx hb dL_number_37 rfl (lv_at hl 3 rfl) ?_
                refine lv_iload_n hx hb dL_number_38 rfl (lv_at hl 0 rfl) ?_
                refine lv_idiv hx hb dL_number_39 (by decide) ?_
                refine lv_bipush (v := 10) hx hb dL_number_40 (by decide) ?_
                refine lv_irem hx hb dL_number_42 (by decide) ?_
                refine lv_iadd hx hb dL_number_43 ?_
                refine lv_i2c (v := (((48 + (((nI a) / 1) - ((nI a) / 1) / 10 * 10))).toUInt32 % 65536).toInt32) hx hb dL_number_44 rfl ?_
                rw [show ((((48 + (((nI a) / 1) - ((nI a) / 1) / 10 * 10))).toUInt32 % 65536).toInt32 : Int32) = (dg a 1) from (dg_eq 1 (by decide) (by decide) (by omega))]
                refine xreti (va_runV (As := [.int (dg a 1)]) (rest := []) ⟨hx, hb, hml, hown, hts⟩ (mX5_type l D ck ca C1 (dg a 1) (TLs_ht t2_1 (by first | omega | (simp only [List.length_append, List.length_cons, List.length_nil]; omega))) _) (cwV 1 hts gL_number_X5_type rfl rfl rfl (by decide +kernel) ⟨Nat.le_of_ble_eq_true rfl, Nat.le_of_ble_eq_true rfl⟩) (xpreV hN hK hP hD pm_all 0 rfl rfl rfl) rfl rfl hl.1 rfl (lv_room (Nat.le_of_ble_eq_true rfl)) dL_number_45 ⟨Nat.le_of_ble_eq_true rfl, Nat.le_of_ble_eq_true rfl⟩) hP hD hS hA pm_all pm_all' (fun H locs hP hD hS => ?_)
                have hP : va_P D vwCl (clW ck ca ((gX5_type C1 (dg a 1)).2)) H := hP
                have hD : va_D (va_A (clW ck ca C) s.heap.size) (clW ck ca ((gX5_type C1 (dg a 1)).2)) := hD
                obtain ⟨t1_2, t2_2, t3_2, t4_2⟩ := ty_TL (C := C1) (l := (tl ++ [dg a 10])) (c := dg a 1) t2_1 (by first | omega | (simp only [List.length_append, List.length_cons, List.length_nil]; omega)) dg_nar
                rw [t1_2]
                generalize (gX5_type C1 (dg a 1)).2 = C2 at hP hD t2_2 t3_2 t4_2
                have hP : va_P D vwCl (clW ck ca C2) H := hP
                have hD : va_D (va_A (clW ck ca C) s.heap.size) (clW ck ca C2) := hD
                refine lv_if_le (tgt := 55) hx hb dL_number_48 (by decide) (fun c_48 => ?_) (fun c_48 => ?_)
                · --t
                  exact absurd c_48 (nI_nle (by omega) (by first | omega | (simp only [List.length_append, List.length_cons, List.length_nil]; omega)))
                · --f
                  refine lv_iconst (v := 1) hx hb dL_number_51 (by decide) ?_
                  refine lv_goto (tgt := 56) hx hb dL_number_52 (by decide) ?_
                  refine lv_istore_n (lv' := [(2, .int 1), (3, .int 1), (0, .ref (ca 0 0)), (1, .int (nI a))]) hx hb dL_number_56 rfl hl (by decide) rfl (fun ls hl => ?_)
                  refine lv_iload_n hx hb dL_number_57 rfl (lv_at hl 1 rfl) ?_
                  refine lv_bipush (v := 10) hx hb dL_number_58 (by decide) ?_
                  refine lv_idiv hx hb dL_number_60 (by decide) ?_
                  rw [show ((1 / 10) : Int32) = 0 from (by decide)]
                  refine lv_istore_n (lv' := [(3, .int 0), (2, .int 1), (0, .ref (ca 0 0)), (1, .int (nI a))]) hx hb dL_number_61 rfl hl (by decide) rfl (fun ls hl => ?_)
                  refine lv_goto (tgt := 26) hx hb dL_number_62 (by decide) ?_
                  refine lv_iload_n hx hb dL_number_26 rfl (lv_at hl 0 rfl) ?_
                  refine lv_if_le (tgt := 65) hx hb dL_number_27 (by decide) (fun c_27 => ?_) (fun c_27 => ?_)
                  · --t
                    refine lv_iload_n hx hb dL_number_65 rfl (lv_at hl 1 rfl) ?_
                    have e99 : nI a ≤ nI 99 ↔ a ≤ 99 := nI_leI (by omega) (by decide)
                    have e9 : nI a ≤ nI 9 ↔ a ≤ 9 := nI_leI (by omega) (by decide)
                    have z5 := And.intro (e99.mp c_5) (mt e9.mpr c_16)
                    have hd : dgs a = [dg a 10, dg a 1] := by
                      unfold dgs
                      rw [if_neg (show ¬ 99 < a by omega), if_pos (show 9 < a by omega)]
                    exact xezret C2 ⟨by rw [hd]; simpa [List.append_assoc] using t2_2, (t3_2.trans t3_1), (t4_2.trans t4_1)⟩ hx hb hr hlk hP hD hS (Or.inr rfl) rfl rfl dL_number_66
                  · --f
                    exact absurd (by decide) c_27
  · --f
    refine lv_bipush (v := 100) hx hb dL_number_8 (by decide) ?_
    refine lv_goto (tgt := 25) hx hb dL_number_10 (by decide) ?_
    refine lv_istore_n (lv' := [(3, .int 100), (2, .int 1), (0, .ref (ca 0 0)), (1, .int (nI a))]) hx hb dL_number_25 rfl hl (by decide) rfl (fun ls hl => ?_)
    refine lv_iload_n hx hb dL_number_26 rfl (lv_at hl 0 rfl) ?_
    refine lv_if_le (tgt := 65) hx hb dL_number_27 (by decide) (fun c_27 => ?_) (fun c_27 => ?_)
    · --t
      exact absurd c_27 (by decide)
    · --f
      refine lv_iload_n hx hb dL_number_30 rfl (lv_at hl 1 rfl) ?_
      refine lv_if_eq (tgt := 55) hx hb dL_number_31 (by decide) (fun c_31 => ?_) (fun c_31 => ?_)
      · --t
        exact absurd c_31 (by decide)
      · --f
        refine lv_aload_n hx hb dL_number_34 rfl (lv_at hl 2 rfl) ?_
        refine lv_bipush (v := 48) hx hb dL_number_35 (by decide) ?_
        refine lv_iload_n hx hb dL_number_37 rfl (lv_at hl 3 rfl) ?_
        refine lv_iload_n hx hb dL_number_38 rfl (lv_at hl 0 rfl) ?_
        refine lv_idiv hx hb dL_number_39 (by decide) ?_
        refine lv_bipush (v := 10) hx hb dL_number_40 (by decide) ?_
        refine lv_irem hx hb dL_number_42 (by decide) ?_
        refine lv_iadd hx hb dL_number_43 ?_
        refine lv_i2c (v := (((48 + (((nI a) / 100) - ((nI a) / 100) / 10 * 10))).toUInt32 % 65536).toInt32) hx hb dL_number_44 rfl ?_
        rw [show ((((48 + (((nI a) / 100) - ((nI a) / 100) / 10 * 10))).toUInt32 % 65536).toInt32 : Int32) = (dg a 100) from (dg_eq 100 (by decide) (by decide) (by omega))]
        refine xreti (va_runV (As := [.int (dg a 100)]) (rest := []) ⟨hx, hb, hml, hown, hts⟩ (mX5_type l D ck ca C (dg a 100) (TLs_ht ht (by first | omega | (simp only [List.length_append, List.length_cons, List.length_nil]; omega))) _) (cwV 1 hts gL_number_X5_type rfl rfl rfl (by decide +kernel) ⟨Nat.le_of_ble_eq_true rfl, Nat.le_of_ble_eq_true rfl⟩) (xpreV hN hK hP hD pm_all 0 rfl rfl rfl) rfl rfl hl.1 rfl (lv_room (Nat.le_of_ble_eq_true rfl)) dL_number_45 ⟨Nat.le_of_ble_eq_true rfl, Nat.le_of_ble_eq_true rfl⟩) hP hD hS hA pm_all pm_all' (fun H locs hP hD hS => ?_)
        have hP : va_P D vwCl (clW ck ca ((gX5_type C (dg a 100)).2)) H := hP
        have hD : va_D (va_A (clW ck ca C) s.heap.size) (clW ck ca ((gX5_type C (dg a 100)).2)) := hD
        obtain ⟨t1_1, t2_1, t3_1, t4_1⟩ := ty_TL (C := C) (l := tl) (c := dg a 100) ht (by first | omega | (simp only [List.length_append, List.length_cons, List.length_nil]; omega)) dg_nar
        rw [t1_1]
        generalize (gX5_type C (dg a 100)).2 = C1 at hP hD t2_1 t3_1 t4_1
        have hP : va_P D vwCl (clW ck ca C1) H := hP
        have hD : va_D (va_A (clW ck ca C) s.heap.size) (clW ck ca C1) := hD
        refine lv_if_le (tgt := 55) hx hb dL_number_48 (by decide) (fun c_48 => ?_) (fun c_48 => ?_)
        · --t
          exact absurd c_48 (nI_nle (by omega) (by first | omega | (simp only [List.length_append, List.length_cons, List.length_nil]; omega)))
        · --f
          refine lv_iconst (v := 1) hx hb dL_number_51 (by decide) ?_
          refine lv_goto (tgt := 56) hx hb dL_number_52 (by decide) ?_
          refine lv_istore_n (lv' := [(2, .int 1), (3, .int 100), (0, .ref (ca 0 0)), (1, .int (nI a))]) hx hb dL_number_56 rfl hl (by decide) rfl (fun ls hl => ?_)
          refine lv_iload_n hx hb dL_number_57 rfl (lv_at hl 1 rfl) ?_
          refine lv_bipush (v := 10) hx hb dL_number_58 (by decide) ?_
          refine lv_idiv hx hb dL_number_60 (by decide) ?_
          rw [show ((100 / 10) : Int32) = 10 from (by decide)]
          refine lv_istore_n (lv' := [(3, .int 10), (2, .int 1), (0, .ref (ca 0 0)), (1, .int (nI a))]) hx hb dL_number_61 rfl hl (by decide) rfl (fun ls hl => ?_)
          refine lv_goto (tgt := 26) hx hb dL_number_62 (by decide) ?_
          refine lv_iload_n hx hb dL_number_26 rfl (lv_at hl 0 rfl) ?_
          refine lv_if_le (tgt := 65) hx hb dL_number_27 (by decide) (fun c_27 => ?_) (fun c_27 => ?_)
          · --t
            exact absurd c_27 (by decide)
          · --f
            refine lv_iload_n hx hb dL_number_30 rfl (lv_at hl 1 rfl) ?_
            refine lv_if_eq (tgt := 55) hx hb dL_number_31 (by decide) (fun c_31 => ?_) (fun c_31 => ?_)
            · --t
              exact absurd c_31 (by decide)
            · --f
              refine lv_aload_n hx hb dL_number_34 rfl (lv_at hl 2 rfl) ?_
              refine lv_bipush (v := 48) hx hb dL_number_35 (by decide) ?_
              refine lv_iload_n hx hb dL_number_37 rfl (lv_at hl 3 rfl) ?_
              refine lv_iload_n hx hb dL_number_38 rfl (lv_at hl 0 rfl) ?_
              refine lv_idiv hx hb dL_number_39 (by decide) ?_
              refine lv_bipush (v := 10) hx hb dL_number_40 (by decide) ?_
              refine lv_irem hx hb dL_number_42 (by decide) ?_
              refine lv_iadd hx hb dL_number_43 ?_
              refine lv_i2c (v := (((48 + (((nI a) / 10) - ((nI a) / 10) / 10 * 10))).toUInt32 % 65536).toInt32) hx hb dL_number_44 rfl ?_
              rw [show ((((48 + (((nI a) / 10) - ((nI a) / 10) / 10 * 10))).toUInt32 % 65536).toInt32 : Int32) = (dg a 10) from (dg_eq 10 (by decide) (by decide) (by omega))]
              refine xreti (va_runV (As := [.int (dg a 10)]) (rest := []) ⟨hx, hb, hml, hown, hts⟩ (mX5_type l D ck ca C1 (dg a 10) (TLs_ht t2_1 (by first | omega | (simp only [List.length_append, List.length_cons, List.length_nil]; omega))) _) (cwV 1 hts gL_number_X5_type rfl rfl rfl (by decide +kernel) ⟨Nat.le_of_ble_eq_true rfl, Nat.le_of_ble_eq_true rfl⟩) (xpreV hN hK hP hD pm_all 0 rfl rfl rfl) rfl rfl hl.1 rfl (lv_room (Nat.le_of_ble_eq_true rfl)) dL_number_45 ⟨Nat.le_of_ble_eq_true rfl, Nat.le_of_ble_eq_true rfl⟩) hP hD hS hA pm_all pm_all' (fun H locs hP hD hS => ?_)
              have hP : va_P D vwCl (clW ck ca ((gX5_type C1 (dg a 10)).2)) H := hP
              have hD : va_D (va_A (clW ck ca C) s.heap.size) (clW ck ca ((gX5_type C1 (dg a 10)).2)) := hD
              obtain ⟨t1_2, t2_2, t3_2, t4_2⟩ := ty_TL (C := C1) (l := (tl ++ [dg a 100])) (c := dg a 10) t2_1 (by first | omega | (simp only [List.length_append, List.length_cons, List.length_nil]; omega)) dg_nar
              rw [t1_2]
              generalize (gX5_type C1 (dg a 10)).2 = C2 at hP hD t2_2 t3_2 t4_2
              have hP : va_P D vwCl (clW ck ca C2) H := hP
              have hD : va_D (va_A (clW ck ca C) s.heap.size) (clW ck ca C2) := hD
              refine lv_if_le (tgt := 55) hx hb dL_number_48 (by decide) (fun c_48 => ?_) (fun c_48 => ?_)
              · --t
                exact absurd c_48 (nI_nle (by omega) (by first | omega | (simp only [List.length_append, List.length_cons, List.length_nil]; omega)))
              · --f
                refine lv_iconst (v := 1) hx hb dL_number_51 (by decide) ?_
                refine lv_goto (tgt := 56) hx hb dL_number_52 (by decide) ?_
                refine lv_istore_n (lv' := [(2, .int 1), (3, .int 10), (0, .ref (ca 0 0)), (1, .int (nI a))]) hx hb dL_number_56 rfl hl (by decide) rfl (fun ls hl => ?_)
                refine lv_iload_n hx hb dL_number_57 rfl (lv_at hl 1 rfl) ?_
                refine lv_bipush (v := 10) hx hb dL_number_58 (by decide) ?_
                refine lv_idiv hx hb dL_number_60 (by decide) ?_
                rw [show ((10 / 10) : Int32) = 1 from (by decide)]
                refine lv_istore_n (lv' := [(3, .int 1), (2, .int 1), (0, .ref (ca 0 0)), (1, .int (nI a))]) hx hb dL_number_61 rfl hl (by decide) rfl (fun ls hl => ?_)
                refine lv_goto (tgt := 26) hx hb dL_number_62 (by decide) ?_
                refine lv_iload_n hx hb dL_number_26 rfl (lv_at hl 0 rfl) ?_
                refine lv_if_le (tgt := 65) hx hb dL_number_27 (by decide) (fun c_27 => ?_) (fun c_27 => ?_)
                · --t
                  exact absurd c_27 (by decide)
                · --f
                  refine lv_iload_n hx hb dL_number_30 rfl (lv_at hl 1 rfl) ?_
                  refine lv_if_eq (tgt := 55) hx hb dL_number_31 (by decide) (fun c_31 => ?_) (fun c_31 => ?_)
                  · --t
                    exact absurd c_31 (by decide)
                  · --f
                    refine lv_aload_n hx hb dL_number_34 rfl (lv_at hl 2 rfl) ?_
                    refine lv_bipush (v := 48) hx hb dL_number_35 (by decide) ?_
                    refine lv_iload_n hx hb dL_number_37 rfl (lv_at hl 3 rfl) ?_
                    refine lv_iload_n hx hb dL_number_38 rfl (lv_at hl 0 rfl) ?_
                    refine lv_idiv hx hb dL_number_39 (by decide) ?_
                    refine lv_bipush (v := 10) hx hb dL_number_40 (by decide) ?_
                    refine lv_irem hx hb dL_number_42 (by decide) ?_
                    refine lv_iadd hx hb dL_number_43 ?_
                    refine lv_i2c (v := (((48 + (((nI a) / 1) - ((nI a) / 1) / 10 * 10))).toUInt32 % 65536).toInt32) hx hb dL_number_44 rfl ?_
                    rw [show ((((48 + (((nI a) / 1) - ((nI a) / 1) / 10 * 10))).toUInt32 % 65536).toInt32 : Int32) = (dg a 1) from (dg_eq 1 (by decide) (by decide) (by omega))]
                    refine xreti (va_runV (As := [.int (dg a 1)]) (rest := []) ⟨hx, hb, hml, hown, hts⟩ (mX5_type l D ck ca C2 (dg a 1) (TLs_ht t2_2 (by first | omega | (simp only [List.length_append, List.length_cons, List.length_nil]; omega))) _) (cwV 1 hts gL_number_X5_type rfl rfl rfl (by decide +kernel) ⟨Nat.le_of_ble_eq_true rfl, Nat.le_of_ble_eq_true rfl⟩) (xpreV hN hK hP hD pm_all 0 rfl rfl rfl) rfl rfl hl.1 rfl (lv_room (Nat.le_of_ble_eq_true rfl)) dL_number_45 ⟨Nat.le_of_ble_eq_true rfl, Nat.le_of_ble_eq_true rfl⟩) hP hD hS hA pm_all pm_all' (fun H locs hP hD hS => ?_)
                    have hP : va_P D vwCl (clW ck ca ((gX5_type C2 (dg a 1)).2)) H := hP
                    have hD : va_D (va_A (clW ck ca C) s.heap.size) (clW ck ca ((gX5_type C2 (dg a 1)).2)) := hD
                    obtain ⟨t1_3, t2_3, t3_3, t4_3⟩ := ty_TL (C := C2) (l := ((tl ++ [dg a 100]) ++ [dg a 10])) (c := dg a 1) t2_2 (by first | omega | (simp only [List.length_append, List.length_cons, List.length_nil]; omega)) dg_nar
                    rw [t1_3]
                    generalize (gX5_type C2 (dg a 1)).2 = C3 at hP hD t2_3 t3_3 t4_3
                    have hP : va_P D vwCl (clW ck ca C3) H := hP
                    have hD : va_D (va_A (clW ck ca C) s.heap.size) (clW ck ca C3) := hD
                    refine lv_if_le (tgt := 55) hx hb dL_number_48 (by decide) (fun c_48 => ?_) (fun c_48 => ?_)
                    · --t
                      exact absurd c_48 (nI_nle (by omega) (by first | omega | (simp only [List.length_append, List.length_cons, List.length_nil]; omega)))
                    · --f
                      refine lv_iconst (v := 1) hx hb dL_number_51 (by decide) ?_
                      refine lv_goto (tgt := 56) hx hb dL_number_52 (by decide) ?_
                      refine lv_istore_n (lv' := [(2, .int 1), (3, .int 1), (0, .ref (ca 0 0)), (1, .int (nI a))]) hx hb dL_number_56 rfl hl (by decide) rfl (fun ls hl => ?_)
                      refine lv_iload_n hx hb dL_number_57 rfl (lv_at hl 1 rfl) ?_
                      refine lv_bipush (v := 10) hx hb dL_number_58 (by decide) ?_
                      refine lv_idiv hx hb dL_number_60 (by decide) ?_
                      rw [show ((1 / 10) : Int32) = 0 from (by decide)]
                      refine lv_istore_n (lv' := [(3, .int 0), (2, .int 1), (0, .ref (ca 0 0)), (1, .int (nI a))]) hx hb dL_number_61 rfl hl (by decide) rfl (fun ls hl => ?_)
                      refine lv_goto (tgt := 26) hx hb dL_number_62 (by decide) ?_
                      refine lv_iload_n hx hb dL_number_26 rfl (lv_at hl 0 rfl) ?_
                      refine lv_if_le (tgt := 65) hx hb dL_number_27 (by decide) (fun c_27 => ?_) (fun c_27 => ?_)
                      · --t
                        refine lv_iload_n hx hb dL_number_65 rfl (lv_at hl 1 rfl) ?_
                        have e99 : nI a ≤ nI 99 ↔ a ≤ 99 := nI_leI (by omega) (by decide)
                        have e9 : nI a ≤ nI 9 ↔ a ≤ 9 := nI_leI (by omega) (by decide)
                        have z5 := mt e99.mpr c_5
                        have hd : dgs a = [dg a 100, dg a 10, dg a 1] := by
                          unfold dgs
                          rw [if_pos (show 99 < a by omega)]
                        exact xezret C3 ⟨by rw [hd]; simpa [List.append_assoc] using t2_3, (t3_3.trans (t3_2.trans t3_1)), (t4_3.trans (t4_2.trans t4_1))⟩ hx hb hr hlk hP hD hS (Or.inr rfl) rfl rfl dL_number_66
                      · --f
                        exact absurd (by decide) c_27
