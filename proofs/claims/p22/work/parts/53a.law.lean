/-! ===== the law ===== -/
set_option maxHeartbeats 16000000 in
set_option maxRecDepth 100000 in
theorem law_body {p : Program} {l : Launch} {e : Env} {s : State} {m : MethodId} {below : List Frame} {meth : Method} {c : Code} {b L : Nat} {xs : Nat → Int32} {D : va_G} {ck : Nat → ClassId} {tt : Nat → Nat} {ca cb : Nat → Nat → Nat} (h : LX p s m meth c b L xs D ck tt) (hLL : L ≤ 260) (C E : CS) (f : FS) (hC : LR C f) (hE : LR E f) (hW : WI f 0) (hT : TX E) : ∀ (H : Heap) (locs : List Loc) (ls : Array Slot), va_P D vwCl (clW ck ca C ++ clW ck cb E) H → va_D (fun q : Nat => s.heap.size ≤ q) (clW ck ca C ++ clW ck cb E) → va_S (fun q : Nat => s.heap.size ≤ q) s.heap H locs → lv_has ls 5 [(2, .ref (cb 0 0)), (1, .ref (ca 0 0)), (0, .ref b)] → W p l e room_1 s m #[Value.ref b] below meth c H locs 508 3538 (lw_Z below #[Value.ref b] s) (F0 m 16 ls []) := by
  intro H locs ls hP hD hS hl
  obtain ⟨hx, hb, hr, hml, hown, hts, hX, hbl, hlk, hN, hK, -, hZ⟩ := id h
  have hA : ∀ q : Nat, s.heap.size ≤ q → (fun q : Nat => s.heap.size ≤ q) q := fun _ h => h
  have hbA : ¬ (fun q : Nat => s.heap.size ≤ q) b := Nat.not_le.mpr hbl
  refine lv_iconst (v := 1) hx hb dL_law_16 (by decide) ?_
  refine lv_istore_n (lv' := [(3, .int 1), (2, .ref (cb 0 0)), (1, .ref (ca 0 0)), (0, .ref b)]) hx hb dL_law_17 rfl hl (by decide) rfl (fun ls hl => ?_)
  refine lv_iconst (v := (nI 0)) hx hb dL_law_18 (by decide) ?_
  refine lv_istore (lv' := [(4, .int (nI 0)), (3, .int 1), (2, .ref (cb 0 0)), (1, .ref (ca 0 0)), (0, .ref b)]) hx hb dL_law_19 hl (by decide) rfl (fun ls hl => ?_)
  have loop21 : ∀ (fu21 : Nat) (k : Nat) (C E : CS) (f : FS), (k + fu21 = 48) → (LR C f) → (LR E f) → (WI f (150 * k)) → (TX E) → ∀ (H : Heap) (locs : List Loc) (ls : Array Slot), va_P D vwCl (clW ck ca C ++ clW ck cb E) H → va_D (fun q : Nat => s.heap.size ≤ q) (clW ck ca C ++ clW ck cb E) → va_S (fun q : Nat => s.heap.size ≤ q) s.heap H locs → lv_has ls 5 [(0, .ref b), (1, .ref (ca 0 0)), (2, .ref (cb 0 0)), (3, .int 1), (4, .int (nI k))] → W p l e room_1 s m #[Value.ref b] below meth c H locs (508 + 151 * k) (3538 + 2404 * k) (lw_Z below #[Value.ref b] s) (F0 m 21 ls []) := by
    intro fu21
    induction fu21 with
    | zero =>
        intro k C E f hf21 hC hE hW hT H locs ls hP hD hS hl
        obtain rfl : k = 48 := by omega
        refine lv_iload hx hb dL_law_21 (lv_at hl 4 rfl) ?_
        refine lv_bipush (v := (nI 48)) hx hb dL_law_23 (by decide) ?_
        refine lv_icmp_ge (tgt := 75) hx hb dL_law_25 (by decide) (fun c_25 => ?_) (fun c_25 => ?_)
        · --t
          refine lv_iload_n hx hb dL_law_75 rfl (lv_at hl 3 rfl) ?_
          refine lv_if_eq (tgt := 98) hx hb dL_law_76 (by decide) (fun c_76 => ?_) (fun c_76 => ?_)
          · --t
            exact absurd c_76 (by decide)
          · --f
            refine lv_aload_n hx hb dL_law_79 rfl (lv_at hl 1 rfl) ?_
            refine xreti (va_runS (As := [.ref (ca 0 0)]) (rest := []) ⟨hx, hb, hml, hown, hts⟩ (mL_isWell l D ck ca C f (150 * 48) hC hW (by omega) _) (va_cwS 1 hts gL_law_L_isWell rfl rfl rfl (by decide +kernel) ⟨Nat.le_of_ble_eq_true rfl, Nat.le_of_ble_eq_true rfl⟩) (xpreS hN hK hP hD (List.Perm.refl _)) rfl rfl hl.1 rfl (lv_room (Nat.le_of_ble_eq_true rfl)) dL_law_80 ⟨show (508 + 151 * 48) + 1 ≤ 600000 by omega, show (3538 + 2404 * 48) + 4 ≤ 7302250 by omega⟩) hP hD hS hA (List.Perm.refl _) (List.Perm.refl _) (fun H locs hP hD hS => ?_)
            have hP : va_P D vwCl (clW ck ca C ++ clW ck cb E) H := hP
            have hD : va_D (fun q : Nat => s.heap.size ≤ q) (clW ck ca C ++ clW ck cb E) := hD
            refine lv_if_eq (tgt := 98) hx hb dL_law_83 (by decide) (fun c_83 => ?_) (fun c_83 => ?_)
            · --t
              exact absurd c_83 (by decide)
            · --f
              refine lv_aload_n hx hb dL_law_86 rfl (lv_at hl 1 rfl) ?_
              refine lv_aload_n hx hb dL_law_87 rfl (lv_at hl 2 rfl) ?_
              refine xreti (va_runS (As := [.ref (ca 0 0), .ref (cb 0 0)]) (rest := []) ⟨hx, hb, hml, hown, hts⟩ (mL_areAlike l D ck ca cb C E f hC hE _) (va_cwS 2 hts gL_law_L_areAlike rfl rfl rfl (by decide +kernel) ⟨Nat.le_of_ble_eq_true rfl, Nat.le_of_ble_eq_true rfl⟩) (xpreS hN hK hP hD pm_all) rfl rfl hl.1 rfl (lv_room (Nat.le_of_ble_eq_true rfl)) dL_law_88 ⟨show ((508 + 151 * 48) + 1) + 0 ≤ 600000 by omega, show ((3538 + 2404 * 48) + 4) + 0 ≤ 7302250 by omega⟩) hP hD hS hA pm_all pm_all' (fun H locs hP hD hS => ?_)
              have hP : va_P D vwCl (clW ck ca C ++ clW ck cb E) H := hP
              have hD : va_D (fun q : Nat => s.heap.size ≤ q) (clW ck ca C ++ clW ck cb E) := hD
              refine lv_if_eq (tgt := 98) hx hb dL_law_91 (by decide) (fun c_91 => ?_) (fun c_91 => ?_)
              · --t
                exact absurd c_91 (by decide)
              · --f
                refine lv_iconst (v := 1) hx hb dL_law_94 (by decide) ?_
                refine lv_goto (tgt := 99) hx hb dL_law_95 (by decide) ?_
                refine va_forget (fun q hq => hS.2.2 q hq) ?_
                refine W.widen (k := 600000) (n := 7302250) (by omega) (by omega) ?_
                exact lw_ret hx hb hr hlk dL_law_99
        · --f
          exact absurd (nI_le (by omega) (by omega)) c_25
    | succ fu21 ih21 =>
        intro k C E f hf21 hC hE hW hT H locs ls hP hD hS hl
        refine lv_iload hx hb dL_law_21 (lv_at hl 4 rfl) ?_
        refine lv_bipush (v := (nI 48)) hx hb dL_law_23 (by decide) ?_
        refine lv_icmp_ge (tgt := 75) hx hb dL_law_25 (by decide) (fun c_25 => ?_) (fun c_25 => ?_)
        · --t
          exact absurd c_25 (nI_ge (by omega) (by omega))
        · --f
          refine lv_iload_n hx hb dL_law_28 rfl (lv_at hl 3 rfl) ?_
          refine lv_if_eq (tgt := 75) hx hb dL_law_29 (by decide) (fun c_29 => ?_) (fun c_29 => ?_)
          · --t
            exact absurd c_29 (by decide)
          · --f
            refine lv_aload_n hx hb dL_law_32 rfl (lv_at hl 1 rfl) ?_
            refine lv_aload_n hx hb dL_law_33 rfl (lv_at hl 2 rfl) ?_
            refine lv_aload_n hx hb dL_law_34 rfl (lv_at hl 0 rfl) ?_
            refine lv_iload hx hb dL_law_35 (lv_at hl 4 rfl) ?_
            refine xrete (va_runS (As := [.ref b, .int (nI k)]) (rest := [.ref (cb 0 0), .ref (ca 0 0)]) ⟨hx, hb, hml, hown, hts⟩ (mL_cell l D ck (b := b) (L := L) (xs := xs) k (by omega) (by omega) _) (va_cwS 2 hts gL_law_L_cell rfl rfl rfl (by decide +kernel) ⟨Nat.le_of_ble_eq_true rfl, Nat.le_of_ble_eq_true rfl⟩) (xpreSX hX hbl hbA hS hA hN hK hP hD pm_none) rfl rfl hl.1 rfl (lv_room (Nat.le_of_ble_eq_true rfl)) dL_law_37 ⟨(show (508 + 151 * k) + 0 ≤ 600000 by omega), (show (3538 + 2404 * k) + 0 ≤ 7302250 by omega)⟩) hP hD hS hA pm_none (fun _ => pm_none) (fun v1 _ H locs hP hD hS => ?_)
            have hP : va_P D vwCl (clW ck ca C ++ clW ck cb E) H := hP
            have hD : va_D (fun q : Nat => s.heap.size ≤ q) (clW ck ca C ++ clW ck cb E) := hD
            refine lv_aload_n hx hb dL_law_40 rfl (lv_at hl 0 rfl) ?_
            refine lv_iload hx hb dL_law_41 (lv_at hl 4 rfl) ?_
            refine lv_iconst (v := 1) hx hb dL_law_43 (by decide) ?_
            refine lv_iadd hx hb dL_law_44 ?_
            rw [show (((nI k) + 1) : Int32) = (nI (k + 1)) from (nI_1 k)]
            refine xrete (va_runS (As := [.ref b, .int (nI (k + 1))]) (rest := [.int v1, .ref (cb 0 0), .ref (ca 0 0)]) ⟨hx, hb, hml, hown, hts⟩ (mL_cell l D ck (b := b) (L := L) (xs := xs) (k + 1) (by omega) (by omega) _) (va_cwS 2 hts gL_law_L_cell rfl rfl rfl (by decide +kernel) ⟨Nat.le_of_ble_eq_true rfl, Nat.le_of_ble_eq_true rfl⟩) (xpreSX hX hbl hbA hS hA hN hK hP hD pm_none) rfl rfl hl.1 rfl (lv_room (Nat.le_of_ble_eq_true rfl)) dL_law_45 ⟨(show (508 + 151 * k) + 0 ≤ 600000 by omega), (show (3538 + 2404 * k) + 0 ≤ 7302250 by omega)⟩) hP hD hS hA pm_none (fun _ => pm_none) (fun v2 _ H locs hP hD hS => ?_)
            have hP : va_P D vwCl (clW ck ca C ++ clW ck cb E) H := hP
            have hD : va_D (fun q : Nat => s.heap.size ≤ q) (clW ck ca C ++ clW ck cb E) := hD
            refine lv_iconst (v := 2) hx hb dL_law_48 (by decide) ?_
            refine lv_ishr hx hb dL_law_49 ?_
            refine xrete (va_runS (As := [.ref (ca 0 0), .ref (cb 0 0), .int v1, .int (v2 >>> 2)]) (rest := []) ⟨hx, hb, hml, hown, hts⟩ (mL_isStep l D ck tt ca cb C E f (150 * k) hC hE hW hT (by omega) v1 (v2 >>> 2) _) (va_cwS 4 hts gL_law_L_isStep rfl rfl rfl (by decide +kernel) ⟨Nat.le_of_ble_eq_true rfl, Nat.le_of_ble_eq_true rfl⟩) (xpreSZ hZ hS hA hN hK hP hD pm_all) rfl rfl hl.1 rfl (lv_room (Nat.le_of_ble_eq_true rfl)) dL_law_50 ⟨show 508 + 151 * k + 150 ≤ 600000 by omega, show 3538 + 2404 * k + 2400 ≤ 7302250 by omega⟩) hP hD hS hA pm_all (fun _ => pm_all') (fun u hu H locs hP hD hS => ?_)
            obtain ⟨C1, E1, f1⟩ := u
            obtain ⟨hC1, hE1, hW1, hT1⟩ := hu
            have hP : va_P D vwCl (clW ck ca C1 ++ clW ck cb E1) H := hP
            have hD : va_D (fun q : Nat => s.heap.size ≤ q) (clW ck ca C1 ++ clW ck cb E1) := hD
            refine lv_if_eq (tgt := 67) hx hb dL_law_53 (by decide) (fun c_53 => ?_) (fun c_53 => ?_)
            · --t
              exact absurd c_53 (by decide)
            · --f
              refine lv_aload_n hx hb dL_law_56 rfl (lv_at hl 1 rfl) ?_
              refine xreti (va_runS (As := [.ref (ca 0 0)]) (rest := []) ⟨hx, hb, hml, hown, hts⟩ (mL_isWell l D ck ca C1 f1 (150 * k + 150) hC1 hW1 (by omega) _) (va_cwS 1 hts gL_law_L_isWell rfl rfl rfl (by decide +kernel) ⟨Nat.le_of_ble_eq_true rfl, Nat.le_of_ble_eq_true rfl⟩) (xpreS hN hK hP hD (List.Perm.refl _)) rfl rfl hl.1 rfl (lv_room (Nat.le_of_ble_eq_true rfl)) dL_law_57 ⟨show (508 + 151 * k + 150) + 1 ≤ 600000 by omega, show (3538 + 2404 * k + 2400) + 4 ≤ 7302250 by omega⟩) hP hD hS hA (List.Perm.refl _) (List.Perm.refl _) (fun H locs hP hD hS => ?_)
              have hP : va_P D vwCl (clW ck ca C1 ++ clW ck cb E1) H := hP
              have hD : va_D (fun q : Nat => s.heap.size ≤ q) (clW ck ca C1 ++ clW ck cb E1) := hD
              refine lv_if_eq (tgt := 67) hx hb dL_law_60 (by decide) (fun c_60 => ?_) (fun c_60 => ?_)
              · --t
                exact absurd c_60 (by decide)
              · --f
                refine lv_iconst (v := 1) hx hb dL_law_63 (by decide) ?_
                refine lv_goto (tgt := 68) hx hb dL_law_64 (by decide) ?_
                refine lv_istore_n (lv' := [(3, .int 1), (0, .ref b), (1, .ref (ca 0 0)), (2, .ref (cb 0 0)), (4, .int (nI k))]) hx hb dL_law_68 rfl hl (by decide) rfl (fun ls hl => ?_)
                refine lv_iinc (v := (nI (k + 1))) (lv' := [(4, .int (nI (k + 1))), (3, .int 1), (0, .ref b), (1, .ref (ca 0 0)), (2, .ref (cb 0 0))]) hx hb dL_law_69 hl (k := 4) rfl (nI_1 k) (by decide) rfl (fun ls hl => ?_)
                refine lv_goto (tgt := 21) hx hb dL_law_72 (by decide) ?_
                refine W.widen (k := 508 + 151 * (k + 1)) (n := 3538 + 2404 * (k + 1)) (by omega) (by omega) ?_
                exact ih21 (k + 1) C1 E1 f1 (by omega) hC1 hE1 (WI_le hW1 (by omega)) hT1 _ _ _ hP hD hS (lv_sub hl [2, 3, 4, 1, 0] rfl)
  exact loop21 48 0 C E f (by omega) hC hE hW hT _ _ _ hP hD hS (lv_sub hl [4, 3, 2, 1, 0] rfl)
set_option maxHeartbeats 16000000 in
set_option maxRecDepth 100000 in
theorem whole_start {p : Program} {e : Env} {s : State} {m : MethodId} {below : List Frame} {meth : Method} {c : Code} (l : Launch) (hflags : l.flags = flags0) {b L : Nat} {xs : Nat → Int32} (hL : L ≤ 260) (hAt : lw_At p s m meth c b L xs) : W p l e room_1 s m #[Value.ref b] below meth c s.heap [] 0 0 (lw_Z below #[Value.ref b] s) (entryFrame m ([Value.ref b] : List Value).toArray 5) := by
  obtain ⟨D, ck, tt, h⟩ := lw_LX hAt
  obtain ⟨hx, hb, hr, hml, hown, hts, hX, hbl, hlk, hN, hK, hC, hZ⟩ := id h
  have hA : ∀ q : Nat, s.heap.size ≤ q → (fun q : Nat => s.heap.size ≤ q) q := fun _ h => h
  have hS : va_S (fun q : Nat => s.heap.size ≤ q) s.heap s.heap [] := va_S.rf
  have hP : va_P D vwCl [] s.heap := fun k q h => by simp at h
  have hD : va_D (fun q : Nat => s.heap.size ≤ q) [] := ⟨fun i j p q h => by simp at h, fun k q h => by simp at h⟩
  have hl := lv_entry ([.ref b]) (n := 5) (Nat.le_of_ble_eq_true rfl)
  rw [lg_entry_eq]
  generalize (lg_sl ([.ref b]) ++ List.replicate (5 - (lg_sl ([.ref b])).length) Slot.unset).toArray = ls at hl ⊢
  have hl : lv_has ls 5 [(0, .ref b)] := hl
  refine va_new (ci := 5) (fs := [.null, .null, .null, .null, .int 0, .null, .null]) (C := RX5) (T := TX5) (N := 7) hx hb hts inlX5 tyX5 tyX5_ok hown (hts (.classLink RL 10 RX5) (by decide +kernel)) (hts (.instantiable RX5 7) (by decide +kernel)) (hts (.initialized RX5) (by decide +kernel)) hK hP hD hS hA rfl (fun j hj => by rcases (show j = 0 ∨ j = 1 ∨ j = 2 ∨ j = 3 ∨ j = 4 ∨ j = 5 ∨ j = 6 by omega) with rfl | rfl | rfl | rfl | rfl | rfl | rfl <;> rfl) (Nat.le_of_ble_eq_true rfl) (Nat.le_of_ble_eq_true rfl) dL_law_0 (fun q1 H hP hD hS => ?_)
  refine lv_dup hx hb dL_law_3 rfl ?_
  refine xretn (va_runI (As := []) (rest := [.ref q1]) ⟨hx, hb, hml, hown, hts⟩ (mX5_init l D ck tt q1 H.size) (cwI 0 hts gL_law_X5_init rfl rfl rfl (hts (.initialized RX5) (by decide +kernel)) (hts (.methodLink RL 82 yX5_init) (by decide +kernel)) (hts (.instanceMethod yX5_init) (by decide +kernel)) rfl (by decide +kernel) ⟨Nat.le_of_ble_eq_true rfl, Nat.le_of_ble_eq_true rfl⟩) (xpreSC (As := [.ref q1]) hC hS hA hN hK hP hD List.perm_append_comm) rfl rfl hl.1 rfl (lv_room (Nat.le_of_ble_eq_true rfl)) dL_law_4 ⟨Nat.le_of_ble_eq_true rfl, Nat.le_of_ble_eq_true rfl⟩) hP hD hS hA List.perm_append_comm (fun u => List.perm_append_comm) (fun u H locs hP hD hS => ?_)
  have hP : va_P D vwCl (clW ck (cf q1 u.1) (C0 u.2)) H := hP
  have hD : va_D (fun q => s.heap.size ≤ q) (clW ck (cf q1 u.1) (C0 u.2)) := hD
  refine lv_astore_n (lv' := [(1, .ref q1), (0, .ref b)]) hx hb dL_law_7 rfl hl (by decide) rfl (fun ls hl => ?_)
  refine va_new (ci := 5) (fs := [.null, .null, .null, .null, .int 0, .null, .null]) (C := RX5) (T := TX5) (N := 7) hx hb hts inlX5 tyX5 tyX5_ok hown (hts (.classLink RL 10 RX5) (by decide +kernel)) (hts (.instantiable RX5 7) (by decide +kernel)) (hts (.initialized RX5) (by decide +kernel)) hK hP hD hS hA rfl (fun j hj => by rcases (show j = 0 ∨ j = 1 ∨ j = 2 ∨ j = 3 ∨ j = 4 ∨ j = 5 ∨ j = 6 by omega) with rfl | rfl | rfl | rfl | rfl | rfl | rfl <;> rfl) (Nat.le_of_ble_eq_true rfl) (Nat.le_of_ble_eq_true rfl) dL_law_8 (fun q2 H hP hD hS => ?_)
  refine lv_dup hx hb dL_law_11 rfl ?_
  refine xretn (va_runI (As := []) (rest := [.ref q2]) ⟨hx, hb, hml, hown, hts⟩ (mX5_init l D ck tt q2 H.size) (cwI 0 hts gL_law_X5_init rfl rfl rfl (hts (.initialized RX5) (by decide +kernel)) (hts (.methodLink RL 82 yX5_init) (by decide +kernel)) (hts (.instanceMethod yX5_init) (by decide +kernel)) rfl (by decide +kernel) ⟨Nat.le_of_ble_eq_true rfl, Nat.le_of_ble_eq_true rfl⟩) (xpreSC (As := [.ref q2]) hC hS hA hN hK hP hD List.perm_append_comm) rfl rfl hl.1 rfl (lv_room (Nat.le_of_ble_eq_true rfl)) dL_law_12 ⟨Nat.le_of_ble_eq_true rfl, Nat.le_of_ble_eq_true rfl⟩) hP hD hS hA List.perm_append_comm (fun w => List.perm_append_comm) (fun w H locs hP hD hS => ?_)
  have hP : va_P D vwCl (clW ck (cf q1 u.1) (C0 u.2) ++ clW ck (cf q2 w.1) (C0 w.2)) H := hP
  have hD : va_D (fun q => s.heap.size ≤ q) (clW ck (cf q1 u.1) (C0 u.2) ++ clW ck (cf q2 w.1) (C0 w.2)) := hD
  refine lv_astore_n (lv' := [(2, .ref q2), (1, .ref q1), (0, .ref b)]) hx hb dL_law_15 rfl hl (by decide) rfl (fun ls hl => ?_)
  refine W.widen (k := 508) (n := 3538) (Nat.le_of_ble_eq_true rfl) (Nat.le_of_ble_eq_true rfl) ?_
  exact law_body (ca := cf q1 u.1) (cb := cf q2 w.1) h hL _ _ r0 LR_0 LR_0 WI_0 (show ¬ (0 : Int32) < 0 by decide) H locs ls hP hD hS hl
