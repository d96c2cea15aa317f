def rmL_isStep : Room := { frames := 8, cells := 150, slots := 2400, locals := 201 }
set_option maxHeartbeats 16000000 in
set_option maxRecDepth 100000 in
theorem s_ask_c {zp : Program} {l : Launch} {ze : Env} {s : State} {zm : MethodId} {zb : List Frame} {zt : Method} {zc : Code} {D : va_G} {ck : Nat → ClassId} {tt : Nat → Nat} {ca cb : Nat → Nat → Nat} {C E : CS} {f : FS} {N : Nat} {x y : Int32} (hx : zp.tables.exec = Jvm.exec) (hb : zc.code = cL_isStep) (hr : zt.sig.returnType = some .boolean) (hml : zc.maxLocals = 15) (hown : s.vm.findClass RL = some zm.cls) (hts : ∀ w ∈ wsL_isStep, w.before ([.ref (ca 0 0), .ref (cb 0 0), .int x, .int y] : List Value).toArray s = true) (hlk : zt.locks = false) (hN : xN s) (hK : va_K D vwCl (xT ck) s) (hZ : xStat tt (va_A (clW ck ca C ++ clW ck cb E) s.heap.size) s s.heap) (hA : ∀ zq : Nat, s.heap.size ≤ zq → (va_A (clW ck ca C ++ clW ck cb E) s.heap.size) zq) (hC : LR C f) (hE : LR E f) (hW : WI f N) (hT : TX E) (hb6 : N + 150 ≤ 1000000) {w a b : Nat} (hw : w < 3) (ha : 1 ≤ a ∧ a ≤ 200) (hbb : 1 ≤ b ∧ b ≤ 200) : ∀ (H : Heap) (locs : List Loc) (ls : Array Slot), va_P D vwCl (clW ck ca C ++ clW ck cb E) H → va_D (va_A (clW ck ca C ++ clW ck cb E) s.heap.size) (clW ck ca C ++ clW ck cb E) → va_S (va_A (clW ck ca C ++ clW ck cb E) s.heap.size) s.heap H locs → lv_has ls 15 [(0, .ref (ca 0 0)), (1, .ref (cb 0 0)), (2, .int x), (3, .int y), (4, .int (x >>> 4)), (5, .int (nI (nF f))), (8, .int (gX6_granted f)), (9, .int (nI w)), (10, .int (nI a)), (11, .int (nI b))] → W zp l ze rmL_isStep s zm ([.ref (ca 0 0), .ref (cb 0 0), .int x, .int y] : List Value).toArray zb zt zc H locs 0 0 (MQ zb (xQe D (clW ck ca C ++ clW ck cb E) (fun u : CS × CS × FS => clW ck ca u.1 ++ clW ck cb u.2.1) (fun u : CS × CS × FS => LR u.1 u.2.2 ∧ LR u.2.1 u.2.2 ∧ WI u.2.2 (N + 150) ∧ TX u.2.1) (fun _ => 1) s.heap.size) ([.ref (ca 0 0), .ref (cb 0 0), .int x, .int y] : List Value).toArray s 150 2400 (va_A (clW ck ca C ++ clW ck cb E) s.heap.size)) (F0 zm 169 ls []) := by
  intro H locs ls hP hD hS hl
  have hm := hC.1.2
  have hn := n_le hm
  have hok := okJ_N hw ha hbb
  refine lv_aload_n hx hb dL_isStep_169 rfl (lv_at hl 0 rfl) ?_
  refine lv_iload hx hb dL_isStep_170 (lv_at hl 7 rfl) ?_
  refine lv_iload hx hb dL_isStep_172 (lv_at hl 8 rfl) ?_
  refine lv_iload hx hb dL_isStep_174 (lv_at hl 9 rfl) ?_
  by_cases h16 : f 4 = 16
  · --full
    refine xreti (va_runV (As := [.int (nI w), .int (nI a), .int (nI b)]) (rest := []) ⟨hx, hb, hml, hown, hts⟩ (mX5_ask l D ck ca C (nI w) (nI a) (nI b) (LR_hz hC) (LR_hn hC) _) (cwV 3 hts gL_isStep_X5_ask rfl rfl rfl (by decide +kernel) ⟨Nat.le_of_ble_eq_true rfl, Nat.le_of_ble_eq_true rfl⟩) (xpreV hN hK hP hD (List.Perm.refl _) 0 rfl rfl rfl) rfl rfl hl.1 rfl (lv_room (Nat.le_of_ble_eq_true rfl)) dL_isStep_176 ⟨Nat.le_of_ble_eq_true rfl, Nat.le_of_ble_eq_true rfl⟩) hP hD hS hA (List.Perm.refl _) (List.Perm.refl _) (fun H locs hP hD hS => ?_)
    have hP : va_P D vwCl (clW ck ca ((gX5_ask C (nI w) (nI a) (nI b)).2) ++ clW ck cb E) H := hP
    have hD : va_D (va_A (clW ck ca C ++ clW ck cb E) s.heap.size) (clW ck ca ((gX5_ask C (nI w) (nI a) (nI b)).2) ++ clW ck cb E) := hD
    have eaC176 : (gX5_ask C (nI w) (nI a) (nI b)) = ((-3), C) := ((l_ask hC hok).1 h16)
    have ebC176 : (gX5_ask C (nI w) (nI a) (nI b)).1 = (-3) := by rw [eaC176]
    have ecC176 : (gX5_ask C (nI w) (nI a) (nI b)).2 = C := by rw [eaC176]
    rw [ebC176]
    rw [ecC176] at hP hD
    refine lv_istore (lv' := [(12, .int (-3)), (0, .ref (ca 0 0)), (1, .ref (cb 0 0)), (2, .int x), (3, .int y), (4, .int (x >>> 4)), (5, .int (nI (nF f))), (8, .int (gX6_granted f)), (9, .int (nI w)), (10, .int (nI a)), (11, .int (nI b))]) hx hb dL_isStep_179 hl (by decide) rfl (fun ls hl => ?_)
    refine lv_aload_n hx hb dL_isStep_181 rfl (lv_at hl 2 rfl) ?_
    refine xreti (va_runV (As := []) (rest := []) ⟨hx, hb, hml, hown, hts⟩ (mX5_clearText l D ck cb E _) (cwV 0 hts gL_isStep_X5_clearText rfl rfl rfl (by decide +kernel) ⟨Nat.le_of_ble_eq_true rfl, Nat.le_of_ble_eq_true rfl⟩) (xpreV hN hK hP hD List.perm_append_comm 0 rfl rfl rfl) rfl rfl hl.1 rfl (lv_room (Nat.le_of_ble_eq_true rfl)) dL_isStep_182 ⟨Nat.le_of_ble_eq_true rfl, Nat.le_of_ble_eq_true rfl⟩) hP hD hS hA List.perm_append_comm List.perm_append_comm (fun H locs hP hD hS => ?_)
    have hP : va_P D vwCl (clW ck ca C ++ clW ck cb ((gX5_clearText E).2)) H := hP
    have hD : va_D (va_A (clW ck ca C ++ clW ck cb E) s.heap.size) (clW ck ca C ++ clW ck cb ((gX5_clearText E).2)) := hD
    have hE1 : LR (gX5_clearText E).2 f := hE
    have ht1 : TLs (gX5_clearText E).2.2.2.1 [] := TLs_nil
    generalize (gX5_clearText E).2 = E1 at hP hD hE1 ht1
    have hP : va_P D vwCl (clW ck ca C ++ clW ck cb E1) H := hP
    have hD : va_D (va_A (clW ck ca C ++ clW ck cb E) s.heap.size) (clW ck ca C ++ clW ck cb E1) := hD
    refine lv_if_lt (tgt := 250) hx hb dL_isStep_185 (by decide) (fun c_185 => ?_) (fun c_185 => ?_)
    · --t
      exact absurd c_185 hT
    · --f
      refine lv_aload_n hx hb dL_isStep_188 rfl (lv_at hl 2 rfl) ?_
      refine lv_iload hx hb dL_isStep_189 (lv_at hl 8 rfl) ?_
      refine lv_if_ne (tgt := 199) hx hb dL_isStep_191 (by decide) (fun c_191 => ?_) (fun c_191 => ?_)
      · --t
        refine lv_iload hx hb dL_isStep_199 (lv_at hl 8 rfl) ?_
        refine lv_iconst (v := (nI 1)) hx hb dL_isStep_201 (by decide) ?_
        refine lv_icmp_ne (tgt := 210) hx hb dL_isStep_202 (by decide) (fun c_202 => ?_) (fun c_202 => ?_)
        · --t
          refine lv_bipush (v := 109) hx hb dL_isStep_210 (by decide) ?_
          rw [show (109 : Int32) = (wc w) from (wc_2 hw c_191 c_202)]
          refine xreti (va_runV (As := [.int (wc w)]) (rest := []) ⟨hx, hb, hml, hown, hts⟩ (mX5_type l D ck cb E1 (wc w) (TLs_ht ht1 (by have := dgs_len (v := a); have := dgs_len (v := b); first | omega | (simp only [List.length_append, List.length_cons, List.length_nil]; omega))) _) (cwV 1 hts gL_isStep_X5_type rfl rfl rfl (by decide +kernel) ⟨Nat.le_of_ble_eq_true rfl, Nat.le_of_ble_eq_true rfl⟩) (xpreV hN hK hP hD List.perm_append_comm 0 rfl rfl rfl) rfl rfl hl.1 rfl (lv_room (Nat.le_of_ble_eq_true rfl)) dL_isStep_212 ⟨Nat.le_of_ble_eq_true rfl, Nat.le_of_ble_eq_true rfl⟩) hP hD hS hA List.perm_append_comm List.perm_append_comm (fun H locs hP hD hS => ?_)
          have hP : va_P D vwCl (clW ck ca C ++ clW ck cb ((gX5_type E1 (wc w)).2)) H := hP
          have hD : va_D (va_A (clW ck ca C ++ clW ck cb E) s.heap.size) (clW ck ca C ++ clW ck cb ((gX5_type E1 (wc w)).2)) := hD
          obtain ⟨ty1, ht2, ye1, yf1⟩ := ty_TL (C := E1) (l := []) (c := (wc w)) ht1 (by have := dgs_len (v := a); have := dgs_len (v := b); first | omega | (simp only [List.length_append, List.length_cons, List.length_nil]; omega)) wc_nar
          rw [ty1]
          generalize (gX5_type E1 (wc w)).2 = E2 at hP hD ht2 ye1 yf1
          have hE2 : LR E2 f := LR_eq hE1 ye1 yf1
          have hP : va_P D vwCl (clW ck ca C ++ clW ck cb E2) H := hP
          have hD : va_D (va_A (clW ck ca C ++ clW ck cb E) s.heap.size) (clW ck ca C ++ clW ck cb E2) := hD
          rw [show ((nI ([].length + 1)) : Int32) = (nI 1) from rfl]
          refine lv_iconst (v := (nI 1)) hx hb dL_isStep_215 (by decide) ?_
          refine lv_icmp_ne (tgt := 250) hx hb dL_isStep_216 (by decide) (fun c_216 => ?_) (fun c_216 => ?_)
          · --t
            exact absurd rfl c_216
          · --f
            refine lv_aload_n hx hb dL_isStep_219 rfl (lv_at hl 2 rfl) ?_
            refine lv_iload hx hb dL_isStep_220 (lv_at hl 9 rfl) ?_
            refine xrete (va_runS (As := [.ref (cb 0 0), .int (nI a)]) (rest := []) ⟨hx, hb, hml, hown, hts⟩ (mL_number l D ck cb E2 a ha ([] ++ [wc w]) ht2 (by have := dgs_len (v := a); first | omega | (simp only [List.length_append, List.length_cons, List.length_nil]; omega)) _) (va_cwS 2 hts gL_isStep_L_number rfl rfl rfl (by decide +kernel) ⟨Nat.le_of_ble_eq_true rfl, Nat.le_of_ble_eq_true rfl⟩) (xpreS hN hK hP hD List.perm_append_comm) rfl rfl hl.1 rfl (lv_room (Nat.le_of_ble_eq_true rfl)) dL_isStep_222 ⟨Nat.le_of_ble_eq_true rfl, Nat.le_of_ble_eq_true rfl⟩) hP hD hS hA List.perm_append_comm (fun _ => List.perm_append_comm) (fun E3 h99 H locs hP hD hS => ?_)
            have hP : va_P D vwCl (clW ck ca C ++ clW ck cb E3) H := hP
            have hD : va_D (va_A (clW ck ca C ++ clW ck cb E) s.heap.size) (clW ck ca C ++ clW ck cb E3) := hD
            obtain ⟨ht3, ye2, yf2⟩ := h99
            have hE3 : LR E3 f := LR_eq hE2 ye2 yf2
            have hP : va_P D vwCl (clW ck ca C ++ clW ck cb E3) H := hP
            have hD : va_D (va_A (clW ck ca C ++ clW ck cb E) s.heap.size) (clW ck ca C ++ clW ck cb E3) := hD
            refine lv_if_eq (tgt := 250) hx hb dL_isStep_225 (by decide) (fun c_225 => ?_) (fun c_225 => ?_)
            · --t
              exact absurd c_225 (by decide)
            · --f
              refine lv_aload_n hx hb dL_isStep_228 rfl (lv_at hl 2 rfl) ?_
              refine lv_bipush (v := 120) hx hb dL_isStep_229 (by decide) ?_
              refine xreti (va_runV (As := [.int 120]) (rest := []) ⟨hx, hb, hml, hown, hts⟩ (mX5_type l D ck cb E3 120 (TLs_ht ht3 (by have := dgs_len (v := a); have := dgs_len (v := b); first | omega | (simp only [List.length_append, List.length_cons, List.length_nil]; omega))) _) (cwV 1 hts gL_isStep_X5_type rfl rfl rfl (by decide +kernel) ⟨Nat.le_of_ble_eq_true rfl, Nat.le_of_ble_eq_true rfl⟩) (xpreV hN hK hP hD List.perm_append_comm 0 rfl rfl rfl) rfl rfl hl.1 rfl (lv_room (Nat.le_of_ble_eq_true rfl)) dL_isStep_231 ⟨Nat.le_of_ble_eq_true rfl, Nat.le_of_ble_eq_true rfl⟩) hP hD hS hA List.perm_append_comm List.perm_append_comm (fun H locs hP hD hS => ?_)
              have hP : va_P D vwCl (clW ck ca C ++ clW ck cb ((gX5_type E3 120).2)) H := hP
              have hD : va_D (va_A (clW ck ca C ++ clW ck cb E) s.heap.size) (clW ck ca C ++ clW ck cb ((gX5_type E3 120).2)) := hD
              obtain ⟨ty3, ht4, ye3, yf3⟩ := ty_TL (C := E3) (l := (([] ++ [wc w]) ++ dgs a)) (c := 120) ht3 (by have := dgs_len (v := a); have := dgs_len (v := b); first | omega | (simp only [List.length_append, List.length_cons, List.length_nil]; omega)) (nar_nI (q := 120) (by decide))
              rw [ty3]
              generalize (gX5_type E3 120).2 = E4 at hP hD ht4 ye3 yf3
              have hE4 : LR E4 f := LR_eq hE3 ye3 yf3
              have hP : va_P D vwCl (clW ck ca C ++ clW ck cb E4) H := hP
              have hD : va_D (va_A (clW ck ca C ++ clW ck cb E) s.heap.size) (clW ck ca C ++ clW ck cb E4) := hD
              refine lv_if_le (tgt := 250) hx hb dL_isStep_234 (by decide) (fun c_234 => ?_) (fun c_234 => ?_)
              · --t
                exact absurd c_234 (nI_nle (by omega) (by have := dgs_len (v := a); first | omega | (simp only [List.length_append, List.length_cons, List.length_nil]; omega)))
              · --f
                refine lv_aload_n hx hb dL_isStep_237 rfl (lv_at hl 2 rfl) ?_
                refine lv_iload hx hb dL_isStep_238 (lv_at hl 10 rfl) ?_
                refine xrete (va_runS (As := [.ref (cb 0 0), .int (nI b)]) (rest := []) ⟨hx, hb, hml, hown, hts⟩ (mL_number l D ck cb E4 b hbb ((([] ++ [wc w]) ++ dgs a) ++ [120]) ht4 (by have := dgs_len (v := a); first | omega | (simp only [List.length_append, List.length_cons, List.length_nil]; omega)) _) (va_cwS 2 hts gL_isStep_L_number rfl rfl rfl (by decide +kernel) ⟨Nat.le_of_ble_eq_true rfl, Nat.le_of_ble_eq_true rfl⟩) (xpreS hN hK hP hD List.perm_append_comm) rfl rfl hl.1 rfl (lv_room (Nat.le_of_ble_eq_true rfl)) dL_isStep_240 ⟨Nat.le_of_ble_eq_true rfl, Nat.le_of_ble_eq_true rfl⟩) hP hD hS hA List.perm_append_comm (fun _ => List.perm_append_comm) (fun E5 h99 H locs hP hD hS => ?_)
                have hP : va_P D vwCl (clW ck ca C ++ clW ck cb E5) H := hP
                have hD : va_D (va_A (clW ck ca C ++ clW ck cb E) s.heap.size) (clW ck ca C ++ clW ck cb E5) := hD
                obtain ⟨ht5, ye4, yf4⟩ := h99
                have hE5 : LR E5 f := LR_eq hE4 ye4 yf4
                have hP : va_P D vwCl (clW ck ca C ++ clW ck cb E5) H := hP
                have hD : va_D (va_A (clW ck ca C ++ clW ck cb E) s.heap.size) (clW ck ca C ++ clW ck cb E5) := hD
                refine lv_if_eq (tgt := 250) hx hb dL_isStep_243 (by decide) (fun c_243 => ?_) (fun c_243 => ?_)
                · --t
                  exact absurd c_243 (by decide)
                · --f
                  refine lv_iconst (v := 1) hx hb dL_isStep_246 (by decide) ?_
                  refine lv_goto (tgt := 251) hx hb dL_isStep_247 (by decide) ?_
                  refine lv_istore (lv' := [(13, .int 1), (12, .int (-3)), (0, .ref (ca 0 0)), (1, .ref (cb 0 0)), (2, .int x), (3, .int y), (4, .int (x >>> 4)), (5, .int (nI (nF f))), (8, .int (gX6_granted f)), (9, .int (nI w)), (10, .int (nI a)), (11, .int (nI b))]) hx hb dL_isStep_251 hl (by decide) rfl (fun ls hl => ?_)
                  refine lv_aload_n hx hb dL_isStep_253 rfl (lv_at hl 3 rfl) ?_
                  have hj5 : TLs E5.2.2.1 (jtx w a b) := by simpa [jtx, List.append_assoc] using ht5
                  have hTn := TX_aa hj5 jtx_len
                  refine xreti (va_runV (As := []) (rest := []) ⟨hx, hb, hml, hown, hts⟩ (mX5_askAll l D ck cb E5 (LR_hz hE5) (LR_hn hE5) _) (cwV 0 hts gL_isStep_X5_askAll rfl rfl rfl (by decide +kernel) ⟨Nat.le_of_ble_eq_true rfl, Nat.le_of_ble_eq_true rfl⟩) (xpreV hN hK hP hD List.perm_append_comm 0 rfl rfl rfl) rfl rfl hl.1 rfl (lv_room (Nat.le_of_ble_eq_true rfl)) dL_isStep_254 ⟨Nat.le_of_ble_eq_true rfl, Nat.le_of_ble_eq_true rfl⟩) hP hD hS hA List.perm_append_comm List.perm_append_comm (fun H locs hP hD hS => ?_)
                  have hP : va_P D vwCl (clW ck ca C ++ clW ck cb ((gX5_askAll E5).2)) H := hP
                  have hD : va_D (va_A (clW ck ca C ++ clW ck cb E) s.heap.size) (clW ck ca C ++ clW ck cb ((gX5_askAll E5).2)) := hD
                  obtain ⟨eb6, hE6⟩ := ((l_askAll hE5 hw ha hbb hj5).1 h16)
                  rw [eb6]
                  generalize (gX5_askAll E5).2 = E6 at hP hD hE6 hTn
                  have hP : va_P D vwCl (clW ck ca C ++ clW ck cb E6) H := hP
                  have hD : va_D (va_A (clW ck ca C ++ clW ck cb E) s.heap.size) (clW ck ca C ++ clW ck cb E6) := hD
                  refine lv_istore (lv' := [(14, .int (-3)), (13, .int 1), (12, .int (-3)), (0, .ref (ca 0 0)), (1, .ref (cb 0 0)), (2, .int x), (3, .int y), (4, .int (x >>> 4)), (5, .int (nI (nF f))), (8, .int (gX6_granted f)), (9, .int (nI w)), (10, .int (nI a)), (11, .int (nI b))]) hx hb dL_isStep_257 hl (by decide) rfl (fun ls hl => ?_)
                  refine lv_iload hx hb dL_isStep_259 (lv_at hl 1 rfl) ?_
                  refine lv_if_eq (tgt := 337) hx hb dL_isStep_261 (by decide) (fun c_261 => ?_) (fun c_261 => ?_)
                  · --t
                    exact absurd c_261 (by decide)
                  · --f
                    refine lv_iload hx hb dL_isStep_264 (lv_at hl 8 rfl) ?_
                    refine lv_bipush (v := (nI 16)) hx hb dL_isStep_266 (by decide) ?_
                    refine lv_icmp_ne (tgt := 288) hx hb dL_isStep_268 (by decide) (fun c_268 => ?_) (fun c_268 => ?_)
                    · --t
                      exact absurd (show nI (nF f) = nI 16 by rw [n_16 h16]) c_268
                    · --f
                      refine lv_iload hx hb dL_isStep_271 (lv_at hl 2 rfl) ?_
                      refine lv_bipush (v := (-3)) hx hb dL_isStep_273 (by decide) ?_
                      refine lv_icmp_ne (tgt := 337) hx hb dL_isStep_275 (by decide) (fun c_275 => ?_) (fun c_275 => ?_)
                      · --t
                        exact absurd (by decide) c_275
                      · --f
                        refine lv_iload hx hb dL_isStep_278 (lv_at hl 0 rfl) ?_
                        refine lv_iload hx hb dL_isStep_280 (lv_at hl 2 rfl) ?_
                        refine lv_icmp_ne (tgt := 337) hx hb dL_isStep_282 (by decide) (fun c_282 => ?_) (fun c_282 => ?_)
                        · --t
                          exact absurd (by decide) c_282
                        · --f
                          refine lv_goto (tgt := 333) hx hb dL_isStep_285 (by decide) ?_
                          refine lv_iconst (v := 1) hx hb dL_isStep_333 (by decide) ?_
                          refine lv_goto (tgt := 338) hx hb dL_isStep_334 (by decide) ?_
                          refine W.widen (k := 150) (n := 2400) (by omega) (by omega) ?_
                          exact xezret (C, E6, f) ⟨hC, hE6, (WI_le hW (by omega)), hTn⟩ hx hb hr hlk hP hD hS (Or.inr rfl) rfl rfl dL_isStep_338
        · --f
          refine lv_bipush (v := 98) hx hb dL_isStep_205 (by decide) ?_
          refine lv_goto (tgt := 212) hx hb dL_isStep_207 (by decide) ?_
          rw [show (98 : Int32) = (wc w) from (wc_1 hw c_202)]
          refine xreti (va_runV (As := [.int (wc w)]) (rest := []) ⟨hx, hb, hml, hown, hts⟩ (mX5_type l D ck cb E1 (wc w) (TLs_ht ht1 (by have := dgs_len (v := a); have := dgs_len (v := b); first | omega | (simp only [List.length_append, List.length_cons, List.length_nil]; omega))) _) (cwV 1 hts gL_isStep_X5_type rfl rfl rfl (by decide +kernel) ⟨Nat.le_of_ble_eq_true rfl, Nat.le_of_ble_eq_true rfl⟩) (xpreV hN hK hP hD List.perm_append_comm 0 rfl rfl rfl) rfl rfl hl.1 rfl (lv_room (Nat.le_of_ble_eq_true rfl)) dL_isStep_212 ⟨Nat.le_of_ble_eq_true rfl, Nat.le_of_ble_eq_true rfl⟩) hP hD hS hA List.perm_append_comm List.perm_append_comm (fun H locs hP hD hS => ?_)
          have hP : va_P D vwCl (clW ck ca C ++ clW ck cb ((gX5_type E1 (wc w)).2)) H := hP
          have hD : va_D (va_A (clW ck ca C ++ clW ck cb E) s.heap.size) (clW ck ca C ++ clW ck cb ((gX5_type E1 (wc w)).2)) := hD
          obtain ⟨ty1, ht2, ye1, yf1⟩ := ty_TL (C := E1) (l := []) (c := (wc w)) ht1 (by have := dgs_len (v := a); have := dgs_len (v := b); first | omega | (simp only [List.length_append, List.length_cons, List.length_nil]; omega)) wc_nar
          rw [ty1]
          generalize (gX5_type E1 (wc w)).2 = E2 at hP hD ht2 ye1 yf1
          have hE2 : LR E2 f := LR_eq hE1 ye1 yf1
          have hP : va_P D vwCl (clW ck ca C ++ clW ck cb E2) H := hP
          have hD : va_D (va_A (clW ck ca C ++ clW ck cb E) s.heap.size) (clW ck ca C ++ clW ck cb E2) := hD
          rw [show ((nI ([].length + 1)) : Int32) = (nI 1) from rfl]
          refine lv_iconst (v := (nI 1)) hx hb dL_isStep_215 (by decide) ?_
          refine lv_icmp_ne (tgt := 250) hx hb dL_isStep_216 (by decide) (fun c_216 => ?_) (fun c_216 => ?_)
          · --t
            exact absurd rfl c_216
          · --f
            refine lv_aload_n hx hb dL_isStep_219 rfl (lv_at hl 2 rfl) ?_
            refine lv_iload hx hb dL_isStep_220 (lv_at hl 9 rfl) ?_
            refine xrete (va_runS (As := [.ref (cb 0 0), .int (nI a)]) (rest := []) ⟨hx, hb, hml, hown, hts⟩ (mL_number l D ck cb E2 a ha ([] ++ [wc w]) ht2 (by have := dgs_len (v := a); first | omega | (simp only [List.length_append, List.length_cons, List.length_nil]; omega)) _) (va_cwS 2 hts gL_isStep_L_number rfl rfl rfl (by decide +kernel) ⟨Nat.le_of_ble_eq_true rfl, Nat.le_of_ble_eq_true rfl⟩) (xpreS hN hK hP hD List.perm_append_comm) rfl rfl hl.1 rfl (lv_room (Nat.le_of_ble_eq_true rfl)) dL_isStep_222 ⟨Nat.le_of_ble_eq_true rfl, Nat.le_of_ble_eq_true rfl⟩) hP hD hS hA List.perm_append_comm (fun _ => List.perm_append_comm) (fun E3 h99 H locs hP hD hS => ?_)
            have hP : va_P D vwCl (clW ck ca C ++ clW ck cb E3) H := hP
            have hD : va_D (va_A (clW ck ca C ++ clW ck cb E) s.heap.size) (clW ck ca C ++ clW ck cb E3) := hD
            obtain ⟨ht3, ye2, yf2⟩ := h99
            have hE3 : LR E3 f := LR_eq hE2 ye2 yf2
            have hP : va_P D vwCl (clW ck ca C ++ clW ck cb E3) H := hP
            have hD : va_D (va_A (clW ck ca C ++ clW ck cb E) s.heap.size) (clW ck ca C ++ clW ck cb E3) := hD
            refine lv_if_eq (tgt := 250) hx hb dL_isStep_225 (by decide) (fun c_225 => ?_) (fun c_225 => ?_)
            · --t
              exact absurd c_225 (by decide)
            · --f
              refine lv_aload_n hx hb dL_isStep_228 rfl (lv_at hl 2 rfl) ?_
              refine lv_bipush (v := 120) hx hb dL_isStep_229 (by decide) ?_
              refine xreti (va_runV (As := [.int 120]) (rest := []) ⟨hx, hb, hml, hown, hts⟩ (mX5_type l D ck cb E3 120 (TLs_ht ht3 (by have := dgs_len (v := a); have := dgs_len (v := b); first | omega | (simp only [List.length_append, List.length_cons, List.length_nil]; omega))) _) (cwV 1 hts gL_isStep_X5_type rfl rfl rfl (by decide +kernel) ⟨Nat.le_of_ble_eq_true rfl, Nat.le_of_ble_eq_true rfl⟩) (xpreV hN hK hP hD List.perm_append_comm 0 rfl rfl rfl) rfl rfl hl.1 rfl (lv_room (Nat.le_of_ble_eq_true rfl)) dL_isStep_231 ⟨Nat.le_of_ble_eq_true rfl, Nat.le_of_ble_eq_true rfl⟩) hP hD hS hA List.perm_append_comm List.perm_append_comm (fun H locs hP hD hS => ?_)
              have hP : va_P D vwCl (clW ck ca C ++ clW ck cb ((gX5_type E3 120).2)) H := hP
              have hD : va_D (va_A (clW ck ca C ++ clW ck cb E) s.heap.size) (clW ck ca C ++ clW ck cb ((gX5_type E3 120).2)) := hD
              obtain ⟨ty3, ht4, ye3, yf3⟩ := ty_TL (C := E3) (l := (([] ++ [wc w]) ++ dgs a)) (c := 120) ht3 (by have := dgs_len (v := a); have := dgs_len (v := b); first | omega | (simp only [List.length_append, List.length_cons, List.length_nil]; omega)) (nar_nI (q := 120) (by decide))
              rw [ty3]
              generalize (gX5_type E3 120).2 = E4 at hP hD ht4 ye3 yf3
              have hE4 : LR E4 f := LR_eq hE3 ye3 yf3
              have hP : va_P D vwCl (clW ck ca C ++ clW ck cb E4) H := hP
              have hD : va_D (va_A (clW ck ca C ++ clW ck cb E) s.heap.size) (clW ck ca C ++ clW ck cb E4) := hD
              refine lv_if_le (tgt := 250) hx hb dL_isStep_234 (by decide) (fun c_234 => ?_) (fun c_234 => ?_)
              · --t
                exact absurd c_234 (nI_nle (by omega) (by have := dgs_len (v := a); first | omega | (simp only [List.length_append, List.length_cons, List.length_nil]; omega)))
              · --f
                refine lv_aload_n hx hb dL_isStep_237 rfl (lv_at hl 2 rfl) ?_
                refine lv_iload hx hb dL_isStep_238 (lv_at hl 10 rfl) ?_
                refine xrete (va_runS (As := [.ref (cb 0 0), .int (nI b)]) (rest := []) ⟨hx, hb, hml, hown, hts⟩ (mL_number l D ck cb E4 b hbb ((([] ++ [wc w]) ++ dgs a) ++ [120]) ht4 (by have := dgs_len (v := a); first | omega | (simp only [List.length_append, List.length_cons, List.length_nil]; omega)) _) (va_cwS 2 hts gL_isStep_L_number rfl rfl rfl (by decide +kernel) ⟨Nat.le_of_ble_eq_true rfl, Nat.le_of_ble_eq_true rfl⟩) (xpreS hN hK hP hD List.perm_append_comm) rfl rfl hl.1 rfl (lv_room (Nat.le_of_ble_eq_true rfl)) dL_isStep_240 ⟨Nat.le_of_ble_eq_true rfl, Nat.le_of_ble_eq_true rfl⟩) hP hD hS hA List.perm_append_comm (fun _ => List.perm_append_comm) (fun E5 h99 H locs hP hD hS => ?_)
                have hP : va_P D vwCl (clW ck ca C ++ clW ck cb E5) H := hP
                have hD : va_D (va_A (clW ck ca C ++ clW ck cb E) s.heap.size) (clW ck ca C ++ clW ck cb E5) := hD
                obtain ⟨ht5, ye4, yf4⟩ := h99
                have hE5 : LR E5 f := LR_eq hE4 ye4 yf4
                have hP : va_P D vwCl (clW ck ca C ++ clW ck cb E5) H := hP
                have hD : va_D (va_A (clW ck ca C ++ clW ck cb E) s.heap.size) (clW ck ca C ++ clW ck cb E5) := hD
                refine lv_if_eq (tgt := 250) hx hb dL_isStep_243 (by decide) (fun c_243 => ?_) (fun c_243 => ?_)
                · --t
                  exact absurd c_243 (by decide)
                · --f
                  refine lv_iconst (v := 1) hx hb dL_isStep_246 (by decide) ?_
                  refine lv_goto (tgt := 251) hx hb dL_isStep_247 (by decide) ?_
                  refine lv_istore (lv' := [(13, .int 1), (12, .int (-3)), (0, .ref (ca 0 0)), (1, .ref (cb 0 0)), (2, .int x), (3, .int y), (4, .int (x >>> 4)), (5, .int (nI (nF f))), (8, .int (gX6_granted f)), (9, .int (nI w)), (10, .int (nI a)), (11, .int (nI b))]) hx hb dL_isStep_251 hl (by decide) rfl (fun ls hl => ?_)
                  refine lv_aload_n hx hb dL_isStep_253 rfl (lv_at hl 3 rfl) ?_
                  have hj5 : TLs E5.2.2.1 (jtx w a b) := by simpa [jtx, List.append_assoc] using ht5
                  have hTn := TX_aa hj5 jtx_len
                  refine xreti (va_runV (As := []) (rest := []) ⟨hx, hb, hml, hown, hts⟩ (mX5_askAll l D ck cb E5 (LR_hz hE5) (LR_hn hE5) _) (cwV 0 hts gL_isStep_X5_askAll rfl rfl rfl (by decide +kernel) ⟨Nat.le_of_ble_eq_true rfl, Nat.le_of_ble_eq_true rfl⟩) (xpreV hN hK hP hD List.perm_append_comm 0 rfl rfl rfl) rfl rfl hl.1 rfl (lv_room (Nat.le_of_ble_eq_true rfl)) dL_isStep_254 ⟨Nat.le_of_ble_eq_true rfl, Nat.le_of_ble_eq_true rfl⟩) hP hD hS hA List.perm_append_comm List.perm_append_comm (fun H locs hP hD hS => ?_)
                  have hP : va_P D vwCl (clW ck ca C ++ clW ck cb ((gX5_askAll E5).2)) H := hP
                  have hD : va_D (va_A (clW ck ca C ++ clW ck cb E) s.heap.size) (clW ck ca C ++ clW ck cb ((gX5_askAll E5).2)) := hD
                  obtain ⟨eb6, hE6⟩ := ((l_askAll hE5 hw ha hbb hj5).1 h16)
                  rw [eb6]
                  generalize (gX5_askAll E5).2 = E6 at hP hD hE6 hTn
                  have hP : va_P D vwCl (clW ck ca C ++ clW ck cb E6) H := hP
                  have hD : va_D (va_A (clW ck ca C ++ clW ck cb E) s.heap.size) (clW ck ca C ++ clW ck cb E6) := hD
                  refine lv_istore (lv' := [(14, .int (-3)), (13, .int 1), (12, .int (-3)), (0, .ref (ca 0 0)), (1, .ref (cb 0 0)), (2, .int x), (3, .int y), (4, .int (x >>> 4)), (5, .int (nI (nF f))), (8, .int (gX6_granted f)), (9, .int (nI w)), (10, .int (nI a)), (11, .int (nI b))]) hx hb dL_isStep_257 hl (by decide) rfl (fun ls hl => ?_)
                  refine lv_iload hx hb dL_isStep_259 (lv_at hl 1 rfl) ?_
                  refine lv_if_eq (tgt := 337) hx hb dL_isStep_261 (by decide) (fun c_261 => ?_) (fun c_261 => ?_)
                  · --t
                    exact absurd c_261 (by decide)
                  · --f
                    refine lv_iload hx hb dL_isStep_264 (lv_at hl 8 rfl) ?_
                    refine lv_bipush (v := (nI 16)) hx hb dL_isStep_266 (by decide) ?_
                    refine lv_icmp_ne (tgt := 288) hx hb dL_isStep_268 (by decide) (fun c_268 => ?_) (fun c_268 => ?_)
                    · --t
                      exact absurd (show nI (nF f) = nI 16 by rw [n_16 h16]) c_268
                    · --f
                      refine lv_iload hx hb dL_isStep_271 (lv_at hl 2 rfl) ?_
                      refine lv_bipush (v := (-3)) hx hb dL_isStep_273 (by decide) ?_
                      refine lv_icmp_ne (tgt := 337) hx hb dL_isStep_275 (by decide) (fun c_275 => ?_) (fun c_275 => ?_)
                      · --t
                        exact absurd (by decide) c_275
                      · --f
                        refine lv_iload hx hb dL_isStep_278 (lv_at hl 0 rfl) ?_
                        refine lv_iload hx hb dL_isStep_280 (lv_at hl 2 rfl) ?_
                        refine lv_icmp_ne (tgt := 337) hx hb dL_isStep_282 (by decide) (fun c_282 => ?_) (fun c_282 => ?_)
                        · --t
                          exact absurd (by decide) c_282
                        · --f
                          refine lv_goto (tgt := 333) hx hb dL_isStep_285 (by decide) ?_
                          refine lv_iconst (v := 1) hx hb dL_isStep_333 (by decide) ?_
                          refine lv_goto (tgt := 338) hx hb dL_isStep_334 (by decide) ?_
                          refine W.widen (k := 150) (n := 2400) (by omega) (by omega) ?_
                          exact xezret (C, E6, f) ⟨hC, hE6, (WI_le hW (by omega)), hTn⟩ hx hb hr hlk hP hD hS (Or.inr rfl) rfl rfl dL_isStep_338
      · --f
        refine lv_bipush (v := 108) hx hb dL_isStep_194 (by decide) ?_
        refine lv_goto (tgt := 212) hx hb dL_isStep_196 (by decide) ?_
        rw [show (108 : Int32) = (wc w) from (wc_0 hw c_191)]
        refine xreti (va_runV (As := [.int (wc w)]) (rest := []) ⟨hx, hb, hml, hown, hts⟩ (mX5_type l D ck cb E1 (wc w) (TLs_ht ht1 (by have := dgs_len (v := a); have := dgs_len (v := b); first | omega | (simp only [List.length_append, List.length_cons, List.length_nil]; omega))) _) (cwV 1 hts gL_isStep_X5_type rfl rfl rfl (by decide +kernel) ⟨Nat.le_of_ble_eq_true rfl, Nat.le_of_ble_eq_true rfl⟩) (xpreV hN hK hP hD List.perm_append_comm 0 rfl rfl rfl) rfl rfl hl.1 rfl (lv_room (Nat.le_of_ble_eq_true rfl)) dL_isStep_212 ⟨Nat.le_of_ble_eq_true rfl, Nat.le_of_ble_eq_true rfl⟩) hP hD hS hA List.perm_append_comm List.perm_append_comm (fun H locs hP hD hS => ?_)
        have hP : va_P D vwCl (clW ck ca C ++ clW ck cb ((gX5_type E1 (wc w)).2)) H := hP
        have hD : va_D (va_A (clW ck ca C ++ clW ck cb E) s.heap.size) (clW ck ca C ++ clW ck cb ((gX5_type E1 (wc w)).2)) := hD
        obtain ⟨ty1, ht2, ye1, yf1⟩ := ty_TL (C := E1) (l := []) (c := (wc w)) ht1 (by have := dgs_len (v := a); have := dgs_len (v := b); first | omega | (simp only [List.length_append, List.length_cons, List.length_nil]; omega)) wc_nar
        rw [ty1]
        generalize (gX5_type E1 (wc w)).2 = E2 at hP hD ht2 ye1 yf1
        have hE2 : LR E2 f := LR_eq hE1 ye1 yf1
        have hP : va_P D vwCl (clW ck ca C ++ clW ck cb E2) H := hP
        have hD : va_D (va_A (clW ck ca C ++ clW ck cb E) s.heap.size) (clW ck ca C ++ clW ck cb E2) := hD
        rw [show ((nI ([].length + 1)) : Int32) = (nI 1) from rfl]
        refine lv_iconst (v := (nI 1)) hx hb dL_isStep_215 (by decide) ?_
        refine lv_icmp_ne (tgt := 250) hx hb dL_isStep_216 (by decide) (fun c_216 => ?_) (fun c_216 => ?_)
        · --t
          exact absurd rfl c_216
        · --f
          refine lv_aload_n hx hb dL_isStep_219 rfl (lv_at hl 2 rfl) ?_
          refine lv_iload hx hb dL_isStep_220 (lv_at hl 9 rfl) ?_
          refine xrete (va_runS (As := [.ref (cb 0 0), .int (nI a)]) (rest := []) ⟨hx, hb, hml, hown, hts⟩ (mL_number l D ck cb E2 a ha ([] ++ [wc w]) ht2 (by have := dgs_len (v := a); first | omega | (simp only [List.length_append, List.length_cons, List.length_nil]; omega)) _) (va_cwS 2 hts gL_isStep_L_number rfl rfl rfl (by decide +kernel) ⟨Nat.le_of_ble_eq_true rfl, Nat.le_of_ble_eq_true rfl⟩) (xpreS hN hK hP hD List.perm_append_comm) rfl rfl hl.1 rfl (lv_room (Nat.le_of_ble_eq_true rfl)) dL_isStep_222 ⟨Nat.le_of_ble_eq_true rfl, Nat.le_of_ble_eq_true rfl⟩) hP hD hS hA List.perm_append_comm (fun _ => List.perm_append_comm) (fun E3 h99 H locs hP hD hS => ?_)
          have hP : va_P D vwCl (clW ck ca C ++ clW ck cb E3) H := hP
          have hD : va_D (va_A (clW ck ca C ++ clW ck cb E) s.heap.size) (clW ck ca C ++ clW ck cb E3) := hD
          obtain ⟨ht3, ye2, yf2⟩ := h99
          have hE3 : LR E3 f := LR_eq hE2 ye2 yf2
          have hP : va_P D vwCl (clW ck ca C ++ clW ck cb E3) H := hP
          have hD : va_D (va_A (clW ck ca C ++ clW ck cb E) s.heap.size) (clW ck ca C ++ clW ck cb E3) := hD
          refine lv_if_eq (tgt := 250) hx hb dL_isStep_225 (by decide) (fun c_225 => ?_) (fun c_225 => ?_)
          · --t
            exact absurd c_225 (by decide)
          · --f
            refine lv_aload_n hx hb dL_isStep_228 rfl (lv_at hl 2 rfl) ?_
            refine lv_bipush (v := 120) hx hb dL_isStep_229 (by decide) ?_
            refine xreti (va_runV (As := [.int 120]) (rest := []) ⟨hx, hb, hml, hown, hts⟩ (mX5_type l D ck cb E3 120 (TLs_ht ht3 (by have := dgs_len (v := a); have := dgs_len (v := b); first | omega | (simp only [List.length_append, List.length_cons, List.length_nil]; omega))) _) (cwV 1 hts gL_isStep_X5_type rfl rfl rfl (by decide +kernel) ⟨Nat.le_of_ble_eq_true rfl, Nat.le_of_ble_eq_true rfl⟩) (xpreV hN hK hP hD List.perm_append_comm 0 rfl rfl rfl) rfl rfl hl.1 rfl (lv_room (Nat.le_of_ble_eq_true rfl)) dL_isStep_231 ⟨Nat.le_of_ble_eq_true rfl, Nat.le_of_ble_eq_true rfl⟩) hP hD hS hA List.perm_append_comm List.perm_append_comm (fun H locs hP hD hS => ?_)
            have hP : va_P D vwCl (clW ck ca C ++ clW ck cb ((gX5_type E3 120).2)) H := hP
            have hD : va_D (va_A (clW ck ca C ++ clW ck cb E) s.heap.size) (clW ck ca C ++ clW ck cb ((gX5_type E3 120).2)) := hD
            obtain ⟨ty3, ht4, ye3, yf3⟩ := ty_TL (C := E3) (l := (([] ++ [wc w]) ++ dgs a)) (c := 120) ht3 (by have := dgs_len (v := a); have := dgs_len (v := b); first | omega | (simp only [List.length_append, List.length_cons, List.length_nil]; omega)) (nar_nI (q := 120) (by decide))
            rw [ty3]
            generalize (gX5_type E3 120).2 = E4 at hP hD ht4 ye3 yf3
            have hE4 : LR E4 f := LR_eq hE3 ye3 yf3
            have hP : va_P D vwCl (clW ck ca C ++ clW ck cb E4) H := hP
            have hD : va_D (va_A (clW ck ca C ++ clW ck cb E) s.heap.size) (clW ck ca C ++ clW ck cb E4) := hD
            refine lv_if_le (tgt := 250) hx hb dL_isStep_234 (by decide) (fun c_234 => ?_) (fun c_234 => ?_)
            · --t
              exact absurd c_234 (nI_nle (by omega) (by have := dgs_len (v := a); first | omega | (simp only [List.length_append, List.length_cons, List.length_nil]; omega)))
            · --f
              refine lv_aload_n hx hb dL_isStep_237 rfl (lv_at hl 2 rfl) ?_
              refine lv_iload hx hb dL_isStep_238 (lv_at hl 10 rfl) ?_
              refine xrete (va_runS (As := [.ref (cb 0 0), .int (nI b)]) (rest := []) ⟨hx, hb, hml, hown, hts⟩ (mL_number l D ck cb E4 b hbb ((([] ++ [wc w]) ++ dgs a) ++ [120]) ht4 (by have := dgs_len (v := a); first | omega | (simp only [List.length_append, List.length_cons, List.length_nil]; omega)) _) (va_cwS 2 hts gL_isStep_L_number rfl rfl rfl (by decide +kernel) ⟨Nat.le_of_ble_eq_true rfl, Nat.le_of_ble_eq_true rfl⟩) (xpreS hN hK hP hD List.perm_append_comm) rfl rfl hl.1 rfl (lv_room (Nat.le_of_ble_eq_true rfl)) dL_isStep_240 ⟨Nat.le_of_ble_eq_true rfl, Nat.le_of_ble_eq_true rfl⟩) hP hD hS hA List.perm_append_comm (fun _ => List.perm_append_comm) (fun E5 h99 H locs hP hD hS => ?_)
              have hP : va_P D vwCl (clW ck ca C ++ clW ck cb E5) H := hP
              have hD : va_D (va_A (clW ck ca C ++ clW ck cb E) s.heap.size) (clW ck ca C ++ clW ck cb E5) := hD
              obtain ⟨ht5, ye4, yf4⟩ := h99
              have hE5 : LR E5 f := LR_eq hE4 ye4 yf4
              have hP : va_P D vwCl (clW ck ca C ++ clW ck cb E5) H := hP
              have hD : va_D (va_A (clW ck ca C ++ clW ck cb E) s.heap.size) (clW ck ca C ++ clW ck cb E5) := hD
              refine lv_if_eq (tgt := 250) hx hb dL_isStep_243 (by decide) (fun c_243 => ?_) (fun c_243 => ?_)
              · --t
                exact absurd c_243 (by decide)
              · --f
                refine lv_iconst (v := 1) hx hb dL_isStep_246 (by decide) ?_
                refine lv_goto (tgt := 251) hx hb dL_isStep_247 (by decide) ?_
                refine lv_istore (lv' := [(13, .int 1), (12, .int (-3)), (0, .ref (ca 0 0)), (1, .ref (cb 0 0)), (2, .int x), (3, .int y), (4, .int (x >>> 4)), (5, .int (nI (nF f))), (8, .int (gX6_granted f)), (9, .int (nI w)), (10, .int (nI a)), (11, .int (nI b))]) hx hb dL_isStep_251 hl (by decide) rfl (fun ls hl => ?_)
                refine lv_aload_n hx hb dL_isStep_253 rfl (lv_at hl 3 rfl) ?_
                have hj5 : TLs E5.2.2.1 (jtx w a b) := by simpa [jtx, List.append_assoc] using ht5
                have hTn := TX_aa hj5 jtx_len
                refine xreti (va_runV (As := []) (rest := []) ⟨hx, hb, hml, hown, hts⟩ (mX5_askAll l D ck cb E5 (LR_hz hE5) (LR_hn hE5) _) (cwV 0 hts gL_isStep_X5_askAll rfl rfl rfl (by decide +kernel) ⟨Nat.le_of_ble_eq_true rfl, Nat.le_of_ble_eq_true rfl⟩) (xpreV hN hK hP hD List.perm_append_comm 0 rfl rfl rfl) rfl rfl hl.1 rfl (lv_room (Nat.le_of_ble_eq_true rfl)) dL_isStep_254 ⟨Nat.le_of_ble_eq_true rfl, Nat.le_of_ble_eq_true rfl⟩) hP hD hS hA List.perm_append_comm List.perm_append_comm (fun H locs hP hD hS => ?_)
                have hP : va_P D vwCl (clW ck ca C ++ clW ck cb ((gX5_askAll E5).2)) H := hP
                have hD : va_D (va_A (clW ck ca C ++ clW ck cb E) s.heap.size) (clW ck ca C ++ clW ck cb ((gX5_askAll E5).2)) := hD
                obtain ⟨eb6, hE6⟩ := ((l_askAll hE5 hw ha hbb hj5).1 h16)
                rw [eb6]
                generalize (gX5_askAll E5).2 = E6 at hP hD hE6 hTn
                have hP : va_P D vwCl (clW ck ca C ++ clW ck cb E6) H := hP
                have hD : va_D (va_A (clW ck ca C ++ clW ck cb E) s.heap.size) (clW ck ca C ++ clW ck cb E6) := hD
                refine lv_istore (lv' := [(14, .int (-3)), (13, .int 1), (12, .int (-3)), (0, .ref (ca 0 0)), (1, .ref (cb 0 0)), (2, .int x), (3, .int y), (4, .int (x >>> 4)), (5, .int (nI (nF f))), (8, .int (gX6_granted f)), (9, .int (nI w)), (10, .int (nI a)), (11, .int (nI b))]) hx hb dL_isStep_257 hl (by decide) rfl (fun ls hl => ?_)
                refine lv_iload hx hb dL_isStep_259 (lv_at hl 1 rfl) ?_
                refine lv_if_eq (tgt := 337) hx hb dL_isStep_261 (by decide) (fun c_261 => ?_) (fun c_261 => ?_)
                · --t
                  exact absurd c_261 (by decide)
                · --f
                  refine lv_iload hx hb dL_isStep_264 (lv_at hl 8 rfl) ?_
                  refine lv_bipush (v := (nI 16)) hx hb dL_isStep_266 (by decide) ?_
                  refine lv_icmp_ne (tgt := 288) hx hb dL_isStep_268 (by decide) (fun c_268 => ?_) (fun c_268 => ?_)
                  · --t
                    exact absurd (show nI (nF f) = nI 16 by rw [n_16 h16]) c_268
                  · --f
                    refine lv_iload hx hb dL_isStep_271 (lv_at hl 2 rfl) ?_
                    refine lv_bipush (v := (-3)) hx hb dL_isStep_273 (by decide) ?_
                    refine lv_icmp_ne (tgt := 337) hx hb dL_isStep_275 (by decide) (fun c_275 => ?_) (fun c_275 => ?_)
                    · --t
                      exact absurd (by decide) c_275
                    · --f
                      refine lv_iload hx hb dL_isStep_278 (lv_at hl 0 rfl) ?_
                      refine lv_iload hx hb dL_isStep_280 (lv_at hl 2 rfl) ?_
                      refine lv_icmp_ne (tgt := 337) hx hb dL_isStep_282 (by decide) (fun c_282 => ?_) (fun c_282 => ?_)
                      · --t
                        exact absurd (by decide) c_282
                      · --f
                        refine lv_goto (tgt := 333) hx hb dL_isStep_285 (by decide) ?_
                        refine lv_iconst (v := 1) hx hb dL_isStep_333 (by decide) ?_
                        refine lv_goto (tgt := 338) hx hb dL_isStep_334 (by decide) ?_
                        refine W.widen (k := 150) (n := 2400) (by omega) (by omega) ?_
                        exact xezret (C, E6, f) ⟨hC, hE6, (WI_le hW (by omega)), hTn⟩ hx hb hr hlk hP hD hS (Or.inr rfl) rfl rfl dL_isStep_338
  · --room
    refine xreti (va_runV (As := [.int (nI w), .int (nI a), .int (nI b)]) (rest := []) ⟨hx, hb, hml, hown, hts⟩ (mX5_ask l D ck ca C (nI w) (nI a) (nI b) (LR_hz hC) (LR_hn hC) _) (cwV 3 hts gL_isStep_X5_ask rfl rfl rfl (by decide +kernel) ⟨Nat.le_of_ble_eq_true rfl, Nat.le_of_ble_eq_true rfl⟩) (xpreV hN hK hP hD (List.Perm.refl _) 0 rfl rfl rfl) rfl rfl hl.1 rfl (lv_room (Nat.le_of_ble_eq_true rfl)) dL_isStep_176 ⟨Nat.le_of_ble_eq_true rfl, Nat.le_of_ble_eq_true rfl⟩) hP hD hS hA (List.Perm.refl _) (List.Perm.refl _) (fun H locs hP hD hS => ?_)
    have hP : va_P D vwCl (clW ck ca ((gX5_ask C (nI w) (nI a) (nI b)).2) ++ clW ck cb E) H := hP
    have hD : va_D (va_A (clW ck ca C ++ clW ck cb E) s.heap.size) (clW ck ca ((gX5_ask C (nI w) (nI a) (nI b)).2) ++ clW ck cb E) := hD
    obtain ⟨ebC176, hC176⟩ := ((l_ask hC hok).2 h16)
    rw [ebC176]
    skip
    generalize (gX5_ask C (nI w) (nI a) (nI b)).2 = C176 at hP hD hC176
    have hP : va_P D vwCl (clW ck ca C176 ++ clW ck cb E) H := hP
    have hD : va_D (va_A (clW ck ca C ++ clW ck cb E) s.heap.size) (clW ck ca C176 ++ clW ck cb E) := hD
    have hrow := cm_n hm h16 hok
    refine lv_istore (lv' := [(12, .int (nI (nF f))), (0, .ref (ca 0 0)), (1, .ref (cb 0 0)), (2, .int x), (3, .int y), (4, .int (x >>> 4)), (5, .int (nI (nF f))), (8, .int (gX6_granted f)), (9, .int (nI w)), (10, .int (nI a)), (11, .int (nI b))]) hx hb dL_isStep_179 hl (by decide) rfl (fun ls hl => ?_)
    refine lv_aload_n hx hb dL_isStep_181 rfl (lv_at hl 2 rfl) ?_
    refine xreti (va_runV (As := []) (rest := []) ⟨hx, hb, hml, hown, hts⟩ (mX5_clearText l D ck cb E _) (cwV 0 hts gL_isStep_X5_clearText rfl rfl rfl (by decide +kernel) ⟨Nat.le_of_ble_eq_true rfl, Nat.le_of_ble_eq_true rfl⟩) (xpreV hN hK hP hD List.perm_append_comm 0 rfl rfl rfl) rfl rfl hl.1 rfl (lv_room (Nat.le_of_ble_eq_true rfl)) dL_isStep_182 ⟨Nat.le_of_ble_eq_true rfl, Nat.le_of_ble_eq_true rfl⟩) hP hD hS hA List.perm_append_comm List.perm_append_comm (fun H locs hP hD hS => ?_)
    have hP : va_P D vwCl (clW ck ca C176 ++ clW ck cb ((gX5_clearText E).2)) H := hP
    have hD : va_D (va_A (clW ck ca C ++ clW ck cb E) s.heap.size) (clW ck ca C176 ++ clW ck cb ((gX5_clearText E).2)) := hD
    have hE1 : LR (gX5_clearText E).2 f := hE
    have ht1 : TLs (gX5_clearText E).2.2.2.1 [] := TLs_nil
    generalize (gX5_clearText E).2 = E1 at hP hD hE1 ht1
    have hP : va_P D vwCl (clW ck ca C176 ++ clW ck cb E1) H := hP
    have hD : va_D (va_A (clW ck ca C ++ clW ck cb E) s.heap.size) (clW ck ca C176 ++ clW ck cb E1) := hD
    refine lv_if_lt (tgt := 250) hx hb dL_isStep_185 (by decide) (fun c_185 => ?_) (fun c_185 => ?_)
    · --t
      exact absurd c_185 hT
    · --f
      refine lv_aload_n hx hb dL_isStep_188 rfl (lv_at hl 2 rfl) ?_
      refine lv_iload hx hb dL_isStep_189 (lv_at hl 8 rfl) ?_
      refine lv_if_ne (tgt := 199) hx hb dL_isStep_191 (by decide) (fun c_191 => ?_) (fun c_191 => ?_)
      · --t
        refine lv_iload hx hb dL_isStep_199 (lv_at hl 8 rfl) ?_
        refine lv_iconst (v := (nI 1)) hx hb dL_isStep_201 (by decide) ?_
        refine lv_icmp_ne (tgt := 210) hx hb dL_isStep_202 (by decide) (fun c_202 => ?_) (fun c_202 => ?_)
        · --t
          refine lv_bipush (v := 109) hx hb dL_isStep_210 (by decide) ?_
          rw [show (109 : Int32) = (wc w) from (wc_2 hw c_191 c_202)]
          refine xreti (va_runV (As := [.int (wc w)]) (rest := []) ⟨hx, hb, hml, hown, hts⟩ (mX5_type l D ck cb E1 (wc w) (TLs_ht ht1 (by have := dgs_len (v := a); have := dgs_len (v := b); first | omega | (simp only [List.length_append, List.length_cons, List.length_nil]; omega))) _) (cwV 1 hts gL_isStep_X5_type rfl rfl rfl (by decide +kernel) ⟨Nat.le_of_ble_eq_true rfl, Nat.le_of_ble_eq_true rfl⟩) (xpreV hN hK hP hD List.perm_append_comm 0 rfl rfl rfl) rfl rfl hl.1 rfl (lv_room (Nat.le_of_ble_eq_true rfl)) dL_isStep_212 ⟨Nat.le_of_ble_eq_true rfl, Nat.le_of_ble_eq_true rfl⟩) hP hD hS hA List.perm_append_comm List.perm_append_comm (fun H locs hP hD hS => ?_)
          have hP : va_P D vwCl (clW ck ca C176 ++ clW ck cb ((gX5_type E1 (wc w)).2)) H := hP
          have hD : va_D (va_A (clW ck ca C ++ clW ck cb E) s.heap.size) (clW ck ca C176 ++ clW ck cb ((gX5_type E1 (wc w)).2)) := hD
          obtain ⟨ty1, ht2, ye1, yf1⟩ := ty_TL (C := E1) (l := []) (c := (wc w)) ht1 (by have := dgs_len (v := a); have := dgs_len (v := b); first | omega | (simp only [List.length_append, List.length_cons, List.length_nil]; omega)) wc_nar
          rw [ty1]
          generalize (gX5_type E1 (wc w)).2 = E2 at hP hD ht2 ye1 yf1
          have hE2 : LR E2 f := LR_eq hE1 ye1 yf1
          have hP : va_P D vwCl (clW ck ca C176 ++ clW ck cb E2) H := hP
          have hD : va_D (va_A (clW ck ca C ++ clW ck cb E) s.heap.size) (clW ck ca C176 ++ clW ck cb E2) := hD
          rw [show ((nI ([].length + 1)) : Int32) = (nI 1) from rfl]
          refine lv_iconst (v := (nI 1)) hx hb dL_isStep_215 (by decide) ?_
          refine lv_icmp_ne (tgt := 250) hx hb dL_isStep_216 (by decide) (fun c_216 => ?_) (fun c_216 => ?_)
          · --t
            exact absurd rfl c_216
          · --f
            refine lv_aload_n hx hb dL_isStep_219 rfl (lv_at hl 2 rfl) ?_
            refine lv_iload hx hb dL_isStep_220 (lv_at hl 9 rfl) ?_
            refine xrete (va_runS (As := [.ref (cb 0 0), .int (nI a)]) (rest := []) ⟨hx, hb, hml, hown, hts⟩ (mL_number l D ck cb E2 a ha ([] ++ [wc w]) ht2 (by have := dgs_len (v := a); first | omega | (simp only [List.length_append, List.length_cons, List.length_nil]; omega)) _) (va_cwS 2 hts gL_isStep_L_number rfl rfl rfl (by decide +kernel) ⟨Nat.le_of_ble_eq_true rfl, Nat.le_of_ble_eq_true rfl⟩) (xpreS hN hK hP hD List.perm_append_comm) rfl rfl hl.1 rfl (lv_room (Nat.le_of_ble_eq_true rfl)) dL_isStep_222 ⟨Nat.le_of_ble_eq_true rfl, Nat.le_of_ble_eq_true rfl⟩) hP hD hS hA List.perm_append_comm (fun _ => List.perm_append_comm) (fun E3 h99 H locs hP hD hS => ?_)
            have hP : va_P D vwCl (clW ck ca C176 ++ clW ck cb E3) H := hP
            have hD : va_D (va_A (clW ck ca C ++ clW ck cb E) s.heap.size) (clW ck ca C176 ++ clW ck cb E3) := hD
            obtain ⟨ht3, ye2, yf2⟩ := h99
            have hE3 : LR E3 f := LR_eq hE2 ye2 yf2
            have hP : va_P D vwCl (clW ck ca C176 ++ clW ck cb E3) H := hP
            have hD : va_D (va_A (clW ck ca C ++ clW ck cb E) s.heap.size) (clW ck ca C176 ++ clW ck cb E3) := hD
            refine lv_if_eq (tgt := 250) hx hb dL_isStep_225 (by decide) (fun c_225 => ?_) (fun c_225 => ?_)
            · --t
              exact absurd c_225 (by decide)
            · --f
              refine lv_aload_n hx hb dL_isStep_228 rfl (lv_at hl 2 rfl) ?_
              refine lv_bipush (v := 120) hx hb dL_isStep_229 (by decide) ?_
              refine xreti (va_runV (As := [.int 120]) (rest := []) ⟨hx, hb, hml, hown, hts⟩ (mX5_type l D ck cb E3 120 (TLs_ht ht3 (by have := dgs_len (v := a); have := dgs_len (v := b); first | omega | (simp only [List.length_append, List.length_cons, List.length_nil]; omega))) _) (cwV 1 hts gL_isStep_X5_type rfl rfl rfl (by decide +kernel) ⟨Nat.le_of_ble_eq_true rfl, Nat.le_of_ble_eq_true rfl⟩) (xpreV hN hK hP hD List.perm_append_comm 0 rfl rfl rfl) rfl rfl hl.1 rfl (lv_room (Nat.le_of_ble_eq_true rfl)) dL_isStep_231 ⟨Nat.le_of_ble_eq_true rfl, Nat.le_of_ble_eq_true rfl⟩) hP hD hS hA List.perm_append_comm List.perm_append_comm (fun H locs hP hD hS => ?_)
              have hP : va_P D vwCl (clW ck ca C176 ++ clW ck cb ((gX5_type E3 120).2)) H := hP
              have hD : va_D (va_A (clW ck ca C ++ clW ck cb E) s.heap.size) (clW ck ca C176 ++ clW ck cb ((gX5_type E3 120).2)) := hD
              obtain ⟨ty3, ht4, ye3, yf3⟩ := ty_TL (C := E3) (l := (([] ++ [wc w]) ++ dgs a)) (c := 120) ht3 (by have := dgs_len (v := a); have := dgs_len (v := b); first | omega | (simp only [List.length_append, List.length_cons, List.length_nil]; omega)) (nar_nI (q := 120) (by decide))
              rw [ty3]
              generalize (gX5_type E3 120).2 = E4 at hP hD ht4 ye3 yf3
              have hE4 : LR E4 f := LR_eq hE3 ye3 yf3
              have hP : va_P D vwCl (clW ck ca C176 ++ clW ck cb E4) H := hP
              have hD : va_D (va_A (clW ck ca C ++ clW ck cb E) s.heap.size) (clW ck ca C176 ++ clW ck cb E4) := hD
              refine lv_if_le (tgt := 250) hx hb dL_isStep_234 (by decide) (fun c_234 => ?_) (fun c_234 => ?_)
              · --t
                exact absurd c_234 (nI_nle (by omega) (by have := dgs_len (v := a); first | omega | (simp only [List.length_append, List.length_cons, List.length_nil]; omega)))
              · --f
                refine lv_aload_n hx hb dL_isStep_237 rfl (lv_at hl 2 rfl) ?_
                refine lv_iload hx hb dL_isStep_238 (lv_at hl 10 rfl) ?_
                refine xrete (va_runS (As := [.ref (cb 0 0), .int (nI b)]) (rest := []) ⟨hx, hb, hml, hown, hts⟩ (mL_number l D ck cb E4 b hbb ((([] ++ [wc w]) ++ dgs a) ++ [120]) ht4 (by have := dgs_len (v := a); first | omega | (simp only [List.length_append, List.length_cons, List.length_nil]; omega)) _) (va_cwS 2 hts gL_isStep_L_number rfl rfl rfl (by decide +kernel) ⟨Nat.le_of_ble_eq_true rfl, Nat.le_of_ble_eq_true rfl⟩) (xpreS hN hK hP hD List.perm_append_comm) rfl rfl hl.1 rfl (lv_room (Nat.le_of_ble_eq_true rfl)) dL_isStep_240 ⟨Nat.le_of_ble_eq_true rfl, Nat.le_of_ble_eq_true rfl⟩) hP hD hS hA List.perm_append_comm (fun _ => List.perm_append_comm) (fun E5 h99 H locs hP hD hS => ?_)
                have hP : va_P D vwCl (clW ck ca C176 ++ clW ck cb E5) H := hP
                have hD : va_D (va_A (clW ck ca C ++ clW ck cb E) s.heap.size) (clW ck ca C176 ++ clW ck cb E5) := hD
                obtain ⟨ht5, ye4, yf4⟩ := h99
                have hE5 : LR E5 f := LR_eq hE4 ye4 yf4
                have hP : va_P D vwCl (clW ck ca C176 ++ clW ck cb E5) H := hP
                have hD : va_D (va_A (clW ck ca C ++ clW ck cb E) s.heap.size) (clW ck ca C176 ++ clW ck cb E5) := hD
                refine lv_if_eq (tgt := 250) hx hb dL_isStep_243 (by decide) (fun c_243 => ?_) (fun c_243 => ?_)
                · --t
                  exact absurd c_243 (by decide)
                · --f
                  refine lv_iconst (v := 1) hx hb dL_isStep_246 (by decide) ?_
                  refine lv_goto (tgt := 251) hx hb dL_isStep_247 (by decide) ?_
                  refine lv_istore (lv' := [(13, .int 1), (12, .int (nI (nF f))), (0, .ref (ca 0 0)), (1, .ref (cb 0 0)), (2, .int x), (3, .int y), (4, .int (x >>> 4)), (5, .int (nI (nF f))), (8, .int (gX6_granted f)), (9, .int (nI w)), (10, .int (nI a)), (11, .int (nI b))]) hx hb dL_isStep_251 hl (by decide) rfl (fun ls hl => ?_)
                  refine lv_aload_n hx hb dL_isStep_253 rfl (lv_at hl 3 rfl) ?_
                  have hj5 : TLs E5.2.2.1 (jtx w a b) := by simpa [jtx, List.append_assoc] using ht5
                  have hTn := TX_aa hj5 jtx_len
                  refine xreti (va_runV (As := []) (rest := []) ⟨hx, hb, hml, hown, hts⟩ (mX5_askAll l D ck cb E5 (LR_hz hE5) (LR_hn hE5) _) (cwV 0 hts gL_isStep_X5_askAll rfl rfl rfl (by decide +kernel) ⟨Nat.le_of_ble_eq_true rfl, Nat.le_of_ble_eq_true rfl⟩) (xpreV hN hK hP hD List.perm_append_comm 0 rfl rfl rfl) rfl rfl hl.1 rfl (lv_room (Nat.le_of_ble_eq_true rfl)) dL_isStep_254 ⟨Nat.le_of_ble_eq_true rfl, Nat.le_of_ble_eq_true rfl⟩) hP hD hS hA List.perm_append_comm List.perm_append_comm (fun H locs hP hD hS => ?_)
                  have hP : va_P D vwCl (clW ck ca C176 ++ clW ck cb ((gX5_askAll E5).2)) H := hP
                  have hD : va_D (va_A (clW ck ca C ++ clW ck cb E) s.heap.size) (clW ck ca C176 ++ clW ck cb ((gX5_askAll E5).2)) := hD
                  obtain ⟨eb6, hE6⟩ := ((l_askAll hE5 hw ha hbb hj5).2 h16)
                  rw [eb6]
                  generalize (gX5_askAll E5).2 = E6 at hP hD hE6 hTn
                  have hP : va_P D vwCl (clW ck ca C176 ++ clW ck cb E6) H := hP
                  have hD : va_D (va_A (clW ck ca C ++ clW ck cb E) s.heap.size) (clW ck ca C176 ++ clW ck cb E6) := hD
                  refine lv_istore (lv' := [(14, .int 1), (13, .int 1), (12, .int (nI (nF f))), (0, .ref (ca 0 0)), (1, .ref (cb 0 0)), (2, .int x), (3, .int y), (4, .int (x >>> 4)), (5, .int (nI (nF f))), (8, .int (gX6_granted f)), (9, .int (nI w)), (10, .int (nI a)), (11, .int (nI b))]) hx hb dL_isStep_257 hl (by decide) rfl (fun ls hl => ?_)
                  refine lv_iload hx hb dL_isStep_259 (lv_at hl 1 rfl) ?_
                  refine lv_if_eq (tgt := 337) hx hb dL_isStep_261 (by decide) (fun c_261 => ?_) (fun c_261 => ?_)
                  · --t
                    exact absurd c_261 (by decide)
                  · --f
                    refine lv_iload hx hb dL_isStep_264 (lv_at hl 8 rfl) ?_
                    refine lv_bipush (v := (nI 16)) hx hb dL_isStep_266 (by decide) ?_
                    refine lv_icmp_ne (tgt := 288) hx hb dL_isStep_268 (by decide) (fun c_268 => ?_) (fun c_268 => ?_)
                    · --t
                      refine lv_iload hx hb dL_isStep_288 (lv_at hl 2 rfl) ?_
                      refine lv_iload hx hb dL_isStep_290 (lv_at hl 8 rfl) ?_
                      refine lv_icmp_ne (tgt := 337) hx hb dL_isStep_292 (by decide) (fun c_292 => ?_) (fun c_292 => ?_)
                      · --t
                        exact absurd rfl c_292
                      · --f
                        refine lv_iload hx hb dL_isStep_295 (lv_at hl 0 rfl) ?_
                        refine lv_iconst (v := 1) hx hb dL_isStep_297 (by decide) ?_
                        refine lv_icmp_ne (tgt := 337) hx hb dL_isStep_298 (by decide) (fun c_298 => ?_) (fun c_298 => ?_)
                        · --t
                          exact absurd (by decide) c_298
                        · --f
                          refine lv_aload_n hx hb dL_isStep_301 rfl (lv_at hl 3 rfl) ?_
                          refine lv_iload hx hb dL_isStep_302 (lv_at hl 8 rfl) ?_
                          refine lv_bipush (v := 8) hx hb dL_isStep_304 (by decide) ?_
                          refine xreti (va_runV (As := [.int (nI (nF f)), .int 8]) (rest := []) ⟨hx, hb, hml, hown, hts⟩ (mX5_join l D ck ca C176 (nI (nF f)) 8 _) (cwV 2 hts gL_isStep_X5_join rfl rfl rfl (by decide +kernel) ⟨Nat.le_of_ble_eq_true rfl, Nat.le_of_ble_eq_true rfl⟩) (xpreV hN hK hP hD (List.Perm.refl _) 0 rfl rfl rfl) rfl rfl hl.1 rfl (lv_room (Nat.le_of_ble_eq_true rfl)) dL_isStep_306 ⟨Nat.le_of_ble_eq_true rfl, Nat.le_of_ble_eq_true rfl⟩) hP hD hS hA (List.Perm.refl _) (List.Perm.refl _) (fun H locs hP hD hS => ?_)
                          have hP : va_P D vwCl (clW ck ca C176 ++ clW ck cb E6) H := hP
                          have hD : va_D (va_A (clW ck ca C ++ clW ck cb E) s.heap.size) (clW ck ca C176 ++ clW ck cb E6) := hD
                          rw [jn_8 hC176 hrow]
                          rw [show ((oF (gX6_comes f (nI w) (nI a) (nI b)) (nF f) 6) : Int32) = 0 from (cm_6 hm h16 hok)]
                          refine lv_if_ne (tgt := 337) hx hb dL_isStep_309 (by decide) (fun c_309 => ?_) (fun c_309 => ?_)
                          · --t
                            exact absurd (by decide) c_309
                          · --f
                            refine lv_aload_n hx hb dL_isStep_312 rfl (lv_at hl 3 rfl) ?_
                            refine lv_iload hx hb dL_isStep_313 (lv_at hl 8 rfl) ?_
                            refine lv_iconst (v := 3) hx hb dL_isStep_315 (by decide) ?_
                            refine xreti (va_runV (As := [.int (nI (nF f)), .int 3]) (rest := []) ⟨hx, hb, hml, hown, hts⟩ (mX5_join l D ck ca C176 (nI (nF f)) 3 _) (cwV 2 hts gL_isStep_X5_join rfl rfl rfl (by decide +kernel) ⟨Nat.le_of_ble_eq_true rfl, Nat.le_of_ble_eq_true rfl⟩) (xpreV hN hK hP hD (List.Perm.refl _) 0 rfl rfl rfl) rfl rfl hl.1 rfl (lv_room (Nat.le_of_ble_eq_true rfl)) dL_isStep_316 ⟨Nat.le_of_ble_eq_true rfl, Nat.le_of_ble_eq_true rfl⟩) hP hD hS hA (List.Perm.refl _) (List.Perm.refl _) (fun H locs hP hD hS => ?_)
                            have hP : va_P D vwCl (clW ck ca C176 ++ clW ck cb E6) H := hP
                            have hD : va_D (va_A (clW ck ca C ++ clW ck cb E) s.heap.size) (clW ck ca C176 ++ clW ck cb E6) := hD
                            rw [jn_3 hC176 hrow]
                            refine lv_iconst (v := 2) hx hb dL_isStep_319 (by decide) ?_
                            refine lv_icmp_ge (tgt := 337) hx hb dL_isStep_320 (by decide) (fun c_320 => ?_) (fun c_320 => ?_)
                            · --t
                              exact absurd c_320 (cm_3 hm h16 hok)
                            · --f
                              refine lv_aload_n hx hb dL_isStep_323 rfl (lv_at hl 3 rfl) ?_
                              refine lv_iconst (v := 5) hx hb dL_isStep_324 (by decide) ?_
                              refine xreti (va_runV (As := [.int 5]) (rest := []) ⟨hx, hb, hml, hown, hts⟩ (mX5_count l D ck ca C176 5 _) (cwV 1 hts gL_isStep_X5_count rfl rfl rfl (by decide +kernel) ⟨Nat.le_of_ble_eq_true rfl, Nat.le_of_ble_eq_true rfl⟩) (xpreV hN hK hP hD (List.Perm.refl _) 0 rfl rfl rfl) rfl rfl hl.1 rfl (lv_room (Nat.le_of_ble_eq_true rfl)) dL_isStep_325 ⟨Nat.le_of_ble_eq_true rfl, Nat.le_of_ble_eq_true rfl⟩) hP hD hS hA (List.Perm.refl _) (List.Perm.refl _) (fun H locs hP hD hS => ?_)
                              have hP : va_P D vwCl (clW ck ca C176 ++ clW ck cb E6) H := hP
                              have hD : va_D (va_A (clW ck ca C ++ clW ck cb E) s.heap.size) (clW ck ca C176 ++ clW ck cb E6) := hD
                              rw [cnt_5 hC176]
                              refine lv_iload hx hb dL_isStep_328 (lv_at hl 9 rfl) ?_
                              refine lv_icmp_lt (tgt := 337) hx hb dL_isStep_330 (by decide) (fun c_330 => ?_) (fun c_330 => ?_)
                              · --t
                                exact absurd c_330 (cm_g hm hW.2.1 h16 hok)
                              · --f
                                refine lv_iconst (v := 1) hx hb dL_isStep_333 (by decide) ?_
                                refine lv_goto (tgt := 338) hx hb dL_isStep_334 (by decide) ?_
                                refine W.widen (k := 150) (n := 2400) (by omega) (by omega) ?_
                                exact xezret (C176, E6, (gX6_comes f (nI w) (nI a) (nI b))) ⟨hC176, hE6, (WI_le (cm_WI hW h16 hok) (by omega)), hTn⟩ hx hb hr hlk hP hD hS (Or.inr rfl) rfl rfl dL_isStep_338
                    · --f
                      exact absurd ((nI_eq (by omega) (by decide)).mp c_268) (Nat.ne_of_lt (n_n16 hm h16))
        · --f
          refine lv_bipush (v := 98) hx hb dL_isStep_205 (by decide) ?_
          refine lv_goto (tgt := 212) hx hb dL_isStep_207 (by decide) ?_
          rw [show (98 : Int32) = (wc w) from (wc_1 hw c_202)]
          refine xreti (va_runV (As := [.int (wc w)]) (rest := []) ⟨hx, hb, hml, hown, hts⟩ (mX5_type l D ck cb E1 (wc w) (TLs_ht ht1 (by have := dgs_len (v := a); have := dgs_len (v := b); first | omega | (simp only [List.length_append, List.length_cons, List.length_nil]; omega))) _) (cwV 1 hts gL_isStep_X5_type rfl rfl rfl (by decide +kernel) ⟨Nat.le_of_ble_eq_true rfl, Nat.le_of_ble_eq_true rfl⟩) (xpreV hN hK hP hD List.perm_append_comm 0 rfl rfl rfl) rfl rfl hl.1 rfl (lv_room (Nat.le_of_ble_eq_true rfl)) dL_isStep_212 ⟨Nat.le_of_ble_eq_true rfl, Nat.le_of_ble_eq_true rfl⟩) hP hD hS hA List.perm_append_comm List.perm_append_comm (fun H locs hP hD hS => ?_)
          have hP : va_P D vwCl (clW ck ca C176 ++ clW ck cb ((gX5_type E1 (wc w)).2)) H := hP
          have hD : va_D (va_A (clW ck ca C ++ clW ck cb E) s.heap.size) (clW ck ca C176 ++ clW ck cb ((gX5_type E1 (wc w)).2)) := hD
          obtain ⟨ty1, ht2, ye1, yf1⟩ := ty_TL (C := E1) (l := []) (c := (wc w)) ht1 (by have := dgs_len (v := a); have := dgs_len (v := b); first | omega | (simp only [List.length_append, List.length_cons, List.length_nil]; omega)) wc_nar
          rw [ty1]
          generalize (gX5_type E1 (wc w)).2 = E2 at hP hD ht2 ye1 yf1
          have hE2 : LR E2 f := LR_eq hE1 ye1 yf1
          have hP : va_P D vwCl (clW ck ca C176 ++ clW ck cb E2) H := hP
          have hD : va_D (va_A (clW ck ca C ++ clW ck cb E) s.heap.size) (clW ck ca C176 ++ clW ck cb E2) := hD
          rw [show ((nI ([].length + 1)) : Int32) = (nI 1) from rfl]
          refine lv_iconst (v := (nI 1)) hx hb dL_isStep_215 (by decide) ?_
          refine lv_icmp_ne (tgt := 250) hx hb dL_isStep_216 (by decide) (fun c_216 => ?_) (fun c_216 => ?_)
          · --t
            exact absurd rfl c_216
          · --f
            refine lv_aload_n hx hb dL_isStep_219 rfl (lv_at hl 2 rfl) ?_
            refine lv_iload hx hb dL_isStep_220 (lv_at hl 9 rfl) ?_
            refine xrete (va_runS (As := [.ref (cb 0 0), .int (nI a)]) (rest := []) ⟨hx, hb, hml, hown, hts⟩ (mL_number l D ck cb E2 a ha ([] ++ [wc w]) ht2 (by have := dgs_len (v := a); first | omega | (simp only [List.length_append, List.length_cons, List.length_nil]; omega)) _) (va_cwS 2 hts gL_isStep_L_number rfl rfl rfl (by decide +kernel) ⟨Nat.le_of_ble_eq_true rfl, Nat.le_of_ble_eq_true rfl⟩) (xpreS hN hK hP hD List.perm_append_comm) rfl rfl hl.1 rfl (lv_room (Nat.le_of_ble_eq_true rfl)) dL_isStep_222 ⟨Nat.le_of_ble_eq_true rfl, Nat.le_of_ble_eq_true rfl⟩) hP hD hS hA List.perm_append_comm (fun _ => List.perm_append_comm) (fun E3 h99 H locs hP hD hS => ?_)
            have hP : va_P D vwCl (clW ck ca C176 ++ clW ck cb E3) H := hP
            have hD : va_D (va_A (clW ck ca C ++ clW ck cb E) s.heap.size) (clW ck ca C176 ++ clW ck cb E3) := hD
            obtain ⟨ht3, ye2, yf2⟩ := h99
            have hE3 : LR E3 f := LR_eq hE2 ye2 yf2
            have hP : va_P D vwCl (clW ck ca C176 ++ clW ck cb E3) H := hP
            have hD : va_D (va_A (clW ck ca C ++ clW ck cb E) s.heap.size) (clW ck ca C176 ++ clW ck cb E3) := hD
            refine lv_if_eq (tgt := 250) hx hb dL_isStep_225 (by decide) (fun c_225 => ?_) (fun c_225 => ?_)
            · --t
              exact absurd c_225 (by decide)
            · --f
              refine lv_aload_n hx hb dL_isStep_228 rfl (lv_at hl 2 rfl) ?_
              refine lv_bipush (v := 120) hx hb dL_isStep_229 (by decide) ?_
              refine xreti (va_runV (As := [.int 120]) (rest := []) ⟨hx, hb, hml, hown, hts⟩ (mX5_type l D ck cb E3 120 (TLs_ht ht3 (by have := dgs_len (v := a); have := dgs_len (v := b); first | omega | (simp only [List.length_append, List.length_cons, List.length_nil]; omega))) _) (cwV 1 hts gL_isStep_X5_type rfl rfl rfl (by decide +kernel) ⟨Nat.le_of_ble_eq_true rfl, Nat.le_of_ble_eq_true rfl⟩) (xpreV hN hK hP hD List.perm_append_comm 0 rfl rfl rfl) rfl rfl hl.1 rfl (lv_room (Nat.le_of_ble_eq_true rfl)) dL_isStep_231 ⟨Nat.le_of_ble_eq_true rfl, Nat.le_of_ble_eq_true rfl⟩) hP hD hS hA List.perm_append_comm List.perm_append_comm (fun H locs hP hD hS => ?_)
              have hP : va_P D vwCl (clW ck ca C176 ++ clW ck cb ((gX5_type E3 120).2)) H := hP
              have hD : va_D (va_A (clW ck ca C ++ clW ck cb E) s.heap.size) (clW ck ca C176 ++ clW ck cb ((gX5_type E3 120).2)) := hD
              obtain ⟨ty3, ht4, ye3, yf3⟩ := ty_TL (C := E3) (l := (([] ++ [wc w]) ++ dgs a)) (c := 120) ht3 (by have := dgs_len (v := a); have := dgs_len (v := b); first | omega | (simp only [List.length_append, List.length_cons, List.length_nil]; omega)) (nar_nI (q := 120) (by decide))
              rw [ty3]
              generalize (gX5_type E3 120).2 = E4 at hP hD ht4 ye3 yf3
              have hE4 : LR E4 f := LR_eq hE3 ye3 yf3
              have hP : va_P D vwCl (clW ck ca C176 ++ clW ck cb E4) H := hP
              have hD : va_D (va_A (clW ck ca C ++ clW ck cb E) s.heap.size) (clW ck ca C176 ++ clW ck cb E4) := hD
              refine lv_if_le (tgt := 250) hx hb dL_isStep_234 (by decide) (fun c_234 => ?_) (fun c_234 => ?_)
              · --t
                exact absurd c_234 (nI_nle (by omega) (by have := dgs_len (v := a); first | omega | (simp only [List.length_append, List.length_cons, List.length_nil]; omega)))
              · --f
                refine lv_aload_n hx hb dL_isStep_237 rfl (lv_at hl 2 rfl) ?_
                refine lv_iload hx hb dL_isStep_238 (lv_at hl 10 rfl) ?_
                refine xrete (va_runS (As := [.ref (cb 0 0), .int (nI b)]) (rest := []) ⟨hx, hb, hml, hown, hts⟩ (mL_number l D ck cb E4 b hbb ((([] ++ [wc w]) ++ dgs a) ++ [120]) ht4 (by have := dgs_len (v := a); first | omega | (simp only [List.length_append, List.length_cons, List.length_nil]; omega)) _) (va_cwS 2 hts gL_isStep_L_number rfl rfl rfl (by decide +kernel) ⟨Nat.le_of_ble_eq_true rfl, Nat.le_of_ble_eq_true rfl⟩) (xpreS hN hK hP hD List.perm_append_comm) rfl rfl hl.1 rfl (lv_room (Nat.le_of_ble_eq_true rfl)) dL_isStep_240 ⟨Nat.le_of_ble_eq_true rfl, Nat.le_of_ble_eq_true rfl⟩) hP hD hS hA List.perm_append_comm (fun _ => List.perm_append_comm) (fun E5 h99 H locs hP hD hS => ?_)
                have hP : va_P D vwCl (clW ck ca C176 ++ clW ck cb E5) H := hP
                have hD : va_D (va_A (clW ck ca C ++ clW ck cb E) s.heap.size) (clW ck ca C176 ++ clW ck cb E5) := hD
                obtain ⟨ht5, ye4, yf4⟩ := h99
                have hE5 : LR E5 f := LR_eq hE4 ye4 yf4
                have hP : va_P D vwCl (clW ck ca C176 ++ clW ck cb E5) H := hP
                have hD : va_D (va_A (clW ck ca C ++ clW ck cb E) s.heap.size) (clW ck ca C176 ++ clW ck cb E5) := hD
                refine lv_if_eq (tgt := 250) hx hb dL_isStep_243 (by decide) (fun c_243 => ?_) (fun c_243 => ?_)
                · --t
                  exact absurd c_243 (by decide)
                · --f
                  refine lv_iconst (v := 1) hx hb dL_isStep_246 (by decide) ?_
                  refine lv_goto (tgt := 251) hx hb dL_isStep_247 (by decide) ?_
                  refine lv_istore (lv' := [(13, .int 1), (12, .int (nI (nF f))), (0, .ref (ca 0 0)), (1, .ref (cb 0 0)), (2, .int x), (3, .int y), (4, .int (x >>> 4)), (5, .int (nI (nF f))), (8, .int (gX6_granted f)), (9, .int (nI w)), (10, .int (nI a)), (11, .int (nI b))]) hx hb dL_isStep_251 hl (by decide) rfl (fun ls hl => ?_)
                  refine lv_aload_n hx hb dL_isStep_253 rfl (lv_at hl 3 rfl) ?_
                  have hj5 : TLs E5.2.2.1 (jtx w a b) := by simpa [jtx, List.append_assoc] using ht5
                  have hTn := TX_aa hj5 jtx_len
                  refine xreti (va_runV (As := []) (rest := []) ⟨hx, hb, hml, hown, hts⟩ (mX5_askAll l D ck cb E5 (LR_hz hE5) (LR_hn hE5) _) (cwV 0 hts gL_isStep_X5_askAll rfl rfl rfl (by decide +kernel) ⟨Nat.le_of_ble_eq_true rfl, Nat.le_of_ble_eq_true rfl⟩) (xpreV hN hK hP hD List.perm_append_comm 0 rfl rfl rfl) rfl rfl hl.1 rfl (lv_room (Nat.le_of_ble_eq_true rfl)) dL_isStep_254 ⟨Nat.le_of_ble_eq_true rfl, Nat.le_of_ble_eq_true rfl⟩) hP hD hS hA List.perm_append_comm List.perm_append_comm (fun H locs hP hD hS => ?_)
                  have hP : va_P D vwCl (clW ck ca C176 ++ clW ck cb ((gX5_askAll E5).2)) H := hP
                  have hD : va_D (va_A (clW ck ca C ++ clW ck cb E) s.heap.size) (clW ck ca C176 ++ clW ck cb ((gX5_askAll E5).2)) := hD
                  obtain ⟨eb6, hE6⟩ := ((l_askAll hE5 hw ha hbb hj5).2 h16)
                  rw [eb6]
                  generalize (gX5_askAll E5).2 = E6 at hP hD hE6 hTn
                  have hP : va_P D vwCl (clW ck ca C176 ++ clW ck cb E6) H := hP
                  have hD : va_D (va_A (clW ck ca C ++ clW ck cb E) s.heap.size) (clW ck ca C176 ++ clW ck cb E6) := hD
                  refine lv_istore (lv' := [(14, .int 1), (13, .int 1), (12, .int (nI (nF f))), (0, .ref (ca 0 0)), (1, .ref (cb 0 0)), (2, .int x), (3, .int y), (4, .int (x >>> 4)), (5, .int (nI (nF f))), (8, .int (gX6_granted f)), (9, .int (nI w)), (10, .int (nI a)), (11, .int (nI b))]) hx hb dL_isStep_257 hl (by decide) rfl (fun ls hl => ?_)
                  refine lv_iload hx hb dL_isStep_259 (lv_at hl 1 rfl) ?_
                  refine lv_if_eq (tgt := 337) hx hb dL_isStep_261 (by decide) (fun c_261 => ?_) (fun c_261 => ?_)
                  · --t
                    exact absurd c_261 (by decide)
                  · --f
                    refine lv_iload hx hb dL_isStep_264 (lv_at hl 8 rfl) ?_
                    refine lv_bipush (v := (nI 16)) hx hb dL_isStep_266 (by decide) ?_
                    refine lv_icmp_ne (tgt := 288) hx hb dL_isStep_268 (by decide) (fun c_268 => ?_) (fun c_268 => ?_)
                    · --t
                      refine lv_iload hx hb dL_isStep_288 (lv_at hl 2 rfl) ?_
                      refine lv_iload hx hb dL_isStep_290 (lv_at hl 8 rfl) ?_
                      refine lv_icmp_ne (tgt := 337) hx hb dL_isStep_292 (by decide) (fun c_292 => ?_) (fun c_292 => ?_)
                      · --t
                        exact absurd rfl c_292
                      · --f
                        refine lv_iload hx hb dL_isStep_295 (lv_at hl 0 rfl) ?_
                        refine lv_iconst (v := 1) hx hb dL_isStep_297 (by decide) ?_
                        refine lv_icmp_ne (tgt := 337) hx hb dL_isStep_298 (by decide) (fun c_298 => ?_) (fun c_298 => ?_)
                        · --t
                          exact absurd (by decide) c_298
                        · --f
                          refine lv_aload_n hx hb dL_isStep_301 rfl (lv_at hl 3 rfl) ?_
                          refine lv_iload hx hb dL_isStep_302 (lv_at hl 8 rfl) ?_
                          refine lv_bipush (v := 8) hx hb dL_isStep_304 (by decide) ?_
                          refine xreti (va_runV (As := [.int (nI (nF f)), .int 8]) (rest := []) ⟨hx, hb, hml, hown, hts⟩ (mX5_join l D ck ca C176 (nI (nF f)) 8 _) (cwV 2 hts gL_isStep_X5_join rfl rfl rfl (by decide +kernel) ⟨Nat.le_of_ble_eq_true rfl, Nat.le_of_ble_eq_true rfl⟩) (xpreV hN hK hP hD (List.Perm.refl _) 0 rfl rfl rfl) rfl rfl hl.1 rfl (lv_room (Nat.le_of_ble_eq_true rfl)) dL_isStep_306 ⟨Nat.le_of_ble_eq_true rfl, Nat.le_of_ble_eq_true rfl⟩) hP hD hS hA (List.Perm.refl _) (List.Perm.refl _) (fun H locs hP hD hS => ?_)
                          have hP : va_P D vwCl (clW ck ca C176 ++ clW ck cb E6) H := hP
                          have hD : va_D (va_A (clW ck ca C ++ clW ck cb E) s.heap.size) (clW ck ca C176 ++ clW ck cb E6) := hD
                          rw [jn_8 hC176 hrow]
                          rw [show ((oF (gX6_comes f (nI w) (nI a) (nI b)) (nF f) 6) : Int32) = 0 from (cm_6 hm h16 hok)]
                          refine lv_if_ne (tgt := 337) hx hb dL_isStep_309 (by decide) (fun c_309 => ?_) (fun c_309 => ?_)
                          · --t
                            exact absurd (by decide) c_309
                          · --f
                            refine lv_aload_n hx hb dL_isStep_312 rfl (lv_at hl 3 rfl) ?_
                            refine lv_iload hx hb dL_isStep_313 (lv_at hl 8 rfl) ?_
                            refine lv_iconst (v := 3) hx hb dL_isStep_315 (by decide) ?_
                            refine xreti (va_runV (As := [.int (nI (nF f)), .int 3]) (rest := []) ⟨hx, hb, hml, hown, hts⟩ (mX5_join l D ck ca C176 (nI (nF f)) 3 _) (cwV 2 hts gL_isStep_X5_join rfl rfl rfl (by decide +kernel) ⟨Nat.le_of_ble_eq_true rfl, Nat.le_of_ble_eq_true rfl⟩) (xpreV hN hK hP hD (List.Perm.refl _) 0 rfl rfl rfl) rfl rfl hl.1 rfl (lv_room (Nat.le_of_ble_eq_true rfl)) dL_isStep_316 ⟨Nat.le_of_ble_eq_true rfl, Nat.le_of_ble_eq_true rfl⟩) hP hD hS hA (List.Perm.refl _) (List.Perm.refl _) (fun H locs hP hD hS => ?_)
                            have hP : va_P D vwCl (clW ck ca C176 ++ clW ck cb E6) H := hP
                            have hD : va_D (va_A (clW ck ca C ++ clW ck cb E) s.heap.size) (clW ck ca C176 ++ clW ck cb E6) := hD
                            rw [jn_3 hC176 hrow]
                            refine lv_iconst (v := 2) hx hb dL_isStep_319 (by decide) ?_
                            refine lv_icmp_ge (tgt := 337) hx hb dL_isStep_320 (by decide) (fun c_320 => ?_) (fun c_320 => ?_)
                            · --t
                              exact absurd c_320 (cm_3 hm h16 hok)
                            · --f
                              refine lv_aload_n hx hb dL_isStep_323 rfl (lv_at hl 3 rfl) ?_
                              refine lv_iconst (v := 5) hx hb dL_isStep_324 (by decide) ?_
                              refine xreti (va_runV (As := [.int 5]) (rest := []) ⟨hx, hb, hml, hown, hts⟩ (mX5_count l D ck ca C176 5 _) (cwV 1 hts gL_isStep_X5_count rfl rfl rfl (by decide +kernel) ⟨Nat.le_of_ble_eq_true rfl, Nat.le_of_ble_eq_true rfl⟩) (xpreV hN hK hP hD (List.Perm.refl _) 0 rfl rfl rfl) rfl rfl hl.1 rfl (lv_room (Nat.le_of_ble_eq_true rfl)) dL_isStep_325 ⟨Nat.le_of_ble_eq_true rfl, Nat.le_of_ble_eq_true rfl⟩) hP hD hS hA (List.Perm.refl _) (List.Perm.refl _) (fun H locs hP hD hS => ?_)
                              have hP : va_P D vwCl (clW ck ca C176 ++ clW ck cb E6) H := hP
                              have hD : va_D (va_A (clW ck ca C ++ clW ck cb E) s.heap.size) (clW ck ca C176 ++ clW ck cb E6) := hD
                              rw [cnt_5 hC176]
                              refine lv_iload hx hb dL_isStep_328 (lv_at hl 9 rfl) ?_
                              refine lv_icmp_lt (tgt := 337) hx hb dL_isStep_330 (by decide) (fun c_330 => ?_) (fun c_330 => ?_)
                              · --t
                                exact absurd c_330 (cm_g hm hW.2.1 h16 hok)
                              · --f
                                refine lv_iconst (v := 1) hx hb dL_isStep_333 (by decide) ?_
                                refine lv_goto (tgt := 338) hx hb dL_isStep_334 (by decide) ?_
                                refine W.widen (k := 150) (n := 2400) (by omega) (by omega) ?_
                                exact xezret (C176, E6, (gX6_comes f (nI w) (nI a) (nI b))) ⟨hC176, hE6, (WI_le (cm_WI hW h16 hok) (by omega)), hTn⟩ hx hb hr hlk hP hD hS (Or.inr rfl) rfl rfl dL_isStep_338
                    · --f
                      exact absurd ((nI_eq (by omega) (by decide)).mp c_268) (Nat.ne_of_lt (n_n16 hm h16))
      · --f
        refine lv_bipush (v := 108) hx hb dL_isStep_194 (by decide) ?_
        refine lv_goto (tgt := 212) hx hb dL_isStep_196 (by decide) ?_
        rw [show (108 : Int32) = (wc w) from (wc_0 hw c_191)]
        refine xreti (va_runV (As := [.int (wc w)]) (rest := []) ⟨hx, hb, hml, hown, hts⟩ (mX5_type l D ck cb E1 (wc w) (TLs_ht ht1 (by have := dgs_len (v := a); have := dgs_len (v := b); first | omega | (simp only [List.length_append, List.length_cons, List.length_nil]; omega))) _) (cwV 1 hts gL_isStep_X5_type rfl rfl rfl (by decide +kernel) ⟨Nat.le_of_ble_eq_true rfl, Nat.le_of_ble_eq_true rfl⟩) (xpreV hN hK hP hD List.perm_append_comm 0 rfl rfl rfl) rfl rfl hl.1 rfl (lv_room (Nat.le_of_ble_eq_true rfl)) dL_isStep_212 ⟨Nat.le_of_ble_eq_true rfl, Nat.le_of_ble_eq_true rfl⟩) hP hD hS hA List.perm_append_comm List.perm_append_comm (fun H locs hP hD hS => ?_)
        have hP : va_P D vwCl (clW ck ca C176 ++ clW ck cb ((gX5_type E1 (wc w)).2)) H := hP
        have hD : va_D (va_A (clW ck ca C ++ clW ck cb E) s.heap.size) (clW ck ca C176 ++ clW ck cb ((gX5_type E1 (wc w)).2)) := hD
        obtain ⟨ty1, ht2, ye1, yf1⟩ := ty_TL (C := E1) (l := []) (c := (wc w)) ht1 (by have := dgs_len (v := a); have := dgs_len (v := b); first | omega | (simp only [List.length_append, List.length_cons, List.length_nil]; omega)) wc_nar
        rw [ty1]
        generalize (gX5_type E1 (wc w)).2 = E2 at hP hD ht2 ye1 yf1
        have hE2 : LR E2 f := LR_eq hE1 ye1 yf1
        have hP : va_P D vwCl (clW ck ca C176 ++ clW ck cb E2) H := hP
        have hD : va_D (va_A (clW ck ca C ++ clW ck cb E) s.heap.size) (clW ck ca C176 ++ clW ck cb E2) := hD
        rw [show ((nI ([].length + 1)) : Int32) = (nI 1) from rfl]
        refine lv_iconst (v := (nI 1)) hx hb dL_isStep_215 (by decide) ?_
        refine lv_icmp_ne (tgt := 250) hx hb dL_isStep_216 (by decide) (fun c_216 => ?_) (fun c_216 => ?_)
        · --t
          exact absurd rfl c_216
        · --f
          refine lv_aload_n hx hb dL_isStep_219 rfl (lv_at hl 2 rfl) ?_
          refine lv_iload hx hb dL_isStep_220 (lv_at hl 9 rfl) ?_
          refine xrete (va_runS (As := [.ref (cb 0 0), .int (nI a)]) (rest := []) ⟨hx, hb, hml, hown, hts⟩ (mL_number l D ck cb E2 a ha ([] ++ [wc w]) ht2 (by have := dgs_len (v := a); first | omega | (simp only [List.length_append, List.length_cons, List.length_nil]; omega)) _) (va_cwS 2 hts gL_isStep_L_number rfl rfl rfl (by decide +kernel) ⟨Nat.le_of_ble_eq_true rfl, Nat.le_of_ble_eq_true rfl⟩) (xpreS hN hK hP hD List.perm_append_comm) rfl rfl hl.1 rfl (lv_room (Nat.le_of_ble_eq_true rfl)) dL_isStep_222 ⟨Nat.le_of_ble_eq_true rfl, Nat.le_of_ble_eq_true rfl⟩) hP hD hS hA List.perm_append_comm (fun _ => List.perm_append_comm) (fun E3 h99 H locs hP hD hS => ?_)
          have hP : va_P D vwCl (clW ck ca C176 ++ clW ck cb E3) H := hP
          have hD : va_D (va_A (clW ck ca C ++ clW ck cb E) s.heap.size) (clW ck ca C176 ++ clW ck cb E3) := hD
          obtain ⟨ht3, ye2, yf2⟩ := h99
          have hE3 : LR E3 f := LR_eq hE2 ye2 yf2
          have hP : va_P D vwCl (clW ck ca C176 ++ clW ck cb E3) H := hP
          have hD : va_D (va_A (clW ck ca C ++ clW ck cb E) s.heap.size) (clW ck ca C176 ++ clW ck cb E3) := hD
          refine lv_if_eq (tgt := 250) hx hb dL_isStep_225 (by decide) (fun c_225 => ?_) (fun c_225 => ?_)
          · --t
            exact absurd c_225 (by decide)
          · --f
            refine lv_aload_n hx hb dL_isStep_228 rfl (lv_at hl 2 rfl) ?_
            refine lv_bipush (v := 120) hx hb dL_isStep_229 (by decide) ?_
            refine xreti (va_runV (As := [.int 120]) (rest := []) ⟨hx, hb, hml, hown, hts⟩ (mX5_type l D ck cb E3 120 (TLs_ht ht3 (by have := dgs_len (v := a); have := dgs_len (v := b); first | omega | (simp only [List.length_append, List.length_cons, List.length_nil]; omega))) _) (cwV 1 hts gL_isStep_X5_type rfl rfl rfl (by decide +kernel) ⟨Nat.le_of_ble_eq_true rfl, Nat.le_of_ble_eq_true rfl⟩) (xpreV hN hK hP hD List.perm_append_comm 0 rfl rfl rfl) rfl rfl hl.1 rfl (lv_room (Nat.le_of_ble_eq_true rfl)) dL_isStep_231 ⟨Nat.le_of_ble_eq_true rfl, Nat.le_of_ble_eq_true rfl⟩) hP hD hS hA List.perm_append_comm List.perm_append_comm (fun H locs hP hD hS => ?_)
            have hP : va_P D vwCl (clW ck ca C176 ++ clW ck cb ((gX5_type E3 120).2)) H := hP
            have hD : va_D (va_A (clW ck ca C ++ clW ck cb E) s.heap.size) (clW ck ca C176 ++ clW ck cb ((gX5_type E3 120).2)) := hD
            obtain ⟨ty3, ht4, ye3, yf3⟩ := ty_TL (C := E3) (l := (([] ++ [wc w]) ++ dgs a)) (c := 120) ht3 (by have := dgs_len (v := a); have := dgs_len (v := b); first | omega | (simp only [List.length_append, List.length_cons, List.length_nil]; omega)) (nar_nI (q := 120) (by decide))
            rw [ty3]
            generalize (gX5_type E3 120).2 = E4 at hP hD ht4 ye3 yf3
            have hE4 : LR E4 f := LR_eq hE3 ye3 yf3
            have hP : va_P D vwCl (clW ck ca C176 ++ clW ck cb E4) H := hP
            have hD : va_D (va_A (clW ck ca C ++ clW ck cb E) s.heap.size) (clW ck ca C176 ++ clW ck cb E4) := hD
            refine lv_if_le (tgt := 250) hx hb dL_isStep_234 (by decide) (fun c_234 => ?_) (fun c_234 => ?_)
            · --t
              exact absurd c_234 (nI_nle (by omega) (by have := dgs_len (v := a); first | omega | (simp only [List.length_append, List.length_cons, List.length_nil]; omega)))
            · --f
              refine lv_aload_n hx hb dL_isStep_237 rfl (lv_at hl 2 rfl) ?_
              refine lv_iload hx hb dL_isStep_238 (lv_at hl 10 rfl) ?_
              refine xrete (va_runS (As := [.ref (cb 0 0), .int (nI b)]) (rest := []) ⟨hx, hb, hml, hown, hts⟩ (mL_number l D ck cb E4 b hbb ((([] ++ [wc w]) ++ dgs a) ++ [120]) ht4 (by have := dgs_len (v := a); first | omega | (simp only [List.length_append, List.length_cons, List.length_nil]; omega)) _) (va_cwS 2 hts gL_isStep_L_number rfl rfl rfl (by decide +kernel) ⟨Nat.le_of_ble_eq_true rfl, Nat.le_of_ble_eq_true rfl⟩) (xpreS hN hK hP hD List.perm_append_comm) rfl rfl hl.1 rfl (lv_room (Nat.le_of_ble_eq_true rfl)) dL_isStep_240 ⟨Nat.le_of_ble_eq_true rfl, Nat.le_of_ble_eq_true rfl⟩) hP hD hS hA List.perm_append_comm (fun _ => List.perm_append_comm) (fun E5 h99 H locs hP hD hS => ?_)
              have hP : va_P D vwCl (clW ck ca C176 ++ clW ck cb E5) H := hP
              have hD : va_D (va_A (clW ck ca C ++ clW ck cb E) s.heap.size) (clW ck ca C176 ++ clW ck cb E5) := hD
              obtain ⟨ht5, ye4, yf4⟩ := h99
              have hE5 : LR E5 f := LR_eq hE4 ye4 yf4
              have hP : va_P D vwCl (clW ck ca C176 ++ clW ck cb E5) H := hP
              have hD : va_D (va_A (clW ck ca C ++ clW ck cb E) s.heap.size) (clW ck ca C176 ++ clW ck cb E5) := hD
              refine lv_if_eq (tgt := 250) hx hb dL_isStep_243 (by decide) (fun c_243 => ?_) (fun c_243 => ?_)
              · --t
                exact absurd c_243 (by decide)
              · --f
                refine lv_iconst (v := 1) hx hb dL_isStep_246 (by decide) ?_
                refine lv_goto (tgt := 251) hx hb dL_isStep_247 (by decide) ?_
                refine lv_istore (lv' := [(13, .int 1), (12, .int (nI (nF f))), (0, .ref (ca 0 0)), (1, .ref (cb 0 0)), (2, .int x), (3, .int y), (4, .int (x >>> 4)), (5, .int (nI (nF f))), (8, .int (gX6_granted f)), (9, .int (nI w)), (10, .int (nI a)), (11, .int (nI b))]) hx hb dL_isStep_251 hl (by decide) rfl (fun ls hl => ?_)
                refine lv_aload_n hx hb dL_isStep_253 rfl (lv_at hl 3 rfl) ?_
                have hj5 : TLs E5.2.2.1 (jtx w a b) := by simpa [jtx, List.append_assoc] using ht5
                have hTn := TX_aa hj5 jtx_len
                refine xreti (va_runV (As := []) (rest := []) ⟨hx, hb, hml, hown, hts⟩ (mX5_askAll l D ck cb E5 (LR_hz hE5) (LR_hn hE5) _) (cwV 0 hts gL_isStep_X5_askAll rfl rfl rfl (by decide +kernel) ⟨Nat.le_of_ble_eq_true rfl, Nat.le_of_ble_eq_true rfl⟩) (xpreV hN hK hP hD List.perm_append_comm 0 rfl rfl rfl) rfl rfl hl.1 rfl (lv_room (Nat.le_of_ble_eq_true rfl)) dL_isStep_254 ⟨Nat.le_of_ble_eq_true rfl, Nat.le_of_ble_eq_true rfl⟩) hP hD hS hA List.perm_append_comm List.perm_append_comm (fun H locs hP hD hS => ?_)
                have hP : va_P D vwCl (clW ck ca C176 ++ clW ck cb ((gX5_askAll E5).2)) H := hP
                have hD : va_D (va_A (clW ck ca C ++ clW ck cb E) s.heap.size) (clW ck ca C176 ++ clW ck cb ((gX5_askAll E5).2)) := hD
                obtain ⟨eb6, hE6⟩ := ((l_askAll hE5 hw ha hbb hj5).2 h16)
                rw [eb6]
                generalize (gX5_askAll E5).2 = E6 at hP hD hE6 hTn
                have hP : va_P D vwCl (clW ck ca C176 ++ clW ck cb E6) H := hP
                have hD : va_D (va_A (clW ck ca C ++ clW ck cb E) s.heap.size) (clW ck ca C176 ++ clW ck cb E6) := hD
                refine lv_istore (lv' := [(14, .int 1), (13, .int 1), (12, .int (nI (nF f))), (0, .ref (ca 0 0)), (1, .ref (cb 0 0)), (2, .int x), (3, .int y), (4, .int (x >>> 4)), (5, .int (nI (nF f))), (8, .int (gX6_granted f)), (9, .int (nI w)), (10, .int (nI a)), (11, .int (nI b))]) hx hb dL_isStep_257 hl (by decide) rfl (fun ls hl => ?_)
                refine lv_iload hx hb dL_isStep_259 (lv_at hl 1 rfl) ?_
                refine lv_if_eq (tgt := 337) hx hb dL_isStep_261 (by decide) (fun c_261 => ?_) (fun c_261 => ?_)
                · --t
                  exact absurd c_261 (by decide)
                · --f
                  refine lv_iload hx hb dL_isStep_264 (lv_at hl 8 rfl) ?_
                  refine lv_bipush (v := (nI 16)) hx hb dL_isStep_266 (by decide) ?_
                  refine lv_icmp_ne (tgt := 288) hx hb dL_isStep_268 (by decide) (fun c_268 => ?_) (fun c_268 => ?_)
                  · --t
                    refine lv_iload hx hb dL_isStep_288 (lv_at hl 2 rfl) ?_
                    refine lv_iload hx hb dL_isStep_290 (lv_at hl 8 rfl) ?_
                    refine lv_icmp_ne (tgt := 337) hx hb dL_isStep_292 (by decide) (fun c_292 => ?_) (fun c_292 => ?_)
                    · --t
                      exact absurd rfl c_292
                    · --f
                      refine lv_iload hx hb dL_isStep_295 (lv_at hl 0 rfl) ?_
                      refine lv_iconst (v := 1) hx hb dL_isStep_297 (by decide) ?_
                      refine lv_icmp_ne (tgt := 337) hx hb dL_isStep_298 (by decide) (fun c_298 => ?_) (fun c_298 => ?_)
                      · --t
                        exact absurd (by decide) c_298
                      · --f
                        refine lv_aload_n hx hb dL_isStep_301 rfl (lv_at hl 3 rfl) ?_
                        refine lv_iload hx hb dL_isStep_302 (lv_at hl 8 rfl) ?_
                        refine lv_bipush (v := 8) hx hb dL_isStep_304 (by decide) ?_
                        refine xreti (va_runV (As := [.int (nI (nF f)), .int 8]) (rest := []) ⟨hx, hb, hml, hown, hts⟩ (mX5_join l D ck ca C176 (nI (nF f)) 8 _) (cwV 2 hts gL_isStep_X5_join rfl rfl rfl (by decide +kernel) ⟨Nat.le_of_ble_eq_true rfl, Nat.le_of_ble_eq_true rfl⟩) (xpreV hN hK hP hD (List.Perm.refl _) 0 rfl rfl rfl) rfl rfl hl.1 rfl (lv_room (Nat.le_of_ble_eq_true rfl)) dL_isStep_306 ⟨Nat.le_of_ble_eq_true rfl, Nat.le_of_ble_eq_true rfl⟩) hP hD hS hA (List.Perm.refl _) (List.Perm.refl _) (fun H locs hP hD hS => ?_)
                        have hP : va_P D vwCl (clW ck ca C176 ++ clW ck cb E6) H := hP
                        have hD : va_D (va_A (clW ck ca C ++ clW ck cb E) s.heap.size) (clW ck ca C176 ++ clW ck cb E6) := hD
                        rw [jn_8 hC176 hrow]
                        rw [show ((oF (gX6_comes f (nI w) (nI a) (nI b)) (nF f) 6) : Int32) = 0 from (cm_6 hm h16 hok)]
                        refine lv_if_ne (tgt := 337) hx hb dL_isStep_309 (by decide) (fun c_309 => ?_) (fun c_309 => ?_)
                        · --t
                          exact absurd (by decide) c_309
                        · --f
                          refine lv_aload_n hx hb dL_isStep_312 rfl (lv_at hl 3 rfl) ?_
                          refine lv_iload hx hb dL_isStep_313 (lv_at hl 8 rfl) ?_
                          refine lv_iconst (v := 3) hx hb dL_isStep_315 (by decide) ?_
                          refine xreti (va_runV (As := [.int (nI (nF f)), .int 3]) (rest := []) ⟨hx, hb, hml, hown, hts⟩ (mX5_join l D ck ca C176 (nI (nF f)) 3 _) (cwV 2 hts gL_isStep_X5_join rfl rfl rfl (by decide +kernel) ⟨Nat.le_of_ble_eq_true rfl, Nat.le_of_ble_eq_true rfl⟩) (xpreV hN hK hP hD (List.Perm.refl _) 0 rfl rfl rfl) rfl rfl hl.1 rfl (lv_room (Nat.le_of_ble_eq_true rfl)) dL_isStep_316 ⟨Nat.le_of_ble_eq_true rfl, Nat.le_of_ble_eq_true rfl⟩) hP hD hS hA (List.Perm.refl _) (List.Perm.refl _) (fun H locs hP hD hS => ?_)
                          have hP : va_P D vwCl (clW ck ca C176 ++ clW ck cb E6) H := hP
                          have hD : va_D (va_A (clW ck ca C ++ clW ck cb E) s.heap.size) (clW ck ca C176 ++ clW ck cb E6) := hD
                          rw [jn_3 hC176 hrow]
                          refine lv_iconst (v := 2) hx hb dL_isStep_319 (by decide) ?_
                          refine lv_icmp_ge (tgt := 337) hx hb dL_isStep_320 (by decide) (fun c_320 => ?_) (fun c_320 => ?_)
                          · --t
                            exact absurd c_320 (cm_3 hm h16 hok)
                          · --f
                            refine lv_aload_n hx hb dL_isStep_323 rfl (lv_at hl 3 rfl) ?_
                            refine lv_iconst (v := 5) hx hb dL_isStep_324 (by decide) ?_
                            refine xreti (va_runV (As := [.int 5]) (rest := []) ⟨hx, hb, hml, hown, hts⟩ (mX5_count l D ck ca C176 5 _) (cwV 1 hts gL_isStep_X5_count rfl rfl rfl (by decide +kernel) ⟨Nat.le_of_ble_eq_true rfl, Nat.le_of_ble_eq_true rfl⟩) (xpreV hN hK hP hD (List.Perm.refl _) 0 rfl rfl rfl) rfl rfl hl.1 rfl (lv_room (Nat.le_of_ble_eq_true rfl)) dL_isStep_325 ⟨Nat.le_of_ble_eq_true rfl, Nat.le_of_ble_eq_true rfl⟩) hP hD hS hA (List.Perm.refl _) (List.Perm.refl _) (fun H locs hP hD hS => ?_)
                            have hP : va_P D vwCl (clW ck ca C176 ++ clW ck cb E6) H := hP
                            have hD : va_D (va_A (clW ck ca C ++ clW ck cb E) s.heap.size) (clW ck ca C176 ++ clW ck cb E6) := hD
                            rw [cnt_5 hC176]
                            refine lv_iload hx hb dL_isStep_328 (lv_at hl 9 rfl) ?_
                            refine lv_icmp_lt (tgt := 337) hx hb dL_isStep_330 (by decide) (fun c_330 => ?_) (fun c_330 => ?_)
                            · --t
                              exact absurd c_330 (cm_g hm hW.2.1 h16 hok)
                            · --f
                              refine lv_iconst (v := 1) hx hb dL_isStep_333 (by decide) ?_
                              refine lv_goto (tgt := 338) hx hb dL_isStep_334 (by decide) ?_
                              refine W.widen (k := 150) (n := 2400) (by omega) (by omega) ?_
                              exact xezret (C176, E6, (gX6_comes f (nI w) (nI a) (nI b))) ⟨hC176, hE6, (WI_le (cm_WI hW h16 hok) (by omega)), hTn⟩ hx hb hr hlk hP hD hS (Or.inr rfl) rfl rfl dL_isStep_338
                  · --f
                    exact absurd ((nI_eq (by omega) (by decide)).mp c_268) (Nat.ne_of_lt (n_n16 hm h16))
set_option maxHeartbeats 16000000 in
set_option maxRecDepth 100000 in
theorem s_ask_b {zp : Program} {l : Launch} {ze : Env} {s : State} {zm : MethodId} {zb : List Frame} {zt : Method} {zc : Code} {D : va_G} {ck : Nat → ClassId} {tt : Nat → Nat} {ca cb : Nat → Nat → Nat} {C E : CS} {f : FS} {N : Nat} {x y : Int32} (hx : zp.tables.exec = Jvm.exec) (hb : zc.code = cL_isStep) (hr : zt.sig.returnType = some .boolean) (hml : zc.maxLocals = 15) (hown : s.vm.findClass RL = some zm.cls) (hts : ∀ w ∈ wsL_isStep, w.before ([.ref (ca 0 0), .ref (cb 0 0), .int x, .int y] : List Value).toArray s = true) (hlk : zt.locks = false) (hN : xN s) (hK : va_K D vwCl (xT ck) s) (hZ : xStat tt (va_A (clW ck ca C ++ clW ck cb E) s.heap.size) s s.heap) (hA : ∀ zq : Nat, s.heap.size ≤ zq → (va_A (clW ck ca C ++ clW ck cb E) s.heap.size) zq) (hC : LR C f) (hE : LR E f) (hW : WI f N) (hT : TX E) (hb6 : N + 150 ≤ 1000000) {w a : Nat} (hw : w < 3) (ha : 1 ≤ a ∧ a ≤ 200) : ∀ (H : Heap) (locs : List Loc) (ls : Array Slot), va_P D vwCl (clW ck ca C ++ clW ck cb E) H → va_D (va_A (clW ck ca C ++ clW ck cb E) s.heap.size) (clW ck ca C ++ clW ck cb E) → va_S (va_A (clW ck ca C ++ clW ck cb E) s.heap.size) s.heap H locs → lv_has ls 15 [(0, .ref (ca 0 0)), (1, .ref (cb 0 0)), (2, .int x), (3, .int y), (4, .int (x >>> 4)), (5, .int (nI (nF f))), (8, .int (gX6_granted f)), (9, .int (nI w)), (10, .int (nI a))] → W zp l ze rmL_isStep s zm ([.ref (ca 0 0), .ref (cb 0 0), .int x, .int y] : List Value).toArray zb zt zc H locs 0 0 (MQ zb (xQe D (clW ck ca C ++ clW ck cb E) (fun u : CS × CS × FS => clW ck ca u.1 ++ clW ck cb u.2.1) (fun u : CS × CS × FS => LR u.1 u.2.2 ∧ LR u.2.1 u.2.2 ∧ WI u.2.2 (N + 150) ∧ TX u.2.1) (fun _ => 1) s.heap.size) ([.ref (ca 0 0), .ref (cb 0 0), .int x, .int y] : List Value).toArray s 150 2400 (va_A (clW ck ca C ++ clW ck cb E) s.heap.size)) (F0 zm 141 ls []) := by
  intro H locs ls hP hD hS hl
  have hm := hC.1.2
  have hn := n_le hm
  refine lv_iconst (v := (nI 1)) hx hb dL_isStep_141 (by decide) ?_
  refine lv_iload_n hx hb dL_isStep_142 rfl (lv_at hl 3 rfl) ?_
  refine lv_bipush (v := 7) hx hb dL_isStep_143 (by decide) ?_
  refine lv_ishr hx hb dL_isStep_145 ?_
  refine lv_iload hx hb dL_isStep_146 (lv_at hl 4 rfl) ?_
  refine lv_iconst (v := (nI 4)) hx hb dL_isStep_148 (by decide) ?_
  refine xreti (va_runS (As := [.int (x >>> 4), .int (nI 4)]) (rest := [.int (y >>> 7), .int (nI 1)]) ⟨hx, hb, hml, hown, hts⟩ (mL_up l D ck (x >>> 4) (nI 4) (nI_ne0 (n := 4) (by omega) (by omega)) _) (va_cwS 2 hts gL_isStep_L_up rfl rfl rfl (by decide +kernel) ⟨Nat.le_of_ble_eq_true rfl, Nat.le_of_ble_eq_true rfl⟩) (xpreS hN hK hP hD pm_none) rfl rfl hl.1 rfl (lv_room (Nat.le_of_ble_eq_true rfl)) dL_isStep_149 ⟨Nat.le_of_ble_eq_true rfl, Nat.le_of_ble_eq_true rfl⟩) hP hD hS hA pm_none pm_none (fun H locs hP hD hS => ?_)
  have hP : va_P D vwCl (clW ck ca C ++ clW ck cb E) H := hP
  have hD : va_D (va_A (clW ck ca C ++ clW ck cb E) s.heap.size) (clW ck ca C ++ clW ck cb E) := hD
  obtain ⟨v149, h149, e149⟩ := up_in (v := (x >>> 4)) (n := 4) (by omega) (by omega)
  rw [e149]
  refine lv_if_ne (tgt := 161) hx hb dL_isStep_152 (by decide) (fun c_152 => ?_) (fun c_152 => ?_)
  · --t
    refine lv_bipush (v := (nI 50)) hx hb dL_isStep_161 (by decide) ?_
    refine xreti (va_runS (As := [.int (y >>> 7), .int (nI 50)]) (rest := [.int (nI 1)]) ⟨hx, hb, hml, hown, hts⟩ (mL_up l D ck (y >>> 7) (nI 50) (nI_ne0 (n := 50) (by omega) (by omega)) _) (va_cwS 2 hts gL_isStep_L_up rfl rfl rfl (by decide +kernel) ⟨Nat.le_of_ble_eq_true rfl, Nat.le_of_ble_eq_true rfl⟩) (xpreS hN hK hP hD pm_none) rfl rfl hl.1 rfl (lv_room (Nat.le_of_ble_eq_true rfl)) dL_isStep_163 ⟨Nat.le_of_ble_eq_true rfl, Nat.le_of_ble_eq_true rfl⟩) hP hD hS hA pm_none pm_none (fun H locs hP hD hS => ?_)
    have hP : va_P D vwCl (clW ck ca C ++ clW ck cb E) H := hP
    have hD : va_D (va_A (clW ck ca C ++ clW ck cb E) s.heap.size) (clW ck ca C ++ clW ck cb E) := hD
    obtain ⟨v163, h163, e163⟩ := up_in (v := (y >>> 7)) (n := 50) (by omega) (by omega)
    rw [e163]
    refine lv_iadd hx hb dL_isStep_166 ?_
    rw [show (((nI 1) + (nI v163)) : Int32) = (nI (1 + v163)) from (nI_add 1 v163)]
    refine lv_istore (lv' := [(11, .int (nI (1 + v163))), (0, .ref (ca 0 0)), (1, .ref (cb 0 0)), (2, .int x), (3, .int y), (4, .int (x >>> 4)), (5, .int (nI (nF f))), (8, .int (gX6_granted f)), (9, .int (nI w)), (10, .int (nI a))]) hx hb dL_isStep_167 hl (by decide) rfl (fun ls hl => ?_)
    exact s_ask_c hx hb hr hml hown hts hlk hN hK hZ hA hC hE hW hT hb6 (w := w) (a := a) (b := (1 + v163)) hw ha (by omega) H locs ls hP hD hS (lv_sub hl [1, 2, 3, 4, 5, 6, 7, 8, 9, 0] rfl)
  · --f
    refine lv_sipush (v := (nI 200)) hx hb dL_isStep_155 (by decide) ?_
    refine lv_goto (tgt := 163) hx hb dL_isStep_158 (by decide) ?_
    refine xreti (va_runS (As := [.int (y >>> 7), .int (nI 200)]) (rest := [.int (nI 1)]) ⟨hx, hb, hml, hown, hts⟩ (mL_up l D ck (y >>> 7) (nI 200) (nI_ne0 (n := 200) (by omega) (by omega)) _) (va_cwS 2 hts gL_isStep_L_up rfl rfl rfl (by decide +kernel) ⟨Nat.le_of_ble_eq_true rfl, Nat.le_of_ble_eq_true rfl⟩) (xpreS hN hK hP hD pm_none) rfl rfl hl.1 rfl (lv_room (Nat.le_of_ble_eq_true rfl)) dL_isStep_163 ⟨Nat.le_of_ble_eq_true rfl, Nat.le_of_ble_eq_true rfl⟩) hP hD hS hA pm_none pm_none (fun H locs hP hD hS => ?_)
    have hP : va_P D vwCl (clW ck ca C ++ clW ck cb E) H := hP
    have hD : va_D (va_A (clW ck ca C ++ clW ck cb E) s.heap.size) (clW ck ca C ++ clW ck cb E) := hD
    obtain ⟨v163, h163, e163⟩ := up_in (v := (y >>> 7)) (n := 200) (by omega) (by omega)
    rw [e163]
    refine lv_iadd hx hb dL_isStep_166 ?_
    rw [show (((nI 1) + (nI v163)) : Int32) = (nI (1 + v163)) from (nI_add 1 v163)]
    refine lv_istore (lv' := [(11, .int (nI (1 + v163))), (0, .ref (ca 0 0)), (1, .ref (cb 0 0)), (2, .int x), (3, .int y), (4, .int (x >>> 4)), (5, .int (nI (nF f))), (8, .int (gX6_granted f)), (9, .int (nI w)), (10, .int (nI a))]) hx hb dL_isStep_167 hl (by decide) rfl (fun ls hl => ?_)
    exact s_ask_c hx hb hr hml hown hts hlk hN hK hZ hA hC hE hW hT hb6 (w := w) (a := a) (b := (1 + v163)) hw ha (by omega) H locs ls hP hD hS (lv_sub hl [1, 2, 3, 4, 5, 6, 7, 8, 9, 0] rfl)
set_option maxHeartbeats 16000000 in
set_option maxRecDepth 100000 in
theorem s_ask_a {zp : Program} {l : Launch} {ze : Env} {s : State} {zm : MethodId} {zb : List Frame} {zt : Method} {zc : Code} {D : va_G} {ck : Nat → ClassId} {tt : Nat → Nat} {ca cb : Nat → Nat → Nat} {C E : CS} {f : FS} {N : Nat} {x y : Int32} (hx : zp.tables.exec = Jvm.exec) (hb : zc.code = cL_isStep) (hr : zt.sig.returnType = some .boolean) (hml : zc.maxLocals = 15) (hown : s.vm.findClass RL = some zm.cls) (hts : ∀ w ∈ wsL_isStep, w.before ([.ref (ca 0 0), .ref (cb 0 0), .int x, .int y] : List Value).toArray s = true) (hlk : zt.locks = false) (hN : xN s) (hK : va_K D vwCl (xT ck) s) (hZ : xStat tt (va_A (clW ck ca C ++ clW ck cb E) s.heap.size) s s.heap) (hA : ∀ zq : Nat, s.heap.size ≤ zq → (va_A (clW ck ca C ++ clW ck cb E) s.heap.size) zq) (hC : LR C f) (hE : LR E f) (hW : WI f N) (hT : TX E) (hb6 : N + 150 ≤ 1000000)  : ∀ (H : Heap) (locs : List Loc) (ls : Array Slot), va_P D vwCl (clW ck ca C ++ clW ck cb E) H → va_D (va_A (clW ck ca C ++ clW ck cb E) s.heap.size) (clW ck ca C ++ clW ck cb E) → va_S (va_A (clW ck ca C ++ clW ck cb E) s.heap.size) s.heap H locs → lv_has ls 15 [(0, .ref (ca 0 0)), (1, .ref (cb 0 0)), (2, .int x), (3, .int y), (4, .int (x >>> 4)), (5, .int (nI (nF f))), (8, .int (gX6_granted f))] → W zp l ze rmL_isStep s zm ([.ref (ca 0 0), .ref (cb 0 0), .int x, .int y] : List Value).toArray zb zt zc H locs 0 0 (MQ zb (xQe D (clW ck ca C ++ clW ck cb E) (fun u : CS × CS × FS => clW ck ca u.1 ++ clW ck cb u.2.1) (fun u : CS × CS × FS => LR u.1 u.2.2 ∧ LR u.2.1 u.2.2 ∧ WI u.2.2 (N + 150) ∧ TX u.2.1) (fun _ => 1) s.heap.size) ([.ref (ca 0 0), .ref (cb 0 0), .int x, .int y] : List Value).toArray s 150 2400 (va_A (clW ck ca C ++ clW ck cb E) s.heap.size)) (F0 zm 108 ls []) := by
  intro H locs ls hP hD hS hl
  have hm := hC.1.2
  have hn := n_le hm
  refine lv_iload hx hb dL_isStep_108 (lv_at hl 4 rfl) ?_
  refine lv_iconst (v := (nI 3)) hx hb dL_isStep_110 (by decide) ?_
  refine xreti (va_runS (As := [.int (x >>> 4), .int (nI 3)]) (rest := []) ⟨hx, hb, hml, hown, hts⟩ (mL_up l D ck (x >>> 4) (nI 3) (nI_ne0 (n := 3) (by omega) (by omega)) _) (va_cwS 2 hts gL_isStep_L_up rfl rfl rfl (by decide +kernel) ⟨Nat.le_of_ble_eq_true rfl, Nat.le_of_ble_eq_true rfl⟩) (xpreS hN hK hP hD pm_none) rfl rfl hl.1 rfl (lv_room (Nat.le_of_ble_eq_true rfl)) dL_isStep_111 ⟨Nat.le_of_ble_eq_true rfl, Nat.le_of_ble_eq_true rfl⟩) hP hD hS hA pm_none pm_none (fun H locs hP hD hS => ?_)
  have hP : va_P D vwCl (clW ck ca C ++ clW ck cb E) H := hP
  have hD : va_D (va_A (clW ck ca C ++ clW ck cb E) s.heap.size) (clW ck ca C ++ clW ck cb E) := hD
  obtain ⟨v111, h111, e111⟩ := up_in (v := (x >>> 4)) (n := 3) (by omega) (by omega)
  rw [e111]
  refine lv_istore (lv' := [(9, .int (nI v111)), (0, .ref (ca 0 0)), (1, .ref (cb 0 0)), (2, .int x), (3, .int y), (4, .int (x >>> 4)), (5, .int (nI (nF f))), (8, .int (gX6_granted f))]) hx hb dL_isStep_114 hl (by decide) rfl (fun ls hl => ?_)
  refine lv_iconst (v := (nI 1)) hx hb dL_isStep_116 (by decide) ?_
  refine lv_iload_n hx hb dL_isStep_117 rfl (lv_at hl 4 rfl) ?_
  refine lv_iload hx hb dL_isStep_118 (lv_at hl 5 rfl) ?_
  refine lv_iconst (v := (nI 4)) hx hb dL_isStep_120 (by decide) ?_
  refine xreti (va_runS (As := [.int (x >>> 4), .int (nI 4)]) (rest := [.int y, .int (nI 1)]) ⟨hx, hb, hml, hown, hts⟩ (mL_up l D ck (x >>> 4) (nI 4) (nI_ne0 (n := 4) (by omega) (by omega)) _) (va_cwS 2 hts gL_isStep_L_up rfl rfl rfl (by decide +kernel) ⟨Nat.le_of_ble_eq_true rfl, Nat.le_of_ble_eq_true rfl⟩) (xpreS hN hK hP hD pm_none) rfl rfl hl.1 rfl (lv_room (Nat.le_of_ble_eq_true rfl)) dL_isStep_121 ⟨Nat.le_of_ble_eq_true rfl, Nat.le_of_ble_eq_true rfl⟩) hP hD hS hA pm_none pm_none (fun H locs hP hD hS => ?_)
  have hP : va_P D vwCl (clW ck ca C ++ clW ck cb E) H := hP
  have hD : va_D (va_A (clW ck ca C ++ clW ck cb E) s.heap.size) (clW ck ca C ++ clW ck cb E) := hD
  obtain ⟨v121, h121, e121⟩ := up_in (v := (x >>> 4)) (n := 4) (by omega) (by omega)
  rw [e121]
  refine lv_if_ne (tgt := 133) hx hb dL_isStep_124 (by decide) (fun c_124 => ?_) (fun c_124 => ?_)
  · --t
    refine lv_bipush (v := (nI 50)) hx hb dL_isStep_133 (by decide) ?_
    refine xreti (va_runS (As := [.int y, .int (nI 50)]) (rest := [.int (nI 1)]) ⟨hx, hb, hml, hown, hts⟩ (mL_up l D ck y (nI 50) (nI_ne0 (n := 50) (by omega) (by omega)) _) (va_cwS 2 hts gL_isStep_L_up rfl rfl rfl (by decide +kernel) ⟨Nat.le_of_ble_eq_true rfl, Nat.le_of_ble_eq_true rfl⟩) (xpreS hN hK hP hD pm_none) rfl rfl hl.1 rfl (lv_room (Nat.le_of_ble_eq_true rfl)) dL_isStep_135 ⟨Nat.le_of_ble_eq_true rfl, Nat.le_of_ble_eq_true rfl⟩) hP hD hS hA pm_none pm_none (fun H locs hP hD hS => ?_)
    have hP : va_P D vwCl (clW ck ca C ++ clW ck cb E) H := hP
    have hD : va_D (va_A (clW ck ca C ++ clW ck cb E) s.heap.size) (clW ck ca C ++ clW ck cb E) := hD
    obtain ⟨v135, h135, e135⟩ := up_in (v := y) (n := 50) (by omega) (by omega)
    rw [e135]
    refine lv_iadd hx hb dL_isStep_138 ?_
    rw [show (((nI 1) + (nI v135)) : Int32) = (nI (1 + v135)) from (nI_add 1 v135)]
    refine lv_istore (lv' := [(10, .int (nI (1 + v135))), (9, .int (nI v111)), (0, .ref (ca 0 0)), (1, .ref (cb 0 0)), (2, .int x), (3, .int y), (4, .int (x >>> 4)), (5, .int (nI (nF f))), (8, .int (gX6_granted f))]) hx hb dL_isStep_139 hl (by decide) rfl (fun ls hl => ?_)
    exact s_ask_b hx hb hr hml hown hts hlk hN hK hZ hA hC hE hW hT hb6 (w := v111) (a := (1 + v135)) h111 (by omega) H locs ls hP hD hS (lv_sub hl [2, 3, 4, 5, 6, 7, 8, 1, 0] rfl)
  · --f
    refine lv_sipush (v := (nI 200)) hx hb dL_isStep_127 (by decide) ?_
    refine lv_goto (tgt := 135) hx hb dL_isStep_130 (by decide) ?_
    refine xreti (va_runS (As := [.int y, .int (nI 200)]) (rest := [.int (nI 1)]) ⟨hx, hb, hml, hown, hts⟩ (mL_up l D ck y (nI 200) (nI_ne0 (n := 200) (by omega) (by omega)) _) (va_cwS 2 hts gL_isStep_L_up rfl rfl rfl (by decide +kernel) ⟨Nat.le_of_ble_eq_true rfl, Nat.le_of_ble_eq_true rfl⟩) (xpreS hN hK hP hD pm_none) rfl rfl hl.1 rfl (lv_room (Nat.le_of_ble_eq_true rfl)) dL_isStep_135 ⟨Nat.le_of_ble_eq_true rfl, Nat.le_of_ble_eq_true rfl⟩) hP hD hS hA pm_none pm_none (fun H locs hP hD hS => ?_)
    have hP : va_P D vwCl (clW ck ca C ++ clW ck cb E) H := hP
    have hD : va_D (va_A (clW ck ca C ++ clW ck cb E) s.heap.size) (clW ck ca C ++ clW ck cb E) := hD
    obtain ⟨v135, h135, e135⟩ := up_in (v := y) (n := 200) (by omega) (by omega)
    rw [e135]
    refine lv_iadd hx hb dL_isStep_138 ?_
    rw [show (((nI 1) + (nI v135)) : Int32) = (nI (1 + v135)) from (nI_add 1 v135)]
    refine lv_istore (lv' := [(10, .int (nI (1 + v135))), (9, .int (nI v111)), (0, .ref (ca 0 0)), (1, .ref (cb 0 0)), (2, .int x), (3, .int y), (4, .int (x >>> 4)), (5, .int (nI (nF f))), (8, .int (gX6_granted f))]) hx hb dL_isStep_139 hl (by decide) rfl (fun ls hl => ?_)
    exact s_ask_b hx hb hr hml hown hts hlk hN hK hZ hA hC hE hW hT hb6 (w := v111) (a := (1 + v135)) h111 (by omega) H locs ls hP hD hS (lv_sub hl [2, 3, 4, 5, 6, 7, 8, 1, 0] rfl)
