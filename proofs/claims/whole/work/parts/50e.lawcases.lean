/-! ===== the law, act by act ===== -/
set_option maxHeartbeats 4000000 in
set_option maxRecDepth 100000 in
theorem lc_ask {p : Program} {l : Launch} {e : Env} {s : State} {m : MethodId} {below : List Frame} {meth : Method} {c : Code} {b L : Nat} {xs : Nat → Int32} {D : va_G} {ck : Nat → ClassId} {tt : Nat → Nat} {ca : Nat → Nat → Nat} {ma : Nat → Nat} {i : Nat} {C : CS} {Z : MS} (h : LX p s m meth c b L xs D ck tt) (hL : L ≤ 2560) (hi : i + 5 ≤ L) (hR : RR C Z) (kk : ∀ (C1 : CS) (Z1 : MS), RR C1 Z1 → LW p l e s m below meth c b D ck ca ma i 603 C1 Z1) : LW p l e s m below meth c b D ck ca ma i 124 C Z := by
  obtain ⟨hx, hb, hr, hml, hown, hts, hX, hbl, hlk, hN, hK, hC, hZ⟩ := h
  have hA : ∀ q : Nat, s.heap.size ≤ q → (fun q : Nat => s.heap.size ≤ q) q := fun _ h => h
  have hbA : ¬ (fun q : Nat => s.heap.size ≤ q) b := Nat.not_le.mpr hbl
  have hq := eq_ask (C := C) (Z := Z) (a := (xs (i + 1))) (b := (xs (i + 2))) (c := (xs (i + 3))) hR
  intro H locs ls hP hD hS hl
  refine lv_aload_n hx hb dL_law_124 rfl (lv_at hl 2 rfl) ?_
  refine lv_aload_n hx hb dL_law_125 rfl (lv_at hl 3 rfl) ?_
  refine lv_iload_n hx hb dL_law_126 rfl (lv_at hl 0 rfl) ?_
  refine lv_iconst (v := nI 1) hx hb dL_law_127 (by decide) ?_
  refine lv_iadd hx hb dL_law_128 ?_
  refine xsld (j := i + 1) (xs_c (by omega)) hx hb hX hbl hbA hS (xs_in (by omega) (by omega)) dL_law_129 ?_
  refine lv_aload_n hx hb dL_law_130 rfl (lv_at hl 3 rfl) ?_
  refine lv_iload_n hx hb dL_law_131 rfl (lv_at hl 0 rfl) ?_
  refine lv_iconst (v := nI 2) hx hb dL_law_132 (by decide) ?_
  refine lv_iadd hx hb dL_law_133 ?_
  refine xsld (j := i + 2) (xs_c (by omega)) hx hb hX hbl hbA hS (xs_in (by omega) (by omega)) dL_law_134 ?_
  refine lv_aload_n hx hb dL_law_135 rfl (lv_at hl 3 rfl) ?_
  refine lv_iload_n hx hb dL_law_136 rfl (lv_at hl 0 rfl) ?_
  refine lv_iconst (v := nI 3) hx hb dL_law_137 (by decide) ?_
  refine lv_iadd hx hb dL_law_138 ?_
  refine xsld (j := i + 3) (xs_c (by omega)) hx hb hX hbl hbA hS (xs_in (by omega) (by omega)) dL_law_139 ?_
  refine xreti (va_runV (As := [.int (xs (i + 1)), .int (xs (i + 2)), .int (xs (i + 3))]) (rest := []) ⟨hx, hb, hml, hown, hts⟩ (mX5_ask l D ck ca C (xs (i + 1)) (xs (i + 2)) (xs (i + 3)) (RR_hz hR) (RR_hn hR) _) (cwV 3 hts gL_law_X5_ask rfl rfl rfl (by decide +kernel) ⟨Nat.le_of_ble_eq_true rfl, Nat.le_of_ble_eq_true rfl⟩) (xpreV hN hK hP hD (List.Perm.refl _) 0 rfl rfl rfl) rfl rfl hl.1 rfl (lv_room (Nat.le_of_ble_eq_true rfl)) dL_law_140 ⟨Nat.le_of_ble_eq_true rfl, Nat.le_of_ble_eq_true rfl⟩) hP hD hS hA (List.Perm.refl _) (List.Perm.refl _) (fun H locs hP hD hS => ?_)
  have hP : va_P D vwCl (clW ck ca ((gX5_ask C (xs (i + 1)) (xs (i + 2)) (xs (i + 3))).2) ++ modW ck ma Z) H := hP
  have hD : va_D (fun q => s.heap.size ≤ q) (clW ck ca ((gX5_ask C (xs (i + 1)) (xs (i + 2)) (xs (i + 3))).2) ++ modW ck ma Z) := hD
  refine lv_aload_n hx hb dL_law_143 rfl (lv_at hl 1 rfl) ?_
  refine lv_aload_n hx hb dL_law_144 rfl (lv_at hl 3 rfl) ?_
  refine lv_iload_n hx hb dL_law_145 rfl (lv_at hl 0 rfl) ?_
  refine lv_iconst (v := nI 1) hx hb dL_law_146 (by decide) ?_
  refine lv_iadd hx hb dL_law_147 ?_
  refine xsld (j := i + 1) (xs_c (by omega)) hx hb hX hbl hbA hS (xs_in (by omega) (by omega)) dL_law_148 ?_
  refine lv_aload_n hx hb dL_law_149 rfl (lv_at hl 3 rfl) ?_
  refine lv_iload_n hx hb dL_law_150 rfl (lv_at hl 0 rfl) ?_
  refine lv_iconst (v := nI 2) hx hb dL_law_151 (by decide) ?_
  refine lv_iadd hx hb dL_law_152 ?_
  refine xsld (j := i + 2) (xs_c (by omega)) hx hb hX hbl hbA hS (xs_in (by omega) (by omega)) dL_law_153 ?_
  refine lv_aload_n hx hb dL_law_154 rfl (lv_at hl 3 rfl) ?_
  refine lv_iload_n hx hb dL_law_155 rfl (lv_at hl 0 rfl) ?_
  refine lv_iconst (v := nI 3) hx hb dL_law_156 (by decide) ?_
  refine lv_iadd hx hb dL_law_157 ?_
  refine xsld (j := i + 3) (xs_c (by omega)) hx hb hX hbl hbA hS (xs_in (by omega) (by omega)) dL_law_158 ?_
  refine xreti (va_runV (As := [.int (xs (i + 1)), .int (xs (i + 2)), .int (xs (i + 3))]) (rest := [.int (gX5_ask C (xs (i + 1)) (xs (i + 2)) (xs (i + 3))).1]) ⟨hx, hb, hml, hown, hts⟩ (mX6_ask l D ck ma Z (xs (i + 1)) (xs (i + 2)) (xs (i + 3)) (RR_hm hR) (RR_hh hR) _) (cwV 3 hts gL_law_X6_ask rfl rfl rfl (by decide +kernel) ⟨Nat.le_of_ble_eq_true rfl, Nat.le_of_ble_eq_true rfl⟩) (xpreV hN hK hP hD List.perm_append_comm 0 rfl rfl rfl) rfl rfl hl.1 rfl (lv_room (Nat.le_of_ble_eq_true rfl)) dL_law_159 ⟨Nat.le_of_ble_eq_true rfl, Nat.le_of_ble_eq_true rfl⟩) hP hD hS hA List.perm_append_comm List.perm_append_comm (fun H locs hP hD hS => ?_)
  have hP : va_P D vwCl (clW ck ca ((gX5_ask C (xs (i + 1)) (xs (i + 2)) (xs (i + 3))).2) ++ modW ck ma ((gX6_ask Z (xs (i + 1)) (xs (i + 2)) (xs (i + 3))).2)) H := hP
  have hD : va_D (fun q => s.heap.size ≤ q) (clW ck ca ((gX5_ask C (xs (i + 1)) (xs (i + 2)) (xs (i + 3))).2) ++ modW ck ma ((gX6_ask Z (xs (i + 1)) (xs (i + 2)) (xs (i + 3))).2)) := hD
  refine lv_icmp_eq (tgt := 603) hx hb dL_law_162 (by decide) (fun c1 => ?_) (fun c1 => ?_)
  · exact kk ((gX5_ask C (xs (i + 1)) (xs (i + 2)) (xs (i + 3))).2) ((gX6_ask Z (xs (i + 1)) (xs (i + 2)) (xs (i + 3))).2) hq.2 H locs ls hP hD hS hl
  · exact absurd hq.1 c1
set_option maxHeartbeats 4000000 in
set_option maxRecDepth 100000 in
theorem lc_askAll {p : Program} {l : Launch} {e : Env} {s : State} {m : MethodId} {below : List Frame} {meth : Method} {c : Code} {b L : Nat} {xs : Nat → Int32} {D : va_G} {ck : Nat → ClassId} {tt : Nat → Nat} {ca : Nat → Nat → Nat} {ma : Nat → Nat} {i : Nat} {C : CS} {Z : MS} (h : LX p s m meth c b L xs D ck tt) (hL : L ≤ 2560) (hi : i + 5 ≤ L) (hR : RR C Z) (kk : ∀ (C1 : CS) (Z1 : MS), RR C1 Z1 → LW p l e s m below meth c b D ck ca ma i 603 C1 Z1) : LW p l e s m below meth c b D ck ca ma i 167 C Z := by
  obtain ⟨hx, hb, hr, hml, hown, hts, hX, hbl, hlk, hN, hK, hC, hZ⟩ := h
  have hA : ∀ q : Nat, s.heap.size ≤ q → (fun q : Nat => s.heap.size ≤ q) q := fun _ h => h
  have hbA : ¬ (fun q : Nat => s.heap.size ≤ q) b := Nat.not_le.mpr hbl
  have hq := eq_askAll (C := C) (Z := Z) hR
  intro H locs ls hP hD hS hl
  refine lv_aload_n hx hb dL_law_167 rfl (lv_at hl 2 rfl) ?_
  refine xreti (va_runV (As := []) (rest := []) ⟨hx, hb, hml, hown, hts⟩ (mX5_askAll l D ck ca C (RR_hz hR) (RR_hn hR) _) (cwV 0 hts gL_law_X5_askAll rfl rfl rfl (by decide +kernel) ⟨Nat.le_of_ble_eq_true rfl, Nat.le_of_ble_eq_true rfl⟩) (xpreV hN hK hP hD (List.Perm.refl _) 0 rfl rfl rfl) rfl rfl hl.1 rfl (lv_room (Nat.le_of_ble_eq_true rfl)) dL_law_168 ⟨Nat.le_of_ble_eq_true rfl, Nat.le_of_ble_eq_true rfl⟩) hP hD hS hA (List.Perm.refl _) (List.Perm.refl _) (fun H locs hP hD hS => ?_)
  have hP : va_P D vwCl (clW ck ca ((gX5_askAll C).2) ++ modW ck ma Z) H := hP
  have hD : va_D (fun q => s.heap.size ≤ q) (clW ck ca ((gX5_askAll C).2) ++ modW ck ma Z) := hD
  refine lv_aload_n hx hb dL_law_171 rfl (lv_at hl 1 rfl) ?_
  refine xreti (va_runV (As := []) (rest := [.int (gX5_askAll C).1]) ⟨hx, hb, hml, hown, hts⟩ (mX6_askAll l D ck ma Z (RR_hm hR) (RR_hh hR) (RR_hL hR) _) (cwV 0 hts gL_law_X6_askAll rfl rfl rfl (by decide +kernel) ⟨Nat.le_of_ble_eq_true rfl, Nat.le_of_ble_eq_true rfl⟩) (xpreV hN hK hP hD List.perm_append_comm 0 rfl rfl rfl) rfl rfl hl.1 rfl (lv_room (Nat.le_of_ble_eq_true rfl)) dL_law_172 ⟨Nat.le_of_ble_eq_true rfl, Nat.le_of_ble_eq_true rfl⟩) hP hD hS hA List.perm_append_comm List.perm_append_comm (fun H locs hP hD hS => ?_)
  have hP : va_P D vwCl (clW ck ca ((gX5_askAll C).2) ++ modW ck ma ((gX6_askAll Z).2)) H := hP
  have hD : va_D (fun q => s.heap.size ≤ q) (clW ck ca ((gX5_askAll C).2) ++ modW ck ma ((gX6_askAll Z).2)) := hD
  refine lv_icmp_eq (tgt := 603) hx hb dL_law_175 (by decide) (fun c1 => ?_) (fun c1 => ?_)
  · exact kk ((gX5_askAll C).2) ((gX6_askAll Z).2) hq.2 H locs ls hP hD hS hl
  · exact absurd hq.1 c1
set_option maxHeartbeats 4000000 in
set_option maxRecDepth 100000 in
theorem lc_cancel {p : Program} {l : Launch} {e : Env} {s : State} {m : MethodId} {below : List Frame} {meth : Method} {c : Code} {b L : Nat} {xs : Nat → Int32} {D : va_G} {ck : Nat → ClassId} {tt : Nat → Nat} {ca : Nat → Nat → Nat} {ma : Nat → Nat} {i : Nat} {C : CS} {Z : MS} (h : LX p s m meth c b L xs D ck tt) (hL : L ≤ 2560) (hi : i + 5 ≤ L) (hR : RR C Z) (kk : ∀ (C1 : CS) (Z1 : MS), RR C1 Z1 → LW p l e s m below meth c b D ck ca ma i 603 C1 Z1) : LW p l e s m below meth c b D ck ca ma i 180 C Z := by
  obtain ⟨hx, hb, hr, hml, hown, hts, hX, hbl, hlk, hN, hK, hC, hZ⟩ := h
  have hA : ∀ q : Nat, s.heap.size ≤ q → (fun q : Nat => s.heap.size ≤ q) q := fun _ h => h
  have hbA : ¬ (fun q : Nat => s.heap.size ≤ q) b := Nat.not_le.mpr hbl
  have hq := eq_cancel (C := C) (Z := Z) (a := (xs (i + 1))) hR
  intro H locs ls hP hD hS hl
  refine lv_aload_n hx hb dL_law_180 rfl (lv_at hl 2 rfl) ?_
  refine lv_aload_n hx hb dL_law_181 rfl (lv_at hl 3 rfl) ?_
  refine lv_iload_n hx hb dL_law_182 rfl (lv_at hl 0 rfl) ?_
  refine lv_iconst (v := nI 1) hx hb dL_law_183 (by decide) ?_
  refine lv_iadd hx hb dL_law_184 ?_
  refine xsld (j := i + 1) (xs_c (by omega)) hx hb hX hbl hbA hS (xs_in (by omega) (by omega)) dL_law_185 ?_
  refine xreti (va_runV (As := [.int (xs (i + 1))]) (rest := []) ⟨hx, hb, hml, hown, hts⟩ (mX5_cancel l D ck ca C (xs (i + 1)) (RR_hz hR) _) (cwV 1 hts gL_law_X5_cancel rfl rfl rfl (by decide +kernel) ⟨Nat.le_of_ble_eq_true rfl, Nat.le_of_ble_eq_true rfl⟩) (xpreV hN hK hP hD (List.Perm.refl _) 0 rfl rfl rfl) rfl rfl hl.1 rfl (lv_room (Nat.le_of_ble_eq_true rfl)) dL_law_186 ⟨Nat.le_of_ble_eq_true rfl, Nat.le_of_ble_eq_true rfl⟩) hP hD hS hA (List.Perm.refl _) (List.Perm.refl _) (fun H locs hP hD hS => ?_)
  have hP : va_P D vwCl (clW ck ca ((gX5_cancel C (xs (i + 1))).2) ++ modW ck ma Z) H := hP
  have hD : va_D (fun q => s.heap.size ≤ q) (clW ck ca ((gX5_cancel C (xs (i + 1))).2) ++ modW ck ma Z) := hD
  refine lv_aload_n hx hb dL_law_189 rfl (lv_at hl 1 rfl) ?_
  refine lv_aload_n hx hb dL_law_190 rfl (lv_at hl 3 rfl) ?_
  refine lv_iload_n hx hb dL_law_191 rfl (lv_at hl 0 rfl) ?_
  refine lv_iconst (v := nI 1) hx hb dL_law_192 (by decide) ?_
  refine lv_iadd hx hb dL_law_193 ?_
  refine xsld (j := i + 1) (xs_c (by omega)) hx hb hX hbl hbA hS (xs_in (by omega) (by omega)) dL_law_194 ?_
  refine xreti (va_runV (As := [.int (xs (i + 1))]) (rest := [.int (gX5_cancel C (xs (i + 1))).1]) ⟨hx, hb, hml, hown, hts⟩ (mX6_cancel l D ck ma Z (xs (i + 1)) (RR_hm hR) (RR_hh hR) _) (cwV 1 hts gL_law_X6_cancel rfl rfl rfl (by decide +kernel) ⟨Nat.le_of_ble_eq_true rfl, Nat.le_of_ble_eq_true rfl⟩) (xpreV hN hK hP hD List.perm_append_comm 0 rfl rfl rfl) rfl rfl hl.1 rfl (lv_room (Nat.le_of_ble_eq_true rfl)) dL_law_195 ⟨Nat.le_of_ble_eq_true rfl, Nat.le_of_ble_eq_true rfl⟩) hP hD hS hA List.perm_append_comm List.perm_append_comm (fun H locs hP hD hS => ?_)
  have hP : va_P D vwCl (clW ck ca ((gX5_cancel C (xs (i + 1))).2) ++ modW ck ma ((gX6_cancel Z (xs (i + 1))).2)) H := hP
  have hD : va_D (fun q => s.heap.size ≤ q) (clW ck ca ((gX5_cancel C (xs (i + 1))).2) ++ modW ck ma ((gX6_cancel Z (xs (i + 1))).2)) := hD
  refine lv_icmp_eq (tgt := 603) hx hb dL_law_198 (by decide) (fun c1 => ?_) (fun c1 => ?_)
  · exact kk ((gX5_cancel C (xs (i + 1))).2) ((gX6_cancel Z (xs (i + 1))).2) hq.2 H locs ls hP hD hS hl
  · exact absurd hq.1 c1
set_option maxHeartbeats 4000000 in
set_option maxRecDepth 100000 in
theorem lc_change {p : Program} {l : Launch} {e : Env} {s : State} {m : MethodId} {below : List Frame} {meth : Method} {c : Code} {b L : Nat} {xs : Nat → Int32} {D : va_G} {ck : Nat → ClassId} {tt : Nat → Nat} {ca : Nat → Nat → Nat} {ma : Nat → Nat} {i : Nat} {C : CS} {Z : MS} (h : LX p s m meth c b L xs D ck tt) (hL : L ≤ 2560) (hi : i + 5 ≤ L) (hR : RR C Z) (kk : ∀ (C1 : CS) (Z1 : MS), RR C1 Z1 → LW p l e s m below meth c b D ck ca ma i 603 C1 Z1) : LW p l e s m below meth c b D ck ca ma i 203 C Z := by
  obtain ⟨hx, hb, hr, hml, hown, hts, hX, hbl, hlk, hN, hK, hC, hZ⟩ := h
  have hA : ∀ q : Nat, s.heap.size ≤ q → (fun q : Nat => s.heap.size ≤ q) q := fun _ h => h
  have hbA : ¬ (fun q : Nat => s.heap.size ≤ q) b := Nat.not_le.mpr hbl
  have hq := eq_change (C := C) (Z := Z) (a := (xs (i + 1))) (b := (xs (i + 2))) hR
  intro H locs ls hP hD hS hl
  refine lv_aload_n hx hb dL_law_203 rfl (lv_at hl 2 rfl) ?_
  refine lv_aload_n hx hb dL_law_204 rfl (lv_at hl 3 rfl) ?_
  refine lv_iload_n hx hb dL_law_205 rfl (lv_at hl 0 rfl) ?_
  refine lv_iconst (v := nI 1) hx hb dL_law_206 (by decide) ?_
  refine lv_iadd hx hb dL_law_207 ?_
  refine xsld (j := i + 1) (xs_c (by omega)) hx hb hX hbl hbA hS (xs_in (by omega) (by omega)) dL_law_208 ?_
  refine lv_aload_n hx hb dL_law_209 rfl (lv_at hl 3 rfl) ?_
  refine lv_iload_n hx hb dL_law_210 rfl (lv_at hl 0 rfl) ?_
  refine lv_iconst (v := nI 2) hx hb dL_law_211 (by decide) ?_
  refine lv_iadd hx hb dL_law_212 ?_
  refine xsld (j := i + 2) (xs_c (by omega)) hx hb hX hbl hbA hS (xs_in (by omega) (by omega)) dL_law_213 ?_
  refine xreti (va_runV (As := [.int (xs (i + 1)), .int (xs (i + 2))]) (rest := []) ⟨hx, hb, hml, hown, hts⟩ (mX5_change l D ck ca C (xs (i + 1)) (xs (i + 2)) (RR_hz hR) _) (cwV 2 hts gL_law_X5_change rfl rfl rfl (by decide +kernel) ⟨Nat.le_of_ble_eq_true rfl, Nat.le_of_ble_eq_true rfl⟩) (xpreV hN hK hP hD (List.Perm.refl _) 0 rfl rfl rfl) rfl rfl hl.1 rfl (lv_room (Nat.le_of_ble_eq_true rfl)) dL_law_214 ⟨Nat.le_of_ble_eq_true rfl, Nat.le_of_ble_eq_true rfl⟩) hP hD hS hA (List.Perm.refl _) (List.Perm.refl _) (fun H locs hP hD hS => ?_)
  have hP : va_P D vwCl (clW ck ca ((gX5_change C (xs (i + 1)) (xs (i + 2))).2) ++ modW ck ma Z) H := hP
  have hD : va_D (fun q => s.heap.size ≤ q) (clW ck ca ((gX5_change C (xs (i + 1)) (xs (i + 2))).2) ++ modW ck ma Z) := hD
  refine lv_aload_n hx hb dL_law_217 rfl (lv_at hl 1 rfl) ?_
  refine lv_aload_n hx hb dL_law_218 rfl (lv_at hl 3 rfl) ?_
  refine lv_iload_n hx hb dL_law_219 rfl (lv_at hl 0 rfl) ?_
  refine lv_iconst (v := nI 1) hx hb dL_law_220 (by decide) ?_
  refine lv_iadd hx hb dL_law_221 ?_
  refine xsld (j := i + 1) (xs_c (by omega)) hx hb hX hbl hbA hS (xs_in (by omega) (by omega)) dL_law_222 ?_
  refine lv_aload_n hx hb dL_law_223 rfl (lv_at hl 3 rfl) ?_
  refine lv_iload_n hx hb dL_law_224 rfl (lv_at hl 0 rfl) ?_
  refine lv_iconst (v := nI 2) hx hb dL_law_225 (by decide) ?_
  refine lv_iadd hx hb dL_law_226 ?_
  refine xsld (j := i + 2) (xs_c (by omega)) hx hb hX hbl hbA hS (xs_in (by omega) (by omega)) dL_law_227 ?_
  refine xreti (va_runV (As := [.int (xs (i + 1)), .int (xs (i + 2))]) (rest := [.int (gX5_change C (xs (i + 1)) (xs (i + 2))).1]) ⟨hx, hb, hml, hown, hts⟩ (mX6_change l D ck ma Z (xs (i + 1)) (xs (i + 2)) (RR_hm hR) (RR_hh hR) _) (cwV 2 hts gL_law_X6_change rfl rfl rfl (by decide +kernel) ⟨Nat.le_of_ble_eq_true rfl, Nat.le_of_ble_eq_true rfl⟩) (xpreV hN hK hP hD List.perm_append_comm 0 rfl rfl rfl) rfl rfl hl.1 rfl (lv_room (Nat.le_of_ble_eq_true rfl)) dL_law_228 ⟨Nat.le_of_ble_eq_true rfl, Nat.le_of_ble_eq_true rfl⟩) hP hD hS hA List.perm_append_comm List.perm_append_comm (fun H locs hP hD hS => ?_)
  have hP : va_P D vwCl (clW ck ca ((gX5_change C (xs (i + 1)) (xs (i + 2))).2) ++ modW ck ma ((gX6_change Z (xs (i + 1)) (xs (i + 2))).2)) H := hP
  have hD : va_D (fun q => s.heap.size ≤ q) (clW ck ca ((gX5_change C (xs (i + 1)) (xs (i + 2))).2) ++ modW ck ma ((gX6_change Z (xs (i + 1)) (xs (i + 2))).2)) := hD
  refine lv_icmp_eq (tgt := 603) hx hb dL_law_231 (by decide) (fun c1 => ?_) (fun c1 => ?_)
  · exact kk ((gX5_change C (xs (i + 1)) (xs (i + 2))).2) ((gX6_change Z (xs (i + 1)) (xs (i + 2))).2) hq.2 H locs ls hP hD hS hl
  · exact absurd hq.1 c1
set_option maxHeartbeats 4000000 in
set_option maxRecDepth 100000 in
theorem lc_step {p : Program} {l : Launch} {e : Env} {s : State} {m : MethodId} {below : List Frame} {meth : Method} {c : Code} {b L : Nat} {xs : Nat → Int32} {D : va_G} {ck : Nat → ClassId} {tt : Nat → Nat} {ca : Nat → Nat → Nat} {ma : Nat → Nat} {i : Nat} {C : CS} {Z : MS} (h : LX p s m meth c b L xs D ck tt) (hL : L ≤ 2560) (hi : i + 5 ≤ L) (hR : RR C Z) (kk : ∀ (C1 : CS) (Z1 : MS), RR C1 Z1 → LW p l e s m below meth c b D ck ca ma i 603 C1 Z1) : LW p l e s m below meth c b D ck ca ma i 236 C Z := by
  obtain ⟨hx, hb, hr, hml, hown, hts, hX, hbl, hlk, hN, hK, hC, hZ⟩ := h
  have hA : ∀ q : Nat, s.heap.size ≤ q → (fun q : Nat => s.heap.size ≤ q) q := fun _ h => h
  have hbA : ¬ (fun q : Nat => s.heap.size ≤ q) b := Nat.not_le.mpr hbl
  have hq := eq_step (C := C) (Z := Z) (a := (xs (i + 1))) hR
  intro H locs ls hP hD hS hl
  refine lv_aload_n hx hb dL_law_236 rfl (lv_at hl 2 rfl) ?_
  refine lv_aload_n hx hb dL_law_237 rfl (lv_at hl 3 rfl) ?_
  refine lv_iload_n hx hb dL_law_238 rfl (lv_at hl 0 rfl) ?_
  refine lv_iconst (v := nI 1) hx hb dL_law_239 (by decide) ?_
  refine lv_iadd hx hb dL_law_240 ?_
  refine xsld (j := i + 1) (xs_c (by omega)) hx hb hX hbl hbA hS (xs_in (by omega) (by omega)) dL_law_241 ?_
  refine xreti (va_runV (As := [.int (xs (i + 1))]) (rest := []) ⟨hx, hb, hml, hown, hts⟩ (mX5_step l D ck ca C (xs (i + 1)) (RR_hz hR) _) (cwV 1 hts gL_law_X5_step rfl rfl rfl (by decide +kernel) ⟨Nat.le_of_ble_eq_true rfl, Nat.le_of_ble_eq_true rfl⟩) (xpreV hN hK hP hD (List.Perm.refl _) 0 rfl rfl rfl) rfl rfl hl.1 rfl (lv_room (Nat.le_of_ble_eq_true rfl)) dL_law_242 ⟨Nat.le_of_ble_eq_true rfl, Nat.le_of_ble_eq_true rfl⟩) hP hD hS hA (List.Perm.refl _) (List.Perm.refl _) (fun H locs hP hD hS => ?_)
  have hP : va_P D vwCl (clW ck ca ((gX5_step C (xs (i + 1))).2) ++ modW ck ma Z) H := hP
  have hD : va_D (fun q => s.heap.size ≤ q) (clW ck ca ((gX5_step C (xs (i + 1))).2) ++ modW ck ma Z) := hD
  refine lv_aload_n hx hb dL_law_245 rfl (lv_at hl 1 rfl) ?_
  refine lv_aload_n hx hb dL_law_246 rfl (lv_at hl 3 rfl) ?_
  refine lv_iload_n hx hb dL_law_247 rfl (lv_at hl 0 rfl) ?_
  refine lv_iconst (v := nI 1) hx hb dL_law_248 (by decide) ?_
  refine lv_iadd hx hb dL_law_249 ?_
  refine xsld (j := i + 1) (xs_c (by omega)) hx hb hX hbl hbA hS (xs_in (by omega) (by omega)) dL_law_250 ?_
  refine xreti (va_runV (As := [.int (xs (i + 1))]) (rest := [.int (gX5_step C (xs (i + 1))).1]) ⟨hx, hb, hml, hown, hts⟩ (mX6_step l D ck ma Z (xs (i + 1)) (RR_hm hR) (RR_hh hR) _) (cwV 1 hts gL_law_X6_step rfl rfl rfl (by decide +kernel) ⟨Nat.le_of_ble_eq_true rfl, Nat.le_of_ble_eq_true rfl⟩) (xpreV hN hK hP hD List.perm_append_comm 0 rfl rfl rfl) rfl rfl hl.1 rfl (lv_room (Nat.le_of_ble_eq_true rfl)) dL_law_251 ⟨Nat.le_of_ble_eq_true rfl, Nat.le_of_ble_eq_true rfl⟩) hP hD hS hA List.perm_append_comm List.perm_append_comm (fun H locs hP hD hS => ?_)
  have hP : va_P D vwCl (clW ck ca ((gX5_step C (xs (i + 1))).2) ++ modW ck ma ((gX6_step Z (xs (i + 1))).2)) H := hP
  have hD : va_D (fun q => s.heap.size ≤ q) (clW ck ca ((gX5_step C (xs (i + 1))).2) ++ modW ck ma ((gX6_step Z (xs (i + 1))).2)) := hD
  refine lv_icmp_eq (tgt := 603) hx hb dL_law_254 (by decide) (fun c1 => ?_) (fun c1 => ?_)
  · exact kk ((gX5_step C (xs (i + 1))).2) ((gX6_step Z (xs (i + 1))).2) hq.2 H locs ls hP hD hS hl
  · exact absurd hq.1 c1
set_option maxHeartbeats 4000000 in
set_option maxRecDepth 100000 in
theorem lc_set {p : Program} {l : Launch} {e : Env} {s : State} {m : MethodId} {below : List Frame} {meth : Method} {c : Code} {b L : Nat} {xs : Nat → Int32} {D : va_G} {ck : Nat → ClassId} {tt : Nat → Nat} {ca : Nat → Nat → Nat} {ma : Nat → Nat} {i : Nat} {C : CS} {Z : MS} (h : LX p s m meth c b L xs D ck tt) (hL : L ≤ 2560) (hi : i + 5 ≤ L) (hR : RR C Z) (kk : ∀ (C1 : CS) (Z1 : MS), RR C1 Z1 → LW p l e s m below meth c b D ck ca ma i 603 C1 Z1) : LW p l e s m below meth c b D ck ca ma i 259 C Z := by
  obtain ⟨hx, hb, hr, hml, hown, hts, hX, hbl, hlk, hN, hK, hC, hZ⟩ := h
  have hA : ∀ q : Nat, s.heap.size ≤ q → (fun q : Nat => s.heap.size ≤ q) q := fun _ h => h
  have hbA : ¬ (fun q : Nat => s.heap.size ≤ q) b := Nat.not_le.mpr hbl
  have hq := eq_set (C := C) (Z := Z) (a := (xs (i + 1))) (b := (xs (i + 2))) hR
  intro H locs ls hP hD hS hl
  refine lv_aload_n hx hb dL_law_259 rfl (lv_at hl 2 rfl) ?_
  refine lv_aload_n hx hb dL_law_260 rfl (lv_at hl 3 rfl) ?_
  refine lv_iload_n hx hb dL_law_261 rfl (lv_at hl 0 rfl) ?_
  refine lv_iconst (v := nI 1) hx hb dL_law_262 (by decide) ?_
  refine lv_iadd hx hb dL_law_263 ?_
  refine xsld (j := i + 1) (xs_c (by omega)) hx hb hX hbl hbA hS (xs_in (by omega) (by omega)) dL_law_264 ?_
  refine lv_aload_n hx hb dL_law_265 rfl (lv_at hl 3 rfl) ?_
  refine lv_iload_n hx hb dL_law_266 rfl (lv_at hl 0 rfl) ?_
  refine lv_iconst (v := nI 2) hx hb dL_law_267 (by decide) ?_
  refine lv_iadd hx hb dL_law_268 ?_
  refine xsld (j := i + 2) (xs_c (by omega)) hx hb hX hbl hbA hS (xs_in (by omega) (by omega)) dL_law_269 ?_
  refine xreti (va_runV (As := [.int (xs (i + 1)), .int (xs (i + 2))]) (rest := []) ⟨hx, hb, hml, hown, hts⟩ (mX5_set l D ck tt ca C (xs (i + 1)) (xs (i + 2)) (RR_hz hR) _) (cwV 2 hts gL_law_X5_set rfl rfl rfl (by decide +kernel) ⟨Nat.le_of_ble_eq_true rfl, Nat.le_of_ble_eq_true rfl⟩) (xpreVZ hZ hS hA hN hK hP hD (List.Perm.refl _) 0 rfl rfl rfl) rfl rfl hl.1 rfl (lv_room (Nat.le_of_ble_eq_true rfl)) dL_law_270 ⟨Nat.le_of_ble_eq_true rfl, Nat.le_of_ble_eq_true rfl⟩) hP hD hS hA (List.Perm.refl _) (List.Perm.refl _) (fun H locs hP hD hS => ?_)
  have hP : va_P D vwCl (clW ck ca ((gX5_set C (xs (i + 1)) (xs (i + 2))).2) ++ modW ck ma Z) H := hP
  have hD : va_D (fun q => s.heap.size ≤ q) (clW ck ca ((gX5_set C (xs (i + 1)) (xs (i + 2))).2) ++ modW ck ma Z) := hD
  refine lv_aload_n hx hb dL_law_273 rfl (lv_at hl 1 rfl) ?_
  refine lv_aload_n hx hb dL_law_274 rfl (lv_at hl 3 rfl) ?_
  refine lv_iload_n hx hb dL_law_275 rfl (lv_at hl 0 rfl) ?_
  refine lv_iconst (v := nI 1) hx hb dL_law_276 (by decide) ?_
  refine lv_iadd hx hb dL_law_277 ?_
  refine xsld (j := i + 1) (xs_c (by omega)) hx hb hX hbl hbA hS (xs_in (by omega) (by omega)) dL_law_278 ?_
  refine lv_aload_n hx hb dL_law_279 rfl (lv_at hl 3 rfl) ?_
  refine lv_iload_n hx hb dL_law_280 rfl (lv_at hl 0 rfl) ?_
  refine lv_iconst (v := nI 2) hx hb dL_law_281 (by decide) ?_
  refine lv_iadd hx hb dL_law_282 ?_
  refine xsld (j := i + 2) (xs_c (by omega)) hx hb hX hbl hbA hS (xs_in (by omega) (by omega)) dL_law_283 ?_
  refine xreti (va_runV (As := [.int (xs (i + 1)), .int (xs (i + 2))]) (rest := [.int (gX5_set C (xs (i + 1)) (xs (i + 2))).1]) ⟨hx, hb, hml, hown, hts⟩ (mX6_set l D ck ma Z (xs (i + 1)) (xs (i + 2)) (RR_hm hR) (RR_hh hR) _) (cwV 2 hts gL_law_X6_set rfl rfl rfl (by decide +kernel) ⟨Nat.le_of_ble_eq_true rfl, Nat.le_of_ble_eq_true rfl⟩) (xpreV hN hK hP hD List.perm_append_comm 0 rfl rfl rfl) rfl rfl hl.1 rfl (lv_room (Nat.le_of_ble_eq_true rfl)) dL_law_284 ⟨Nat.le_of_ble_eq_true rfl, Nat.le_of_ble_eq_true rfl⟩) hP hD hS hA List.perm_append_comm List.perm_append_comm (fun H locs hP hD hS => ?_)
  have hP : va_P D vwCl (clW ck ca ((gX5_set C (xs (i + 1)) (xs (i + 2))).2) ++ modW ck ma ((gX6_set Z (xs (i + 1)) (xs (i + 2))).2)) H := hP
  have hD : va_D (fun q => s.heap.size ≤ q) (clW ck ca ((gX5_set C (xs (i + 1)) (xs (i + 2))).2) ++ modW ck ma ((gX6_set Z (xs (i + 1)) (xs (i + 2))).2)) := hD
  refine lv_icmp_eq (tgt := 603) hx hb dL_law_287 (by decide) (fun c1 => ?_) (fun c1 => ?_)
  · exact kk ((gX5_set C (xs (i + 1)) (xs (i + 2))).2) ((gX6_set Z (xs (i + 1)) (xs (i + 2))).2) hq.2 H locs ls hP hD hS hl
  · exact absurd hq.1 c1
set_option maxHeartbeats 4000000 in
set_option maxRecDepth 100000 in
theorem lc_type {p : Program} {l : Launch} {e : Env} {s : State} {m : MethodId} {below : List Frame} {meth : Method} {c : Code} {b L : Nat} {xs : Nat → Int32} {D : va_G} {ck : Nat → ClassId} {tt : Nat → Nat} {ca : Nat → Nat → Nat} {ma : Nat → Nat} {i : Nat} {C : CS} {Z : MS} (h : LX p s m meth c b L xs D ck tt) (hL : L ≤ 2560) (hi : i + 5 ≤ L) (hR : RR C Z) (kk : ∀ (C1 : CS) (Z1 : MS), RR C1 Z1 → LW p l e s m below meth c b D ck ca ma i 603 C1 Z1) : LW p l e s m below meth c b D ck ca ma i 292 C Z := by
  obtain ⟨hx, hb, hr, hml, hown, hts, hX, hbl, hlk, hN, hK, hC, hZ⟩ := h
  have hA : ∀ q : Nat, s.heap.size ≤ q → (fun q : Nat => s.heap.size ≤ q) q := fun _ h => h
  have hbA : ¬ (fun q : Nat => s.heap.size ≤ q) b := Nat.not_le.mpr hbl
  have hq := eq_type (C := C) (Z := Z) (a := ((xs (i + 1)).toUInt32 % 65536).toInt32) hR (pk_vc _)
  intro H locs ls hP hD hS hl
  refine lv_aload_n hx hb dL_law_292 rfl (lv_at hl 2 rfl) ?_
  refine lv_aload_n hx hb dL_law_293 rfl (lv_at hl 3 rfl) ?_
  refine lv_iload_n hx hb dL_law_294 rfl (lv_at hl 0 rfl) ?_
  refine lv_iconst (v := nI 1) hx hb dL_law_295 (by decide) ?_
  refine lv_iadd hx hb dL_law_296 ?_
  refine xsld (j := i + 1) (xs_c (by omega)) hx hb hX hbl hbA hS (xs_in (by omega) (by omega)) dL_law_297 ?_
  refine lv_i2c (v := ((xs (i + 1)).toUInt32 % 65536).toInt32) hx hb dL_law_298 rfl ?_
  refine xreti (va_runV (As := [.int (((xs (i + 1)).toUInt32 % 65536).toInt32)]) (rest := []) ⟨hx, hb, hml, hown, hts⟩ (mX5_type l D ck ca C (((xs (i + 1)).toUInt32 % 65536).toInt32) (RR_ht hR) _) (cwV 1 hts gL_law_X5_type rfl rfl rfl (by decide +kernel) ⟨Nat.le_of_ble_eq_true rfl, Nat.le_of_ble_eq_true rfl⟩) (xpreV hN hK hP hD (List.Perm.refl _) 0 rfl rfl rfl) rfl rfl hl.1 rfl (lv_room (Nat.le_of_ble_eq_true rfl)) dL_law_299 ⟨Nat.le_of_ble_eq_true rfl, Nat.le_of_ble_eq_true rfl⟩) hP hD hS hA (List.Perm.refl _) (List.Perm.refl _) (fun H locs hP hD hS => ?_)
  have hP : va_P D vwCl (clW ck ca ((gX5_type C (((xs (i + 1)).toUInt32 % 65536).toInt32)).2) ++ modW ck ma Z) H := hP
  have hD : va_D (fun q => s.heap.size ≤ q) (clW ck ca ((gX5_type C (((xs (i + 1)).toUInt32 % 65536).toInt32)).2) ++ modW ck ma Z) := hD
  refine lv_aload_n hx hb dL_law_302 rfl (lv_at hl 1 rfl) ?_
  refine lv_aload_n hx hb dL_law_303 rfl (lv_at hl 3 rfl) ?_
  refine lv_iload_n hx hb dL_law_304 rfl (lv_at hl 0 rfl) ?_
  refine lv_iconst (v := nI 1) hx hb dL_law_305 (by decide) ?_
  refine lv_iadd hx hb dL_law_306 ?_
  refine xsld (j := i + 1) (xs_c (by omega)) hx hb hX hbl hbA hS (xs_in (by omega) (by omega)) dL_law_307 ?_
  refine lv_i2c (v := ((xs (i + 1)).toUInt32 % 65536).toInt32) hx hb dL_law_308 rfl ?_
  refine xreti (va_runV (As := [.int (((xs (i + 1)).toUInt32 % 65536).toInt32)]) (rest := [.int (gX5_type C (((xs (i + 1)).toUInt32 % 65536).toInt32)).1]) ⟨hx, hb, hml, hown, hts⟩ (mX6_type l D ck ma (Z.1, Z.2.2.2.2.2.2.1, Z.2.2.2.2.2.2.2) (((xs (i + 1)).toUInt32 % 65536).toInt32) (RR_hL hR) _) (cwV 1 hts gL_law_X6_type rfl rfl rfl (by decide +kernel) ⟨Nat.le_of_ble_eq_true rfl, Nat.le_of_ble_eq_true rfl⟩) (xpreV hN hK hP hD (pm_x (pm_mtx Z)) 0 rfl rfl rfl) rfl rfl hl.1 rfl (lv_room (Nat.le_of_ble_eq_true rfl)) dL_law_309 ⟨Nat.le_of_ble_eq_true rfl, Nat.le_of_ble_eq_true rfl⟩) hP hD hS hA (pm_x (pm_mtx Z)) (pm_x' (pm_mtx' Z)) (fun H locs hP hD hS => ?_)
  have hP : va_P D vwCl (clW ck ca ((gX5_type C (((xs (i + 1)).toUInt32 % 65536).toInt32)).2) ++ modW ck ma (((gX6_type (Z.1, Z.2.2.2.2.2.2.1, Z.2.2.2.2.2.2.2) (((xs (i + 1)).toUInt32 % 65536).toInt32)).2.1, Z.2.1, Z.2.2.1, Z.2.2.2.1, Z.2.2.2.2.1, Z.2.2.2.2.2.1, (gX6_type (Z.1, Z.2.2.2.2.2.2.1, Z.2.2.2.2.2.2.2) (((xs (i + 1)).toUInt32 % 65536).toInt32)).2.2.1, (gX6_type (Z.1, Z.2.2.2.2.2.2.1, Z.2.2.2.2.2.2.2) (((xs (i + 1)).toUInt32 % 65536).toInt32)).2.2.2))) H := hP
  have hD : va_D (fun q => s.heap.size ≤ q) (clW ck ca ((gX5_type C (((xs (i + 1)).toUInt32 % 65536).toInt32)).2) ++ modW ck ma (((gX6_type (Z.1, Z.2.2.2.2.2.2.1, Z.2.2.2.2.2.2.2) (((xs (i + 1)).toUInt32 % 65536).toInt32)).2.1, Z.2.1, Z.2.2.1, Z.2.2.2.1, Z.2.2.2.2.1, Z.2.2.2.2.2.1, (gX6_type (Z.1, Z.2.2.2.2.2.2.1, Z.2.2.2.2.2.2.2) (((xs (i + 1)).toUInt32 % 65536).toInt32)).2.2.1, (gX6_type (Z.1, Z.2.2.2.2.2.2.1, Z.2.2.2.2.2.2.2) (((xs (i + 1)).toUInt32 % 65536).toInt32)).2.2.2))) := hD
  refine lv_icmp_eq (tgt := 603) hx hb dL_law_312 (by decide) (fun c1 => ?_) (fun c1 => ?_)
  · exact kk ((gX5_type C (((xs (i + 1)).toUInt32 % 65536).toInt32)).2) (((gX6_type (Z.1, Z.2.2.2.2.2.2.1, Z.2.2.2.2.2.2.2) (((xs (i + 1)).toUInt32 % 65536).toInt32)).2.1, Z.2.1, Z.2.2.1, Z.2.2.2.1, Z.2.2.2.2.1, Z.2.2.2.2.2.1, (gX6_type (Z.1, Z.2.2.2.2.2.2.1, Z.2.2.2.2.2.2.2) (((xs (i + 1)).toUInt32 % 65536).toInt32)).2.2.1, (gX6_type (Z.1, Z.2.2.2.2.2.2.1, Z.2.2.2.2.2.2.2) (((xs (i + 1)).toUInt32 % 65536).toInt32)).2.2.2)) hq.2 H locs ls hP hD hS hl
  · exact absurd hq.1 c1
set_option maxHeartbeats 4000000 in
set_option maxRecDepth 100000 in
theorem lc_clearText {p : Program} {l : Launch} {e : Env} {s : State} {m : MethodId} {below : List Frame} {meth : Method} {c : Code} {b L : Nat} {xs : Nat → Int32} {D : va_G} {ck : Nat → ClassId} {tt : Nat → Nat} {ca : Nat → Nat → Nat} {ma : Nat → Nat} {i : Nat} {C : CS} {Z : MS} (h : LX p s m meth c b L xs D ck tt) (hL : L ≤ 2560) (hi : i + 5 ≤ L) (hR : RR C Z) (kk : ∀ (C1 : CS) (Z1 : MS), RR C1 Z1 → LW p l e s m below meth c b D ck ca ma i 603 C1 Z1) : LW p l e s m below meth c b D ck ca ma i 317 C Z := by
  obtain ⟨hx, hb, hr, hml, hown, hts, hX, hbl, hlk, hN, hK, hC, hZ⟩ := h
  have hA : ∀ q : Nat, s.heap.size ≤ q → (fun q : Nat => s.heap.size ≤ q) q := fun _ h => h
  have hbA : ¬ (fun q : Nat => s.heap.size ≤ q) b := Nat.not_le.mpr hbl
  have hq := eq_clear (C := C) (Z := Z) hR
  intro H locs ls hP hD hS hl
  refine lv_aload_n hx hb dL_law_317 rfl (lv_at hl 2 rfl) ?_
  refine xreti (va_runV (As := []) (rest := []) ⟨hx, hb, hml, hown, hts⟩ (mX5_clearText l D ck ca C  _) (cwV 0 hts gL_law_X5_clearText rfl rfl rfl (by decide +kernel) ⟨Nat.le_of_ble_eq_true rfl, Nat.le_of_ble_eq_true rfl⟩) (xpreV hN hK hP hD (List.Perm.refl _) 0 rfl rfl rfl) rfl rfl hl.1 rfl (lv_room (Nat.le_of_ble_eq_true rfl)) dL_law_318 ⟨Nat.le_of_ble_eq_true rfl, Nat.le_of_ble_eq_true rfl⟩) hP hD hS hA (List.Perm.refl _) (List.Perm.refl _) (fun H locs hP hD hS => ?_)
  have hP : va_P D vwCl (clW ck ca ((gX5_clearText C).2) ++ modW ck ma Z) H := hP
  have hD : va_D (fun q => s.heap.size ≤ q) (clW ck ca ((gX5_clearText C).2) ++ modW ck ma Z) := hD
  refine lv_aload_n hx hb dL_law_321 rfl (lv_at hl 1 rfl) ?_
  refine xreti (va_runV (As := []) (rest := [.int (gX5_clearText C).1]) ⟨hx, hb, hml, hown, hts⟩ (mX6_clearText l D ck ma (Z.1, Z.2.2.2.2.2.2.1, Z.2.2.2.2.2.2.2)  _) (cwV 0 hts gL_law_X6_clearText rfl rfl rfl (by decide +kernel) ⟨Nat.le_of_ble_eq_true rfl, Nat.le_of_ble_eq_true rfl⟩) (xpreV hN hK hP hD (pm_x (pm_mtx Z)) 0 rfl rfl rfl) rfl rfl hl.1 rfl (lv_room (Nat.le_of_ble_eq_true rfl)) dL_law_322 ⟨Nat.le_of_ble_eq_true rfl, Nat.le_of_ble_eq_true rfl⟩) hP hD hS hA (pm_x (pm_mtx Z)) (pm_x' (pm_mtx' Z)) (fun H locs hP hD hS => ?_)
  have hP : va_P D vwCl (clW ck ca ((gX5_clearText C).2) ++ modW ck ma (((gX6_clearText (Z.1, Z.2.2.2.2.2.2.1, Z.2.2.2.2.2.2.2)).2.1, Z.2.1, Z.2.2.1, Z.2.2.2.1, Z.2.2.2.2.1, Z.2.2.2.2.2.1, (gX6_clearText (Z.1, Z.2.2.2.2.2.2.1, Z.2.2.2.2.2.2.2)).2.2.1, (gX6_clearText (Z.1, Z.2.2.2.2.2.2.1, Z.2.2.2.2.2.2.2)).2.2.2))) H := hP
  have hD : va_D (fun q => s.heap.size ≤ q) (clW ck ca ((gX5_clearText C).2) ++ modW ck ma (((gX6_clearText (Z.1, Z.2.2.2.2.2.2.1, Z.2.2.2.2.2.2.2)).2.1, Z.2.1, Z.2.2.1, Z.2.2.2.1, Z.2.2.2.2.1, Z.2.2.2.2.2.1, (gX6_clearText (Z.1, Z.2.2.2.2.2.2.1, Z.2.2.2.2.2.2.2)).2.2.1, (gX6_clearText (Z.1, Z.2.2.2.2.2.2.1, Z.2.2.2.2.2.2.2)).2.2.2))) := hD
  refine lv_icmp_eq (tgt := 603) hx hb dL_law_325 (by decide) (fun c1 => ?_) (fun c1 => ?_)
  · exact kk ((gX5_clearText C).2) (((gX6_clearText (Z.1, Z.2.2.2.2.2.2.1, Z.2.2.2.2.2.2.2)).2.1, Z.2.1, Z.2.2.1, Z.2.2.2.1, Z.2.2.2.2.1, Z.2.2.2.2.2.1, (gX6_clearText (Z.1, Z.2.2.2.2.2.2.1, Z.2.2.2.2.2.2.2)).2.2.1, (gX6_clearText (Z.1, Z.2.2.2.2.2.2.1, Z.2.2.2.2.2.2.2)).2.2.2)) hq.2 H locs ls hP hD hS hl
  · exact absurd hq.1 c1
set_option maxHeartbeats 4000000 in
set_option maxRecDepth 100000 in
theorem lc_undo {p : Program} {l : Launch} {e : Env} {s : State} {m : MethodId} {below : List Frame} {meth : Method} {c : Code} {b L : Nat} {xs : Nat → Int32} {D : va_G} {ck : Nat → ClassId} {tt : Nat → Nat} {ca : Nat → Nat → Nat} {ma : Nat → Nat} {i : Nat} {C : CS} {Z : MS} (h : LX p s m meth c b L xs D ck tt) (hL : L ≤ 2560) (hi : i + 5 ≤ L) (hR : RR C Z) (kk : ∀ (C1 : CS) (Z1 : MS), RR C1 Z1 → LW p l e s m below meth c b D ck ca ma i 603 C1 Z1) : LW p l e s m below meth c b D ck ca ma i 330 C Z := by
  obtain ⟨hx, hb, hr, hml, hown, hts, hX, hbl, hlk, hN, hK, hC, hZ⟩ := h
  have hA : ∀ q : Nat, s.heap.size ≤ q → (fun q : Nat => s.heap.size ≤ q) q := fun _ h => h
  have hbA : ¬ (fun q : Nat => s.heap.size ≤ q) b := Nat.not_le.mpr hbl
  have hq := eq_undo (C := C) (Z := Z) hR
  intro H locs ls hP hD hS hl
  refine lv_aload_n hx hb dL_law_330 rfl (lv_at hl 2 rfl) ?_
  refine xreti (va_runV (As := []) (rest := []) ⟨hx, hb, hml, hown, hts⟩ (mX5_undo l D ck ca C  _) (cwV 0 hts gL_law_X5_undo rfl rfl rfl (by decide +kernel) ⟨Nat.le_of_ble_eq_true rfl, Nat.le_of_ble_eq_true rfl⟩) (xpreV hN hK hP hD (List.Perm.refl _) 0 rfl rfl rfl) rfl rfl hl.1 rfl (lv_room (Nat.le_of_ble_eq_true rfl)) dL_law_331 ⟨Nat.le_of_ble_eq_true rfl, Nat.le_of_ble_eq_true rfl⟩) hP hD hS hA (List.Perm.refl _) (List.Perm.refl _) (fun H locs hP hD hS => ?_)
  have hP : va_P D vwCl (clW ck ca ((gX5_undo C).2) ++ modW ck ma Z) H := hP
  have hD : va_D (fun q => s.heap.size ≤ q) (clW ck ca ((gX5_undo C).2) ++ modW ck ma Z) := hD
  refine lv_aload_n hx hb dL_law_334 rfl (lv_at hl 1 rfl) ?_
  refine xreti (va_runV (As := []) (rest := [.int (gX5_undo C).1]) ⟨hx, hb, hml, hown, hts⟩ (mX6_undo l D ck ma Z (RR_hh hR) _) (cwV 0 hts gL_law_X6_undo rfl rfl rfl (by decide +kernel) ⟨Nat.le_of_ble_eq_true rfl, Nat.le_of_ble_eq_true rfl⟩) (xpreV hN hK hP hD List.perm_append_comm 0 rfl rfl rfl) rfl rfl hl.1 rfl (lv_room (Nat.le_of_ble_eq_true rfl)) dL_law_335 ⟨Nat.le_of_ble_eq_true rfl, Nat.le_of_ble_eq_true rfl⟩) hP hD hS hA List.perm_append_comm List.perm_append_comm (fun H locs hP hD hS => ?_)
  have hP : va_P D vwCl (clW ck ca ((gX5_undo C).2) ++ modW ck ma ((gX6_undo Z).2)) H := hP
  have hD : va_D (fun q => s.heap.size ≤ q) (clW ck ca ((gX5_undo C).2) ++ modW ck ma ((gX6_undo Z).2)) := hD
  refine lv_icmp_eq (tgt := 603) hx hb dL_law_338 (by decide) (fun c1 => ?_) (fun c1 => ?_)
  · exact kk ((gX5_undo C).2) ((gX6_undo Z).2) hq.2 H locs ls hP hD hS hl
  · exact absurd hq.1 c1
set_option maxHeartbeats 4000000 in
set_option maxRecDepth 100000 in
theorem lc_keep {p : Program} {l : Launch} {e : Env} {s : State} {m : MethodId} {below : List Frame} {meth : Method} {c : Code} {b L : Nat} {xs : Nat → Int32} {D : va_G} {ck : Nat → ClassId} {tt : Nat → Nat} {ca : Nat → Nat → Nat} {ma : Nat → Nat} {i : Nat} {C : CS} {Z : MS} (h : LX p s m meth c b L xs D ck tt) (hL : L ≤ 2560) (hi : i + 5 ≤ L) (hR : RR C Z) (kk : ∀ (C1 : CS) (Z1 : MS), RR C1 Z1 → LW p l e s m below meth c b D ck ca ma i 603 C1 Z1) : LW p l e s m below meth c b D ck ca ma i 343 C Z := by
  obtain ⟨hx, hb, hr, hml, hown, hts, hX, hbl, hlk, hN, hK, hC, hZ⟩ := h
  have hA : ∀ q : Nat, s.heap.size ≤ q → (fun q : Nat => s.heap.size ≤ q) q := fun _ h => h
  have hbA : ¬ (fun q : Nat => s.heap.size ≤ q) b := Nat.not_le.mpr hbl
  have hq := eq_keep (C := C) (Z := Z) hR
  intro H locs ls hP hD hS hl
  refine lv_aload_n hx hb dL_law_343 rfl (lv_at hl 2 rfl) ?_
  refine xreti (va_runV (As := []) (rest := []) ⟨hx, hb, hml, hown, hts⟩ (mX5_keep l D ck ca C  _) (cwV 0 hts gL_law_X5_keep rfl rfl rfl (by decide +kernel) ⟨Nat.le_of_ble_eq_true rfl, Nat.le_of_ble_eq_true rfl⟩) (xpreV hN hK hP hD (List.Perm.refl _) 0 rfl rfl rfl) rfl rfl hl.1 rfl (lv_room (Nat.le_of_ble_eq_true rfl)) dL_law_344 ⟨Nat.le_of_ble_eq_true rfl, Nat.le_of_ble_eq_true rfl⟩) hP hD hS hA (List.Perm.refl _) (List.Perm.refl _) (fun H locs hP hD hS => ?_)
  have hP : va_P D vwCl (clW ck ca ((gX5_keep C).2) ++ modW ck ma Z) H := hP
  have hD : va_D (fun q => s.heap.size ≤ q) (clW ck ca ((gX5_keep C).2) ++ modW ck ma Z) := hD
  refine lv_aload_n hx hb dL_law_347 rfl (lv_at hl 1 rfl) ?_
  refine xreti (va_runV (As := []) (rest := [.int (gX5_keep C).1]) ⟨hx, hb, hml, hown, hts⟩ (mX6_keep l D ck ma Z  _) (cwV 0 hts gL_law_X6_keep rfl rfl rfl (by decide +kernel) ⟨Nat.le_of_ble_eq_true rfl, Nat.le_of_ble_eq_true rfl⟩) (xpreV hN hK hP hD List.perm_append_comm 0 rfl rfl rfl) rfl rfl hl.1 rfl (lv_room (Nat.le_of_ble_eq_true rfl)) dL_law_348 ⟨Nat.le_of_ble_eq_true rfl, Nat.le_of_ble_eq_true rfl⟩) hP hD hS hA List.perm_append_comm List.perm_append_comm (fun H locs hP hD hS => ?_)
  have hP : va_P D vwCl (clW ck ca ((gX5_keep C).2) ++ modW ck ma ((gX6_keep Z).2)) H := hP
  have hD : va_D (fun q => s.heap.size ≤ q) (clW ck ca ((gX5_keep C).2) ++ modW ck ma ((gX6_keep Z).2)) := hD
  refine lv_icmp_eq (tgt := 603) hx hb dL_law_351 (by decide) (fun c1 => ?_) (fun c1 => ?_)
  · exact kk ((gX5_keep C).2) ((gX6_keep Z).2) hq.2 H locs ls hP hD hS hl
  · exact absurd hq.1 c1
set_option maxHeartbeats 4000000 in
set_option maxRecDepth 100000 in
theorem lc_restore {p : Program} {l : Launch} {e : Env} {s : State} {m : MethodId} {below : List Frame} {meth : Method} {c : Code} {b L : Nat} {xs : Nat → Int32} {D : va_G} {ck : Nat → ClassId} {tt : Nat → Nat} {ca : Nat → Nat → Nat} {ma : Nat → Nat} {i : Nat} {C : CS} {Z : MS} (h : LX p s m meth c b L xs D ck tt) (hL : L ≤ 2560) (hi : i + 5 ≤ L) (hR : RR C Z) (kk : ∀ (C1 : CS) (Z1 : MS), RR C1 Z1 → LW p l e s m below meth c b D ck ca ma i 603 C1 Z1) : LW p l e s m below meth c b D ck ca ma i 356 C Z := by
  obtain ⟨hx, hb, hr, hml, hown, hts, hX, hbl, hlk, hN, hK, hC, hZ⟩ := h
  have hA : ∀ q : Nat, s.heap.size ≤ q → (fun q : Nat => s.heap.size ≤ q) q := fun _ h => h
  have hbA : ¬ (fun q : Nat => s.heap.size ≤ q) b := Nat.not_le.mpr hbl
  have hq := eq_restore (C := C) (Z := Z) hR
  intro H locs ls hP hD hS hl
  refine lv_aload_n hx hb dL_law_356 rfl (lv_at hl 2 rfl) ?_
  refine xreti (va_runV (As := []) (rest := []) ⟨hx, hb, hml, hown, hts⟩ (mX5_restore l D ck ca C (RR_hz hR) _) (cwV 0 hts gL_law_X5_restore rfl rfl rfl (by decide +kernel) ⟨Nat.le_of_ble_eq_true rfl, Nat.le_of_ble_eq_true rfl⟩) (xpreV hN hK hP hD (List.Perm.refl _) 0 rfl rfl rfl) rfl rfl hl.1 rfl (lv_room (Nat.le_of_ble_eq_true rfl)) dL_law_357 ⟨Nat.le_of_ble_eq_true rfl, Nat.le_of_ble_eq_true rfl⟩) hP hD hS hA (List.Perm.refl _) (List.Perm.refl _) (fun H locs hP hD hS => ?_)
  have hP : va_P D vwCl (clW ck ca ((gX5_restore C).2) ++ modW ck ma Z) H := hP
  have hD : va_D (fun q => s.heap.size ≤ q) (clW ck ca ((gX5_restore C).2) ++ modW ck ma Z) := hD
  refine lv_aload_n hx hb dL_law_360 rfl (lv_at hl 1 rfl) ?_
  refine xreti (va_runV (As := []) (rest := [.int (gX5_restore C).1]) ⟨hx, hb, hml, hown, hts⟩ (mX6_restore l D ck ma Z (RR_hh hR) _) (cwV 0 hts gL_law_X6_restore rfl rfl rfl (by decide +kernel) ⟨Nat.le_of_ble_eq_true rfl, Nat.le_of_ble_eq_true rfl⟩) (xpreV hN hK hP hD List.perm_append_comm 0 rfl rfl rfl) rfl rfl hl.1 rfl (lv_room (Nat.le_of_ble_eq_true rfl)) dL_law_361 ⟨Nat.le_of_ble_eq_true rfl, Nat.le_of_ble_eq_true rfl⟩) hP hD hS hA List.perm_append_comm List.perm_append_comm (fun H locs hP hD hS => ?_)
  have hP : va_P D vwCl (clW ck ca ((gX5_restore C).2) ++ modW ck ma ((gX6_restore Z).2)) H := hP
  have hD : va_D (fun q => s.heap.size ≤ q) (clW ck ca ((gX5_restore C).2) ++ modW ck ma ((gX6_restore Z).2)) := hD
  refine lv_icmp_eq (tgt := 603) hx hb dL_law_364 (by decide) (fun c1 => ?_) (fun c1 => ?_)
  · exact kk ((gX5_restore C).2) ((gX6_restore Z).2) hq.2 H locs ls hP hD hS hl
  · exact absurd hq.1 c1
set_option maxHeartbeats 4000000 in
set_option maxRecDepth 100000 in
theorem lc_join {p : Program} {l : Launch} {e : Env} {s : State} {m : MethodId} {below : List Frame} {meth : Method} {c : Code} {b L : Nat} {xs : Nat → Int32} {D : va_G} {ck : Nat → ClassId} {tt : Nat → Nat} {ca : Nat → Nat → Nat} {ma : Nat → Nat} {i : Nat} {C : CS} {Z : MS} (h : LX p s m meth c b L xs D ck tt) (hL : L ≤ 2560) (hi : i + 5 ≤ L) (hR : RR C Z) (kk : ∀ (C1 : CS) (Z1 : MS), RR C1 Z1 → LW p l e s m below meth c b D ck ca ma i 603 C1 Z1) : LW p l e s m below meth c b D ck ca ma i 369 C Z := by
  obtain ⟨hx, hb, hr, hml, hown, hts, hX, hbl, hlk, hN, hK, hC, hZ⟩ := h
  have hA : ∀ q : Nat, s.heap.size ≤ q → (fun q : Nat => s.heap.size ≤ q) q := fun _ h => h
  have hbA : ¬ (fun q : Nat => s.heap.size ≤ q) b := Nat.not_le.mpr hbl
  have hq := eq_join (C := C) (Z := Z) (a := (xs (i + 1))) (b := (xs (i + 2))) hR
  intro H locs ls hP hD hS hl
  refine lv_aload_n hx hb dL_law_369 rfl (lv_at hl 2 rfl) ?_
  refine lv_aload_n hx hb dL_law_370 rfl (lv_at hl 3 rfl) ?_
  refine lv_iload_n hx hb dL_law_371 rfl (lv_at hl 0 rfl) ?_
  refine lv_iconst (v := nI 1) hx hb dL_law_372 (by decide) ?_
  refine lv_iadd hx hb dL_law_373 ?_
  refine xsld (j := i + 1) (xs_c (by omega)) hx hb hX hbl hbA hS (xs_in (by omega) (by omega)) dL_law_374 ?_
  refine lv_aload_n hx hb dL_law_375 rfl (lv_at hl 3 rfl) ?_
  refine lv_iload_n hx hb dL_law_376 rfl (lv_at hl 0 rfl) ?_
  refine lv_iconst (v := nI 2) hx hb dL_law_377 (by decide) ?_
  refine lv_iadd hx hb dL_law_378 ?_
  refine xsld (j := i + 2) (xs_c (by omega)) hx hb hX hbl hbA hS (xs_in (by omega) (by omega)) dL_law_379 ?_
  refine xreti (va_runV (As := [.int (xs (i + 1)), .int (xs (i + 2))]) (rest := []) ⟨hx, hb, hml, hown, hts⟩ (mX5_join l D ck ca C (xs (i + 1)) (xs (i + 2))  _) (cwV 2 hts gL_law_X5_join rfl rfl rfl (by decide +kernel) ⟨Nat.le_of_ble_eq_true rfl, Nat.le_of_ble_eq_true rfl⟩) (xpreV hN hK hP hD (List.Perm.refl _) 0 rfl rfl rfl) rfl rfl hl.1 rfl (lv_room (Nat.le_of_ble_eq_true rfl)) dL_law_380 ⟨Nat.le_of_ble_eq_true rfl, Nat.le_of_ble_eq_true rfl⟩) hP hD hS hA (List.Perm.refl _) (List.Perm.refl _) (fun H locs hP hD hS => ?_)
  have hP : va_P D vwCl (clW ck ca (C) ++ modW ck ma Z) H := hP
  have hD : va_D (fun q => s.heap.size ≤ q) (clW ck ca (C) ++ modW ck ma Z) := hD
  refine lv_aload_n hx hb dL_law_383 rfl (lv_at hl 1 rfl) ?_
  refine lv_aload_n hx hb dL_law_384 rfl (lv_at hl 3 rfl) ?_
  refine lv_iload_n hx hb dL_law_385 rfl (lv_at hl 0 rfl) ?_
  refine lv_iconst (v := nI 1) hx hb dL_law_386 (by decide) ?_
  refine lv_iadd hx hb dL_law_387 ?_
  refine xsld (j := i + 1) (xs_c (by omega)) hx hb hX hbl hbA hS (xs_in (by omega) (by omega)) dL_law_388 ?_
  refine lv_aload_n hx hb dL_law_389 rfl (lv_at hl 3 rfl) ?_
  refine lv_iload_n hx hb dL_law_390 rfl (lv_at hl 0 rfl) ?_
  refine lv_iconst (v := nI 2) hx hb dL_law_391 (by decide) ?_
  refine lv_iadd hx hb dL_law_392 ?_
  refine xsld (j := i + 2) (xs_c (by omega)) hx hb hX hbl hbA hS (xs_in (by omega) (by omega)) dL_law_393 ?_
  refine xreti (va_runV (As := [.int (xs (i + 1)), .int (xs (i + 2))]) (rest := [.int (gX5_join C (xs (i + 1)) (xs (i + 2)))]) ⟨hx, hb, hml, hown, hts⟩ (mX6_join l D ck ma Z.1 Z.2.1 (xs (i + 1)) (xs (i + 2)) (RR_hm hR) _) (cwV 2 hts gL_law_X6_join rfl rfl rfl (by decide +kernel) ⟨Nat.le_of_ble_eq_true rfl, Nat.le_of_ble_eq_true rfl⟩) (xpreV hN hK hP hD (pm_x (pm_core Z)) 0 rfl rfl rfl) rfl rfl hl.1 rfl (lv_room (Nat.le_of_ble_eq_true rfl)) dL_law_394 ⟨Nat.le_of_ble_eq_true rfl, Nat.le_of_ble_eq_true rfl⟩) hP hD hS hA (pm_x (pm_core Z)) (pm_x' (pm_core Z).symm) (fun H locs hP hD hS => ?_)
  have hP : va_P D vwCl (clW ck ca (C) ++ modW ck ma (Z)) H := hP
  have hD : va_D (fun q => s.heap.size ≤ q) (clW ck ca (C) ++ modW ck ma (Z)) := hD
  refine lv_icmp_eq (tgt := 603) hx hb dL_law_397 (by decide) (fun c1 => ?_) (fun c1 => ?_)
  · exact kk (C) (Z) hR H locs ls hP hD hS hl
  · exact absurd hq c1
set_option maxHeartbeats 4000000 in
set_option maxRecDepth 100000 in
theorem lc_why {p : Program} {l : Launch} {e : Env} {s : State} {m : MethodId} {below : List Frame} {meth : Method} {c : Code} {b L : Nat} {xs : Nat → Int32} {D : va_G} {ck : Nat → ClassId} {tt : Nat → Nat} {ca : Nat → Nat → Nat} {ma : Nat → Nat} {i : Nat} {C : CS} {Z : MS} (h : LX p s m meth c b L xs D ck tt) (hL : L ≤ 2560) (hi : i + 5 ≤ L) (hR : RR C Z) (kk : ∀ (C1 : CS) (Z1 : MS), RR C1 Z1 → LW p l e s m below meth c b D ck ca ma i 603 C1 Z1) : LW p l e s m below meth c b D ck ca ma i 402 C Z := by
  obtain ⟨hx, hb, hr, hml, hown, hts, hX, hbl, hlk, hN, hK, hC, hZ⟩ := h
  have hA : ∀ q : Nat, s.heap.size ≤ q → (fun q : Nat => s.heap.size ≤ q) q := fun _ h => h
  have hbA : ¬ (fun q : Nat => s.heap.size ≤ q) b := Nat.not_le.mpr hbl
  have hq := eq_why (C := C) (Z := Z) (a := (xs (i + 1))) hR
  intro H locs ls hP hD hS hl
  refine lv_aload_n hx hb dL_law_402 rfl (lv_at hl 2 rfl) ?_
  refine lv_aload_n hx hb dL_law_403 rfl (lv_at hl 3 rfl) ?_
  refine lv_iload_n hx hb dL_law_404 rfl (lv_at hl 0 rfl) ?_
  refine lv_iconst (v := nI 1) hx hb dL_law_405 (by decide) ?_
  refine lv_iadd hx hb dL_law_406 ?_
  refine xsld (j := i + 1) (xs_c (by omega)) hx hb hX hbl hbA hS (xs_in (by omega) (by omega)) dL_law_407 ?_
  refine xreti (va_runV (As := [.int (xs (i + 1))]) (rest := []) ⟨hx, hb, hml, hown, hts⟩ (mX5_why l D ck ca C (xs (i + 1))  _) (cwV 1 hts gL_law_X5_why rfl rfl rfl (by decide +kernel) ⟨Nat.le_of_ble_eq_true rfl, Nat.le_of_ble_eq_true rfl⟩) (xpreV hN hK hP hD (List.Perm.refl _) 0 rfl rfl rfl) rfl rfl hl.1 rfl (lv_room (Nat.le_of_ble_eq_true rfl)) dL_law_408 ⟨Nat.le_of_ble_eq_true rfl, Nat.le_of_ble_eq_true rfl⟩) hP hD hS hA (List.Perm.refl _) (List.Perm.refl _) (fun H locs hP hD hS => ?_)
  have hP : va_P D vwCl (clW ck ca (C) ++ modW ck ma Z) H := hP
  have hD : va_D (fun q => s.heap.size ≤ q) (clW ck ca (C) ++ modW ck ma Z) := hD
  refine lv_aload_n hx hb dL_law_411 rfl (lv_at hl 1 rfl) ?_
  refine lv_aload_n hx hb dL_law_412 rfl (lv_at hl 3 rfl) ?_
  refine lv_iload_n hx hb dL_law_413 rfl (lv_at hl 0 rfl) ?_
  refine lv_iconst (v := nI 1) hx hb dL_law_414 (by decide) ?_
  refine lv_iadd hx hb dL_law_415 ?_
  refine xsld (j := i + 1) (xs_c (by omega)) hx hb hX hbl hbA hS (xs_in (by omega) (by omega)) dL_law_416 ?_
  refine xreti (va_runV (As := [.int (xs (i + 1))]) (rest := [.int (gX5_why C (xs (i + 1)))]) ⟨hx, hb, hml, hown, hts⟩ (mX6_why l D ck ma Z.1 Z.2.1 (xs (i + 1)) (RR_hm hR) _) (cwV 1 hts gL_law_X6_why rfl rfl rfl (by decide +kernel) ⟨Nat.le_of_ble_eq_true rfl, Nat.le_of_ble_eq_true rfl⟩) (xpreV hN hK hP hD (pm_x (pm_core Z)) 0 rfl rfl rfl) rfl rfl hl.1 rfl (lv_room (Nat.le_of_ble_eq_true rfl)) dL_law_417 ⟨Nat.le_of_ble_eq_true rfl, Nat.le_of_ble_eq_true rfl⟩) hP hD hS hA (pm_x (pm_core Z)) (pm_x' (pm_core Z).symm) (fun H locs hP hD hS => ?_)
  have hP : va_P D vwCl (clW ck ca (C) ++ modW ck ma (Z)) H := hP
  have hD : va_D (fun q => s.heap.size ≤ q) (clW ck ca (C) ++ modW ck ma (Z)) := hD
  refine lv_icmp_eq (tgt := 603) hx hb dL_law_420 (by decide) (fun c1 => ?_) (fun c1 => ?_)
  · exact kk (C) (Z) hR H locs ls hP hD hS hl
  · exact absurd hq c1
set_option maxHeartbeats 4000000 in
set_option maxRecDepth 100000 in
theorem lc_queue {p : Program} {l : Launch} {e : Env} {s : State} {m : MethodId} {below : List Frame} {meth : Method} {c : Code} {b L : Nat} {xs : Nat → Int32} {D : va_G} {ck : Nat → ClassId} {tt : Nat → Nat} {ca : Nat → Nat → Nat} {ma : Nat → Nat} {i : Nat} {C : CS} {Z : MS} (h : LX p s m meth c b L xs D ck tt) (hL : L ≤ 2560) (hi : i + 5 ≤ L) (hR : RR C Z) (kk : ∀ (C1 : CS) (Z1 : MS), RR C1 Z1 → LW p l e s m below meth c b D ck ca ma i 603 C1 Z1) : LW p l e s m below meth c b D ck ca ma i 425 C Z := by
  obtain ⟨hx, hb, hr, hml, hown, hts, hX, hbl, hlk, hN, hK, hC, hZ⟩ := h
  have hA : ∀ q : Nat, s.heap.size ≤ q → (fun q : Nat => s.heap.size ≤ q) q := fun _ h => h
  have hbA : ¬ (fun q : Nat => s.heap.size ≤ q) b := Nat.not_le.mpr hbl
  have hq := eq_queue (C := C) (Z := Z) (a := (xs (i + 1))) hR
  intro H locs ls hP hD hS hl
  refine lv_aload_n hx hb dL_law_425 rfl (lv_at hl 2 rfl) ?_
  refine lv_aload_n hx hb dL_law_426 rfl (lv_at hl 3 rfl) ?_
  refine lv_iload_n hx hb dL_law_427 rfl (lv_at hl 0 rfl) ?_
  refine lv_iconst (v := nI 1) hx hb dL_law_428 (by decide) ?_
  refine lv_iadd hx hb dL_law_429 ?_
  refine xsld (j := i + 1) (xs_c (by omega)) hx hb hX hbl hbA hS (xs_in (by omega) (by omega)) dL_law_430 ?_
  refine xreti (va_runV (As := [.int (xs (i + 1))]) (rest := []) ⟨hx, hb, hml, hown, hts⟩ (mX5_queue l D ck ca C (xs (i + 1))  _) (cwV 1 hts gL_law_X5_queue rfl rfl rfl (by decide +kernel) ⟨Nat.le_of_ble_eq_true rfl, Nat.le_of_ble_eq_true rfl⟩) (xpreV hN hK hP hD (List.Perm.refl _) 0 rfl rfl rfl) rfl rfl hl.1 rfl (lv_room (Nat.le_of_ble_eq_true rfl)) dL_law_431 ⟨Nat.le_of_ble_eq_true rfl, Nat.le_of_ble_eq_true rfl⟩) hP hD hS hA (List.Perm.refl _) (List.Perm.refl _) (fun H locs hP hD hS => ?_)
  have hP : va_P D vwCl (clW ck ca (C) ++ modW ck ma Z) H := hP
  have hD : va_D (fun q => s.heap.size ≤ q) (clW ck ca (C) ++ modW ck ma Z) := hD
  refine lv_aload_n hx hb dL_law_434 rfl (lv_at hl 1 rfl) ?_
  refine lv_aload_n hx hb dL_law_435 rfl (lv_at hl 3 rfl) ?_
  refine lv_iload_n hx hb dL_law_436 rfl (lv_at hl 0 rfl) ?_
  refine lv_iconst (v := nI 1) hx hb dL_law_437 (by decide) ?_
  refine lv_iadd hx hb dL_law_438 ?_
  refine xsld (j := i + 1) (xs_c (by omega)) hx hb hX hbl hbA hS (xs_in (by omega) (by omega)) dL_law_439 ?_
  refine xreti (va_runV (As := [.int (xs (i + 1))]) (rest := [.int (gX5_queue C (xs (i + 1)))]) ⟨hx, hb, hml, hown, hts⟩ (mX6_queue l D ck ma Z.1 Z.2.1 (xs (i + 1)) (RR_hm hR) _) (cwV 1 hts gL_law_X6_queue rfl rfl rfl (by decide +kernel) ⟨Nat.le_of_ble_eq_true rfl, Nat.le_of_ble_eq_true rfl⟩) (xpreV hN hK hP hD (pm_x (pm_core Z)) 0 rfl rfl rfl) rfl rfl hl.1 rfl (lv_room (Nat.le_of_ble_eq_true rfl)) dL_law_440 ⟨Nat.le_of_ble_eq_true rfl, Nat.le_of_ble_eq_true rfl⟩) hP hD hS hA (pm_x (pm_core Z)) (pm_x' (pm_core Z).symm) (fun H locs hP hD hS => ?_)
  have hP : va_P D vwCl (clW ck ca (C) ++ modW ck ma (Z)) H := hP
  have hD : va_D (fun q => s.heap.size ≤ q) (clW ck ca (C) ++ modW ck ma (Z)) := hD
  refine lv_icmp_eq (tgt := 603) hx hb dL_law_443 (by decide) (fun c1 => ?_) (fun c1 => ?_)
  · exact kk (C) (Z) hR H locs ls hP hD hS hl
  · exact absurd hq c1
set_option maxHeartbeats 4000000 in
set_option maxRecDepth 100000 in
theorem lc_work {p : Program} {l : Launch} {e : Env} {s : State} {m : MethodId} {below : List Frame} {meth : Method} {c : Code} {b L : Nat} {xs : Nat → Int32} {D : va_G} {ck : Nat → ClassId} {tt : Nat → Nat} {ca : Nat → Nat → Nat} {ma : Nat → Nat} {i : Nat} {C : CS} {Z : MS} (h : LX p s m meth c b L xs D ck tt) (hL : L ≤ 2560) (hi : i + 5 ≤ L) (hR : RR C Z) (kk : ∀ (C1 : CS) (Z1 : MS), RR C1 Z1 → LW p l e s m below meth c b D ck ca ma i 603 C1 Z1) : LW p l e s m below meth c b D ck ca ma i 448 C Z := by
  obtain ⟨hx, hb, hr, hml, hown, hts, hX, hbl, hlk, hN, hK, hC, hZ⟩ := h
  have hA : ∀ q : Nat, s.heap.size ≤ q → (fun q : Nat => s.heap.size ≤ q) q := fun _ h => h
  have hbA : ¬ (fun q : Nat => s.heap.size ≤ q) b := Nat.not_le.mpr hbl
  have hq := eq_workc (C := C) (Z := Z) (w := (xs (i + 1))) (a := (xs (i + 2))) (b := (xs (i + 3))) (d := (xs (i + 4))) hR
  intro H locs ls hP hD hS hl
  refine lv_aload_n hx hb dL_law_448 rfl (lv_at hl 2 rfl) ?_
  refine lv_aload_n hx hb dL_law_449 rfl (lv_at hl 3 rfl) ?_
  refine lv_iload_n hx hb dL_law_450 rfl (lv_at hl 0 rfl) ?_
  refine lv_iconst (v := nI 1) hx hb dL_law_451 (by decide) ?_
  refine lv_iadd hx hb dL_law_452 ?_
  refine xsld (j := i + 1) (xs_c (by omega)) hx hb hX hbl hbA hS (xs_in (by omega) (by omega)) dL_law_453 ?_
  refine lv_aload_n hx hb dL_law_454 rfl (lv_at hl 3 rfl) ?_
  refine lv_iload_n hx hb dL_law_455 rfl (lv_at hl 0 rfl) ?_
  refine lv_iconst (v := nI 2) hx hb dL_law_456 (by decide) ?_
  refine lv_iadd hx hb dL_law_457 ?_
  refine xsld (j := i + 2) (xs_c (by omega)) hx hb hX hbl hbA hS (xs_in (by omega) (by omega)) dL_law_458 ?_
  refine lv_aload_n hx hb dL_law_459 rfl (lv_at hl 3 rfl) ?_
  refine lv_iload_n hx hb dL_law_460 rfl (lv_at hl 0 rfl) ?_
  refine lv_iconst (v := nI 3) hx hb dL_law_461 (by decide) ?_
  refine lv_iadd hx hb dL_law_462 ?_
  refine xsld (j := i + 3) (xs_c (by omega)) hx hb hX hbl hbA hS (xs_in (by omega) (by omega)) dL_law_463 ?_
  refine lv_aload_n hx hb dL_law_464 rfl (lv_at hl 3 rfl) ?_
  refine lv_iload_n hx hb dL_law_465 rfl (lv_at hl 0 rfl) ?_
  refine lv_iconst (v := nI 4) hx hb dL_law_466 (by decide) ?_
  refine lv_iadd hx hb dL_law_467 ?_
  refine xsld (j := i + 4) (xs_c (by omega)) hx hb hX hbl hbA hS (xs_in (by omega) (by omega)) dL_law_468 ?_
  refine xreti (va_runV (As := [.int (xs (i + 1)), .int (xs (i + 2)), .int (xs (i + 3)), .int (xs (i + 4))]) (rest := []) ⟨hx, hb, hml, hown, hts⟩ (mX5_work l D ck ca C (xs (i + 1)) (xs (i + 2)) (xs (i + 3)) (xs (i + 4))  _) (cwV 4 hts gL_law_X5_work rfl rfl rfl (by decide +kernel) ⟨Nat.le_of_ble_eq_true rfl, Nat.le_of_ble_eq_true rfl⟩) (xpreV hN hK hP hD (List.Perm.refl _) 0 rfl rfl rfl) rfl rfl hl.1 rfl (lv_room (Nat.le_of_ble_eq_true rfl)) dL_law_469 ⟨Nat.le_of_ble_eq_true rfl, Nat.le_of_ble_eq_true rfl⟩) hP hD hS hA (List.Perm.refl _) (List.Perm.refl _) (fun H locs hP hD hS => ?_)
  have hP : va_P D vwCl (clW ck ca ((gX5_work C (xs (i + 1)) (xs (i + 2)) (xs (i + 3)) (xs (i + 4))).2) ++ modW ck ma Z) H := hP
  have hD : va_D (fun q => s.heap.size ≤ q) (clW ck ca ((gX5_work C (xs (i + 1)) (xs (i + 2)) (xs (i + 3)) (xs (i + 4))).2) ++ modW ck ma Z) := hD
  refine lv_aload_n hx hb dL_law_472 rfl (lv_at hl 1 rfl) ?_
  refine lv_aload_n hx hb dL_law_473 rfl (lv_at hl 3 rfl) ?_
  refine lv_iload_n hx hb dL_law_474 rfl (lv_at hl 0 rfl) ?_
  refine lv_iconst (v := nI 1) hx hb dL_law_475 (by decide) ?_
  refine lv_iadd hx hb dL_law_476 ?_
  refine xsld (j := i + 1) (xs_c (by omega)) hx hb hX hbl hbA hS (xs_in (by omega) (by omega)) dL_law_477 ?_
  refine lv_aload_n hx hb dL_law_478 rfl (lv_at hl 3 rfl) ?_
  refine lv_iload_n hx hb dL_law_479 rfl (lv_at hl 0 rfl) ?_
  refine lv_iconst (v := nI 2) hx hb dL_law_480 (by decide) ?_
  refine lv_iadd hx hb dL_law_481 ?_
  refine xsld (j := i + 2) (xs_c (by omega)) hx hb hX hbl hbA hS (xs_in (by omega) (by omega)) dL_law_482 ?_
  refine lv_aload_n hx hb dL_law_483 rfl (lv_at hl 3 rfl) ?_
  refine lv_iload_n hx hb dL_law_484 rfl (lv_at hl 0 rfl) ?_
  refine lv_iconst (v := nI 3) hx hb dL_law_485 (by decide) ?_
  refine lv_iadd hx hb dL_law_486 ?_
  refine xsld (j := i + 3) (xs_c (by omega)) hx hb hX hbl hbA hS (xs_in (by omega) (by omega)) dL_law_487 ?_
  refine lv_aload_n hx hb dL_law_488 rfl (lv_at hl 3 rfl) ?_
  refine lv_iload_n hx hb dL_law_489 rfl (lv_at hl 0 rfl) ?_
  refine lv_iconst (v := nI 4) hx hb dL_law_490 (by decide) ?_
  refine lv_iadd hx hb dL_law_491 ?_
  refine xsld (j := i + 4) (xs_c (by omega)) hx hb hX hbl hbA hS (xs_in (by omega) (by omega)) dL_law_492 ?_
  refine xreti (va_runV (As := [.int (xs (i + 1)), .int (xs (i + 2)), .int (xs (i + 3)), .int (xs (i + 4))]) (rest := [.int (gX5_work C (xs (i + 1)) (xs (i + 2)) (xs (i + 3)) (xs (i + 4))).1]) ⟨hx, hb, hml, hown, hts⟩ (mX6_work l D ck ma Z.1 Z.2.1 (xs (i + 1)) (xs (i + 2)) (xs (i + 3)) (xs (i + 4)) (RR_hm hR) _) (cwV 4 hts gL_law_X6_work rfl rfl rfl (by decide +kernel) ⟨Nat.le_of_ble_eq_true rfl, Nat.le_of_ble_eq_true rfl⟩) (xpreV hN hK hP hD (pm_x (pm_core Z)) 0 rfl rfl rfl) rfl rfl hl.1 rfl (lv_room (Nat.le_of_ble_eq_true rfl)) dL_law_493 ⟨Nat.le_of_ble_eq_true rfl, Nat.le_of_ble_eq_true rfl⟩) hP hD hS hA (pm_x (pm_core Z)) (pm_x' (pm_core Z).symm) (fun H locs hP hD hS => ?_)
  have hP : va_P D vwCl (clW ck ca ((gX5_work C (xs (i + 1)) (xs (i + 2)) (xs (i + 3)) (xs (i + 4))).2) ++ modW ck ma (Z)) H := hP
  have hD : va_D (fun q => s.heap.size ≤ q) (clW ck ca ((gX5_work C (xs (i + 1)) (xs (i + 2)) (xs (i + 3)) (xs (i + 4))).2) ++ modW ck ma (Z)) := hD
  refine lv_icmp_eq (tgt := 603) hx hb dL_law_496 (by decide) (fun c1 => ?_) (fun c1 => ?_)
  · exact kk ((gX5_work C (xs (i + 1)) (xs (i + 2)) (xs (i + 3)) (xs (i + 4))).2) (Z) hq.2 H locs ls hP hD hS hl
  · exact absurd hq.1 c1
set_option maxHeartbeats 4000000 in
set_option maxRecDepth 100000 in
theorem lc_bestWay {p : Program} {l : Launch} {e : Env} {s : State} {m : MethodId} {below : List Frame} {meth : Method} {c : Code} {b L : Nat} {xs : Nat → Int32} {D : va_G} {ck : Nat → ClassId} {tt : Nat → Nat} {ca : Nat → Nat → Nat} {ma : Nat → Nat} {i : Nat} {C : CS} {Z : MS} (h : LX p s m meth c b L xs D ck tt) (hL : L ≤ 2560) (hi : i + 5 ≤ L) (hR : RR C Z) (kk : ∀ (C1 : CS) (Z1 : MS), RR C1 Z1 → LW p l e s m below meth c b D ck ca ma i 603 C1 Z1) : LW p l e s m below meth c b D ck ca ma i 501 C Z := by
  obtain ⟨hx, hb, hr, hml, hown, hts, hX, hbl, hlk, hN, hK, hC, hZ⟩ := h
  have hA : ∀ q : Nat, s.heap.size ≤ q → (fun q : Nat => s.heap.size ≤ q) q := fun _ h => h
  have hbA : ¬ (fun q : Nat => s.heap.size ≤ q) b := Nat.not_le.mpr hbl
  have hq := eq_best (C := C) (Z := Z) (a := (xs (i + 1))) (b := (xs (i + 2))) (d := (xs (i + 3))) hR
  intro H locs ls hP hD hS hl
  refine lv_aload_n hx hb dL_law_501 rfl (lv_at hl 2 rfl) ?_
  refine lv_aload_n hx hb dL_law_502 rfl (lv_at hl 3 rfl) ?_
  refine lv_iload_n hx hb dL_law_503 rfl (lv_at hl 0 rfl) ?_
  refine lv_iconst (v := nI 1) hx hb dL_law_504 (by decide) ?_
  refine lv_iadd hx hb dL_law_505 ?_
  refine xsld (j := i + 1) (xs_c (by omega)) hx hb hX hbl hbA hS (xs_in (by omega) (by omega)) dL_law_506 ?_
  refine lv_aload_n hx hb dL_law_507 rfl (lv_at hl 3 rfl) ?_
  refine lv_iload_n hx hb dL_law_508 rfl (lv_at hl 0 rfl) ?_
  refine lv_iconst (v := nI 2) hx hb dL_law_509 (by decide) ?_
  refine lv_iadd hx hb dL_law_510 ?_
  refine xsld (j := i + 2) (xs_c (by omega)) hx hb hX hbl hbA hS (xs_in (by omega) (by omega)) dL_law_511 ?_
  refine lv_aload_n hx hb dL_law_512 rfl (lv_at hl 3 rfl) ?_
  refine lv_iload_n hx hb dL_law_513 rfl (lv_at hl 0 rfl) ?_
  refine lv_iconst (v := nI 3) hx hb dL_law_514 (by decide) ?_
  refine lv_iadd hx hb dL_law_515 ?_
  refine xsld (j := i + 3) (xs_c (by omega)) hx hb hX hbl hbA hS (xs_in (by omega) (by omega)) dL_law_516 ?_
  refine xreti (va_runV (As := [.int (xs (i + 1)), .int (xs (i + 2)), .int (xs (i + 3))]) (rest := []) ⟨hx, hb, hml, hown, hts⟩ (mX5_bestWay l D ck ca C (xs (i + 1)) (xs (i + 2)) (xs (i + 3))  _) (cwV 3 hts gL_law_X5_bestWay rfl rfl rfl (by decide +kernel) ⟨Nat.le_of_ble_eq_true rfl, Nat.le_of_ble_eq_true rfl⟩) (xpreV hN hK hP hD (List.Perm.refl _) 0 rfl rfl rfl) rfl rfl hl.1 rfl (lv_room (Nat.le_of_ble_eq_true rfl)) dL_law_517 ⟨Nat.le_of_ble_eq_true rfl, Nat.le_of_ble_eq_true rfl⟩) hP hD hS hA (List.Perm.refl _) (List.Perm.refl _) (fun H locs hP hD hS => ?_)
  have hP : va_P D vwCl (clW ck ca ((gX5_bestWay C (xs (i + 1)) (xs (i + 2)) (xs (i + 3))).2) ++ modW ck ma Z) H := hP
  have hD : va_D (fun q => s.heap.size ≤ q) (clW ck ca ((gX5_bestWay C (xs (i + 1)) (xs (i + 2)) (xs (i + 3))).2) ++ modW ck ma Z) := hD
  refine lv_aload_n hx hb dL_law_520 rfl (lv_at hl 1 rfl) ?_
  refine lv_aload_n hx hb dL_law_521 rfl (lv_at hl 3 rfl) ?_
  refine lv_iload_n hx hb dL_law_522 rfl (lv_at hl 0 rfl) ?_
  refine lv_iconst (v := nI 1) hx hb dL_law_523 (by decide) ?_
  refine lv_iadd hx hb dL_law_524 ?_
  refine xsld (j := i + 1) (xs_c (by omega)) hx hb hX hbl hbA hS (xs_in (by omega) (by omega)) dL_law_525 ?_
  refine lv_aload_n hx hb dL_law_526 rfl (lv_at hl 3 rfl) ?_
  refine lv_iload_n hx hb dL_law_527 rfl (lv_at hl 0 rfl) ?_
  refine lv_iconst (v := nI 2) hx hb dL_law_528 (by decide) ?_
  refine lv_iadd hx hb dL_law_529 ?_
  refine xsld (j := i + 2) (xs_c (by omega)) hx hb hX hbl hbA hS (xs_in (by omega) (by omega)) dL_law_530 ?_
  refine lv_aload_n hx hb dL_law_531 rfl (lv_at hl 3 rfl) ?_
  refine lv_iload_n hx hb dL_law_532 rfl (lv_at hl 0 rfl) ?_
  refine lv_iconst (v := nI 3) hx hb dL_law_533 (by decide) ?_
  refine lv_iadd hx hb dL_law_534 ?_
  refine xsld (j := i + 3) (xs_c (by omega)) hx hb hX hbl hbA hS (xs_in (by omega) (by omega)) dL_law_535 ?_
  refine xreti (va_runV (As := [.int (xs (i + 1)), .int (xs (i + 2)), .int (xs (i + 3))]) (rest := [.int (gX5_bestWay C (xs (i + 1)) (xs (i + 2)) (xs (i + 3))).1]) ⟨hx, hb, hml, hown, hts⟩ (mX6_bestWay l D ck ma Z.1 Z.2.1 (xs (i + 1)) (xs (i + 2)) (xs (i + 3)) (RR_hm hR) _) (cwV 3 hts gL_law_X6_bestWay rfl rfl rfl (by decide +kernel) ⟨Nat.le_of_ble_eq_true rfl, Nat.le_of_ble_eq_true rfl⟩) (xpreV hN hK hP hD (pm_x (pm_core Z)) 0 rfl rfl rfl) rfl rfl hl.1 rfl (lv_room (Nat.le_of_ble_eq_true rfl)) dL_law_536 ⟨Nat.le_of_ble_eq_true rfl, Nat.le_of_ble_eq_true rfl⟩) hP hD hS hA (pm_x (pm_core Z)) (pm_x' (pm_core Z).symm) (fun H locs hP hD hS => ?_)
  have hP : va_P D vwCl (clW ck ca ((gX5_bestWay C (xs (i + 1)) (xs (i + 2)) (xs (i + 3))).2) ++ modW ck ma (Z)) H := hP
  have hD : va_D (fun q => s.heap.size ≤ q) (clW ck ca ((gX5_bestWay C (xs (i + 1)) (xs (i + 2)) (xs (i + 3))).2) ++ modW ck ma (Z)) := hD
  refine lv_icmp_eq (tgt := 603) hx hb dL_law_539 (by decide) (fun c1 => ?_) (fun c1 => ?_)
  · exact kk ((gX5_bestWay C (xs (i + 1)) (xs (i + 2)) (xs (i + 3))).2) (Z) hq.2 H locs ls hP hD hS hl
  · exact absurd hq.1 c1
set_option maxHeartbeats 4000000 in
set_option maxRecDepth 100000 in
theorem lc_doneIn {p : Program} {l : Launch} {e : Env} {s : State} {m : MethodId} {below : List Frame} {meth : Method} {c : Code} {b L : Nat} {xs : Nat → Int32} {D : va_G} {ck : Nat → ClassId} {tt : Nat → Nat} {ca : Nat → Nat → Nat} {ma : Nat → Nat} {i : Nat} {C : CS} {Z : MS} (h : LX p s m meth c b L xs D ck tt) (hL : L ≤ 2560) (hi : i + 5 ≤ L) (hR : RR C Z) (kk : ∀ (C1 : CS) (Z1 : MS), RR C1 Z1 → LW p l e s m below meth c b D ck ca ma i 603 C1 Z1) : LW p l e s m below meth c b D ck ca ma i 544 C Z := by
  obtain ⟨hx, hb, hr, hml, hown, hts, hX, hbl, hlk, hN, hK, hC, hZ⟩ := h
  have hA : ∀ q : Nat, s.heap.size ≤ q → (fun q : Nat => s.heap.size ≤ q) q := fun _ h => h
  have hbA : ¬ (fun q : Nat => s.heap.size ≤ q) b := Nat.not_le.mpr hbl
  have hq := eq_doneIn (C := C) (Z := Z) (a := (xs (i + 1))) hR
  intro H locs ls hP hD hS hl
  refine lv_aload_n hx hb dL_law_544 rfl (lv_at hl 2 rfl) ?_
  refine lv_aload_n hx hb dL_law_545 rfl (lv_at hl 3 rfl) ?_
  refine lv_iload_n hx hb dL_law_546 rfl (lv_at hl 0 rfl) ?_
  refine lv_iconst (v := nI 1) hx hb dL_law_547 (by decide) ?_
  refine lv_iadd hx hb dL_law_548 ?_
  refine xsld (j := i + 1) (xs_c (by omega)) hx hb hX hbl hbA hS (xs_in (by omega) (by omega)) dL_law_549 ?_
  refine xreti (va_runV (As := [.int (xs (i + 1))]) (rest := []) ⟨hx, hb, hml, hown, hts⟩ (mX5_doneIn l D ck ca C (xs (i + 1))  _) (cwV 1 hts gL_law_X5_doneIn rfl rfl rfl (by decide +kernel) ⟨Nat.le_of_ble_eq_true rfl, Nat.le_of_ble_eq_true rfl⟩) (xpreV hN hK hP hD (List.Perm.refl _) 0 rfl rfl rfl) rfl rfl hl.1 rfl (lv_room (Nat.le_of_ble_eq_true rfl)) dL_law_550 ⟨Nat.le_of_ble_eq_true rfl, Nat.le_of_ble_eq_true rfl⟩) hP hD hS hA (List.Perm.refl _) (List.Perm.refl _) (fun H locs hP hD hS => ?_)
  have hP : va_P D vwCl (clW ck ca ((gX5_doneIn C (xs (i + 1))).2) ++ modW ck ma Z) H := hP
  have hD : va_D (fun q => s.heap.size ≤ q) (clW ck ca ((gX5_doneIn C (xs (i + 1))).2) ++ modW ck ma Z) := hD
  refine lv_aload_n hx hb dL_law_553 rfl (lv_at hl 1 rfl) ?_
  refine lv_aload_n hx hb dL_law_554 rfl (lv_at hl 3 rfl) ?_
  refine lv_iload_n hx hb dL_law_555 rfl (lv_at hl 0 rfl) ?_
  refine lv_iconst (v := nI 1) hx hb dL_law_556 (by decide) ?_
  refine lv_iadd hx hb dL_law_557 ?_
  refine xsld (j := i + 1) (xs_c (by omega)) hx hb hX hbl hbA hS (xs_in (by omega) (by omega)) dL_law_558 ?_
  refine xreti (va_runV (As := [.int (xs (i + 1))]) (rest := [.int (gX5_doneIn C (xs (i + 1))).1]) ⟨hx, hb, hml, hown, hts⟩ (mX6_doneIn l D ck ma Z (xs (i + 1)) (RR_hm hR) _) (cwV 1 hts gL_law_X6_doneIn rfl rfl rfl (by decide +kernel) ⟨Nat.le_of_ble_eq_true rfl, Nat.le_of_ble_eq_true rfl⟩) (xpreV hN hK hP hD List.perm_append_comm 0 rfl rfl rfl) rfl rfl hl.1 rfl (lv_room (Nat.le_of_ble_eq_true rfl)) dL_law_559 ⟨Nat.le_of_ble_eq_true rfl, Nat.le_of_ble_eq_true rfl⟩) hP hD hS hA List.perm_append_comm List.perm_append_comm (fun H locs hP hD hS => ?_)
  have hP : va_P D vwCl (clW ck ca ((gX5_doneIn C (xs (i + 1))).2) ++ modW ck ma ((gX6_doneIn Z (xs (i + 1))).2)) H := hP
  have hD : va_D (fun q => s.heap.size ≤ q) (clW ck ca ((gX5_doneIn C (xs (i + 1))).2) ++ modW ck ma ((gX6_doneIn Z (xs (i + 1))).2)) := hD
  refine lv_icmp_eq (tgt := 603) hx hb dL_law_562 (by decide) (fun c1 => ?_) (fun c1 => ?_)
  · exact kk ((gX5_doneIn C (xs (i + 1))).2) ((gX6_doneIn Z (xs (i + 1))).2) hq.2 H locs ls hP hD hS hl
  · exact absurd hq.1 c1
set_option maxHeartbeats 4000000 in
set_option maxRecDepth 100000 in
theorem lc_count {p : Program} {l : Launch} {e : Env} {s : State} {m : MethodId} {below : List Frame} {meth : Method} {c : Code} {b L : Nat} {xs : Nat → Int32} {D : va_G} {ck : Nat → ClassId} {tt : Nat → Nat} {ca : Nat → Nat → Nat} {ma : Nat → Nat} {i : Nat} {C : CS} {Z : MS} (h : LX p s m meth c b L xs D ck tt) (hL : L ≤ 2560) (hi : i + 5 ≤ L) (hR : RR C Z) (kk : ∀ (C1 : CS) (Z1 : MS), RR C1 Z1 → LW p l e s m below meth c b D ck ca ma i 603 C1 Z1) : LW p l e s m below meth c b D ck ca ma i 567 C Z := by
  obtain ⟨hx, hb, hr, hml, hown, hts, hX, hbl, hlk, hN, hK, hC, hZ⟩ := h
  have hA : ∀ q : Nat, s.heap.size ≤ q → (fun q : Nat => s.heap.size ≤ q) q := fun _ h => h
  have hbA : ¬ (fun q : Nat => s.heap.size ≤ q) b := Nat.not_le.mpr hbl
  have hq := eq_count (C := C) (Z := Z) (a := (xs (i + 1))) hR
  intro H locs ls hP hD hS hl
  refine lv_aload_n hx hb dL_law_567 rfl (lv_at hl 2 rfl) ?_
  refine lv_aload_n hx hb dL_law_568 rfl (lv_at hl 3 rfl) ?_
  refine lv_iload_n hx hb dL_law_569 rfl (lv_at hl 0 rfl) ?_
  refine lv_iconst (v := nI 1) hx hb dL_law_570 (by decide) ?_
  refine lv_iadd hx hb dL_law_571 ?_
  refine xsld (j := i + 1) (xs_c (by omega)) hx hb hX hbl hbA hS (xs_in (by omega) (by omega)) dL_law_572 ?_
  refine xreti (va_runV (As := [.int (xs (i + 1))]) (rest := []) ⟨hx, hb, hml, hown, hts⟩ (mX5_count l D ck ca C (xs (i + 1))  _) (cwV 1 hts gL_law_X5_count rfl rfl rfl (by decide +kernel) ⟨Nat.le_of_ble_eq_true rfl, Nat.le_of_ble_eq_true rfl⟩) (xpreV hN hK hP hD (List.Perm.refl _) 0 rfl rfl rfl) rfl rfl hl.1 rfl (lv_room (Nat.le_of_ble_eq_true rfl)) dL_law_573 ⟨Nat.le_of_ble_eq_true rfl, Nat.le_of_ble_eq_true rfl⟩) hP hD hS hA (List.Perm.refl _) (List.Perm.refl _) (fun H locs hP hD hS => ?_)
  have hP : va_P D vwCl (clW ck ca (C) ++ modW ck ma Z) H := hP
  have hD : va_D (fun q => s.heap.size ≤ q) (clW ck ca (C) ++ modW ck ma Z) := hD
  refine lv_aload_n hx hb dL_law_576 rfl (lv_at hl 1 rfl) ?_
  refine lv_aload_n hx hb dL_law_577 rfl (lv_at hl 3 rfl) ?_
  refine lv_iload_n hx hb dL_law_578 rfl (lv_at hl 0 rfl) ?_
  refine lv_iconst (v := nI 1) hx hb dL_law_579 (by decide) ?_
  refine lv_iadd hx hb dL_law_580 ?_
  refine xsld (j := i + 1) (xs_c (by omega)) hx hb hX hbl hbA hS (xs_in (by omega) (by omega)) dL_law_581 ?_
  refine xreti (va_runV (As := [.int (xs (i + 1))]) (rest := [.int (gX5_count C (xs (i + 1)))]) ⟨hx, hb, hml, hown, hts⟩ (mX6_count l D ck ma Z.1 Z.2.1 (xs (i + 1)) (RR_hm hR) _) (cwV 1 hts gL_law_X6_count rfl rfl rfl (by decide +kernel) ⟨Nat.le_of_ble_eq_true rfl, Nat.le_of_ble_eq_true rfl⟩) (xpreV hN hK hP hD (pm_x (pm_core Z)) 0 rfl rfl rfl) rfl rfl hl.1 rfl (lv_room (Nat.le_of_ble_eq_true rfl)) dL_law_582 ⟨Nat.le_of_ble_eq_true rfl, Nat.le_of_ble_eq_true rfl⟩) hP hD hS hA (pm_x (pm_core Z)) (pm_x' (pm_core Z).symm) (fun H locs hP hD hS => ?_)
  have hP : va_P D vwCl (clW ck ca (C) ++ modW ck ma (Z)) H := hP
  have hD : va_D (fun q => s.heap.size ≤ q) (clW ck ca (C) ++ modW ck ma (Z)) := hD
  refine lv_icmp_eq (tgt := 603) hx hb dL_law_585 (by decide) (fun c1 => ?_) (fun c1 => ?_)
  · exact kk (C) (Z) hR H locs ls hP hD hS hl
  · exact absurd hq c1
set_option maxHeartbeats 4000000 in
set_option maxRecDepth 100000 in
theorem lc_spare {p : Program} {l : Launch} {e : Env} {s : State} {m : MethodId} {below : List Frame} {meth : Method} {c : Code} {b L : Nat} {xs : Nat → Int32} {D : va_G} {ck : Nat → ClassId} {tt : Nat → Nat} {ca : Nat → Nat → Nat} {ma : Nat → Nat} {i : Nat} {C : CS} {Z : MS} (h : LX p s m meth c b L xs D ck tt) (hL : L ≤ 2560) (hi : i + 5 ≤ L) (hR : RR C Z) (kk : ∀ (C1 : CS) (Z1 : MS), RR C1 Z1 → LW p l e s m below meth c b D ck ca ma i 603 C1 Z1) : LW p l e s m below meth c b D ck ca ma i 590 C Z := by
  obtain ⟨hx, hb, hr, hml, hown, hts, hX, hbl, hlk, hN, hK, hC, hZ⟩ := h
  have hA : ∀ q : Nat, s.heap.size ≤ q → (fun q : Nat => s.heap.size ≤ q) q := fun _ h => h
  have hbA : ¬ (fun q : Nat => s.heap.size ≤ q) b := Nat.not_le.mpr hbl
  have hq := eq_spare (C := C) (Z := Z) hR
  intro H locs ls hP hD hS hl
  refine lv_aload_n hx hb dL_law_590 rfl (lv_at hl 2 rfl) ?_
  refine xreti (va_runV (As := []) (rest := []) ⟨hx, hb, hml, hown, hts⟩ (mX5_spare l D ck ca C  _) (cwV 0 hts gL_law_X5_spare rfl rfl rfl (by decide +kernel) ⟨Nat.le_of_ble_eq_true rfl, Nat.le_of_ble_eq_true rfl⟩) (xpreV hN hK hP hD (List.Perm.refl _) 0 rfl rfl rfl) rfl rfl hl.1 rfl (lv_room (Nat.le_of_ble_eq_true rfl)) dL_law_591 ⟨Nat.le_of_ble_eq_true rfl, Nat.le_of_ble_eq_true rfl⟩) hP hD hS hA (List.Perm.refl _) (List.Perm.refl _) (fun H locs hP hD hS => ?_)
  have hP : va_P D vwCl (clW ck ca (C) ++ modW ck ma Z) H := hP
  have hD : va_D (fun q => s.heap.size ≤ q) (clW ck ca (C) ++ modW ck ma Z) := hD
  refine lv_aload_n hx hb dL_law_594 rfl (lv_at hl 1 rfl) ?_
  refine xreti (va_runV (As := []) (rest := [.int (gX5_spare C)]) ⟨hx, hb, hml, hown, hts⟩ (mX6_spare l D ck ma Z.1 Z.2.1 (bI_of (RR_hm hR)) _) (cwV 0 hts gL_law_X6_spare rfl rfl rfl (by decide +kernel) ⟨Nat.le_of_ble_eq_true rfl, Nat.le_of_ble_eq_true rfl⟩) (xpreV hN hK hP hD (pm_x (pm_core Z)) 0 rfl rfl rfl) rfl rfl hl.1 rfl (lv_room (Nat.le_of_ble_eq_true rfl)) dL_law_595 ⟨Nat.le_of_ble_eq_true rfl, Nat.le_of_ble_eq_true rfl⟩) hP hD hS hA (pm_x (pm_core Z)) (pm_x' (pm_core Z).symm) (fun H locs hP hD hS => ?_)
  have hP : va_P D vwCl (clW ck ca (C) ++ modW ck ma (Z)) H := hP
  have hD : va_D (fun q => s.heap.size ≤ q) (clW ck ca (C) ++ modW ck ma (Z)) := hD
  refine lv_icmp_eq (tgt := 603) hx hb dL_law_598 (by decide) (fun c1 => ?_) (fun c1 => ?_)
  · exact kk (C) (Z) hR H locs ls hP hD hS hl
  · exact absurd hq c1
