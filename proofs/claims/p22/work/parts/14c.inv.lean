abbrev nF (f : FS) : Nat := (f 4).toNatClampNeg
theorem oF_upd {f : FS} {k i m : Nat} {v : Int32} (hk : k < 9) : oF (upd f k v) i m = oF f i m := by
  show (if 9 + 9 * i + m = k then v else f (9 + 9 * i + m)) = _
  rw [if_neg (by omega)]
  rfl
theorem f_upd {f : FS} {k i : Nat} {v : Int32} : upd f k v i = if i = k then v else f i := rfl
theorem is_ne {f : FS} {j : Nat} {a : Int32} : gX6_is f j a = 0 ↔ ¬ oF f j 3 = a := by
  unfold gX6_is
  show (if oF f j 3 = a then (1 : Int32) else 0) = 0 ↔ _
  split
  · rename_i h
    exact ⟨fun e => absurd e (by decide), fun e => absurd h e⟩
  · rename_i h
    exact ⟨fun _ => h, fun _ => rfl⟩
theorem extra_eq {f : FS} {j : Nat} : gX6_extra f j = if oF f j 3 = 1 then oF f j 4 - gX6_needs f j else 0 := by
  unfold gX6_extra
  by_cases h : oF f j 3 = 1
  · rw [if_pos h, if_neg (fun e => is_ne.mp e h)]
    rfl
  · rw [if_neg h, if_pos (is_ne.mpr h)]
theorem mJ_w {f : FS} {j : Nat} (h : mJ f j) : wOK (oF f j 0) (oF f j 1) (oF f j 2) := ⟨h.1, h.2.1, h.2.2.1⟩
theorem mJ_n {f : FS} {j : Nat} (h : mJ f j) : 3 ≤ (gX6_needs f j).toInt ∧ (gX6_needs f j).toInt ≤ 22 := needs_bd (mJ_w h)
theorem mJ_wt {f : FS} {j : Nat} (h : mJ f j) : (gX6_needs f j).toInt ≤ (gX6_wants f j).toInt ∧ (gX6_wants f j).toInt ≤ 300 := wants_bd (mJ_w h)
theorem mJ_p {f : FS} {j : Nat} (h : mJ f j) : 0 ≤ (oF f j 4).toInt ∧ (oF f j 4).toInt ≤ 500 := by
  have hn := mJ_n h
  obtain ⟨-, -, -, -, h5, h6⟩ := h
  by_cases h1 : oF f j 3 = 1
  · have := h5 h1
    omega
  · rw [(h6 h1).1]
    decide
theorem mJ_x {f : FS} {j : Nat} (h : mJ f j) : (oF f j 3 = 1 → (gX6_extra f j).toInt = (oF f j 4).toInt - (gX6_needs f j).toInt) ∧ (¬ oF f j 3 = 1 → (gX6_extra f j).toInt = 0) ∧ 0 ≤ (gX6_extra f j).toInt ∧ (gX6_extra f j).toInt ≤ 500 := by
  have hn := mJ_n h
  have hp := mJ_p h
  rw [extra_eq]
  obtain ⟨-, -, -, -, h5, h6⟩ := h
  by_cases h1 : oF f j 3 = 1
  · have h7 := h5 h1
    rw [if_pos h1, isb (by omega) (by omega)]
    exact ⟨fun _ => rfl, fun e => absurd h1 e, by omega, by omega⟩
  · rw [if_neg h1]
    exact ⟨fun e => absurd e h1, fun _ => rfl, by decide, by decide⟩
theorem n_le {f : FS} (hm : mInv f) : nF f ≤ 16 := hm.1.1.2
theorem spares_Z {f : FS} (hm : mInv f) : (gX6_spares f).toInt = sZ (fun j => (gX6_extra f j).toInt) (nF f) ∧ 0 ≤ (gX6_spares f).toInt ∧ (gX6_spares f).toInt ≤ 16000 := by
  have hb : ∀ j, j < nF f → 0 ≤ (gX6_extra f j).toInt ∧ (gX6_extra f j).toInt ≤ 1000 := fun j hj => by
    have := (mJ_x (hm.2 j hj)).2.2
    omega
  have h1 := sZ_bd (g := fun j => (gX6_extra f j).toInt) hb
  have hn := n_le hm
  have e : (gX6_spares f).toInt = sZ (fun j => (gX6_extra f j).toInt) (nF f) := by
    rw [spares_eq]
    exact sS_Z hn hb
  exact ⟨e, by omega, by omega⟩
theorem granted_Z {f : FS} (hm : mInv f) : (gX6_granted f).toInt = sZ (fun j => (oF f j 4).toInt) (nF f) ∧ 0 ≤ (gX6_granted f).toInt ∧ (gX6_granted f).toInt ≤ 16000 := by
  have hb : ∀ j, j < nF f → 0 ≤ (oF f j 4).toInt ∧ (oF f j 4).toInt ≤ 1000 := fun j hj => by
    have := mJ_p (hm.2 j hj)
    omega
  have h1 := sZ_bd (g := fun j => (oF f j 4).toInt) hb
  have hn := n_le hm
  have e : (gX6_granted f).toInt = sZ (fun j => (oF f j 4).toInt) (nF f) := by
    rw [granted_eq]
    exact sS_Z hn hb
  exact ⟨e, by omega, by omega⟩
theorem free_Z {f : FS} (hm : mInv f) : 0 ≤ (gX6_free f).toInt ∧ (gX6_free f).toInt ≤ 500 := by
  have hg := (granted_Z hm).2
  have h0 := hm.1.2.1
  have e : (f 0 - gX6_granted f).toInt = (f 0).toInt - (gX6_granted f).toInt := isb (by omega) (by omega)
  unfold gX6_free
  split
  · rename_i h
    rw [x_ile, i_0] at h
    omega
  · decide
theorem needs_ext {f g : FS} {j : Nat} (e : ∀ m, m < 3 → oF g j m = oF f j m) : gX6_needs g j = gX6_needs f j := by
  unfold gX6_needs
  simp only [gX6_of_eq]
  rw [e 0 (by decide), e 1 (by decide), e 2 (by decide)]
theorem wants_ext {f g : FS} {j : Nat} (e : ∀ m, m < 3 → oF g j m = oF f j m) : gX6_wants g j = gX6_wants f j := by
  unfold gX6_wants
  simp only [gX6_of_eq]
  rw [e 0 (by decide), e 1 (by decide), e 2 (by decide)]
theorem works_ext {f g : FS} {j : Nat} {p : Int32} (e : ∀ m, m < 3 → oF g j m = oF f j m) : gX6_works g j p = gX6_works f j p := by
  unfold gX6_works
  simp only [gX6_of_eq]
  rw [e 0 (by decide), e 1 (by decide), e 2 (by decide)]
theorem mJ_ext {f g : FS} {j : Nat} (e : ∀ m, m < 6 → oF g j m = oF f j m) (h : mJ f j) : mJ g j := by
  unfold mJ at h ⊢
  rw [needs_ext (f := f) (g := g) (fun m hm => e m (by omega)), works_ext (f := f) (g := g) (fun m hm => e m (by omega)), e 0 (by decide), e 1 (by decide), e 2 (by decide), e 3 (by decide), e 4 (by decide), e 5 (by decide)]
  exact h
theorem mB_ext {f g : FS} (e : ∀ i, i < 5 → g i = f i) (ho : ∀ j, nF f ≤ j → j < 16 → ∀ m, m < 9 → oF g j m = oF f j m) (h : mB f) : mB g := by
  unfold mB at h ⊢
  rw [e 0 (by decide), e 1 (by decide), e 2 (by decide), e 3 (by decide), e 4 (by decide)]
  exact ⟨h.1, h.2.1, h.2.2.1, h.2.2.2.1, h.2.2.2.2.1, fun j h1 h2 k hk => (ho j h1 h2 k hk).trans (h.2.2.2.2.2 j h1 h2 k hk)⟩
/-- one join's row is another one, which keeps what must hold of it -/
theorem mInv_set {f g : FS} {k : Nat} (hm : mInv f) (hk : k < nF f) (e : ∀ i, i < 5 → g i = f i) (ho : ∀ j, j ≠ k → ∀ m, m < 9 → oF g j m = oF f j m) (hj : mJ g k) : mInv g := by
  refine ⟨mB_ext e (fun j h1 _ m hm9 => ho j (by omega) m hm9) hm.1, fun j hj2 => ?_⟩
  rw [e 4 (by decide)] at hj2
  by_cases h : j = k
  · subst h; exact hj
  · exact mJ_ext (fun m hm6 => ho j h m (by omega)) (hm.2 j hj2)
theorem am_L {f : FS} : ∀ fu i k, (gX6_asksBack_L11 f fu i k = k ∨ (i ≤ gX6_asksBack_L11 f fu i k ∧ gX6_asksBack_L11 f fu i k < i + fu)) ∧ (gX6_extra f k).toInt ≤ (gX6_extra f (gX6_asksBack_L11 f fu i k)).toInt ∧ ∀ j, i ≤ j → j < i + fu → (gX6_extra f j).toInt ≤ (gX6_extra f (gX6_asksBack_L11 f fu i k)).toInt := by
  intro fu
  induction fu with
  | zero => intro i k; exact ⟨Or.inl rfl, Int.le_refl _, fun j h1 h2 => by omega⟩
  | succ fu ih =>
    intro i k
    rw [gX6_asksBack_L11]
    split
    · rename_i h
      rw [x_ile] at h
      obtain ⟨h1, h2, h3⟩ := ih (i + 1) k
      refine ⟨by omega, h2, fun j h4 h5 => ?_⟩
      by_cases h6 : j = i
      · subst h6; omega
      · exact h3 j (by omega) (by omega)
    · rename_i h
      rw [x_ile] at h
      obtain ⟨h1, h2, h3⟩ := ih (i + 1) i
      refine ⟨by omega, by omega, fun j h4 h5 => ?_⟩
      by_cases h6 : j = i
      · subst h6; omega
      · exact h3 j (by omega) (by omega)
abbrev mostOf (f1 : FS) : Nat := gX6_asksBack_L11 f1 ((f1 4).toNatClampNeg - 1) 1 0
theorem most_spec {f : FS} (hn : 1 ≤ nF f) : mostOf f < nF f ∧ ∀ j, j < nF f → (gX6_extra f j).toInt ≤ (gX6_extra f (mostOf f)).toInt := by
  obtain ⟨h1, h2, h3⟩ := am_L (f := f) (nF f - 1) 1 0
  have h1 : mostOf f = 0 ∨ (1 ≤ mostOf f ∧ mostOf f < 1 + (nF f - 1)) := h1
  refine ⟨by omega, fun j hj => ?_⟩
  by_cases h : j = 0
  · subst h; exact h2
  · exact h3 j (by omega) (by omega)
theorem en_pos {f1 : FS} {x1 : Int32} (hm : mInv f1) (he : enough f1 x1) (h0 : ¬ x1 ≤ 0) : 1 ≤ (f1 4).toNatClampNeg := by
  unfold enough at he
  rw [x_ile, i_0] at h0
  rw [(spares_Z hm).1] at he
  obtain ⟨j, hj, -⟩ := sZ_pos (g := fun j => (gX6_extra f1 j).toInt) (n := nF f1) (by omega)
  exact Nat.lt_of_le_of_lt (Nat.zero_le j) hj
theorem most_pos {f1 : FS} {x1 : Int32} (hm : mInv f1) (he : enough f1 x1) (h0 : ¬ x1 ≤ 0) : mostOf f1 < nF f1 ∧ 0 < (gX6_extra f1 (mostOf f1)).toInt ∧ oF f1 (mostOf f1) 3 = 1 := by
  have hn := en_pos hm he h0
  obtain ⟨h1, h2⟩ := most_spec hn
  unfold enough at he
  rw [x_ile, i_0] at h0
  rw [(spares_Z hm).1] at he
  obtain ⟨j, hj, h3⟩ := sZ_pos (g := fun j => (gX6_extra f1 j).toInt) (n := nF f1) (by omega)
  have h4 := h2 j hj
  have h3 : 0 < (gX6_extra f1 j).toInt := h3
  refine ⟨h1, by omega, ?_⟩
  by_cases h5 : oF f1 (mostOf f1) 3 = 1
  · exact h5
  · have := (mJ_x (hm.2 _ h1)).2.1 h5
    omega
def gbW (f : FS) (j : Nat) (m : Int32) : Int32 := (((oF f j 5).toInt64 * (gX6_works f j (oF f j 4 - m)).toInt64 + (gX6_works f j (oF f j 4)).toInt64 - 1) / (gX6_works f j (oF f j 4)).toInt64).toInt32 + m
theorem gb_eq {f : FS} {j : Nat} {m : Int32} : gX6_givesBack f j m = upd (gX6_sets (gX6_sets (gX6_sets f j 4 (oF f j 4 - m)) j 5 (gbW f j m)) j 8 (oF f j 8 + m)) 8 (f 8 + m) := by
  have e1 : ∀ v, gX6_of (gX6_sets (gX6_sets f j 4 (oF f j 4 - m)) j 5 v) j 8 = oF f j 8 := fun v => by
    rw [gX6_of_eq, oF_sets (by decide) (by decide), oF_sets (by decide) (by decide), if_neg (by omega), if_neg (by omega)]
  have e2 : ∀ v w, gX6_sets (gX6_sets (gX6_sets f j 4 (oF f j 4 - m)) j 5 v) j 8 w 8 = f 8 := fun v w => by
    rw [f_sets (by decide), f_sets (by decide), f_sets (by decide)]
  show upd (gX6_sets (gX6_sets (gX6_sets f j 4 (oF f j 4 - m)) j 5 (gbW f j m)) j 8 (gX6_of (gX6_sets (gX6_sets f j 4 (oF f j 4 - m)) j 5 (gbW f j m)) j 8 + m)) 8 (gX6_sets (gX6_sets (gX6_sets f j 4 (oF f j 4 - m)) j 5 (gbW f j m)) j 8 (gX6_of (gX6_sets (gX6_sets f j 4 (oF f j 4 - m)) j 5 (gbW f j m)) j 8 + m) 8 + m) = _
  rw [e2, e1]
theorem gb_oF {f : FS} {j i k : Nat} {m : Int32} (hk : k < 9) : oF (gX6_givesBack f j m) i k = if i = j then (if k = 4 then oF f j 4 - m else if k = 5 then gbW f j m else if k = 8 then oF f j 8 + m else oF f j k) else oF f i k := by
  rw [gb_eq, oF_upd (by decide), oF_sets (by decide) hk, oF_sets (by decide) hk, oF_sets (by decide) hk]
  by_cases h : i = j
  · subst h
    rw [if_pos rfl]
    by_cases h8 : k = 8
    · subst h8; simp
    · by_cases h5 : k = 5
      · subst h5; simp
      · by_cases h4 : k = 4
        · subst h4; simp
        · simp [h8, h5, h4]
  · simp [h]
theorem gb_f {f : FS} {j i : Nat} {m : Int32} (hi : i < 9) : gX6_givesBack f j m i = if i = 8 then f 8 + m else f i := by
  rw [gb_eq, f_upd, f_sets hi, f_sets hi, f_sets hi]
theorem nat_ceil {w W W' c m : Nat} (hW : 1 ≤ W) (hW' : 1 ≤ W') (hw : 1 ≤ w) (h : w ≤ c * W) : 1 ≤ (w * W' + W - 1) / W ∧ (w * W' + W - 1) / W + m ≤ (c + m) * W' := by
  have h1 : w * W' ≤ c * W * W' := Nat.mul_le_mul_right W' h
  have h2 : 1 * 1 ≤ w * W' := Nat.mul_le_mul hw hW'
  have h3 : c * W * W' = c * W' * W := by rw [Nat.mul_assoc, Nat.mul_comm W W', ← Nat.mul_assoc]
  have h4 : m * 1 ≤ m * W' := Nat.mul_le_mul_left m hW'
  have h5 : (c + m) * W' = c * W' + m * W' := Nat.add_mul _ _ _
  constructor
  · rw [Nat.le_div_iff_mul_le hW]
    omega
  · have h6 : (w * W' + W - 1) / W ≤ c * W' := by
      rw [Nat.div_le_iff_le_mul_add_pred hW, Nat.mul_comm W]
      omega
    omega
theorem i_nI {x : Int32} (h : 0 ≤ x.toInt) : ∃ j : Nat, j < 2 ^ 31 ∧ x = nI j ∧ x.toInt = j := by
  obtain ⟨j, hj, e⟩ := nI_of (x := x) (by rw [x_ilt, i_0]; omega)
  exact ⟨j, hj, e, by rw [e, nI_toInt hj]⟩
theorem gbW_bd {f : FS} {j : Nat} {m : Int32} (hm : mJ f j) (h1 : oF f j 3 = 1) (hm1 : 1 ≤ m.toInt) (hm2 : m.toInt ≤ (gX6_extra f j).toInt) :
    (oF f j 4 - m).toInt = (oF f j 4).toInt - m.toInt ∧ (gX6_needs f j).toInt ≤ (oF f j 4 - m).toInt ∧ 1 ≤ (gbW f j m).toInt ∧ (gbW f j m).toInt ≤ (501 - (oF f j 4 - m).toInt) * (gX6_works f j (oF f j 4 - m)).toInt := by
  have hn := mJ_n hm
  have hx := (mJ_x hm).1 h1
  have hw := mJ_w hm
  obtain ⟨-, -, -, -, h5, -⟩ := hm
  obtain ⟨h6, h7, h8, h9⟩ := h5 h1
  have e1 : (oF f j 4 - m).toInt = (oF f j 4).toInt - m.toInt := isb (by omega) (by omega)
  have w1 := works_bd hw (d := oF f j 4) (by omega)
  have w2 := works_bd hw (d := oF f j 4 - m) (by omega)
  refine ⟨e1, by omega, ?_⟩
  change 1 ≤ (gX6_works f j (oF f j 4)).toInt ∧ (gX6_works f j (oF f j 4)).toInt ≤ 400000 at w1
  change 1 ≤ (gX6_works f j (oF f j 4 - m)).toInt ∧ (gX6_works f j (oF f j 4 - m)).toInt ≤ 400000 at w2
  unfold gbW
  generalize gX6_works f j (oF f j 4) = W at h9 w1 ⊢
  generalize gX6_works f j (oF f j 4 - m) = W' at w2 ⊢
  rw [e1]
  generalize oF f j 4 = g at h6 h7 h9 hx e1 ⊢
  generalize oF f j 5 = w at h8 h9 ⊢
  obtain ⟨a, ha, rfl, ea⟩ := i_nI (x := w) (by omega)
  obtain ⟨b, hb, rfl, eb⟩ := i_nI (x := W) (by omega)
  obtain ⟨b', hb', rfl, eb'⟩ := i_nI (x := W') (by omega)
  obtain ⟨k, hk, rfl, ek⟩ := i_nI (x := m) (by omega)
  obtain ⟨q, hq, -, eq⟩ := i_nI (x := g) (by omega)
  rw [ea] at h8 h9
  rw [eb] at h9 w1
  rw [eb'] at w2 ⊢
  rw [eq] at h9 ⊢
  rw [ek]
  have hq5 : q ≤ 500 := by omega
  have hkq : k ≤ q := by omega
  have hab : a ≤ (501 - q) * b := by
    have : (501 : Int) - q = ((501 - q : Nat) : Int) := by omega
    rw [this, ← Int.natCast_mul] at h9
    exact Int.ofNat_le.mp h9
  have hc := nat_ceil (w := a) (W := b) (W' := b') (c := 501 - q) (m := k) (by omega) (by omega) (by omega) hab
  have hA : a ≤ 501 * 400000 := Nat.le_trans hab (Nat.mul_le_mul (by omega) (by omega))
  have hAB : a * b' ≤ 501 * 400000 * 400000 := Nat.mul_le_mul hA (by omega)
  have hC : (501 - q + k) * b' ≤ 501 * 400000 := Nat.mul_le_mul (by omega) (by omega)
  have e2 : ((nI a).toInt64 * (nI b').toInt64 + (nI b).toInt64 - 1) / (nI b).toInt64 = lN ((a * b' + b - 1) / b) := by
    rw [nI_l ha, nI_l hb, nI_l hb', lN_mul, lN_add, show (1 : Int64) = lN 1 from rfl, lN_sub (by omega), pk_lDiv (by omega) (by omega) (by omega)]
  rw [e2, lN_i, nI_add, nI_toInt (by omega)]
  have e3 : (501 : Int) - ((q : Int) - (k : Int)) = ((501 - q + k : Nat) : Int) := by omega
  rw [e3, ← Int.natCast_mul]
  exact ⟨by omega, Int.ofNat_le.mpr hc.2⟩
theorem gb_mInv {f : FS} {j : Nat} {m : Int32} (hm : mInv f) (hj : j < nF f) (h1 : oF f j 3 = 1) (hm1 : 1 ≤ m.toInt) (hm2 : m.toInt ≤ (gX6_extra f j).toInt) : mInv (gX6_givesBack f j m) := by
  have hb := gbW_bd (hm.2 j hj) h1 hm1 hm2
  refine mInv_set hm hj (fun i hi => by rw [gb_f (by omega), if_neg (by omega)]) (fun i hi m hm9 => by rw [gb_oF hm9, if_neg hi]) ?_
  have hJ := hm.2 j hj
  have e : ∀ k, k < 9 → k ≠ 4 → k ≠ 5 → k ≠ 8 → oF (gX6_givesBack f j m) j k = oF f j k := fun k hk h4 h5 h8 => by rw [gb_oF hk, if_pos rfl, if_neg h4, if_neg h5, if_neg h8]
  have e4 : oF (gX6_givesBack f j m) j 4 = oF f j 4 - m := by rw [gb_oF (by decide), if_pos rfl, if_pos rfl]
  have e5 : oF (gX6_givesBack f j m) j 5 = gbW f j m := by rw [gb_oF (by decide), if_pos rfl, if_neg (by decide), if_pos rfl]
  have en : gX6_needs (gX6_givesBack f j m) j = gX6_needs f j := needs_ext (fun m hm => e m (by omega) (by omega) (by omega) (by omega))
  have ew : ∀ p, gX6_works (gX6_givesBack f j m) j p = gX6_works f j p := fun p => works_ext (fun m hm => e m (by omega) (by omega) (by omega) (by omega))
  unfold mJ
  rw [en, e 0 (by decide) (by decide) (by decide) (by decide), e 1 (by decide) (by decide) (by decide) (by decide), e 2 (by decide) (by decide) (by decide) (by decide), e 3 (by decide) (by decide) (by decide) (by decide), e4, e5, ew]
  have hJ' := hJ.2.2.2.2.1 h1
  exact ⟨hJ.1, hJ.2.1, hJ.2.2.1, hJ.2.2.2.1, fun _ => ⟨hb.2.1, by omega, hb.2.2.1, hb.2.2.2⟩, fun h => absurd h1 h⟩
theorem gb_extra {f : FS} {j i : Nat} {m : Int32} (hm : mInv f) (hj : j < nF f) (h1 : oF f j 3 = 1) (hm1 : 1 ≤ m.toInt) (hm2 : m.toInt ≤ (gX6_extra f j).toInt) : (gX6_extra (gX6_givesBack f j m) i).toInt = if i = j then (gX6_extra f j).toInt - m.toInt else (gX6_extra f i).toInt := by
  have hb := gbW_bd (hm.2 j hj) h1 hm1 hm2
  have hx := (mJ_x (hm.2 j hj)).1 h1
  have hn := mJ_n (hm.2 j hj)
  have en : gX6_needs (gX6_givesBack f j m) i = gX6_needs f i := needs_ext (fun k hk => by
    rw [gb_oF (by omega)]
    split
    · rename_i h; subst h
      rw [if_neg (by omega), if_neg (by omega), if_neg (by omega)]
    · rfl)
  by_cases h : i = j
  · subst h
    have hp := mJ_p (hm.2 i hj)
    have e3 : oF (gX6_givesBack f i m) i 3 = oF f i 3 := by rw [gb_oF (by decide), if_pos rfl, if_neg (by decide), if_neg (by decide), if_neg (by decide)]
    have e4 : oF (gX6_givesBack f i m) i 4 = oF f i 4 - m := by rw [gb_oF (by decide), if_pos rfl, if_pos rfl]
    rw [extra_eq (f := gX6_givesBack f i m), en, e3, e4, if_pos h1, if_pos rfl, isb (by omega) (by omega), hb.1]
    omega
  · have e3 : oF (gX6_givesBack f j m) i 3 = oF f i 3 := by rw [gb_oF (by decide), if_neg h]
    have e4 : oF (gX6_givesBack f j m) i 4 = oF f i 4 := by rw [gb_oF (by decide), if_neg h]
    rw [extra_eq (f := gX6_givesBack f j m), en, e3, e4, if_neg h, ← extra_eq]
theorem gb_spares {f : FS} {j : Nat} {m : Int32} (hm : mInv f) (hj : j < nF f) (h1 : oF f j 3 = 1) (hm1 : 1 ≤ m.toInt) (hm2 : m.toInt ≤ (gX6_extra f j).toInt) : (gX6_spares (gX6_givesBack f j m)).toInt = (gX6_spares f).toInt - m.toInt := by
  have hm' := gb_mInv hm hj h1 hm1 hm2
  have e4 : gX6_givesBack f j m 4 = f 4 := by rw [gb_f (by decide), if_neg (by decide)]
  rw [(spares_Z hm').1, (spares_Z hm).1]
  have hn : nF (gX6_givesBack f j m) = nF f := by unfold nF; rw [e4]
  rw [hn, sZ_change (h := fun i => (gX6_extra f i).toInt) hj (fun i _ hi => by show (gX6_extra (gX6_givesBack f j m) i).toInt = _; rw [gb_extra hm hj h1 hm1 hm2, if_neg hi])]
  show _ + ((gX6_extra (gX6_givesBack f j m) j).toInt - (gX6_extra f j).toInt) = _
  rw [gb_extra hm hj h1 hm1 hm2, if_pos rfl]
  omega
theorem ab_step {f1 : FS} {x1 m : Int32} (hm : mInv f1) (he : enough f1 x1) (h0 : ¬ x1 ≤ 0)
    (hc : (m = gX6_extra f1 (gX6_asksBack_L11 f1 ((f1 4).toNatClampNeg - 1) 1 0) ∧ ¬ x1 ≤ gX6_extra f1 (gX6_asksBack_L11 f1 ((f1 4).toNatClampNeg - 1) 1 0)) ∨ (m = x1 ∧ x1 ≤ gX6_extra f1 (gX6_asksBack_L11 f1 ((f1 4).toNatClampNeg - 1) 1 0))) :
    xP3 (gX6_of f1 (gX6_asksBack_L11 f1 ((f1 4).toNatClampNeg - 1) 1 0) 4 - m) ∧ xP3 (gX6_of f1 (gX6_asksBack_L11 f1 ((f1 4).toNatClampNeg - 1) 1 0) 4) ∧ ¬ (gX6_works f1 (gX6_asksBack_L11 f1 ((f1 4).toNatClampNeg - 1) 1 0) (gX6_of f1 (gX6_asksBack_L11 f1 ((f1 4).toNatClampNeg - 1) 1 0) 4)).toInt64 = 0 ∧
      mInv (gX6_givesBack f1 (gX6_asksBack_L11 f1 ((f1 4).toNatClampNeg - 1) 1 0) m) ∧ enough (gX6_givesBack f1 (gX6_asksBack_L11 f1 ((f1 4).toNatClampNeg - 1) 1 0) m) (x1 - m) ∧ (x1 - m).toInt < x1.toInt := by
  have hp := most_pos hm he h0
  unfold mostOf at hp
  obtain ⟨h1, h2, h3⟩ := hp
  generalize gX6_asksBack_L11 f1 ((f1 4).toNatClampNeg - 1) 1 0 = k at *
  rw [x_ile, i_0] at h0
  have hs := (spares_Z hm).2
  have hm1 : 1 ≤ m.toInt ∧ m.toInt ≤ (gX6_extra f1 k).toInt ∧ m.toInt ≤ x1.toInt := by
    rcases hc with ⟨rfl, h⟩ | ⟨rfl, h⟩ <;> (rw [x_ile] at h; omega)
  have hJ := hm.2 k h1
  have hn := mJ_n hJ
  have hpg := mJ_p hJ
  have hb := gbW_bd hJ h3 hm1.1 hm1.2.1
  have hw := works_bd (mJ_w hJ) (d := oF f1 k 4) (by have := hJ.2.2.2.2.1 h3; omega)
  have he' : x1.toInt ≤ (gX6_spares f1).toInt := he
  have e1 : (x1 - m).toInt = x1.toInt - m.toInt := isb (by omega) (by omega)
  refine ⟨⟨?_, ?_⟩, ⟨?_, ?_⟩, ?_, gb_mInv hm h1 h3 hm1.1 hm1.2.1, ?_, by omega⟩
  · show 3 ≤ (oF f1 k 4 - m).toInt; omega
  · show (oF f1 k 4 - m).toInt ≤ 1000; omega
  · show 3 ≤ (oF f1 k 4).toInt; omega
  · show (oF f1 k 4).toInt ≤ 1000; omega
  · change 1 ≤ (gX6_works f1 k (oF f1 k 4)).toInt ∧ _ at hw
    show ¬ (gX6_works f1 k (oF f1 k 4)).toInt64 = 0
    obtain ⟨b, hb', e, eb⟩ := i_nI (x := gX6_works f1 k (oF f1 k 4)) (by omega)
    rw [e, nI_l hb', show (0 : Int64) = lN 0 from rfl, lN_eq hb' (by decide)]
    omega
  · unfold enough
    rw [gb_spares hm h1 h3 hm1.1 hm1.2.1, e1]
    omega
/-- what asking back leaves as it was -/
def abK (f g : FS) : Prop := (∀ i, i < 8 → g i = f i) ∧ ∀ j m, m < 9 → m ≠ 4 → m ≠ 5 → m ≠ 8 → oF g j m = oF f j m
theorem abK.rfl' {f : FS} : abK f f := ⟨fun _ _ => rfl, fun _ _ _ _ _ _ => rfl⟩
theorem abK.trans' {f g h : FS} (a : abK f g) (b : abK g h) : abK f h := ⟨fun i hi => (b.1 i hi).trans (a.1 i hi), fun j m h1 h2 h3 h4 => (b.2 j m h1 h2 h3 h4).trans (a.2 j m h1 h2 h3 h4)⟩
theorem abK_gb {f : FS} {j : Nat} {m : Int32} : abK f (gX6_givesBack f j m) := by
  refine ⟨fun i hi => by rw [gb_f (by omega), if_neg (by omega)], fun i k hk h4 h5 h8 => ?_⟩
  by_cases h : i = j
  · subst h
    rw [gb_oF hk, if_pos rfl, if_neg h4, if_neg h5, if_neg h8]
  · rw [gb_oF hk, if_neg h]
theorem ab_L {f : FS} {a : Int32} : ∀ (fu : Nat) (x : Int32) (f1 : FS), mInv f1 → enough f1 x → mInv (gX6_asksBack_L2 f a fu x f1) ∧ abK f1 (gX6_asksBack_L2 f a fu x f1) := by
  intro fu
  induction fu with
  | zero => intro x f1 hm _; exact ⟨hm, abK.rfl'⟩
  | succ fu ih =>
    intro x f1 hm he
    rw [gX6_asksBack_L2]
    split
    · exact ⟨hm, abK.rfl'⟩
    · rename_i h0
      split
      · rename_i h
        obtain ⟨-, -, -, h1, h2, -⟩ := ab_step hm he h0 (Or.inr ⟨rfl, h⟩)
        have h3 := ih _ _ h1 h2
        exact ⟨h3.1, abK_gb.trans' h3.2⟩
      · rename_i h
        obtain ⟨-, -, -, h1, h2, -⟩ := ab_step hm he h0 (Or.inl ⟨rfl, h⟩)
        have h3 := ih _ _ h1 h2
        exact ⟨h3.1, abK_gb.trans' h3.2⟩
theorem ab_inv {f : FS} {x : Int32} (hm : mInv f) (he : enough f x) : mInv (gX6_asksBack f x) ∧ abK f (gX6_asksBack f x) := ab_L _ _ _ hm he
theorem bI_ab {f : FS} {x : Int32} (hm : mInv f) (he : enough f x) : bI (gX6_asksBack f x) := bI_of (ab_inv hm he).1
/-- one that waits is started with p pages -/
def go3 (f : FS) (j : Nat) (p : Int32) : FS := gX6_sets (gX6_sets (gX6_sets f j 3 1) j 4 p) j 5 (gX6_works (gX6_sets (gX6_sets f j 3 1) j 4 p) j p)
def goF (f : FS) (j : Nat) (p : Int32) : FS := upd (go3 f j p) 5 (if gX6_granted (go3 f j p) ≤ go3 f j p 5 then go3 f j p 5 else gX6_granted (go3 f j p))
theorem ite_up {g : FS} {x y a b : Int32} : (if x ≤ y then ((1 : Int32), upd g 5 a) else (1, upd g 5 b)) = (1, upd g 5 (if x ≤ y then a else b)) := by split <;> rfl
theorem starts_eq {f : FS} {j : Nat} : gX6_starts f j = (if gX6_free f < gX6_needs f j then (if f 2 = 1 then (if f 0 < gX6_granted f then (0, f) else (if gX6_free f + gX6_spares f < gX6_needs f j then (0, f) else (1, goF (gX6_asksBack f (gX6_needs f j - gX6_free f)) j (gX6_needs f j)))) else (0, f)) else (if gX6_wants f j ≤ gX6_free f then (1, goF f j (gX6_wants f j)) else (1, goF f j (gX6_free f)))) := by
  unfold gX6_starts
  simp only [ite_up]
  rfl
theorem go3_oF {f : FS} {j i k : Nat} {p : Int32} (hk : k < 9) : oF (go3 f j p) i k = if i = j then (if k = 3 then 1 else if k = 4 then p else if k = 5 then gX6_works f j p else oF f j k) else oF f i k := by
  have ew : gX6_works (gX6_sets (gX6_sets f j 3 1) j 4 p) j p = gX6_works f j p := works_ext (fun m hm => by rw [oF_sets (by decide) (by omega), oF_sets (by decide) (by omega), if_neg (by omega), if_neg (by omega)])
  unfold go3
  rw [ew, oF_sets (by decide) hk, oF_sets (by decide) hk, oF_sets (by decide) hk]
  by_cases h : i = j
  · subst h
    by_cases h5 : k = 5
    · subst h5; simp
    · by_cases h4 : k = 4
      · subst h4; simp
      · by_cases h3 : k = 3
        · subst h3; simp
        · simp [h5, h4, h3]
  · simp [h]
theorem go3_f {f : FS} {j i : Nat} {p : Int32} (hi : i < 9) : go3 f j p i = f i := by
  unfold go3
  rw [f_sets hi, f_sets hi, f_sets hi]
theorem goF_oF {f : FS} {j i k : Nat} {p : Int32} (hk : k < 9) : oF (goF f j p) i k = if i = j then (if k = 3 then 1 else if k = 4 then p else if k = 5 then gX6_works f j p else oF f j k) else oF f i k := by
  unfold goF
  rw [oF_upd (by decide), go3_oF hk]
theorem goF_f {f : FS} {j i : Nat} {p : Int32} (hi : i < 9) (h5 : i ≠ 5) : goF f j p i = f i := by
  unfold goF
  rw [f_upd, if_neg h5, go3_f hi]
theorem go_mInv {f : FS} {j : Nat} {p : Int32} (hm : mInv f) (hj : j < nF f) (hp : (gX6_needs f j).toInt ≤ p.toInt ∧ p.toInt ≤ 500) : mInv (goF f j p) := by
  refine mInv_set hm hj (fun i hi => goF_f (by omega) (by omega)) (fun i hi k hk => by rw [goF_oF hk, if_neg hi]) ?_
  have hJ := hm.2 j hj
  have hn := mJ_n hJ
  have e : ∀ k, k < 3 → oF (goF f j p) j k = oF f j k := fun k hk => by rw [goF_oF (by omega), if_pos rfl, if_neg (by omega), if_neg (by omega), if_neg (by omega)]
  have e3 : oF (goF f j p) j 3 = 1 := by rw [goF_oF (by omega), if_pos rfl, if_pos rfl]
  have e4 : oF (goF f j p) j 4 = p := by rw [goF_oF (by omega), if_pos rfl, if_neg (by omega), if_pos rfl]
  have e5 : oF (goF f j p) j 5 = gX6_works f j p := by rw [goF_oF (by omega), if_pos rfl, if_neg (by omega), if_neg (by omega), if_pos rfl]
  have hw := works_bd (mJ_w hJ) (d := p) (by omega)
  change 1 ≤ (gX6_works f j p).toInt ∧ (gX6_works f j p).toInt ≤ 400000 at hw
  unfold mJ
  rw [needs_ext e, works_ext e, e 0 (by decide), e 1 (by decide), e 2 (by decide), e3, e4, e5]
  refine ⟨hJ.1, hJ.2.1, hJ.2.2.1, Or.inr (Or.inl rfl), fun _ => ⟨hp.1, hp.2, hw.1, ?_⟩, fun h => absurd rfl h⟩
  have h1 : 1 * (gX6_works f j p).toInt ≤ (501 - p.toInt) * (gX6_works f j p).toInt := Int.mul_le_mul_of_nonneg_right (by omega) (by omega)
  omega
theorem wcnt_ext {f g : FS} {n : Nat} (h : ∀ i, i < n → oF g i 3 = oF f i 3) : wcnt g n = wcnt f n := by
  induction n with
  | zero => rfl
  | succ n ih =>
    show wcnt g n + _ = wcnt f n + _
    rw [ih (fun i hi => h i (by omega)), h n (by omega)]
theorem wcnt_dn {f g : FS} {n j : Nat} (hj : j < n) (h0 : oF f j 3 = 0) (h1 : oF g j 3 = 1) (h : ∀ i, i < n → i ≠ j → oF g i 3 = oF f i 3) : wcnt g n + 1 = wcnt f n := by
  induction n with
  | zero => omega
  | succ n ih =>
    show wcnt g n + _ + 1 = wcnt f n + _
    by_cases hn : j = n
    · subst hn
      rw [wcnt_ext (fun i hi => h i (by omega) (by omega)), h0, h1, if_pos rfl, if_neg (by decide)]
    · rw [← ih (by omega) (fun i hi hne => h i (by omega) hne), h n (by omega) (by omega)]
      omega
theorem st_enough {f : FS} {j : Nat} (hm : mInv f) (hj : j < 16) (h1 : gX6_free f < gX6_needs f j) (h2 : ¬ gX6_free f + gX6_spares f < gX6_needs f j) : enough f (gX6_needs f j - gX6_free f) := by
  have hf := free_Z hm
  have hs := (spares_Z hm).2
  rw [x_ilt] at h1
  rw [x_ilt, ia (by omega) (by omega)] at h2
  unfold enough
  have := (gX6_needs f j).toInt_lt
  rw [isb (by omega) (by omega)]
  omega
theorem needs_any {f : FS} {j : Nat} (hm : mInv f) (hj : j < 16) : 3 ≤ (gX6_needs f j).toInt ∧ (gX6_needs f j).toInt ≤ 22 := by
  rcases Nat.lt_or_ge j (nF f) with h | h
  · exact mJ_n (hm.2 j h)
  · have h1 := hm.1.2.2.2.2.2 j h hj
    unfold gX6_needs
    simp only [gX6_of_eq]
    rw [h1 0 (by decide), h1 1 (by decide), h1 2 (by decide)]
    decide
theorem wants_any {f : FS} {j : Nat} (hm : mInv f) (hj : j < 16) : (gX6_needs f j).toInt ≤ (gX6_wants f j).toInt ∧ (gX6_wants f j).toInt ≤ 300 := by
  rcases Nat.lt_or_ge j (nF f) with h | h
  · exact mJ_wt (hm.2 j h)
  · have h1 := hm.1.2.2.2.2.2 j h hj
    unfold gX6_needs gX6_wants
    simp only [gX6_of_eq]
    rw [h1 0 (by decide), h1 1 (by decide), h1 2 (by decide)]
    decide
theorem st_pfree {f : FS} {j : Nat} (hm : mInv f) (hj : j < 16) (h1 : ¬ gX6_free f < gX6_needs f j) : xP3 (gX6_free f) := by
  have hf := free_Z hm
  have hn := needs_any hm hj
  rw [x_ilt] at h1
  exact ⟨by omega, by omega⟩
theorem st_pwant {f : FS} {j : Nat} (hm : mInv f) (hj : j < 16) : xP3 (gX6_wants f j) := by
  have hn := needs_any hm hj
  have hw := wants_any hm hj
  exact ⟨by omega, by omega⟩
theorem st_pneed {f : FS} {j : Nat} (hm : mInv f) (hj : j < 16) : xP3 (gX6_needs f j) := by
  have hn := needs_any hm hj
  exact ⟨by omega, by omega⟩
def atR (f : FS) (a : Int32) (j : Nat) : Prop := oF f j 3 = 0 ∧ gX6_rankOf f j = a
theorem rk_L {f : FS} {a : Int32} : ∀ fu i, (gX6_ranked_L2 f a fu i = -5 ∧ ∀ j, i ≤ j → j < i + fu → ¬ atR f a j) ∨ ∃ j, i ≤ j ∧ j < i + fu ∧ gX6_ranked_L2 f a fu i = nI j ∧ atR f a j ∧ ∀ k, i ≤ k → k < j → ¬ atR f a k := by
  intro fu
  induction fu with
  | zero => intro i; exact Or.inl ⟨rfl, fun j h1 h2 => by omega⟩
  | succ fu ih =>
    intro i
    rw [gX6_ranked_L2]
    by_cases h : atR f a i
    · rw [if_neg (fun e => is_ne.mp e h.1), if_pos h.2]
      exact Or.inr ⟨i, Nat.le_refl i, by omega, rfl, h, fun k h1 h2 => by omega⟩
    · have e : (if gX6_is f i 0 = 0 then gX6_ranked_L2 f a fu (i + 1) else if gX6_rankOf f i = a then nI i else gX6_ranked_L2 f a fu (i + 1)) = gX6_ranked_L2 f a fu (i + 1) := by
        split
        · rfl
        · rename_i h1
          split
          · rename_i h2
            exact absurd ⟨Decidable.not_not.mp (fun z => h1 (is_ne.mpr z)), h2⟩ h
          · rfl
      rw [e]
      rcases ih (i + 1) with ⟨h1, h2⟩ | ⟨j, h1, h2, h3, h4, h5⟩
      · refine Or.inl ⟨h1, fun j h3 h4 => ?_⟩
        by_cases hj : j = i
        · subst hj; exact h
        · exact h2 j (by omega) (by omega)
      · refine Or.inr ⟨j, by omega, by omega, h3, h4, fun k h6 h7 => ?_⟩
        by_cases hk : k = i
        · subst hk; exact h
        · exact h5 k (by omega) h7
theorem rk_cases {f : FS} {a : Int32} (hm : mInv f) : (gX6_ranked f a = -5 ∧ ∀ j, j < nF f → ¬ atR f a j) ∨ ∃ j, j < nF f ∧ gX6_ranked f a = nI j ∧ atR f a j ∧ ∀ k, k < j → ¬ atR f a k := by
  rcases rk_L (f := f) (a := a) (nF f) 0 with ⟨h1, h2⟩ | ⟨j, -, h2, h3, h4, h5⟩
  · exact Or.inl ⟨h1, fun j hj => h2 j (Nat.zero_le _) (by omega)⟩
  · exact Or.inr ⟨j, by omega, h3, h4, fun k hk => h5 k (Nat.zero_le _) hk⟩
theorem nI_ne5 {j : Nat} (h : j < 2 ^ 31) : ¬ nI j = -5 := by
  rw [i_eq, nI_toInt h, show (-5 : Int32).toInt = -5 from rfl]
  omega
theorem rk_some {f : FS} {x : Int32} (hm : mInv f) (hx : x = gX6_ranked f 0) (h : ¬ x = (-5)) : x = nI x.toNatClampNeg ∧ x.toNatClampNeg < 16 ∧ x.toNatClampNeg < (f 4).toNatClampNeg ∧ oF f x.toNatClampNeg 3 = 0 := by
  subst hx
  rcases rk_cases (a := 0) hm with ⟨h1, -⟩ | ⟨j, h1, h2, h3, -⟩
  · exact absurd h1 h
  · have hn := n_le hm
    rw [h2, nI_clamp (by omega)]
    exact ⟨rfl, by omega, h1, h3.1⟩
theorem wcnt_pos {f : FS} {n j : Nat} (hj : j < n) (h0 : oF f j 3 = 0) : 0 < wcnt f n := by
  induction n with
  | zero => omega
  | succ n ih =>
    show 0 < wcnt f n + _
    by_cases hn : j = n
    · subst hn
      rw [h0, if_pos rfl]
      omega
    · have := ih (by omega)
      omega
theorem rk_none {f : FS} {x : Int32} (hm : mInv f) (hx : x = gX6_ranked f 0) (h : wcnt f (f 4).toNatClampNeg ≤ 0) : x = (-5) := by
  subst hx
  rcases rk_cases (a := 0) hm with ⟨h1, -⟩ | ⟨j, h1, h2, h3, -⟩
  · exact h1
  · have := wcnt_pos h1 h3.1
    exact absurd h (Nat.not_le_of_lt this)
theorem wcnt_len {f : FS} : ∀ n, wcnt f n ≤ n := by
  intro n
  induction n with
  | zero => exact Nat.le_refl _
  | succ n ih =>
    show wcnt f n + _ ≤ n + 1
    split <;> omega
theorem wcnt_le {f : FS} (hm : mInv f) : wcnt f (f 4).toNatClampNeg ≤ 16 := Nat.le_trans (wcnt_len _) (n_le hm)
/-- a start that is one: what it does -/
theorem st_cases {f : FS} {j : Nat} (hm : mInv f) (hj : j < nF f) : (gX6_starts f j = (0, f)) ∨ ∃ g p, gX6_starts f j = (1, goF g j p) ∧ mInv g ∧ abK f g ∧ (gX6_needs g j).toInt ≤ p.toInt ∧ p.toInt ≤ 500 := by
  have hn16 := n_le hm
  have hn := needs_any hm (j := j) (by omega)
  have hw := wants_any hm (j := j) (by omega)
  rw [starts_eq]
  split
  · rename_i h1
    split
    · split
      · exact Or.inl rfl
      · split
        · exact Or.inl rfl
        · rename_i h2
          have he := st_enough hm (j := j) (by omega) h1 h2
          have hi := ab_inv hm he
          have en : gX6_needs (gX6_asksBack f (gX6_needs f j - gX6_free f)) j = gX6_needs f j := needs_ext (fun m hm => hi.2.2 j m (by omega) (by omega) (by omega) (by omega))
          refine Or.inr ⟨_, _, rfl, hi.1, hi.2, ?_, by omega⟩
          rw [en]
          omega
    · exact Or.inl rfl
  · rename_i h1
    rw [x_ilt] at h1
    have hf := free_Z hm
    split
    · exact Or.inr ⟨_, _, rfl, hm, abK.rfl', by omega, by omega⟩
    · exact Or.inr ⟨_, _, rfl, hm, abK.rfl', by omega, by omega⟩
theorem gt_step {f : FS} {x : Int32} (hm : mInv f) (hx : x = nI x.toNatClampNeg ∧ x.toNatClampNeg < 16 ∧ x.toNatClampNeg < (f 4).toNatClampNeg ∧ oF f x.toNatClampNeg 3 = 0) (h : ¬ (gX6_starts f x.toNatClampNeg).1 = 0) :
    mInv (gX6_starts f x.toNatClampNeg).2 ∧ wcnt (gX6_starts f x.toNatClampNeg).2 ((gX6_starts f x.toNatClampNeg).2 4).toNatClampNeg < wcnt f (f 4).toNatClampNeg := by
  obtain ⟨-, h16, hn, hw⟩ := hx
  generalize x.toNatClampNeg = j at *
  rcases st_cases hm hn with e | ⟨g, p, e, hg, hk, hp⟩
  · rw [e] at h
    exact absurd rfl h
  · rw [e]
    have e4 : g 4 = f 4 := hk.1 4 (by decide)
    have hj : j < nF g := by unfold nF; rw [e4]; exact hn
    refine ⟨go_mInv hg hj hp, ?_⟩
    show wcnt (goF g j p) (goF g j p 4).toNatClampNeg < _
    rw [goF_f (by decide) (by decide), e4]
    have := wcnt_dn (f := f) (g := goF g j p) hn hw (by rw [goF_oF (by decide), if_pos rfl, if_pos rfl]) (fun i hi hne => by rw [goF_oF (by decide), if_neg hne]; exact hk.2 i 3 (by decide) (by decide) (by decide) (by decide))
    omega
