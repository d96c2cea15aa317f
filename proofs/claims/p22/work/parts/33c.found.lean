/-! ===== work with more pages; the best way ===== -/
/-- rounded up -/
def ce (x d : Nat) : Nat := (x + d - 1) / d
theorem ce_mul {x d : Nat} (hd : 1 ≤ d) : x ≤ d * ce x d := by
  have h := Nat.div_add_mod (x + d - 1) d
  have h2 := Nat.mod_lt (x + d - 1) hd
  unfold ce
  generalize (x + d - 1) / d = c at *
  generalize d * c = k at *
  omega
theorem ce_le {x d c : Nat} (hd : 1 ≤ d) (h : x ≤ d * c) : ce x d ≤ c := by
  unfold ce
  rw [Nat.div_le_iff_le_mul_add_pred hd]
  omega
theorem ce_pos {x d : Nat} (hx : 1 ≤ x) (hd : 1 ≤ d) : 1 ≤ ce x d := by
  unfold ce
  rw [Nat.le_div_iff_mul_le (by omega)]
  omega
theorem ce_anti {x d : Nat} (hd : 1 ≤ d) : ce x (d + 1) ≤ ce x d := by
  refine ce_le (by omega) ?_
  have := ce_mul (x := x) hd
  rw [Nat.add_mul]
  omega
theorem ce_one {x d : Nat} (hx : 1 ≤ x) (h : x ≤ d) : ce x d = 1 := Nat.le_antisymm (ce_le (by omega) (by omega)) (ce_pos hx (by omega))
theorem over_N {x y : Int32} {a d : Nat} (hx : x.toInt = a) (hy : y.toInt = d) (ha : a ≤ 1000) (hd : 1 ≤ d ∧ d ≤ 1000) : (gX6_over x y).toInt = ce a d := by
  unfold gX6_over
  rw [x_over (x := x) (y := y) (by omega) (by omega), hx, hy]
  rfl
set_option maxRecDepth 100000 in
set_option maxHeartbeats 4000000 in
theorem root_sq : ∀ x, x < 401 → x < ((gX6_root (nI x)).toInt.toNat + 1) * ((gX6_root (nI x)).toInt.toNat + 1) := by decide +kernel
/-- a way, two tables, some pages -/
def fOK (w a b g : Nat) : Prop := w < 3 ∧ (1 ≤ a ∧ a ≤ 200) ∧ (1 ≤ b ∧ b ≤ 200) ∧ (3 ≤ g ∧ g ≤ 500)
theorem fOK_w {w a b g : Nat} (h : fOK w a b g) : wOK (nI w) (nI a) (nI b) := by
  obtain ⟨h1, h2, h3, h4⟩ := h
  exact ⟨i3_of (by rw [nI_toInt (by omega)]; omega), by rw [nI_toInt (by omega)]; omega, by rw [nI_toInt (by omega)]; omega⟩
theorem wk_0 {a b g : Nat} (h : fOK 0 a b g) : (gX6_workOf 0 (nI a) (nI b) (nI g)).toInt = ((a + b * ce a (g - 2) : Nat) : Int) := by
  obtain ⟨h1, h2, h3, h4⟩ := h
  have ea : (nI a).toInt = a := nI_toInt (by omega)
  have eb : (nI b).toInt = b := nI_toInt (by omega)
  have eg : (nI g - 2).toInt = ((g - 2 : Nat) : Int) := by rw [show nI g - 2 = nI (g - 2) from pk_sub (a := g) (b := 2) (by omega), nI_toInt (by omega)]
  have eo := over_N ea eg (by omega) (by omega)
  have hc : ce a (g - 2) ≤ a := ce_le (by omega) (by rw [Nat.mul_comm]; exact Nat.le_mul_of_pos_right a (by omega))
  have hm : b * ce a (g - 2) ≤ 200 * 200 := Nat.mul_le_mul (by omega) (by omega)
  have em : (nI b * gX6_over (nI a) (nI g - 2)).toInt = ((b * ce a (g - 2) : Nat) : Int) := by
    rw [im (by rw [eb, eo, ← Int.natCast_mul]; omega) (by rw [eb, eo, ← Int.natCast_mul]; omega), eb, eo, ← Int.natCast_mul]
  unfold gX6_workOf
  rw [if_pos rfl, ia (by omega) (by omega), em, ea]
  omega
theorem wk_1 {a b g : Nat} (h : fOK 1 a b g) : (gX6_workOf 1 (nI a) (nI b) (nI g)).toInt = (if (g : Int) < (gX6_wantsOf 1 (nI a) (nI b)).toInt then 3 * ((a : Int) + b) else (a : Int) + b) := by
  have hb := both_i (fOK_w h)
  obtain ⟨h1, h2, h3, h4⟩ := h
  have ea : (nI a).toInt = a := nI_toInt (by omega)
  have eb : (nI b).toInt = b := nI_toInt (by omega)
  have eg : (nI g).toInt = g := nI_toInt (by omega)
  unfold gX6_workOf
  rw [if_neg (show ¬ (1 : Int32) = 0 by decide), if_pos rfl]
  by_cases c : nI g < gX6_wantsOf 1 (nI a) (nI b)
  · rw [if_pos c]
    rw [x_ilt, eg] at c
    rw [if_pos c, im (by rw [i_3]; omega) (by rw [i_3]; omega), i_3, hb, ea, eb]
  · rw [if_neg c]
    rw [x_ilt, eg] at c
    rw [if_neg c, hb, ea, eb]
theorem wk_2 {a b g : Nat} (h : fOK 2 a b g) (hn : gX6_needsOf 2 (nI a) (nI b) ≤ nI g) : (gX6_workOf 2 (nI a) (nI b) (nI g)).toInt = (if a + b ≤ g then (a : Int) + b else 3 * ((a : Int) + b)) := by
  obtain ⟨h1, h2, h3, h4⟩ := h
  have eg : (nI g).toInt = g := nI_toInt (by omega)
  have es : nI a + nI b = nI (a + b) := nI_add a b
  have e1 : (nI g - 1).toInt = ((g - 1 : Nat) : Int) := by rw [show nI g - 1 = nI (g - 1) from pk_sub (a := g) (b := 1) (by omega), nI_toInt (by omega)]
  have eab : (nI (a + b)).toInt = ((a + b : Nat) : Int) := nI_toInt (by omega)
  have hr := root_sq (a + b) (by omega)
  have hbd := root_bd (x := nI (a + b)) (by rw [eab]; omega)
  unfold gX6_needsOf at hn
  rw [if_neg (show ¬ (2 : Int32) = 0 by decide), if_neg (show ¬ (2 : Int32) = 1 by decide), es, x_ile, eg, ia (by rw [i_2]; omega) (by rw [i_2]; omega), i_2] at hn
  generalize (gX6_root (nI (a + b))).toInt = rt at hr hbd hn
  obtain ⟨q, rfl⟩ : ∃ q : Nat, rt = q := ⟨rt.toNat, by omega⟩
  have hr : a + b < (q + 1) * (q + 1) := hr
  have hsq : (q + 1) * (q + 1) ≤ (g - 1) * (g - 1) := Nat.mul_le_mul (by omega) (by omega)
  have eo := over_N (x := nI (a + b)) (y := nI g) eab eg (by omega) (by omega)
  unfold gX6_workOf
  rw [if_neg (show ¬ (2 : Int32) = 0 by decide), if_neg (show ¬ (2 : Int32) = 1 by decide), es]
  by_cases c : a + b ≤ g
  · rw [if_pos c]
    rw [ce_one (by omega) c] at eo
    rw [gX6_workOf_L57, if_pos (show gX6_over (nI (a + b)) (nI g) ≤ 1 by rw [x_ile, eo, i_1]; omega), es, show (2 * 0 + 1 : Int32) = 1 from rfl, Int32.mul_one, eab]
    omega
  · rw [if_neg c]
    have hc2 : ce (a + b) g ≤ g - 1 := ce_le (by omega) (by
      have : (g - 1) * (g - 1) ≤ g * (g - 1) := Nat.mul_le_mul_right _ (by omega)
      omega)
    have hc1 : 2 ≤ ce (a + b) g := by
      have := ce_mul (x := a + b) (d := g) (by omega)
      rcases Nat.lt_or_ge (ce (a + b) g) 2 with hl | hl
      · have : g * ce (a + b) g ≤ g * 1 := Nat.mul_le_mul_left _ (by omega)
        omega
      · exact hl
    have eo2 := over_N (x := gX6_over (nI (a + b)) (nI g)) (y := nI g - 1) eo e1 (by omega) (by omega)
    rw [ce_one (by omega) hc2] at eo2
    rw [gX6_workOf_L57, if_neg (show ¬ gX6_over (nI (a + b)) (nI g) ≤ 1 by rw [x_ile, eo, i_1]; omega), gX6_workOf_L57, if_pos (show gX6_over (gX6_over (nI (a + b)) (nI g)) (nI g - 1) ≤ 1 by rw [x_ile, eo2, i_1]; omega), es, show (2 * (0 + 1) + 1 : Int32) = nI 3 from rfl, pk_mul, nI_toInt (by omega)]
    omega
/-- the work of a way that has what it needs -/
theorem wk_bd {w a b g : Nat} (h : fOK w a b g) (hn : gX6_needsOf (nI w) (nI a) (nI b) ≤ nI g) : ((a : Int) + b ≤ (gX6_workOf (nI w) (nI a) (nI b) (nI g)).toInt) ∧ (450 ≤ g → (gX6_workOf (nI w) (nI a) (nI b) (nI g)).toInt = (a : Int) + b) := by
  obtain ⟨h1, h2, h3, h4⟩ := id h
  rcases (show w = 0 ∨ w = 1 ∨ w = 2 by omega) with rfl | rfl | rfl
  · have e : (gX6_workOf (nI 0) (nI a) (nI b) (nI g)).toInt = _ := wk_0 h
    rw [e]
    have hc := ce_pos (x := a) (d := g - 2) (by omega) (by omega)
    have hm : b * 1 ≤ b * ce a (g - 2) := Nat.mul_le_mul_left _ hc
    refine ⟨by omega, fun hg => ?_⟩
    rw [ce_one (by omega) (by omega)]
    omega
  · have e : (gX6_workOf (nI 1) (nI a) (nI b) (nI g)).toInt = _ := wk_1 h
    have hw := (wants_bd (fOK_w h)).2
    have hw : (gX6_wantsOf 1 (nI a) (nI b)).toInt ≤ 300 := hw
    rw [e]
    refine ⟨by split <;> omega, fun hg => ?_⟩
    rw [if_neg (by omega)]
  · have e : (gX6_workOf (nI 2) (nI a) (nI b) (nI g)).toInt = _ := wk_2 h hn
    rw [e]
    refine ⟨by split <;> omega, fun hg => ?_⟩
    rw [if_pos (by omega)]
theorem wk_more {w a b g : Nat} (h : fOK w a b g) (hg : g < 500) (hn : gX6_needsOf (nI w) (nI a) (nI b) ≤ nI g) : (gX6_workOf (nI w) (nI a) (nI b) (nI (g + 1))).toInt ≤ (gX6_workOf (nI w) (nI a) (nI b) (nI g)).toInt := by
  obtain ⟨h1, h2, h3, h4⟩ := id h
  have h' : fOK w a b (g + 1) := ⟨h1, h2, h3, by omega⟩
  have hn' : gX6_needsOf (nI w) (nI a) (nI b) ≤ nI (g + 1) := by
    rw [x_ile, nI_toInt (by omega)] at hn ⊢
    omega
  rcases (show w = 0 ∨ w = 1 ∨ w = 2 by omega) with rfl | rfl | rfl
  · have e : (gX6_workOf (nI 0) (nI a) (nI b) (nI g)).toInt = _ := wk_0 h
    have e' : (gX6_workOf (nI 0) (nI a) (nI b) (nI (g + 1))).toInt = _ := wk_0 h'
    rw [e, e']
    have hc := ce_anti (x := a) (d := g - 2) (by omega)
    rw [show g - 2 + 1 = g + 1 - 2 by omega] at hc
    have hm : b * ce a (g + 1 - 2) ≤ b * ce a (g - 2) := Nat.mul_le_mul_left _ hc
    omega
  · have e : (gX6_workOf (nI 1) (nI a) (nI b) (nI g)).toInt = _ := wk_1 h
    have e' : (gX6_workOf (nI 1) (nI a) (nI b) (nI (g + 1))).toInt = _ := wk_1 h'
    rw [e, e']
    (repeat' split) <;> omega
  · have e : (gX6_workOf (nI 2) (nI a) (nI b) (nI g)).toInt = _ := wk_2 h hn
    have e' : (gX6_workOf (nI 2) (nI a) (nI b) (nI (g + 1))).toInt = _ := wk_2 h' hn'
    rw [e, e']
    (repeat' split) <;> omega
/-! as the calls tell it -/
theorem gd_args {f : FS} {w a b g : Nat} (h : fOK w a b g) : gX6_work f (nI w) (nI a) (nI b) (nI g) = if gX6_needsOf (nI w) (nI a) (nI b) ≤ nI g then gX6_workOf (nI w) (nI a) (nI b) (nI g) else -5 := by
  obtain ⟨h1, h2, h3, h4⟩ := h
  have i0 := in_ne (x := nI w) (a := 0) (b := 2)
  have i3 := in_ne (x := nI g) (a := 3) (b := 500)
  rw [show (0 : Int64).toInt = 0 from rfl, show (2 : Int64).toInt = 2 from rfl, nI_toInt (by omega)] at i0
  rw [show (3 : Int64).toInt = 3 from rfl, show (500 : Int64).toInt = 500 from rfl, nI_toInt (by omega)] at i3
  unfold gX6_work
  rw [if_neg (i0.mpr (by omega)), if_neg (tab_ne.mpr (by rw [nI_toInt (by omega)]; omega)), if_neg (tab_ne.mpr (by rw [nI_toInt (by omega)]; omega)), if_neg (i3.mpr (by omega))]
theorem nd_0 {a b g : Nat} (h : 3 ≤ g) (hg : g < 2 ^ 31) : gX6_needsOf (nI 0) (nI a) (nI b) ≤ nI g := by
  show (3 : Int32) ≤ nI g
  rw [x_ile, nI_toInt hg, i_3]
  omega
/-- the best of those below i -/
def bB (a b g i t : Nat) : Prop := t < 3 ∧ gX6_needsOf (nI t) (nI a) (nI b) ≤ nI g ∧ ∀ w, w < i → gX6_needsOf (nI w) (nI a) (nI b) ≤ nI g → (gX6_workOf (nI t) (nI a) (nI b) (nI g)).toInt ≤ (gX6_workOf (nI w) (nI a) (nI b) (nI g)).toInt ∧ (t ≤ w ∨ (gX6_workOf (nI t) (nI a) (nI b) (nI g)).toInt < (gX6_workOf (nI w) (nI a) (nI b) (nI g)).toInt)
theorem bw_B {f : FS} {a b g : Nat} : ∀ (fu i t : Nat), i + fu = 3 → t < i → bB a b g i t → ∃ t', gX6_bestWay_L37 f (nI a) (nI b) (nI g) fu i (nI t) = nI t' ∧ bB a b g 3 t' := by
  intro fu
  induction fu with
  | zero =>
    intro i t hi ht h
    obtain rfl : i = 3 := by omega
    exact ⟨t, rfl, h⟩
  | succ fu ih =>
    intro i t hi ht h
    obtain ⟨b1, b2, b3⟩ := h
    rw [gX6_bestWay_L37]
    by_cases c1 : nI g < gX6_needsOf (nI i) (nI a) (nI b)
    · rw [if_pos c1]
      refine ih (i + 1) t (by omega) (by omega) ⟨b1, b2, fun w hw hn => ?_⟩
      by_cases e : w = i
      · subst e
        rw [x_ile] at hn
        rw [x_ilt] at c1
        omega
      · exact b3 w (by omega) hn
    · rw [if_neg c1]
      by_cases c2 : gX6_workOf (nI t) (nI a) (nI b) (nI g) ≤ gX6_workOf (nI i) (nI a) (nI b) (nI g)
      · rw [if_pos c2]
        rw [x_ile] at c2
        refine ih (i + 1) t (by omega) (by omega) ⟨b1, b2, fun w hw hn => ?_⟩
        by_cases e : w = i
        · subst e
          exact ⟨c2, Or.inl (by omega)⟩
        · exact b3 w (by omega) hn
      · rw [if_neg c2]
        rw [x_ile] at c2
        have hin : gX6_needsOf (nI i) (nI a) (nI b) ≤ nI g := by
          rw [x_ilt] at c1
          rw [x_ile]
          omega
        refine ih (i + 1) i (by omega) (by omega) ⟨by omega, hin, fun w hw hn => ?_⟩
        by_cases e : w = i
        · subst e
          exact ⟨Int.le_refl _, Or.inl (Nat.le_refl _)⟩
        · have := b3 w (by omega) hn
          exact ⟨by omega, Or.inr (by omega)⟩
theorem bw_all {f : FS} {a b g : Nat} (h : fOK 0 a b g) : ∃ t, gX6_bestWay f (nI a) (nI b) (nI g) = nI t ∧ bB a b g 3 t := by
  obtain ⟨h1, h2, h3, h4⟩ := id h
  have i3 := in_ne (x := nI g) (a := 3) (b := 500)
  rw [show (3 : Int64).toInt = 3 from rfl, show (500 : Int64).toInt = 500 from rfl, nI_toInt (by omega)] at i3
  unfold gX6_bestWay
  rw [if_neg (tab_ne.mpr (by rw [nI_toInt (by omega)]; omega)), if_neg (tab_ne.mpr (by rw [nI_toInt (by omega)]; omega)), if_neg (i3.mpr (by omega))]
  exact bw_B (f := f) 2 1 0 rfl (by decide) ⟨by decide, nd_0 h4.1 (by omega), fun w hw hn => by
    obtain rfl : w = 0 := by omega
    exact ⟨Int.le_refl _, Or.inl (Nat.le_refl _)⟩⟩
