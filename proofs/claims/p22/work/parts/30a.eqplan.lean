/-! ===== the class and the reference agree: plans ===== -/
theorem eq_need {p : Nat → Int32} (h : wOK (p 0) (p 1) (p 2)) : gX3_computedNeed p = gX6_needsOf (p 0) (p 1) (p 2) := by
  have hb := both_i h
  obtain ⟨ha, h2, h3⟩ := h
  have r1 := (root_bd (x := p 2) (by omega)).1
  have r2 := (root_bd (x := p 1 + p 2) (by omega)).1
  unfold gX3_computedNeed gX6_needsOf
  rcases ha with e | e | e <;> rw [e]
  · rfl
  · rw [if_pos rfl, if_neg (by decide), if_pos rfl, r1]
  · rw [if_neg (by decide), if_pos rfl, if_neg (by decide), if_neg (by decide), r2]
theorem mx_le {x y : Int32} : (if x < y then y else x) = (if x ≤ y then y else x) := by
  by_cases h : x < y
  · rw [if_pos h, if_pos (Int32.le_of_lt h)]
  · rw [if_neg h]
    by_cases h2 : x ≤ y
    · rw [if_pos h2]
      rw [x_ilt] at h
      rw [x_ile] at h2
      rw [i_eq]
      omega
    · rw [if_neg h2]
theorem eq_want {p : Nat → Int32} (h : wOK (p 0) (p 1) (p 2)) : (if gX6_needsOf (p 0) (p 1) (p 2) < gX3_computedWant p then gX3_computedWant p else gX6_needsOf (p 0) (p 1) (p 2)) = gX6_wantsOf (p 0) (p 1) (p 2) := by
  rw [mx_le]
  have n01 : ¬ (0 : Int32) = 1 := by decide
  have n02 : ¬ (0 : Int32) = 2 := by decide
  have n10 : ¬ (1 : Int32) = 0 := by decide
  have n21 : ¬ (2 : Int32) = 1 := by decide
  have n20 : ¬ (2 : Int32) = 0 := by decide
  have y0 : (0 : Int32) = 0 := rfl
  have y1 : (1 : Int32) = 1 := rfl
  have y2 : (2 : Int32) = 2 := rfl
  unfold gX3_computedWant gX6_wantsOf
  rcases h.1 with e | e | e <;> rw [e]
  · rw [if_neg n01, if_neg n02, if_pos y0]
  · rw [if_pos y1, if_neg n10, if_pos y1]
  · rw [if_neg n21, if_pos y2, if_neg n20, if_neg n21]
theorem eq_cw {p : Nat → Int32} {a : Int32} (h : wOK a (p 1) (p 2)) : gX3_changeWay p a 0 = a ∧ gX3_changeWay p a 1 = p 1 ∧ gX3_changeWay p a 2 = p 2 ∧ gX3_changeWay p a 3 = gX6_needsOf a (p 1) (p 2) ∧ gX3_changeWay p a 4 = gX6_wantsOf a (p 1) (p 2) := by
  have e0 : (upd p 0 a) 0 = a := rfl
  have e1 : (upd p 0 a) 1 = p 1 := rfl
  have e2 : (upd p 0 a) 2 = p 2 := rfl
  have hn : gX3_computedNeed (upd p 0 a) = gX6_needsOf a (p 1) (p 2) := eq_need (p := upd p 0 a) h
  have hw := eq_want (p := upd (upd p 0 a) 3 (gX3_computedNeed (upd p 0 a))) h
  refine ⟨rfl, rfl, rfl, ?_, ?_⟩
  · show gX3_computedNeed (upd p 0 a) = _
    exact hn
  · show (if gX3_computedNeed (upd p 0 a) < gX3_computedWant (upd (upd p 0 a) 3 (gX3_computedNeed (upd p 0 a))) then gX3_computedWant (upd (upd p 0 a) 3 (gX3_computedNeed (upd p 0 a))) else gX3_computedNeed (upd p 0 a)) = _
    refine Eq.trans ?_ hw
    show (if gX3_computedNeed (upd p 0 a) < gX3_computedWant (upd (upd p 0 a) 3 (gX3_computedNeed (upd p 0 a))) then gX3_computedWant (upd (upd p 0 a) 3 (gX3_computedNeed (upd p 0 a))) else gX3_computedNeed (upd p 0 a)) = (if gX6_needsOf a (p 1) (p 2) < gX3_computedWant (upd (upd p 0 a) 3 (gX3_computedNeed (upd p 0 a))) then gX3_computedWant (upd (upd p 0 a) 3 (gX3_computedNeed (upd p 0 a))) else gX6_needsOf a (p 1) (p 2))
    rw [hn]
theorem eq_make {p : Nat → Int32} {a b c : Int32} (h : wOK a b c) : gX3_make p a b c 0 = a ∧ gX3_make p a b c 1 = b ∧ gX3_make p a b c 2 = c ∧ gX3_make p a b c 3 = gX6_needsOf a b c ∧ gX3_make p a b c 4 = gX6_wantsOf a b c :=
  eq_cw (p := upd (upd p 1 b) 2 c) (a := a) h
/-! work -/
theorem mg_eq {p : Nat → Int32} {b c d : Int32} {a : Int32} (hp1 : p 1 = b) (hp2 : p 2 = c) (hd : 3 ≤ d.toInt ∧ d.toInt ≤ 1000) : ∀ (f1 f2 t : Nat) (x : Int32), 0 ≤ x.toInt → x.toInt ≤ 400 → x.toInt ≤ f1 + 1 → x.toInt ≤ f2 + 1 → gX3_workWith_L82 p d f1 t x = gX6_workOf_L57 a b c d f2 x (nI t) := by
  have d1 : (d - 1).toInt = d.toInt - 1 := by rw [isb (by rw [i_1]; omega) (by rw [i_1]; omega), i_1]
  intro f1
  induction f1 with
  | zero =>
    intro f2 t x h0 h4 h1 h2
    have hx : x ≤ 1 := by rw [x_ile, i_1]; omega
    rw [gX3_workWith_L82, if_pos hx, hp1, hp2]
    cases f2 with
    | zero => rfl
    | succ f2 => rw [gX6_workOf_L57, if_pos hx]
  | succ f1 ih =>
    intro f2 t x h0 h4 h1 h2
    rw [gX3_workWith_L82]
    by_cases hx : x ≤ 1
    · rw [if_pos hx, hp1, hp2]
      cases f2 with
      | zero => rfl
      | succ f2 => rw [gX6_workOf_L57, if_pos hx]
    · rw [if_neg hx]
      have hx2 : 2 ≤ x.toInt := by rw [x_ile, i_1] at hx; omega
      cases f2 with
      | zero => omega
      | succ f2 =>
        rw [gX6_workOf_L57, if_neg hx, nI_1]
        have e : x + d - 2 = x + (d - 1) - 1 := by
          have a1 : (x + d).toInt = x.toInt + d.toInt := ia (by omega) (by omega)
          have a2 : (x + (d - 1)).toInt = x.toInt + d.toInt - 1 := by rw [ia (by omega) (by omega), d1]; omega
          rw [i_eq, isb (by rw [i_2]; omega) (by rw [i_2]; omega), isb (by rw [i_1]; omega) (by rw [i_1]; omega), i_1, i_2, a1, a2]
          omega
        have hs := x_overdec (x := x) (y := d - 1) hx (by omega) (by omega)
        have ho : gX6_over x (d - 1) = (x + d - 2) / (d - 1) := by unfold gX6_over; rw [e]
        rw [ho]
        rw [← e] at hs
        exact ih f2 (t + 1) _ hs.2 (by omega) (by omega) (by omega)
theorem eq_work {p : Nat → Int32} {d : Int32} (h : wOK (p 0) (p 1) (p 2)) (hw : p 4 = gX6_wantsOf (p 0) (p 1) (p 2)) (hd : 3 ≤ d.toInt ∧ d.toInt ≤ 1000) : gX3_workWith p d = gX6_workOf (p 0) (p 1) (p 2) d := by
  have hb := both_i h
  obtain ⟨ha, h2, h3⟩ := h
  have hd3 : (3 : Int32) ≤ d := by rw [x_ile, i_3]; omega
  unfold gX3_workWith
  rw [if_pos hd3]
  have e1 : p 1 + d - 3 = p 1 + (d - 2) - 1 := by
    have d2 : (d - 2).toInt = d.toInt - 2 := by rw [isb (by rw [i_2]; omega) (by rw [i_2]; omega), i_2]
    have a1 : (p 1 + d).toInt = (p 1).toInt + d.toInt := ia (by omega) (by omega)
    have a2 : (p 1 + (d - 2)).toInt = (p 1).toInt + d.toInt - 2 := by rw [ia (by omega) (by omega), d2]; omega
    rw [i_eq, isb (by rw [i_3]; omega) (by rw [i_3]; omega), isb (by rw [i_1]; omega) (by rw [i_1]; omega), i_1, i_3, a1, a2]
    omega
  rcases ha with e | e | e
  · rw [if_pos e]
    unfold gX6_workOf
    rw [if_pos e]
    unfold gX6_over
    rw [e1]
  · have n0 : ¬ p 0 = 0 := by rw [e]; decide
    rw [if_neg n0, if_pos e]
    unfold gX6_workOf
    rw [if_neg n0, if_pos e, hw]
  · have n0 : ¬ p 0 = 0 := by rw [e]; decide
    have n1 : ¬ p 0 = 1 := by rw [e]; decide
    rw [if_neg n0, if_neg n1]
    unfold gX6_workOf
    rw [if_neg n0, if_neg n1]
    have ho := over_bd (x := p 1 + p 2) (y := d) (by omega) (by omega)
    have hc : ((p 1 + p 2).toNatClampNeg : Int) = (p 1 + p 2).toInt := by
      have : (p 1 + p 2).toNatClampNeg = (p 1 + p 2).toInt.toNat := rfl
      omega
    exact mg_eq rfl rfl hd _ _ 0 _ (by show 0 ≤ (gX6_over (p 1 + p 2) d).toInt; omega) (by show (gX6_over (p 1 + p 2) d).toInt ≤ 400; omega) (by show (gX6_over (p 1 + p 2) d).toInt ≤ _; omega) (by show (gX6_over (p 1 + p 2) d).toInt ≤ _; omega)
