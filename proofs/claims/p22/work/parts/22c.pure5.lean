/-! ===== what the walks of the class need ===== -/
theorem ab_F0 {P : PS} {a : Int32} : ∀ (fu i : Nat) (x : Int32) (P1 : PS), (gX4_askBack_L4 P a fu i x P1).2.1 0 = P1.2.1 0 := by
  intro fu
  induction fu with
  | zero => intro i x P1; rfl
  | succ fu ih =>
    intro i x P1
    rw [gX4_askBack_L4]
    split
    · rfl
    · split
      · rfl
      · rw [ih]
        rfl
theorem start_F0 {P : PS} {j : Nat} : (gX4_start P j).2.2.1 0 = P.2.1 0 := by
  have h : ∀ x, (gX4_askBack P x).2.1 0 = P.2.1 0 := fun x => ab_F0 _ _ _ _
  unfold gX4_start
  split
  · split
    · rfl
    · exact h _
  · rfl
theorem gtq_L0 {P : PS} : ∀ (fu i : Nat) (P1 : PS), (gX4_goThroughQueue_L2 P fu i P1).2.1 0 = P1.2.1 0 := by
  intro fu
  induction fu with
  | zero => intro i P1; rfl
  | succ fu ih =>
    intro i P1
    rw [gX4_goThroughQueue_L2]
    split
    · rfl
    · split
      · exact start_F0
      · rw [ih]
        exact start_F0
theorem gtq_F0 {P : PS} : (gX4_goThroughQueue P).2.1 0 = P.2.1 0 := gtq_L0 _ _ _
theorem nn_X4_take {P : PS} {a b c : Int32} (hn : ¬ P.2.1 0 < 0) : ¬ (gX4_take P a b c).2.2.1 0 < 0 := by
  unfold gX4_take
  split
  · rename_i h
    show ¬ (gX4_goThroughQueue (P.1, upd P.2.1 0 (P.2.1 0 + 1), va_up P.2.2 (P.2.1 0).toNatClampNeg (gX1_come (nI (P.2.1 0).toNatClampNeg) (P.2.2 (P.2.1 0).toNatClampNeg) a b c))).2.1 0 < 0
    rw [gtq_F0]
    show ¬ (P.2.1 0 + 1) < 0
    obtain ⟨j, hj, e⟩ := nI_of hn
    rw [e] at h ⊢
    rw [nI_ltI hj (by decide)] at h
    rw [nI_1]
    exact nI_pos (by omega)
  · exact hn
theorem leap_L79 {P : PS} {a : Int32} : ∀ (fu i : Nat) (x y : Int32) (P1 : PS), (gX4_leap_L79 P a fu i x y P1).1 = x := by
  intro fu
  induction fu with
  | zero => intro i x y P1; rw [gX4_leap_L79]; split <;> rfl
  | succ fu ih =>
    intro i x y P1
    rw [gX4_leap_L79]
    split <;> exact ih _ _ _ _
theorem leap_L22 {P : PS} {a : Int32} : ∀ (fu i : Nat) (x : Int32), (gX4_leap_L22 P a fu i x).1.toInt ≤ x.toInt := by
  intro fu
  induction fu with
  | zero => intro i x; rw [gX4_leap_L22, leap_L79]; exact Int.le_refl _
  | succ fu ih =>
    intro i x
    rw [gX4_leap_L22]
    split
    · exact ih _ _
    · refine Int.le_trans (ih _ _) ?_
      split
      · rename_i h
        rw [x_ilt] at h
        omega
      · exact Int.le_refl _
theorem leap_le {P : PS} {a : Int32} : (gX4_leap P a).1.toInt ≤ a.toInt := leap_L22 _ _ _
theorem lp_z {x a : Int32} (h : 0 ≤ x.toInt ∧ x.toInt ≤ a.toInt ∧ a.toInt ≤ 20000 ∧ a.toInt ≤ x.toInt + ((0 : Nat) : Int)) : a ≤ x := by
  rw [x_ile]
  omega
theorem lp_s {P : PS} {x a : Int32} {fu : Nat} (h : 0 ≤ x.toInt ∧ x.toInt ≤ a.toInt ∧ a.toInt ≤ 20000 ∧ a.toInt ≤ x.toInt + ((fu + 1 : Nat) : Int)) (c : ¬ a ≤ x) :
    0 ≤ (x + (if 1 < (gX4_leap P (a - x)).1 then (gX4_leap P (a - x)).1 else 1)).toInt ∧ (x + (if 1 < (gX4_leap P (a - x)).1 then (gX4_leap P (a - x)).1 else 1)).toInt ≤ a.toInt ∧ a.toInt ≤ 20000 ∧ a.toInt ≤ (x + (if 1 < (gX4_leap P (a - x)).1 then (gX4_leap P (a - x)).1 else 1)).toInt + (fu : Int) := by
  rw [x_ile] at c
  have hl := leap_le (P := P) (a := a - x)
  have e : (a - x).toInt = a.toInt - x.toInt := isb (by omega) (by omega)
  have hy : 1 ≤ (if 1 < (gX4_leap P (a - x)).1 then (gX4_leap P (a - x)).1 else 1).toInt ∧ (if 1 < (gX4_leap P (a - x)).1 then (gX4_leap P (a - x)).1 else 1).toInt ≤ a.toInt - x.toInt := by
    split
    · rename_i h1
      rw [x_ilt, i_1] at h1
      omega
    · rw [i_1]
      omega
  generalize (if 1 < (gX4_leap P (a - x)).1 then (gX4_leap P (a - x)).1 else 1) = y at hy ⊢
  have e2 : (x + y).toInt = x.toInt + y.toInt := ia (by omega) (by omega)
  omega
theorem lp_0 {a : Int32} (c2 : ¬ a < 1) (c9 : a ≤ 1000) : 0 ≤ (0 : Int32).toInt ∧ (0 : Int32).toInt ≤ a.toInt ∧ a.toInt ≤ 20000 ∧ a.toInt ≤ (0 : Int32).toInt + (a.toInt.toNat : Int) := by
  rw [x_ilt, i_1] at c2
  rw [x_ile, show (1000 : Int32).toInt = 1000 from rfl] at c9
  rw [i_0]
  omega
theorem lp_00 : 0 ≤ (0 : Int32).toInt ∧ (0 : Int32).toInt ≤ (20000 : Int32).toInt ∧ (20000 : Int32).toInt ≤ 20000 ∧ (20000 : Int32).toInt ≤ (0 : Int32).toInt + ((20000 : Nat) : Int) := by decide
