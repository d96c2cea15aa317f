/-! ===== a pool as one row of numbers, and what is done to it (from the rows of whole) ===== -/
abbrev FS : Type := Nat → Int32
/-- a number of a join -/
def oF (f : FS) (j k : Nat) : Int32 := f (9 + 9 * j + k)
/-- a table's pages, roughly -/
def xT200 (x : Int32) : Prop := 0 ≤ x.toInt ∧ x.toInt ≤ 200
def xP3 (x : Int32) : Prop := 3 ≤ x.toInt ∧ x.toInt ≤ 1000
def bI (f : FS) : Prop := (f 4).toNatClampNeg ≤ 16 ∧ ∀ j, j < 16 → xT200 (oF f j 1) ∧ xT200 (oF f j 2)
theorem x_ile {x y : Int32} : x ≤ y ↔ x.toInt ≤ y.toInt := Int32.le_iff_toInt_le
theorem x_ilt {x y : Int32} : x < y ↔ x.toInt < y.toInt := Int32.lt_iff_toInt_lt
theorem x_root20 {x : Int32} (h : x.toInt ≤ 400) : x < (nI 20 + 1) * (nI 20 + 1) := by
  rw [x_ilt]
  have : ((nI 20 + 1) * (nI 20 + 1)).toInt = 441 := by decide
  omega
theorem x_tadd {x y : Int32} (hx : xT200 x) (hy : xT200 y) : 0 ≤ (x + y).toInt ∧ (x + y).toInt ≤ 400 := by
  unfold xT200 at hx hy
  have : (x + y).toInt = x.toInt + y.toInt := by
    rw [Int32.toInt_add]
    exact Int.bmod_eq_of_le (by omega) (by omega)
  omega
theorem x_t400 {x : Int32} (hx : xT200 x) : 0 ≤ x.toInt ∧ x.toInt ≤ 400 := ⟨hx.1, by have := hx.2; omega⟩
theorem x_sub2 {x : Int32} (h : xP3 x) : (x - 2).toInt = x.toInt - 2 := by
  unfold xP3 at h
  rw [Int32.toInt_sub]
  exact Int.bmod_eq_of_le (by have : (2 : Int32).toInt = 2 := rfl; omega) (by have : (2 : Int32).toInt = 2 := rfl; omega)
theorem x_sub1 {x : Int32} (h : xP3 x) : (x - 1).toInt = x.toInt - 1 := by
  unfold xP3 at h
  rw [Int32.toInt_sub]
  exact Int.bmod_eq_of_le (by have : (1 : Int32).toInt = 1 := rfl; omega) (by have : (1 : Int32).toInt = 1 := rfl; omega)
theorem x_ne0 {x : Int32} (h : 0 < x.toInt) : ¬ x = 0 := by
  intro e
  subst e
  exact absurd h (by decide)
theorem x_nz0 {x : Int32} (h : xP3 x) : ¬ x = 0 := x_ne0 (by have := h.1; omega)
theorem x_nz1 {x : Int32} (h : xP3 x) : ¬ (x - 1) = 0 := x_ne0 (by have := h.1; rw [x_sub1 h]; omega)
theorem x_nz2 {x : Int32} (h : xP3 x) : ¬ (x - 2) = 0 := x_ne0 (by have := h.1; rw [x_sub2 h]; omega)
/-- rounding up makes less of two and more -/
theorem x_over {x y : Int32} (hx : 0 ≤ x.toInt ∧ x.toInt ≤ 1000) (hy : 1 ≤ y.toInt ∧ y.toInt ≤ 1000) : ((x + y - 1) / y).toInt = ((x.toInt.toNat + y.toInt.toNat - 1) / y.toInt.toNat : Nat) := by
  obtain ⟨a, ha, rfl⟩ := nI_of (x := x) (by rw [x_ilt]; have : (0 : Int32).toInt = 0 := rfl; omega)
  obtain ⟨b, hb, rfl⟩ := nI_of (x := y) (by rw [x_ilt]; have : (0 : Int32).toInt = 0 := rfl; omega)
  rw [nI_toInt ha] at hx ⊢
  rw [nI_toInt hb] at hy ⊢
  have e : nI a + nI b - 1 = nI (a + b - 1) := by rw [nI_add]; exact pk_sub (a := a + b) (b := 1) (by omega)
  rw [e, pk_div (by omega) (by omega) hb, nI_toInt]
  · simp
  · exact Nat.lt_of_le_of_lt (Nat.div_le_self _ _) (by omega)
theorem x_overdec {x y : Int32} (h2 : ¬ x ≤ 1) (hx : x.toInt ≤ 1000) (hy : 2 ≤ y.toInt ∧ y.toInt ≤ 1000) : ((x + y - 1) / y).toInt ≤ x.toInt - 1 ∧ 0 ≤ ((x + y - 1) / y).toInt := by
  have h3 : 2 ≤ x.toInt := by rw [x_ile] at h2; have : (1 : Int32).toInt = 1 := rfl; omega
  rw [x_over ⟨by omega, hx⟩ ⟨by omega, hy.2⟩]
  have ha : x.toInt.toNat = x.toInt.toNat := rfl
  generalize hA : x.toInt.toNat = a
  generalize hB : y.toInt.toNat = b
  have h4 : 2 ≤ a := by omega
  have h5 : 2 ≤ b := by omega
  have h6 : (a + b - 1) / b ≤ a - 1 := by
    rw [Nat.div_le_iff_le_mul_add_pred (by omega)]
    have h7 : b * 1 + (a - 1 - 1) * 2 ≤ b * (a - 1) := by
      have e1 : a - 1 = 1 + (a - 1 - 1) := by omega
      have e2 : b * (a - 1) = b * 1 + b * (a - 1 - 1) := by rw [← Nat.mul_add, ← e1]
      have e3 : (a - 1 - 1) * 2 ≤ b * (a - 1 - 1) := by rw [Nat.mul_comm]; exact Nat.mul_le_mul_right _ h5
      omega
    omega
  generalize (a + b - 1) / b = z at h6 ⊢
  omega
theorem x_over400 {x y : Int32} (hx : 0 ≤ x.toInt ∧ x.toInt ≤ 400) (hy : xP3 y) : ((x + y - 1) / y).toInt ≤ 400 := by
  have h3 := hy.1
  rw [x_over ⟨hx.1, by omega⟩ ⟨by omega, hy.2⟩]
  generalize hA : x.toInt.toNat = a
  generalize hB : y.toInt.toNat = b
  have h5 : 1 ≤ b := by omega
  have h6 : (a + b - 1) / b ≤ a := by
    rw [Nat.div_le_iff_le_mul_add_pred (by omega)]
    have : a * 1 ≤ a * b := Nat.mul_le_mul_left a h5
    rw [Nat.mul_comm b a]
    omega
  generalize (a + b - 1) / b = z at h6 ⊢
  omega
def gX6_in (a1 : Int64) (a2 : Int64) (a3 : Int64) : Int32 := (if (lg_cmp a1 a2) < 0 then 0 else (if 0 < (lg_cmp a1 a3) then 0 else 1))
theorem z_X6_in {a1 a2 a3 : Int64} : gX6_in a1 a2 a3 = 0 ∨ gX6_in a1 a2 a3 = 1 := by
  unfold gX6_in
  (repeat' split) <;> first | exact Or.inl rfl | exact Or.inr rfl
def gX6_isTable (a1 : Int32) : Int32 := (gX6_in ((a1).toInt64) 1 200)
def gX6_isSetting (a1 : Int32) (a2 : Int32) : Int32 := (if a1 = 0 then (gX6_in ((a2).toInt64) 20 500) else (if a1 = 1 then (gX6_in ((a2).toInt64) 0 1) else (if a1 = 2 then (gX6_in ((a2).toInt64) 0 1) else (if a1 = 3 then (if (gX6_in ((a2).toInt64) 1 50) = 0 then 0 else 1) else 0))))
def gX6_over (a1 : Int32) (a2 : Int32) : Int32 := (((a1 + a2) - 1) / a2)
def gX6_root_L2 (a1 : Int32) : Nat → Nat → Int32
  | 0, r => (nI r)
  | fu + 1, r => (if a1 < (((nI r) + 1) * ((nI r) + 1)) then (nI r) else (gX6_root_L2 a1 fu (r + 1)))
def gX6_root (a1 : Int32) : Int32 := (gX6_root_L2 a1 20 0)
def gX6_needsOf (a1 : Int32) (a2 : Int32) (a3 : Int32) : Int32 := (if a1 = 0 then 3 else (if a1 = 1 then ((gX6_root a3) + 2) else ((gX6_root (a2 + a3)) + 2)))
def gX6_wantsOf (a1 : Int32) (a2 : Int32) (a3 : Int32) : Int32 := (if a1 = 0 then (if (gX6_needsOf a1 a2 a3) ≤ (a3 + 2) then (a3 + 2) else (gX6_needsOf a1 a2 a3)) else (if a1 = 1 then (if (gX6_needsOf a1 a2 a3) ≤ ((a3 + (a3 / 5)) + 2) then ((a3 + (a3 / 5)) + 2) else (gX6_needsOf a1 a2 a3)) else (if (gX6_needsOf a1 a2 a3) ≤ (((a2 + a3) / 2) + 3) then (((a2 + a3) / 2) + 3) else (gX6_needsOf a1 a2 a3))))
def gX6_workOf_L57 (a1 : Int32) (a2 : Int32) (a3 : Int32) (a4 : Int32) : Nat → Int32 → Int32 → Int32
  | 0, x1, t1 => ((a2 + a3) * ((2 * t1) + 1))
  | fu + 1, x1, t1 => (if x1 ≤ 1 then ((a2 + a3) * ((2 * t1) + 1)) else (gX6_workOf_L57 a1 a2 a3 a4 fu (gX6_over x1 (a4 - 1)) (t1 + 1)))
def gX6_workOf (a1 : Int32) (a2 : Int32) (a3 : Int32) (a4 : Int32) : Int32 := (if a1 = 0 then (a2 + (a3 * (gX6_over a2 (a4 - 2)))) else (if a1 = 1 then (if a4 < (gX6_wantsOf a1 a2 a3) then (3 * (a2 + a3)) else (a2 + a3)) else (gX6_workOf_L57 a1 a2 a3 a4 400 (gX6_over (a2 + a3) a4) 0)))
def gX6_of (f : FS) (a1 : Nat) (a2 : Nat) : Int32 := (f (9 + 9 * a1 + a2))
def gX6_sets (f : FS) (a1 : Nat) (a2 : Nat) (a3 : Int32) : FS := (upd f (9 + 9 * a1 + a2) a3)
def gX6_is (f : FS) (a1 : Nat) (a2 : Int32) : Int32 := (if (gX6_of f a1 3) = a2 then 1 else 0)
def gX6_needs (f : FS) (a1 : Nat) : Int32 := (gX6_needsOf (gX6_of f a1 0) (gX6_of f a1 1) (gX6_of f a1 2))
def gX6_wants (f : FS) (a1 : Nat) : Int32 := (gX6_wantsOf (gX6_of f a1 0) (gX6_of f a1 1) (gX6_of f a1 2))
def gX6_works (f : FS) (a1 : Nat) (a2 : Int32) : Int32 := (gX6_workOf (gX6_of f a1 0) (gX6_of f a1 1) (gX6_of f a1 2) a2)
def gX6_isJoin (f : FS) (a1 : Int32) : Int32 := (gX6_in ((a1).toInt64) 0 ((((f 4)).toInt64) - 1))
def gX6_granted_L4 (f : FS) : Nat → Nat → Int32 → Int32
  | 0, i, x9 => x9
  | fu + 1, i, x9 => (gX6_granted_L4 f fu (i + 1) (x9 + (gX6_of f i 4)))
def gX6_granted (f : FS) : Int32 := (gX6_granted_L4 f ((f 4).toNatClampNeg) 0 0)
def gX6_free (f : FS) : Int32 := (if 0 ≤ ((f 0) - (gX6_granted f )) then ((f 0) - (gX6_granted f )) else 0)
def gX6_extra (f : FS) (a1 : Nat) : Int32 := (if (gX6_is f a1 1) = 0 then 0 else ((gX6_of f a1 4) - (gX6_needs f a1)))
def gX6_spares_L4 (f : FS) : Nat → Nat → Int32 → Int32
  | 0, i, x9 => x9
  | fu + 1, i, x9 => (gX6_spares_L4 f fu (i + 1) (x9 + (gX6_extra f i)))
def gX6_spares (f : FS) : Int32 := (gX6_spares_L4 f ((f 4).toNatClampNeg) 0 0)
def gX6_isAhead (f : FS) (a1 : Nat) (a2 : Nat) : Int32 := (if (f 1) = 1 then (if ((gX6_needs f a1) - (gX6_needs f a2)) < 0 then 1 else (if ((gX6_needs f a1) - (gX6_needs f a2)) = 0 then (if (nI a2) ≤ (nI a1) then 0 else 1) else 0)) else (if (nI a2) ≤ (nI a1) then 0 else 1))
def gX6_rankOf_L4 (f : FS) (a1 : Nat) : Nat → Nat → Int32 → Int32
  | 0, i, x9 => x9
  | fu + 1, i, x9 => (if (gX6_is f i 0) = 0 then (gX6_rankOf_L4 f a1 fu (i + 1) (x9 + 0)) else (if (gX6_isAhead f i a1) = 0 then (gX6_rankOf_L4 f a1 fu (i + 1) (x9 + 0)) else (gX6_rankOf_L4 f a1 fu (i + 1) (x9 + 1))))
def gX6_rankOf (f : FS) (a1 : Nat) : Int32 := (gX6_rankOf_L4 f a1 ((f 4).toNatClampNeg) 0 0)
def gX6_ranked_L2 (f : FS) (a1 : Int32) : Nat → Nat → Int32
  | 0, i => (-5)
  | fu + 1, i => (if (gX6_is f i 0) = 0 then (gX6_ranked_L2 f a1 fu (i + 1)) else (if (gX6_rankOf f i) = a1 then (nI i) else (gX6_ranked_L2 f a1 fu (i + 1))))
def gX6_ranked (f : FS) (a1 : Int32) : Int32 := (gX6_ranked_L2 f a1 ((f 4).toNatClampNeg) 0)
def gX6_manyWith_L4 (f : FS) (a1 : Int32) : Nat → Nat → Int32 → Int32
  | 0, i, x9 => x9
  | fu + 1, i, x9 => (if (gX6_is f i a1) = 0 then (gX6_manyWith_L4 f a1 fu (i + 1) (x9 + 0)) else (gX6_manyWith_L4 f a1 fu (i + 1) (x9 + 1)))
def gX6_manyWith (f : FS) (a1 : Int32) : Int32 := (gX6_manyWith_L4 f a1 ((f 4).toNatClampNeg) 0 0)
def gX6_spills (f : FS) (a1 : Nat) : Int32 := (if (gX6_is f a1 1) = 0 then 0 else (if (gX6_of f a1 0) = 0 then 0 else (if (gX6_wants f a1) ≤ (gX6_of f a1 4) then 0 else 1)))
def gX6_spilling_L4 (f : FS) : Nat → Nat → Int32 → Int32
  | 0, i, x9 => x9
  | fu + 1, i, x9 => (if (gX6_spills f i) = 0 then (gX6_spilling_L4 f fu (i + 1) (x9 + 0)) else (gX6_spilling_L4 f fu (i + 1) (x9 + 1)))
def gX6_spilling (f : FS) : Int32 := (gX6_spilling_L4 f ((f 4).toNatClampNeg) 0 0)
def gX6_spare (f : FS) : Int32 := (gX6_spares f )
def gX6_ends (f : FS) (a1 : Nat) (a2 : Int32) : FS := (gX6_sets (gX6_sets (gX6_sets f a1 3 a2) a1 4 0) a1 5 0)
def gX6_givesBack (f : FS) (a1 : Nat) (a2 : Int32) : FS := (upd (gX6_sets (gX6_sets (gX6_sets f a1 4 ((gX6_of f a1 4) - a2)) a1 5 ((((((((((gX6_of f a1 5)).toInt64) * (((gX6_works f a1 ((gX6_of f a1 4) - a2))).toInt64)) + (((gX6_works f a1 (gX6_of f a1 4))).toInt64)) - 1) / (((gX6_works f a1 (gX6_of f a1 4))).toInt64))).toInt32) + a2)) a1 8 ((gX6_of (gX6_sets (gX6_sets f a1 4 ((gX6_of f a1 4) - a2)) a1 5 ((((((((((gX6_of f a1 5)).toInt64) * (((gX6_works f a1 ((gX6_of f a1 4) - a2))).toInt64)) + (((gX6_works f a1 (gX6_of f a1 4))).toInt64)) - 1) / (((gX6_works f a1 (gX6_of f a1 4))).toInt64))).toInt32) + a2)) a1 8) + a2)) 8 (((gX6_sets (gX6_sets (gX6_sets f a1 4 ((gX6_of f a1 4) - a2)) a1 5 ((((((((((gX6_of f a1 5)).toInt64) * (((gX6_works f a1 ((gX6_of f a1 4) - a2))).toInt64)) + (((gX6_works f a1 (gX6_of f a1 4))).toInt64)) - 1) / (((gX6_works f a1 (gX6_of f a1 4))).toInt64))).toInt32) + a2)) a1 8 ((gX6_of (gX6_sets (gX6_sets f a1 4 ((gX6_of f a1 4) - a2)) a1 5 ((((((((((gX6_of f a1 5)).toInt64) * (((gX6_works f a1 ((gX6_of f a1 4) - a2))).toInt64)) + (((gX6_works f a1 (gX6_of f a1 4))).toInt64)) - 1) / (((gX6_works f a1 (gX6_of f a1 4))).toInt64))).toInt32) + a2)) a1 8) + a2)) 8) + a2))
