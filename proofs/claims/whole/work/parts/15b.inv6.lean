/-! ===== what holds of the reference's row 'all' between calls ===== -/
def mJ (f : FS) (j : Nat) : Prop :=
  (oF f j 0 = 0 ∨ oF f j 0 = 1 ∨ oF f j 0 = 2) ∧ (1 ≤ (oF f j 1).toInt ∧ (oF f j 1).toInt ≤ 200) ∧ (1 ≤ (oF f j 2).toInt ∧ (oF f j 2).toInt ≤ 200) ∧
  (oF f j 3 = 0 ∨ oF f j 3 = 1 ∨ oF f j 3 = 2 ∨ oF f j 3 = 3) ∧
  (oF f j 3 = 1 → (gX6_needs f j).toInt ≤ (oF f j 4).toInt ∧ (oF f j 4).toInt ≤ 500 ∧ 1 ≤ (oF f j 5).toInt ∧ (oF f j 5).toInt ≤ (501 - (oF f j 4).toInt) * (gX6_works f j (oF f j 4)).toInt) ∧
  (¬ oF f j 3 = 1 → oF f j 4 = 0 ∧ oF f j 5 = 0)
def mB (f : FS) : Prop :=
  (¬ f 4 < 0 ∧ (f 4).toNatClampNeg ≤ 16) ∧ (20 ≤ (f 0).toInt ∧ (f 0).toInt ≤ 500) ∧ (f 1 = 0 ∨ f 1 = 1) ∧ (f 2 = 0 ∨ f 2 = 1) ∧ (1 ≤ (f 3).toInt ∧ (f 3).toInt ≤ 50) ∧
  (∀ j, (f 4).toNatClampNeg ≤ j → j < 16 → ∀ k, k < 9 → oF f j k = 0)
def mInv (f : FS) : Prop := mB f ∧ ∀ j, j < (f 4).toNatClampNeg → mJ f j
def enough (f : FS) (x : Int32) : Prop := x.toInt ≤ (gX6_spares f).toInt
/-- how many of the first k joins wait -/
def wcnt (f : FS) : Nat → Nat
  | 0 => 0
  | k + 1 => wcnt f k + (if oF f k 3 = 0 then 1 else 0)
theorem bI_of {f : FS} (hm : mInv f) : bI f := by
  refine ⟨hm.1.1.2, fun j hj => ?_⟩
  unfold xT200
  rcases Nat.lt_or_ge j (f 4).toNatClampNeg with h | h
  · have h1 := hm.2 j h
    obtain ⟨-, h2, h3, -⟩ := h1
    omega
  · have h1 := hm.1.2.2.2.2.2 j h hj
    rw [h1 1 (by decide), h1 2 (by decide)]
    decide
theorem x_le0 {x : Int32} (h : x.toInt ≤ 0) : x ≤ 0 := by
  rw [x_ile]
  exact h
theorem gX6_of_eq {f : FS} {j k : Nat} : gX6_of f j k = oF f j k := rfl
theorem oF_sets {f : FS} {j k i m : Nat} {v : Int32} (hk : k < 9) (hm : m < 9) : oF (gX6_sets f j k v) i m = if i = j ∧ m = k then v else oF f i m := by
  show (if 9 + 9 * i + m = 9 + 9 * j + k then v else f (9 + 9 * i + m)) = _
  by_cases h : i = j ∧ m = k
  · obtain ⟨rfl, rfl⟩ := h
    simp
  · rw [if_neg h, if_neg (by omega)]
    rfl
theorem f_sets {f : FS} {j k i : Nat} {v : Int32} (hi : i < 9) : gX6_sets f j k v i = f i := by
  show (if i = 9 + 9 * j + k then v else f i) = _
  rw [if_neg (by omega)]
theorem bI_sets {f : FS} {j k : Nat} {v : Int32} (h : bI f) (hk : 3 ≤ k) (hk9 : k < 9) : bI (gX6_sets f j k v) := by
  refine ⟨by rw [f_sets (by decide)]; exact h.1, fun i hi => ?_⟩
  rw [oF_sets hk9 (by decide), oF_sets hk9 (by decide), if_neg (by omega), if_neg (by omega)]
  exact h.2 i hi
theorem bI_upd {f : FS} {k : Nat} {v : Int32} (h : bI f) (hk : k < 9) (h4 : k ≠ 4) : bI (upd f k v) := by
  refine ⟨?_, fun i hi => ?_⟩
  · show (if 4 = k then v else f 4).toNatClampNeg ≤ 16
    rw [if_neg (Ne.symm h4)]; exact h.1
  · have e : ∀ m, oF (upd f k v) i m = oF f i m := fun m => by
      show (if 9 + 9 * i + m = k then v else f (9 + 9 * i + m)) = _
      rw [if_neg (by omega)]; rfl
    rw [e, e]
    exact h.2 i hi
