def mJ (f : FS) (j : Nat) : Prop :=
  (oF f j 0 = 0 ∨ oF f j 0 = 1 ∨ oF f j 0 = 2) ∧ (1 ≤ (oF f j 1).toInt ∧ (oF f j 1).toInt ≤ 200) ∧ (1 ≤ (oF f j 2).toInt ∧ (oF f j 2).toInt ≤ 200) ∧
  (oF f j 3 = 0 ∨ oF f j 3 = 1 ∨ oF f j 3 = 2 ∨ oF f j 3 = 3) ∧
  (oF f j 3 = 1 → (gX6_needs f j).toInt ≤ (oF f j 4).toInt ∧ (oF f j 4).toInt ≤ 500 ∧ 1 ≤ (oF f j 5).toInt ∧ (oF f j 5).toInt ≤ (501 - (oF f j 4).toInt) * (gX6_works f j (oF f j 4)).toInt) ∧
  (¬ oF f j 3 = 1 → oF f j 4 = 0 ∧ oF f j 5 = 0)
def mB (f : FS) : Prop :=
  (¬ f 4 < 0 ∧ (f 4).toNatClampNeg ≤ 16) ∧ (20 ≤ (f 0).toInt ∧ (f 0).toInt ≤ 500) ∧ (f 1 = 0 ∨ f 1 = 1) ∧ (f 2 = 0 ∨ f 2 = 1) ∧ (1 ≤ (f 3).toInt ∧ (f 3).toInt ≤ 50) ∧
  (∀ j, (f 4).toNatClampNeg ≤ j → j < 16 → ∀ k, k < 9 → oF f j k = 0)
def mInv (f : FS) : Prop := mB f ∧ ∀ j, j < (f 4).toNatClampNeg → mJ f j
def enough (f : FS) (x : Int32) : Prop := x.toInt ≤ (gX6_spares f).toInt
/-- how many of the first k joins wait -/
def wcnt (f : FS) : Nat → Nat
  | 0 => 0
  | k + 1 => wcnt f k + (if oF f k 3 = 0 then 1 else 0)
theorem bI_of {f : FS} (hm : mInv f) : bI f := by
  refine ⟨hm.1.1.2, fun j hj => ?_⟩
  unfold xT200
  rcases Nat.lt_or_ge j (f 4).toNatClampNeg with h | h
  · have h1 := hm.2 j h
    obtain ⟨-, h2, h3, -⟩ := h1
    omega
  · have h1 := hm.1.2.2.2.2.2 j h hj
    rw [h1 1 (by decide), h1 2 (by decide)]
    decide
theorem x_le0 {x : Int32} (h : x.toInt ≤ 0) : x ≤ 0 := by
  rw [x_ile]
  exact h
theorem gX6_of_eq {f : FS} {j k : Nat} : gX6_of f j k = oF f j k := rfl
theorem oF_sets {f : FS} {j k i m : Nat} {v : Int32} (hk : k < 9) (hm : m < 9) : oF (gX6_sets f j k v) i m = if i = j ∧ m = k then v else oF f i m := by
  show (if 9 + 9 * i + m = 9 + 9 * j + k then v else f (9 + 9 * i + m)) = _
  by_cases h : i = j ∧ m = k
  · obtain ⟨rfl, rfl⟩ := h
    simp
  · rw [if_neg h, if_neg (by omega)]
    rfl
theorem f_sets {f : FS} {j k i : Nat} {v : Int32} (hi : i < 9) : gX6_sets f j k v i = f i := by
  show (if i = 9 + 9 * j + k then v else f i) = _
  rw [if_neg (by omega)]
theorem bI_sets {f : FS} {j k : Nat} {v : Int32} (h : bI f) (hk : 3 ≤ k) (hk9 : k < 9) : bI (gX6_sets f j k v) := by
  refine ⟨by rw [f_sets (by decide)]; exact h.1, fun i hi => ?_⟩
  rw [oF_sets hk9 (by decide), oF_sets hk9 (by decide), if_neg (by omega), if_neg (by omega)]
  exact h.2 i hi
theorem bI_upd {f : FS} {k : Nat} {v : Int32} (h : bI f) (hk : k < 9) (h4 : k ≠ 4) : bI (upd f k v) := by
  refine ⟨?_, fun i hi => ?_⟩
  · show (if 4 = k then v else f 4).toNatClampNeg ≤ 16
    rw [if_neg (Ne.symm h4)]; exact h.1
  · have e : ∀ m, oF (upd f k v) i m = oF f i m := fun m => by
      show (if 9 + 9 * i + m = k then v else f (9 + 9 * i + m)) = _
      rw [if_neg (by omega)]; rfl
    rw [e, e]
    exact h.2 i hi
def gX6_asksBack_L11 (f1 : FS) : Nat → Nat → Nat → Nat
  | 0, i, k1 => k1
  | fu + 1, i, k1 => (if (gX6_extra f1 i) ≤ (gX6_extra f1 k1) then (gX6_asksBack_L11 f1 fu (i + 1) k1) else (gX6_asksBack_L11 f1 fu (i + 1) i))
def gX6_asksBack_L2 (f : FS) (a1 : Int32) : Nat → Int32 → FS → FS
  | 0, x1, f1 => f1
  | fu + 1, x1, f1 => (if x1 ≤ 0 then f1 else (if x1 ≤ (gX6_extra f1 (gX6_asksBack_L11 f1 ((f1 4).toNatClampNeg - 1) 1 0)) then (gX6_asksBack_L2 f a1 fu (x1 - x1) (gX6_givesBack f1 (gX6_asksBack_L11 f1 ((f1 4).toNatClampNeg - 1) 1 0) x1)) else (gX6_asksBack_L2 f a1 fu (x1 - (gX6_extra f1 (gX6_asksBack_L11 f1 ((f1 4).toNatClampNeg - 1) 1 0))) (gX6_givesBack f1 (gX6_asksBack_L11 f1 ((f1 4).toNatClampNeg - 1) 1 0) (gX6_extra f1 (gX6_asksBack_L11 f1 ((f1 4).toNatClampNeg - 1) 1 0))))))
def gX6_asksBack (f : FS) (a1 : Int32) : FS := (gX6_asksBack_L2 f a1 a1.toInt.toNat a1 f)
def gX6_starts (f : FS) (a1 : Nat) : Int32 × FS := (if (gX6_free f ) < (gX6_needs f a1) then (if (f 2) = 1 then (if (f 0) < (gX6_granted f ) then (0, f) else (if ((gX6_free f ) + (gX6_spares f )) < (gX6_needs f a1) then (0, f) else (if (gX6_granted (gX6_sets (gX6_sets (gX6_sets (gX6_asksBack f ((gX6_needs f a1) - (gX6_free f ))) a1 3 1) a1 4 (gX6_needs f a1)) a1 5 (gX6_works (gX6_sets (gX6_sets (gX6_asksBack f ((gX6_needs f a1) - (gX6_free f ))) a1 3 1) a1 4 (gX6_needs f a1)) a1 (gX6_needs f a1))) ) ≤ ((gX6_sets (gX6_sets (gX6_sets (gX6_asksBack f ((gX6_needs f a1) - (gX6_free f ))) a1 3 1) a1 4 (gX6_needs f a1)) a1 5 (gX6_works (gX6_sets (gX6_sets (gX6_asksBack f ((gX6_needs f a1) - (gX6_free f ))) a1 3 1) a1 4 (gX6_needs f a1)) a1 (gX6_needs f a1))) 5) then (1, upd (gX6_sets (gX6_sets (gX6_sets (gX6_asksBack f ((gX6_needs f a1) - (gX6_free f ))) a1 3 1) a1 4 (gX6_needs f a1)) a1 5 (gX6_works (gX6_sets (gX6_sets (gX6_asksBack f ((gX6_needs f a1) - (gX6_free f ))) a1 3 1) a1 4 (gX6_needs f a1)) a1 (gX6_needs f a1))) 5 ((gX6_sets (gX6_sets (gX6_sets (gX6_asksBack f ((gX6_needs f a1) - (gX6_free f ))) a1 3 1) a1 4 (gX6_needs f a1)) a1 5 (gX6_works (gX6_sets (gX6_sets (gX6_asksBack f ((gX6_needs f a1) - (gX6_free f ))) a1 3 1) a1 4 (gX6_needs f a1)) a1 (gX6_needs f a1))) 5)) else (1, upd (gX6_sets (gX6_sets (gX6_sets (gX6_asksBack f ((gX6_needs f a1) - (gX6_free f ))) a1 3 1) a1 4 (gX6_needs f a1)) a1 5 (gX6_works (gX6_sets (gX6_sets (gX6_asksBack f ((gX6_needs f a1) - (gX6_free f ))) a1 3 1) a1 4 (gX6_needs f a1)) a1 (gX6_needs f a1))) 5 (gX6_granted (gX6_sets (gX6_sets (gX6_sets (gX6_asksBack f ((gX6_needs f a1) - (gX6_free f ))) a1 3 1) a1 4 (gX6_needs f a1)) a1 5 (gX6_works (gX6_sets (gX6_sets (gX6_asksBack f ((gX6_needs f a1) - (gX6_free f ))) a1 3 1) a1 4 (gX6_needs f a1)) a1 (gX6_needs f a1))) ))))) else (0, f)) else (if (gX6_wants f a1) ≤ (gX6_free f ) then (if (gX6_granted (gX6_sets (gX6_sets (gX6_sets f a1 3 1) a1 4 (gX6_wants f a1)) a1 5 (gX6_works (gX6_sets (gX6_sets f a1 3 1) a1 4 (gX6_wants f a1)) a1 (gX6_wants f a1))) ) ≤ ((gX6_sets (gX6_sets (gX6_sets f a1 3 1) a1 4 (gX6_wants f a1)) a1 5 (gX6_works (gX6_sets (gX6_sets f a1 3 1) a1 4 (gX6_wants f a1)) a1 (gX6_wants f a1))) 5) then (1, upd (gX6_sets (gX6_sets (gX6_sets f a1 3 1) a1 4 (gX6_wants f a1)) a1 5 (gX6_works (gX6_sets (gX6_sets f a1 3 1) a1 4 (gX6_wants f a1)) a1 (gX6_wants f a1))) 5 ((gX6_sets (gX6_sets (gX6_sets f a1 3 1) a1 4 (gX6_wants f a1)) a1 5 (gX6_works (gX6_sets (gX6_sets f a1 3 1) a1 4 (gX6_wants f a1)) a1 (gX6_wants f a1))) 5)) else (1, upd (gX6_sets (gX6_sets (gX6_sets f a1 3 1) a1 4 (gX6_wants f a1)) a1 5 (gX6_works (gX6_sets (gX6_sets f a1 3 1) a1 4 (gX6_wants f a1)) a1 (gX6_wants f a1))) 5 (gX6_granted (gX6_sets (gX6_sets (gX6_sets f a1 3 1) a1 4 (gX6_wants f a1)) a1 5 (gX6_works (gX6_sets (gX6_sets f a1 3 1) a1 4 (gX6_wants f a1)) a1 (gX6_wants f a1))) ))) else (if (gX6_granted (gX6_sets (gX6_sets (gX6_sets f a1 3 1) a1 4 (gX6_free f )) a1 5 (gX6_works (gX6_sets (gX6_sets f a1 3 1) a1 4 (gX6_free f )) a1 (gX6_free f ))) ) ≤ ((gX6_sets (gX6_sets (gX6_sets f a1 3 1) a1 4 (gX6_free f )) a1 5 (gX6_works (gX6_sets (gX6_sets f a1 3 1) a1 4 (gX6_free f )) a1 (gX6_free f ))) 5) then (1, upd (gX6_sets (gX6_sets (gX6_sets f a1 3 1) a1 4 (gX6_free f )) a1 5 (gX6_works (gX6_sets (gX6_sets f a1 3 1) a1 4 (gX6_free f )) a1 (gX6_free f ))) 5 ((gX6_sets (gX6_sets (gX6_sets f a1 3 1) a1 4 (gX6_free f )) a1 5 (gX6_works (gX6_sets (gX6_sets f a1 3 1) a1 4 (gX6_free f )) a1 (gX6_free f ))) 5)) else (1, upd (gX6_sets (gX6_sets (gX6_sets f a1 3 1) a1 4 (gX6_free f )) a1 5 (gX6_works (gX6_sets (gX6_sets f a1 3 1) a1 4 (gX6_free f )) a1 (gX6_free f ))) 5 (gX6_granted (gX6_sets (gX6_sets (gX6_sets f a1 3 1) a1 4 (gX6_free f )) a1 5 (gX6_works (gX6_sets (gX6_sets f a1 3 1) a1 4 (gX6_free f )) a1 (gX6_free f ))) )))))
def gX6_goesThrough_L6 (f : FS) : Nat → Int32 → FS → FS
  | 0, x1, f1 => f1
  | fu + 1, x1, f1 => (if x1 = (-5) then f1 else (if ((gX6_starts f1 x1.toNatClampNeg).1) = 0 then ((gX6_starts f1 x1.toNatClampNeg).2) else (gX6_goesThrough_L6 f fu (gX6_ranked ((gX6_starts f1 x1.toNatClampNeg).2) 0) ((gX6_starts f1 x1.toNatClampNeg).2))))
def gX6_goesThrough (f : FS) : FS := (gX6_goesThrough_L6 f 16 (gX6_ranked f 0) f)
def gX6_steps_L149 (f : FS) : Nat → Nat → Int32 → FS → Int32 × FS
  | 0, i, x1, f1 => (if x1 ≤ 0 then (x1, upd f1 6 ((f1 6) + 1)) else (x1, (gX6_goesThrough (upd f1 6 ((f1 6) + 1)) )))
  | fu + 1, i, x1, f1 => (if (gX6_is f1 i 1) = 0 then (gX6_steps_L149 f fu (i + 1) x1 f1) else (if (gX6_of f1 i 5) = 0 then (gX6_steps_L149 f fu (i + 1) (x1 + 1) (gX6_ends f1 i 2)) else (gX6_steps_L149 f fu (i + 1) x1 f1)))
def gX6_steps_L4 (f : FS) : Nat → Nat → FS → Int32 × FS
  | 0, i, f1 => (gX6_steps_L149 f ((f 4).toNatClampNeg) 0 0 f1)
  | fu + 1, i, f1 => (if (gX6_is f1 i 1) = 0 then (if (gX6_is f1 i 0) = 0 then (if (gX6_is (gX6_sets f1 i 6 ((gX6_of f1 i 6) + 0)) i 1) = 0 then (gX6_steps_L4 f fu (i + 1) (upd (gX6_sets (gX6_sets (gX6_sets f1 i 6 ((gX6_of f1 i 6) + 0)) i 7 ((gX6_of (gX6_sets f1 i 6 ((gX6_of f1 i 6) + 0)) i 7) + 0)) i 5 ((gX6_of (gX6_sets (gX6_sets f1 i 6 ((gX6_of f1 i 6) + 0)) i 7 ((gX6_of (gX6_sets f1 i 6 ((gX6_of f1 i 6) + 0)) i 7) + 0)) i 5) - 0)) 7 (((gX6_sets (gX6_sets (gX6_sets f1 i 6 ((gX6_of f1 i 6) + 0)) i 7 ((gX6_of (gX6_sets f1 i 6 ((gX6_of f1 i 6) + 0)) i 7) + 0)) i 5 ((gX6_of (gX6_sets (gX6_sets f1 i 6 ((gX6_of f1 i 6) + 0)) i 7 ((gX6_of (gX6_sets f1 i 6 ((gX6_of f1 i 6) + 0)) i 7) + 0)) i 5) - 0)) 7) + 0))) else (gX6_steps_L4 f fu (i + 1) (upd (gX6_sets (gX6_sets (gX6_sets f1 i 6 ((gX6_of f1 i 6) + 0)) i 7 ((gX6_of (gX6_sets f1 i 6 ((gX6_of f1 i 6) + 0)) i 7) + 1)) i 5 ((gX6_of (gX6_sets (gX6_sets f1 i 6 ((gX6_of f1 i 6) + 0)) i 7 ((gX6_of (gX6_sets f1 i 6 ((gX6_of f1 i 6) + 0)) i 7) + 1)) i 5) - 0)) 7 (((gX6_sets (gX6_sets (gX6_sets f1 i 6 ((gX6_of f1 i 6) + 0)) i 7 ((gX6_of (gX6_sets f1 i 6 ((gX6_of f1 i 6) + 0)) i 7) + 1)) i 5 ((gX6_of (gX6_sets (gX6_sets f1 i 6 ((gX6_of f1 i 6) + 0)) i 7 ((gX6_of (gX6_sets f1 i 6 ((gX6_of f1 i 6) + 0)) i 7) + 1)) i 5) - 0)) 7) + 0)))) else (if (gX6_is (gX6_sets f1 i 6 ((gX6_of f1 i 6) + 1)) i 1) = 0 then (gX6_steps_L4 f fu (i + 1) (upd (gX6_sets (gX6_sets (gX6_sets f1 i 6 ((gX6_of f1 i 6) + 1)) i 7 ((gX6_of (gX6_sets f1 i 6 ((gX6_of f1 i 6) + 1)) i 7) + 0)) i 5 ((gX6_of (gX6_sets (gX6_sets f1 i 6 ((gX6_of f1 i 6) + 1)) i 7 ((gX6_of (gX6_sets f1 i 6 ((gX6_of f1 i 6) + 1)) i 7) + 0)) i 5) - 0)) 7 (((gX6_sets (gX6_sets (gX6_sets f1 i 6 ((gX6_of f1 i 6) + 1)) i 7 ((gX6_of (gX6_sets f1 i 6 ((gX6_of f1 i 6) + 1)) i 7) + 0)) i 5 ((gX6_of (gX6_sets (gX6_sets f1 i 6 ((gX6_of f1 i 6) + 1)) i 7 ((gX6_of (gX6_sets f1 i 6 ((gX6_of f1 i 6) + 1)) i 7) + 0)) i 5) - 0)) 7) + 0))) else (gX6_steps_L4 f fu (i + 1) (upd (gX6_sets (gX6_sets (gX6_sets f1 i 6 ((gX6_of f1 i 6) + 1)) i 7 ((gX6_of (gX6_sets f1 i 6 ((gX6_of f1 i 6) + 1)) i 7) + 1)) i 5 ((gX6_of (gX6_sets (gX6_sets f1 i 6 ((gX6_of f1 i 6) + 1)) i 7 ((gX6_of (gX6_sets f1 i 6 ((gX6_of f1 i 6) + 1)) i 7) + 1)) i 5) - 0)) 7 (((gX6_sets (gX6_sets (gX6_sets f1 i 6 ((gX6_of f1 i 6) + 1)) i 7 ((gX6_of (gX6_sets f1 i 6 ((gX6_of f1 i 6) + 1)) i 7) + 1)) i 5 ((gX6_of (gX6_sets (gX6_sets f1 i 6 ((gX6_of f1 i 6) + 1)) i 7 ((gX6_of (gX6_sets f1 i 6 ((gX6_of f1 i 6) + 1)) i 7) + 1)) i 5) - 0)) 7) + 0))))) else (if (f1 3) ≤ (gX6_of f1 i 5) then (if (gX6_is f1 i 0) = 0 then (if (gX6_is (gX6_sets f1 i 6 ((gX6_of f1 i 6) + 0)) i 1) = 0 then (gX6_steps_L4 f fu (i + 1) (upd (gX6_sets (gX6_sets (gX6_sets f1 i 6 ((gX6_of f1 i 6) + 0)) i 7 ((gX6_of (gX6_sets f1 i 6 ((gX6_of f1 i 6) + 0)) i 7) + 0)) i 5 ((gX6_of (gX6_sets (gX6_sets f1 i 6 ((gX6_of f1 i 6) + 0)) i 7 ((gX6_of (gX6_sets f1 i 6 ((gX6_of f1 i 6) + 0)) i 7) + 0)) i 5) - (f1 3))) 7 (((gX6_sets (gX6_sets (gX6_sets f1 i 6 ((gX6_of f1 i 6) + 0)) i 7 ((gX6_of (gX6_sets f1 i 6 ((gX6_of f1 i 6) + 0)) i 7) + 0)) i 5 ((gX6_of (gX6_sets (gX6_sets f1 i 6 ((gX6_of f1 i 6) + 0)) i 7 ((gX6_of (gX6_sets f1 i 6 ((gX6_of f1 i 6) + 0)) i 7) + 0)) i 5) - (f1 3))) 7) + (f1 3)))) else (gX6_steps_L4 f fu (i + 1) (upd (gX6_sets (gX6_sets (gX6_sets f1 i 6 ((gX6_of f1 i 6) + 0)) i 7 ((gX6_of (gX6_sets f1 i 6 ((gX6_of f1 i 6) + 0)) i 7) + 1)) i 5 ((gX6_of (gX6_sets (gX6_sets f1 i 6 ((gX6_of f1 i 6) + 0)) i 7 ((gX6_of (gX6_sets f1 i 6 ((gX6_of f1 i 6) + 0)) i 7) + 1)) i 5) - (f1 3))) 7 (((gX6_sets (gX6_sets (gX6_sets f1 i 6 ((gX6_of f1 i 6) + 0)) i 7 ((gX6_of (gX6_sets f1 i 6 ((gX6_of f1 i 6) + 0)) i 7) + 1)) i 5 ((gX6_of (gX6_sets (gX6_sets f1 i 6 ((gX6_of f1 i 6) + 0)) i 7 ((gX6_of (gX6_sets f1 i 6 ((gX6_of f1 i 6) + 0)) i 7) + 1)) i 5) - (f1 3))) 7) + (f1 3))))) else (if (gX6_is (gX6_sets f1 i 6 ((gX6_of f1 i 6) + 1)) i 1) = 0 then (gX6_steps_L4 f fu (i + 1) (upd (gX6_sets (gX6_sets (gX6_sets f1 i 6 ((gX6_of f1 i 6) + 1)) i 7 ((gX6_of (gX6_sets f1 i 6 ((gX6_of f1 i 6) + 1)) i 7) + 0)) i 5 ((gX6_of (gX6_sets (gX6_sets f1 i 6 ((gX6_of f1 i 6) + 1)) i 7 ((gX6_of (gX6_sets f1 i 6 ((gX6_of f1 i 6) + 1)) i 7) + 0)) i 5) - (f1 3))) 7 (((gX6_sets (gX6_sets (gX6_sets f1 i 6 ((gX6_of f1 i 6) + 1)) i 7 ((gX6_of (gX6_sets f1 i 6 ((gX6_of f1 i 6) + 1)) i 7) + 0)) i 5 ((gX6_of (gX6_sets (gX6_sets f1 i 6 ((gX6_of f1 i 6) + 1)) i 7 ((gX6_of (gX6_sets f1 i 6 ((gX6_of f1 i 6) + 1)) i 7) + 0)) i 5) - (f1 3))) 7) + (f1 3)))) else (gX6_steps_L4 f fu (i + 1) (upd (gX6_sets (gX6_sets (gX6_sets f1 i 6 ((gX6_of f1 i 6) + 1)) i 7 ((gX6_of (gX6_sets f1 i 6 ((gX6_of f1 i 6) + 1)) i 7) + 1)) i 5 ((gX6_of (gX6_sets (gX6_sets f1 i 6 ((gX6_of f1 i 6) + 1)) i 7 ((gX6_of (gX6_sets f1 i 6 ((gX6_of f1 i 6) + 1)) i 7) + 1)) i 5) - (f1 3))) 7 (((gX6_sets (gX6_sets (gX6_sets f1 i 6 ((gX6_of f1 i 6) + 1)) i 7 ((gX6_of (gX6_sets f1 i 6 ((gX6_of f1 i 6) + 1)) i 7) + 1)) i 5 ((gX6_of (gX6_sets (gX6_sets f1 i 6 ((gX6_of f1 i 6) + 1)) i 7 ((gX6_of (gX6_sets f1 i 6 ((gX6_of f1 i 6) + 1)) i 7) + 1)) i 5) - (f1 3))) 7) + (f1 3)))))) else (if (gX6_is f1 i 0) = 0 then (if (gX6_is (gX6_sets f1 i 6 ((gX6_of f1 i 6) + 0)) i 1) = 0 then (gX6_steps_L4 f fu (i + 1) (upd (gX6_sets (gX6_sets (gX6_sets f1 i 6 ((gX6_of f1 i 6) + 0)) i 7 ((gX6_of (gX6_sets f1 i 6 ((gX6_of f1 i 6) + 0)) i 7) + 0)) i 5 ((gX6_of (gX6_sets (gX6_sets f1 i 6 ((gX6_of f1 i 6) + 0)) i 7 ((gX6_of (gX6_sets f1 i 6 ((gX6_of f1 i 6) + 0)) i 7) + 0)) i 5) - (gX6_of f1 i 5))) 7 (((gX6_sets (gX6_sets (gX6_sets f1 i 6 ((gX6_of f1 i 6) + 0)) i 7 ((gX6_of (gX6_sets f1 i 6 ((gX6_of f1 i 6) + 0)) i 7) + 0)) i 5 ((gX6_of (gX6_sets (gX6_sets f1 i 6 ((gX6_of f1 i 6) + 0)) i 7 ((gX6_of (gX6_sets f1 i 6 ((gX6_of f1 i 6) + 0)) i 7) + 0)) i 5) - (gX6_of f1 i 5))) 7) + (gX6_of f1 i 5)))) else (gX6_steps_L4 f fu (i + 1) (upd (gX6_sets (gX6_sets (gX6_sets f1 i 6 ((gX6_of f1 i 6) + 0)) i 7 ((gX6_of (gX6_sets f1 i 6 ((gX6_of f1 i 6) + 0)) i 7) + 1)) i 5 ((gX6_of (gX6_sets (gX6_sets f1 i 6 ((gX6_of f1 i 6) + 0)) i 7 ((gX6_of (gX6_sets f1 i 6 ((gX6_of f1 i 6) + 0)) i 7) + 1)) i 5) - (gX6_of f1 i 5))) 7 (((gX6_sets (gX6_sets (gX6_sets f1 i 6 ((gX6_of f1 i 6) + 0)) i 7 ((gX6_of (gX6_sets f1 i 6 ((gX6_of f1 i 6) + 0)) i 7) + 1)) i 5 ((gX6_of (gX6_sets (gX6_sets f1 i 6 ((gX6_of f1 i 6) + 0)) i 7 ((gX6_of (gX6_sets f1 i 6 ((gX6_of f1 i 6) + 0)) i 7) + 1)) i 5) - (gX6_of f1 i 5))) 7) + (gX6_of f1 i 5))))) else (if (gX6_is (gX6_sets f1 i 6 ((gX6_of f1 i 6) + 1)) i 1) = 0 then (gX6_steps_L4 f fu (i + 1) (upd (gX6_sets (gX6_sets (gX6_sets f1 i 6 ((gX6_of f1 i 6) + 1)) i 7 ((gX6_of (gX6_sets f1 i 6 ((gX6_of f1 i 6) + 1)) i 7) + 0)) i 5 ((gX6_of (gX6_sets (gX6_sets f1 i 6 ((gX6_of f1 i 6) + 1)) i 7 ((gX6_of (gX6_sets f1 i 6 ((gX6_of f1 i 6) + 1)) i 7) + 0)) i 5) - (gX6_of f1 i 5))) 7 (((gX6_sets (gX6_sets (gX6_sets f1 i 6 ((gX6_of f1 i 6) + 1)) i 7 ((gX6_of (gX6_sets f1 i 6 ((gX6_of f1 i 6) + 1)) i 7) + 0)) i 5 ((gX6_of (gX6_sets (gX6_sets f1 i 6 ((gX6_of f1 i 6) + 1)) i 7 ((gX6_of (gX6_sets f1 i 6 ((gX6_of f1 i 6) + 1)) i 7) + 0)) i 5) - (gX6_of f1 i 5))) 7) + (gX6_of f1 i 5)))) else (gX6_steps_L4 f fu (i + 1) (upd (gX6_sets (gX6_sets (gX6_sets f1 i 6 ((gX6_of f1 i 6) + 1)) i 7 ((gX6_of (gX6_sets f1 i 6 ((gX6_of f1 i 6) + 1)) i 7) + 1)) i 5 ((gX6_of (gX6_sets (gX6_sets f1 i 6 ((gX6_of f1 i 6) + 1)) i 7 ((gX6_of (gX6_sets f1 i 6 ((gX6_of f1 i 6) + 1)) i 7) + 1)) i 5) - (gX6_of f1 i 5))) 7 (((gX6_sets (gX6_sets (gX6_sets f1 i 6 ((gX6_of f1 i 6) + 1)) i 7 ((gX6_of (gX6_sets f1 i 6 ((gX6_of f1 i 6) + 1)) i 7) + 1)) i 5 ((gX6_of (gX6_sets (gX6_sets f1 i 6 ((gX6_of f1 i 6) + 1)) i 7 ((gX6_of (gX6_sets f1 i 6 ((gX6_of f1 i 6) + 1)) i 7) + 1)) i 5) - (gX6_of f1 i 5))) 7) + (gX6_of f1 i 5))))))))
def gX6_steps (f : FS) : Int32 × FS := (gX6_steps_L4 f ((f 4).toNatClampNeg) 0 f)
def gX6_comes (f : FS) (a1 : Int32) (a2 : Int32) (a3 : Int32) : FS := (gX6_goesThrough (gX6_sets (gX6_sets (gX6_sets (upd f 4 ((f 4) + 1)) ((f 4).toNatClampNeg) 0 a1) ((f 4).toNatClampNeg) 1 a2) ((f 4).toNatClampNeg) 2 a3) )
theorem ia {x y : Int32} (h1 : -2147483648 ≤ x.toInt + y.toInt) (h2 : x.toInt + y.toInt < 2147483648) : (x + y).toInt = x.toInt + y.toInt := by
  rw [Int32.toInt_add]
  exact Int.bmod_eq_of_le (by omega) (by omega)
theorem isb {x y : Int32} (h1 : -2147483648 ≤ x.toInt - y.toInt) (h2 : x.toInt - y.toInt < 2147483648) : (x - y).toInt = x.toInt - y.toInt := by
  rw [Int32.toInt_sub]
  exact Int.bmod_eq_of_le (by omega) (by omega)
theorem im {x y : Int32} (h1 : -2147483648 ≤ x.toInt * y.toInt) (h2 : x.toInt * y.toInt < 2147483648) : (x * y).toInt = x.toInt * y.toInt := by
  rw [Int32.toInt_mul]
  exact Int.bmod_eq_of_le (by omega) (by omega)
theorem i_eq {x y : Int32} : x = y ↔ x.toInt = y.toInt := Int32.toInt_inj.symm
theorem i_0 : (0 : Int32).toInt = 0 := rfl
theorem i_1 : (1 : Int32).toInt = 1 := rfl
theorem i_2 : (2 : Int32).toInt = 2 := rfl
theorem i_3 : (3 : Int32).toInt = 3 := rfl
def sS (g : Nat → Int32) : Nat → Int32
  | 0 => 0
  | n + 1 => sS g n + g n
theorem sS_ext {g h : Nat → Int32} {n : Nat} (e : ∀ j, j < n → g j = h j) : sS g n = sS h n := by
  induction n with
  | zero => rfl
  | succ n ih =>
    show sS g n + g n = sS h n + h n
    rw [ih (fun j hj => e j (by omega)), e n (by omega)]
theorem sS_zero {g : Nat → Int32} {n : Nat} (m : Nat) (e : ∀ j, n ≤ j → j < n + m → g j = 0) : sS g (n + m) = sS g n := by
  induction m with
  | zero => rfl
  | succ m ih =>
    show sS g (n + m) + g (n + m) = _
    rw [ih (fun j h1 h2 => e j h1 (by omega)), e (n + m) (by omega) (by omega), Int32.add_zero]
theorem sS_16 {g h : Nat → Int32} {n : Nat} (hn : n ≤ 16) (e : ∀ j, j < n → g j = h j) (z : ∀ j, n ≤ j → j < 16 → g j = 0) : sS g 16 = sS h n := by
  have e1 : sS g (n + (16 - n)) = sS g n := sS_zero (16 - n) (fun j h1 h2 => z j h1 (by omega))
  rw [show n + (16 - n) = 16 by omega] at e1
  rw [e1]
  exact sS_ext e
def sZ (g : Nat → Int) : Nat → Int
  | 0 => 0
  | n + 1 => sZ g n + g n
theorem sZ_ext {g h : Nat → Int} {n : Nat} (e : ∀ j, j < n → g j = h j) : sZ g n = sZ h n := by
  induction n with
  | zero => rfl
  | succ n ih =>
    show sZ g n + g n = sZ h n + h n
    rw [ih (fun j hj => e j (by omega)), e n (by omega)]
theorem sZ_bd {g : Nat → Int} {n : Nat} (h : ∀ j, j < n → 0 ≤ g j ∧ g j ≤ 1000) : 0 ≤ sZ g n ∧ sZ g n ≤ n * 1000 := by
  induction n with
  | zero => exact ⟨Int.le_refl _, by show (0 : Int) ≤ _; omega⟩
  | succ n ih =>
    have h1 := ih (fun j hj => h j (by omega))
    have h2 := h n (by omega)
    show 0 ≤ sZ g n + g n ∧ sZ g n + g n ≤ _
    omega
theorem sZ_change {g h : Nat → Int} {n k : Nat} (hk : k < n) (e : ∀ j, j < n → j ≠ k → g j = h j) : sZ g n = sZ h n + (g k - h k) := by
  induction n with
  | zero => omega
  | succ n ih =>
    show sZ g n + g n = sZ h n + h n + _
    by_cases hn : k = n
    · subst hn
      rw [sZ_ext (g := g) (h := h) (fun j hj => e j (by omega) (by omega))]
      omega
    · rw [ih (by omega) (fun j hj hne => e j (by omega) hne), e n (by omega) (by omega)]
      omega
theorem sZ_pos {g : Nat → Int} {n : Nat} (h : 0 < sZ g n) : ∃ j, j < n ∧ 0 < g j := by
  induction n with
  | zero => exact absurd h (Int.lt_irrefl 0)
  | succ n ih =>
    have h : 0 < sZ g n + g n := h
    by_cases h1 : 0 < g n
    · exact ⟨n, by omega, h1⟩
    · obtain ⟨j, h2, h3⟩ := ih (by omega)
      exact ⟨j, by omega, h3⟩
theorem sZ_ge {g : Nat → Int} {n k : Nat} (hk : k < n) (h : ∀ j, j < n → 0 ≤ g j) : g k ≤ sZ g n := by
  induction n with
  | zero => omega
  | succ n ih =>
    have h0 : 0 ≤ sZ g n := by
      have : ∀ m, m ≤ n → 0 ≤ sZ g m := by
        intro m
        induction m with
        | zero => intro _; exact Int.le_refl _
        | succ m ihm =>
          intro hm
          show 0 ≤ sZ g m + g m
          have := ihm (by omega)
          have := h m (by omega)
          omega
      exact this n (Nat.le_refl n)
    show g k ≤ sZ g n + g n
    by_cases hn : k = n
    · subst hn; omega
    · have := ih (by omega) (fun j hj => h j (by omega))
      have := h n (by omega)
      omega
theorem sS_Z {g : Nat → Int32} {n : Nat} (hn : n ≤ 16) (h : ∀ j, j < n → 0 ≤ (g j).toInt ∧ (g j).toInt ≤ 1000) : (sS g n).toInt = sZ (fun j => (g j).toInt) n := by
  induction n with
  | zero => rfl
  | succ n ih =>
    have e := ih (by omega) (fun j hj => h j (by omega))
    have h1 := sZ_bd (g := fun j => (g j).toInt) (n := n) (fun j hj => h j (by omega))
    have h2 := h n (by omega)
    show (sS g n + g n).toInt = sZ (fun j => (g j).toInt) n + (g n).toInt
    rw [ia (by omega) (by omega), e]
theorem gr_L {f : FS} : ∀ fu i, gX6_granted_L4 f fu i (sS (fun j => oF f j 4) i) = sS (fun j => oF f j 4) (i + fu) := by
  intro fu
  induction fu with
  | zero => intro i; rfl
  | succ fu ih =>
    intro i
    have h := ih (i + 1)
    rw [show i + (fu + 1) = i + 1 + fu by omega]
    exact h
theorem granted_eq {f : FS} : gX6_granted f = sS (fun j => oF f j 4) (f 4).toNatClampNeg := by
  have h := gr_L (f := f) (f 4).toNatClampNeg 0
  rw [Nat.zero_add] at h
  exact h
theorem sp_L {f : FS} : ∀ fu i, gX6_spares_L4 f fu i (sS (gX6_extra f) i) = sS (gX6_extra f) (i + fu) := by
  intro fu
  induction fu with
  | zero => intro i; rfl
  | succ fu ih =>
    intro i
    have h := ih (i + 1)
    rw [show i + (fu + 1) = i + 1 + fu by omega]
    exact h
theorem spares_eq {f : FS} : gX6_spares f = sS (gX6_extra f) (f 4).toNatClampNeg := by
  have h := sp_L (f := f) (f 4).toNatClampNeg 0
  rw [Nat.zero_add] at h
  exact h
abbrev b01 (x : Int32) : Int32 := if x = 0 then 0 else 1
theorem mw_L {f : FS} {a : Int32} : ∀ fu i, gX6_manyWith_L4 f a fu i (sS (fun j => b01 (gX6_is f j a)) i) = sS (fun j => b01 (gX6_is f j a)) (i + fu) := by
  intro fu
  induction fu with
  | zero => intro i; rfl
  | succ fu ih =>
    intro i
    have h := ih (i + 1)
    rw [show i + (fu + 1) = i + 1 + fu by omega, gX6_manyWith_L4, ← h]
    show _ = gX6_manyWith_L4 f a fu (i + 1) (sS _ i + (if gX6_is f i a = 0 then 0 else 1))
    split <;> rfl
theorem manyWith_eq {f : FS} {a : Int32} : gX6_manyWith f a = sS (fun j => b01 (gX6_is f j a)) (f 4).toNatClampNeg := by
  have h := mw_L (f := f) (a := a) (f 4).toNatClampNeg 0
  rw [Nat.zero_add] at h
  exact h
theorem sl_L {f : FS} : ∀ fu i, gX6_spilling_L4 f fu i (sS (fun j => b01 (gX6_spills f j)) i) = sS (fun j => b01 (gX6_spills f j)) (i + fu) := by
  intro fu
  induction fu with
  | zero => intro i; rfl
  | succ fu ih =>
    intro i
    have h := ih (i + 1)
    rw [show i + (fu + 1) = i + 1 + fu by omega, gX6_spilling_L4, ← h]
    show _ = gX6_spilling_L4 f fu (i + 1) (sS _ i + (if gX6_spills f i = 0 then 0 else 1))
    split <;> rfl
theorem spilling_eq {f : FS} : gX6_spilling f = sS (fun j => b01 (gX6_spills f j)) (f 4).toNatClampNeg := by
  have h := sl_L (f := f) (f 4).toNatClampNeg 0
  rw [Nat.zero_add] at h
  exact h
/-- one that waits and is ahead of j -/
def bAh (f : FS) (j i : Nat) : Int32 := if gX6_is f i 0 = 0 then 0 else if gX6_isAhead f i j = 0 then 0 else 1
theorem ro_L {f : FS} {a : Nat} : ∀ fu i, gX6_rankOf_L4 f a fu i (sS (bAh f a) i) = sS (bAh f a) (i + fu) := by
  intro fu
  induction fu with
  | zero => intro i; rfl
  | succ fu ih =>
    intro i
    have h := ih (i + 1)
    rw [show i + (fu + 1) = i + 1 + fu by omega, gX6_rankOf_L4, ← h]
    show _ = gX6_rankOf_L4 f a fu (i + 1) (sS (bAh f a) i + bAh f a i)
    unfold bAh
    split
    · rfl
    · split <;> rfl
theorem rankOf_eq {f : FS} {a : Nat} : gX6_rankOf f a = sS (bAh f a) (f 4).toNatClampNeg := by
  have h := ro_L (f := f) (a := a) (f 4).toNatClampNeg 0
  rw [Nat.zero_add] at h
  exact h
set_option maxRecDepth 100000 in
set_option maxHeartbeats 4000000 in
theorem root_tab : ∀ x, x < 401 → gX6_root (nI x) = gX3_root (nI x) ∧ 0 ≤ (gX6_root (nI x)).toInt ∧ (gX6_root (nI x)).toInt ≤ 20 ∧ (x = 0 ∨ 1 ≤ (gX6_root (nI x)).toInt) := by decide +kernel
theorem root_bd {x : Int32} (h : 1 ≤ x.toInt ∧ x.toInt ≤ 400) : gX6_root x = gX3_root x ∧ 1 ≤ (gX6_root x).toInt ∧ (gX6_root x).toInt ≤ 20 := by
  obtain ⟨j, hj, rfl⟩ := nI_of (x := x) (by rw [x_ilt, i_0]; omega)
  rw [nI_toInt hj] at h
  have h1 := root_tab j (by omega)
  exact ⟨h1.1, by omega, by omega⟩
/-- a way and two tables -/
def wOK (a b c : Int32) : Prop := (a = 0 ∨ a = 1 ∨ a = 2) ∧ (1 ≤ b.toInt ∧ b.toInt ≤ 200) ∧ (1 ≤ c.toInt ∧ c.toInt ≤ 200)
theorem both_i {a b c : Int32} (h : wOK a b c) : (b + c).toInt = b.toInt + c.toInt := by
  obtain ⟨-, h2, h3⟩ := h
  exact ia (by omega) (by omega)
theorem needs_bd {a b c : Int32} (h : wOK a b c) : 3 ≤ (gX6_needsOf a b c).toInt ∧ (gX6_needsOf a b c).toInt ≤ 22 := by
  have hb := both_i h
  obtain ⟨-, h2, h3⟩ := h
  unfold gX6_needsOf
  split
  · decide
  · split
    · have h4 := root_bd (x := c) (by omega)
      rw [ia (by rw [i_2]; omega) (by rw [i_2]; omega), i_2]
      omega
    · have h4 := root_bd (x := b + c) (by omega)
      rw [ia (by rw [i_2]; omega) (by rw [i_2]; omega), i_2]
      omega
theorem i_div {x : Int32} {d : Nat} (h : 0 ≤ x.toInt) (h0 : 0 < d) (hd : d < 2 ^ 31) : (x / nI d).toInt = ((x.toInt.toNat / d : Nat) : Int) := by
  obtain ⟨j, hj, rfl⟩ := nI_of (x := x) (by rw [x_ilt, i_0]; omega)
  rw [pk_div hj h0 hd, nI_toInt (Nat.lt_of_le_of_lt (Nat.div_le_self _ _) hj), nI_toInt hj]
  rfl
theorem wants_bd {a b c : Int32} (h : wOK a b c) : (gX6_needsOf a b c).toInt ≤ (gX6_wantsOf a b c).toInt ∧ (gX6_wantsOf a b c).toInt ≤ 300 := by
  have hn := needs_bd h
  have hb := both_i h
  obtain ⟨-, h2, h3⟩ := h
  have e5 := i_div (x := c) (d := 5) (by omega) (by decide) (by decide)
  have e2 := i_div (x := b + c) (d := 2) (by omega) (by decide) (by decide)
  have k5 : c.toInt.toNat / 5 ≤ 40 := by omega
  have k2 : (b + c).toInt.toNat / 2 ≤ 200 := by omega
  have e5 : (c / 5).toInt = _ := e5
  have e2 : ((b + c) / 2).toInt = _ := e2
  generalize c.toInt.toNat / 5 = z5 at e5 k5
  generalize (b + c).toInt.toNat / 2 = z2 at e2 k2
  have f0 : (c + 2).toInt = c.toInt + 2 := by rw [ia (by rw [i_2]; omega) (by rw [i_2]; omega), i_2]
  have f1 : (c + c / 5).toInt = c.toInt + z5 := by rw [ia (by omega) (by omega), e5]
  have f1' : (c + c / 5 + 2).toInt = c.toInt + z5 + 2 := by rw [ia (by rw [i_2]; omega) (by rw [i_2]; omega), i_2, f1]
  have f2 : ((b + c) / 2 + 3).toInt = z2 + 3 := by rw [ia (by rw [i_3]; omega) (by rw [i_3]; omega), i_3, e2]
  unfold gX6_wantsOf
  (repeat' split) <;> (rename_i q; rw [x_ile] at q; omega)
theorem over_bd {x y : Int32} (hx : 1 ≤ x.toInt ∧ x.toInt ≤ 400) (hy : 1 ≤ y.toInt ∧ y.toInt ≤ 1000) : 1 ≤ (gX6_over x y).toInt ∧ (gX6_over x y).toInt ≤ x.toInt := by
  unfold gX6_over
  rw [x_over ⟨by omega, by omega⟩ hy]
  have h5 : 1 ≤ y.toInt.toNat := by omega
  have h6 : (x.toInt.toNat + y.toInt.toNat - 1) / y.toInt.toNat ≤ x.toInt.toNat := by
    rw [Nat.div_le_iff_le_mul_add_pred (by omega)]
    have : x.toInt.toNat * 1 ≤ x.toInt.toNat * y.toInt.toNat := Nat.mul_le_mul_left _ h5
    rw [Nat.mul_comm y.toInt.toNat]
    omega
  have h7 : 1 ≤ (x.toInt.toNat + y.toInt.toNat - 1) / y.toInt.toNat := by
    rw [Nat.le_div_iff_mul_le (by omega)]
    omega
  generalize (x.toInt.toNat + y.toInt.toNat - 1) / y.toInt.toNat = z at h6 h7 ⊢
  omega
theorem mg_L {a b c d : Int32} : ∀ (fu t : Nat) (x : Int32), ∃ t', t ≤ t' ∧ t' ≤ t + fu ∧ gX6_workOf_L57 a b c d fu x (nI t) = (b + c) * (2 * nI t' + 1) := by
  intro fu
  induction fu with
  | zero => intro t x; exact ⟨t, Nat.le_refl _, Nat.le_refl _, rfl⟩
  | succ fu ih =>
    intro t x
    rw [gX6_workOf_L57]
    split
    · exact ⟨t, Nat.le_refl _, by omega, rfl⟩
    · obtain ⟨t', h1, h2, h3⟩ := ih (t + 1) (gX6_over x (d - 1))
      rw [nI_1]
      exact ⟨t', by omega, by omega, h3⟩
theorem imul_bd {x y A B : Int} (h1 : 1 ≤ x) (h2 : x ≤ A) (h3 : 1 ≤ y) (h4 : y ≤ B) : 1 ≤ x * y ∧ x * y ≤ A * B := by
  constructor
  · have : 1 * 1 ≤ x * y := Int.mul_le_mul h1 h3 (by omega) (by omega)
    omega
  · exact Int.mul_le_mul h2 h4 (by omega) (by omega)
theorem works_bd {a b c d : Int32} (h : wOK a b c) (hd : 3 ≤ d.toInt ∧ d.toInt ≤ 1000) : 1 ≤ (gX6_workOf a b c d).toInt ∧ (gX6_workOf a b c d).toInt ≤ 400000 := by
  have hb := both_i h
  obtain ⟨-, h2, h3⟩ := h
  have d2 : (d - 2).toInt = d.toInt - 2 := by rw [isb (by rw [i_2]; omega) (by rw [i_2]; omega), i_2]
  unfold gX6_workOf
  split
  · have ho := over_bd (x := b) (y := d - 2) (by omega) (by omega)
    have hm := imul_bd (x := c.toInt) (y := (gX6_over b (d - 2)).toInt) (A := 200) (B := 200) (by omega) (by omega) (by omega) (by omega)
    have e : (c * gX6_over b (d - 2)).toInt = c.toInt * (gX6_over b (d - 2)).toInt := im (by omega) (by omega)
    rw [ia (by omega) (by omega)]
    omega
  · split
    · split
      · rw [im (by rw [i_3]; omega) (by rw [i_3]; omega), i_3]
        omega
      · omega
    · obtain ⟨t', h4, h5, h6⟩ := mg_L (a := a) (b := b) (c := c) (d := d) 400 0 (gX6_over (b + c) d)
      rw [show (0 : Int32) = nI 0 from rfl, h6]
      have e : (2 : Int32) * nI t' + 1 = nI (2 * t' + 1) := by rw [show (2 : Int32) = nI 2 from rfl, pk_mul, nI_1]
      have ht : (nI (2 * t' + 1)).toInt = ((2 * t' + 1 : Nat) : Int) := nI_toInt (by omega)
      have hm := imul_bd (x := (b + c).toInt) (y := ((2 * t' + 1 : Nat) : Int)) (A := 400) (B := 801) (by omega) (by omega) (by omega) (by omega)
      rw [e, im (by rw [ht]; omega) (by rw [ht]; omega), ht]
      omega
