/-! ===== what the walks of the reference's loops need ===== -/
abbrev mostOf (f1 : FS) : Nat := gX6_asksBack_L11 f1 ((f1 4).toNatClampNeg - 1) 1 0
theorem en_pos {f1 : FS} {x1 : Int32} (hm : mInv f1) (he : enough f1 x1) (h0 : ¬ x1 ≤ 0) : 1 ≤ (f1 4).toNatClampNeg := sorry
theorem ab_step {f1 : FS} {x1 m : Int32} (hm : mInv f1) (he : enough f1 x1) (h0 : ¬ x1 ≤ 0)
    (hc : (m = gX6_extra f1 (gX6_asksBack_L11 f1 ((f1 4).toNatClampNeg - 1) 1 0) ∧ ¬ x1 ≤ gX6_extra f1 (gX6_asksBack_L11 f1 ((f1 4).toNatClampNeg - 1) 1 0)) ∨ (m = x1 ∧ x1 ≤ gX6_extra f1 (gX6_asksBack_L11 f1 ((f1 4).toNatClampNeg - 1) 1 0))) :
    xP3 (gX6_of f1 (gX6_asksBack_L11 f1 ((f1 4).toNatClampNeg - 1) 1 0) 4 - m) ∧ xP3 (gX6_of f1 (gX6_asksBack_L11 f1 ((f1 4).toNatClampNeg - 1) 1 0) 4) ∧ ¬ (gX6_works f1 (gX6_asksBack_L11 f1 ((f1 4).toNatClampNeg - 1) 1 0) (gX6_of f1 (gX6_asksBack_L11 f1 ((f1 4).toNatClampNeg - 1) 1 0) 4)).toInt64 = 0 ∧
      mInv (gX6_givesBack f1 (gX6_asksBack_L11 f1 ((f1 4).toNatClampNeg - 1) 1 0) m) ∧ enough (gX6_givesBack f1 (gX6_asksBack_L11 f1 ((f1 4).toNatClampNeg - 1) 1 0) m) (x1 - m) ∧ (x1 - m).toInt < x1.toInt := sorry
theorem bI_ab {f : FS} {x : Int32} (hm : mInv f) (he : enough f x) : bI (gX6_asksBack f x) := sorry
theorem st_enough {f : FS} {j : Nat} (hm : mInv f) (hj : j < 16) (h1 : gX6_free f < gX6_needs f j) (h2 : ¬ gX6_free f + gX6_spares f < gX6_needs f j) : enough f (gX6_needs f j - gX6_free f) := sorry
theorem st_pfree {f : FS} {j : Nat} (hm : mInv f) (hj : j < 16) (h1 : ¬ gX6_free f < gX6_needs f j) : xP3 (gX6_free f) := sorry
theorem st_pwant {f : FS} {j : Nat} (hm : mInv f) (hj : j < 16) : xP3 (gX6_wants f j) := sorry
theorem st_pneed {f : FS} {j : Nat} (hm : mInv f) (hj : j < 16) : xP3 (gX6_needs f j) := sorry
theorem rk_some {f : FS} {x : Int32} (hm : mInv f) (hx : x = gX6_ranked f 0) (h : ¬ x = (-5)) : x = nI x.toNatClampNeg ∧ x.toNatClampNeg < 16 ∧ x.toNatClampNeg < (f 4).toNatClampNeg ∧ oF f x.toNatClampNeg 3 = 0 := sorry
theorem rk_none {f : FS} {x : Int32} (hm : mInv f) (hx : x = gX6_ranked f 0) (h : wcnt f (f 4).toNatClampNeg ≤ 0) : x = (-5) := sorry
theorem wcnt_le {f : FS} (hm : mInv f) : wcnt f (f 4).toNatClampNeg ≤ 16 := sorry
theorem gt_step {f : FS} {x : Int32} (hm : mInv f) (hx : x = nI x.toNatClampNeg ∧ x.toNatClampNeg < 16 ∧ x.toNatClampNeg < (f 4).toNatClampNeg ∧ oF f x.toNatClampNeg 3 = 0) (h : ¬ (gX6_starts f x.toNatClampNeg).1 = 0) :
    mInv (gX6_starts f x.toNatClampNeg).2 ∧ wcnt (gX6_starts f x.toNatClampNeg).2 ((gX6_starts f x.toNatClampNeg).2 4).toNatClampNeg < wcnt f (f 4).toNatClampNeg := sorry
/-- a join in a step, whose work may be done -/
def mJ0 (f : FS) (j : Nat) : Prop :=
  (oF f j 0 = 0 ∨ oF f j 0 = 1 ∨ oF f j 0 = 2) ∧ (1 ≤ (oF f j 1).toInt ∧ (oF f j 1).toInt ≤ 200) ∧ (1 ≤ (oF f j 2).toInt ∧ (oF f j 2).toInt ≤ 200) ∧
  (oF f j 3 = 0 ∨ oF f j 3 = 1 ∨ oF f j 3 = 2 ∨ oF f j 3 = 3) ∧
  (oF f j 3 = 1 → (gX6_needs f j).toInt ≤ (oF f j 4).toInt ∧ (oF f j 4).toInt ≤ 500 ∧ 0 ≤ (oF f j 5).toInt ∧ (oF f j 5).toInt ≤ (501 - (oF f j 4).toInt) * (gX6_works f j (oF f j 4)).toInt) ∧
  (¬ oF f j 3 = 1 → oF f j 4 = 0 ∧ oF f j 5 = 0)
def sA (f : FS) (i : Nat) (f1 : FS) : Prop := mB f1 ∧ f1 4 = f 4 ∧ (∀ j, j < (f 4).toNatClampNeg → if j < i then mJ0 f1 j else mJ f1 j)
def sB (f : FS) (i : Nat) (f1 : FS) : Prop := mB f1 ∧ f1 4 = f 4 ∧ (∀ j, j < (f 4).toNatClampNeg → if j < i then mJ f1 j else mJ0 f1 j)
theorem sA_0 {f : FS} (hm : mInv f) : sA f 0 f := sorry
theorem sA_1 {f f1 : FS} {i : Nat} {A B C : Int32} (hs : sA f i f1) (hi : i < (f 4).toNatClampNeg) (c : gX6_is f1 i 1 = 0) : sA f (i + 1) (upd (gX6_sets (gX6_sets (gX6_sets f1 i 6 A) i 7 B) i 5 (gX6_of (gX6_sets (gX6_sets f1 i 6 A) i 7 B) i 5 - 0)) 7 C) := sorry
theorem sA_2 {f f1 : FS} {i : Nat} {A B C : Int32} (hs : sA f i f1) (hi : i < (f 4).toNatClampNeg) (c : ¬ gX6_is f1 i 1 = 0) (d : ¬ f1 3 ≤ gX6_of f1 i 5) : sA f (i + 1) (upd (gX6_sets (gX6_sets (gX6_sets f1 i 6 A) i 7 B) i 5 (gX6_of (gX6_sets (gX6_sets f1 i 6 A) i 7 B) i 5 - gX6_of f1 i 5)) 7 C) := sorry
theorem sA_3 {f f1 : FS} {i : Nat} {A B C : Int32} (hs : sA f i f1) (hi : i < (f 4).toNatClampNeg) (c : ¬ gX6_is f1 i 1 = 0) (d : f1 3 ≤ gX6_of f1 i 5) : sA f (i + 1) (upd (gX6_sets (gX6_sets (gX6_sets f1 i 6 A) i 7 B) i 5 (gX6_of (gX6_sets (gX6_sets f1 i 6 A) i 7 B) i 5 - f1 3)) 7 C) := sorry
theorem sA_n {f f1 : FS} {i : Nat} (hs : sA f i f1) (hi : i = (f 4).toNatClampNeg) : sB f 0 f1 := sorry
theorem sB_1 {f f1 : FS} {i : Nat} (hs : sB f i f1) (hi : i < (f 4).toNatClampNeg) (c : gX6_is f1 i 1 = 0) : sB f (i + 1) f1 := sorry
theorem sB_2 {f f1 : FS} {i : Nat} (hs : sB f i f1) (hi : i < (f 4).toNatClampNeg) (c : ¬ gX6_is f1 i 1 = 0) (d : ¬ gX6_of f1 i 5 = 0) : sB f (i + 1) f1 := sorry
theorem sB_3 {f f1 : FS} {i : Nat} (hs : sB f i f1) (hi : i < (f 4).toNatClampNeg) (c : ¬ gX6_is f1 i 1 = 0) (d : gX6_of f1 i 5 = 0) : sB f (i + 1) (gX6_ends f1 i 2) := sorry
theorem sB_n {f f1 : FS} {i : Nat} {v : Int32} (hs : sB f i f1) (hi : i = (f 4).toNatClampNeg) : mInv (upd f1 6 v) := sorry
theorem n4_of {f : FS} (hm : mInv f) : f 4 = nI (f 4).toNatClampNeg := sorry
theorem n16_of {f : FS} (hm : mInv f) (h : ¬ f 4 = 16) : (f 4).toNatClampNeg < 16 := sorry
/-- a way and two tables as the document wants them -/
def okJ (a1 a2 a3 : Int32) : Prop := (a1 = 0 ∨ a1 = 1 ∨ a1 = 2) ∧ (1 ≤ a2.toInt ∧ a2.toInt ≤ 200) ∧ (1 ≤ a3.toInt ∧ a3.toInt ≤ 200)
theorem cm_inv {f : FS} {a1 a2 a3 : Int32} (hm : mInv f) (h16 : ¬ f 4 = 16) (hc : okJ a1 a2 a3) : mInv (gX6_sets (gX6_sets (gX6_sets (upd f 4 (f 4 + 1)) (f 4).toNatClampNeg 0 a1) (f 4).toNatClampNeg 1 a2) (f 4).toNatClampNeg 2 a3) := sorry
