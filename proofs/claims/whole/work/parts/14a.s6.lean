/-! ===== the reference's state: scalars (historyLong, isTaken, textLong, spot, number, readMany); all; kept; tried; history; snapshot; text; read ===== -/
abbrev FS : Type := Nat → Int32
abbrev MS : Type := FS × FS × FS × FS × FS × FS × FS × FS
def moH (ma : Nat → Nat) (M : FS) : Nat × va_E := (ma 0, .inr (6, [.ref (ma 1), .ref (ma 2), .ref (ma 3), .ref (ma 4), .int (M 0), .ref (ma 5), .int (M 1), .ref (ma 6), .int (M 2), .int (M 3), .int (M 4), .ref (ma 7), .int (M 5)]))
def rowW (ck : Nat → ClassId) (a n : Nat) (f : FS) : Nat × va_E := (a, .inl (ck 0, n, .inl f))
def coreW (ck : Nat → ClassId) (ma : Nat → Nat) (M f : FS) : va_W := [moH ma M, rowW ck (ma 1) 153 f]
def mtxW (ck : Nat → ClassId) (ma : Nat → Nat) (Z : FS × FS × FS) : va_W := [moH ma Z.1, rowW ck (ma 6) 60 Z.2.1, rowW ck (ma 7) 60 Z.2.2]
def modW (ck : Nat → ClassId) (ma : Nat → Nat) (Z : MS) : va_W := [moH ma Z.1, rowW ck (ma 1) 153 Z.2.1, rowW ck (ma 2) 153 Z.2.2.1, rowW ck (ma 3) 153 Z.2.2.2.1, rowW ck (ma 4) 612 Z.2.2.2.2.1, rowW ck (ma 5) 153 Z.2.2.2.2.2.1, rowW ck (ma 6) 60 Z.2.2.2.2.2.2.1, rowW ck (ma 7) 60 Z.2.2.2.2.2.2.2]
def twoR (ck : Nat → ClassId) (a b : Nat) (f g : FS) : va_W := [rowW ck a 153 f, rowW ck b 153 g]
/-- a number of a join -/
def oF (f : FS) (j k : Nat) : Int32 := f (9 + 9 * j + k)
/-- a table's pages, roughly -/
def xT200 (x : Int32) : Prop := 0 ≤ x.toInt ∧ x.toInt ≤ 200
def xP3 (x : Int32) : Prop := 3 ≤ x.toInt ∧ x.toInt ≤ 1000
def bI (f : FS) : Prop := (f 4).toNatClampNeg ≤ 16 ∧ ∀ j, j < 16 → xT200 (oF f j 1) ∧ xT200 (oF f j 2)
theorem x_of {j k : Nat} : nI 9 + nI 9 * nI j + nI k = nI (9 + 9 * j + k) := by rw [pk_mul, nI_add, nI_add]
theorem x_ofi {j k : Nat} (hj : j < 16) (hk : k < 9) : vp_in (nI 9 + nI 9 * nI j + nI k) 153 := by rw [x_of]; exact vp_in_nI (by omega) (by decide)
theorem x_ofc {j k : Nat} (hj : j < 16) (hk : k < 9) : (nI 9 + nI 9 * nI j + nI k).toNatClampNeg = 9 + 9 * j + k := by rw [x_of]; exact nI_clamp (by omega)
theorem x_ile {x y : Int32} : x ≤ y ↔ x.toInt ≤ y.toInt := Int32.le_iff_toInt_le
theorem x_ilt {x y : Int32} : x < y ↔ x.toInt < y.toInt := Int32.lt_iff_toInt_lt
theorem x_root20 {x : Int32} (h : x.toInt ≤ 400) : x < (nI 20 + 1) * (nI 20 + 1) := by
  rw [x_ilt]
  have : ((nI 20 + 1) * (nI 20 + 1)).toInt = 441 := by decide
  omega
theorem x_tadd {x y : Int32} (hx : xT200 x) (hy : xT200 y) : 0 ≤ (x + y).toInt ∧ (x + y).toInt ≤ 400 := by
  unfold xT200 at hx hy
  have : (x + y).toInt = x.toInt + y.toInt := by
    rw [Int32.toInt_add]
    exact Int.bmod_eq_of_le (by omega) (by omega)
  omega
theorem x_t400 {x : Int32} (hx : xT200 x) : 0 ≤ x.toInt ∧ x.toInt ≤ 400 := ⟨hx.1, by have := hx.2; omega⟩
theorem x_sub2 {x : Int32} (h : xP3 x) : (x - 2).toInt = x.toInt - 2 := by
  unfold xP3 at h
  rw [Int32.toInt_sub]
  exact Int.bmod_eq_of_le (by have : (2 : Int32).toInt = 2 := rfl; omega) (by have : (2 : Int32).toInt = 2 := rfl; omega)
theorem x_sub1 {x : Int32} (h : xP3 x) : (x - 1).toInt = x.toInt - 1 := by
  unfold xP3 at h
  rw [Int32.toInt_sub]
  exact Int.bmod_eq_of_le (by have : (1 : Int32).toInt = 1 := rfl; omega) (by have : (1 : Int32).toInt = 1 := rfl; omega)
theorem x_ne0 {x : Int32} (h : 0 < x.toInt) : ¬ x = 0 := by
  intro e
  subst e
  exact absurd h (by decide)
theorem x_nz0 {x : Int32} (h : xP3 x) : ¬ x = 0 := x_ne0 (by have := h.1; omega)
theorem x_nz1 {x : Int32} (h : xP3 x) : ¬ (x - 1) = 0 := x_ne0 (by have := h.1; rw [x_sub1 h]; omega)
theorem x_nz2 {x : Int32} (h : xP3 x) : ¬ (x - 2) = 0 := x_ne0 (by have := h.1; rw [x_sub2 h]; omega)
/-- rounding up makes less of two and more -/
theorem x_over {x y : Int32} (hx : 0 ≤ x.toInt ∧ x.toInt ≤ 1000) (hy : 1 ≤ y.toInt ∧ y.toInt ≤ 1000) : ((x + y - 1) / y).toInt = ((x.toInt.toNat + y.toInt.toNat - 1) / y.toInt.toNat : Nat) := by
  obtain ⟨a, ha, rfl⟩ := nI_of (x := x) (by rw [x_ilt]; have : (0 : Int32).toInt = 0 := rfl; omega)
  obtain ⟨b, hb, rfl⟩ := nI_of (x := y) (by rw [x_ilt]; have : (0 : Int32).toInt = 0 := rfl; omega)
  rw [nI_toInt ha] at hx ⊢
  rw [nI_toInt hb] at hy ⊢
  have e : nI a + nI b - 1 = nI (a + b - 1) := by rw [nI_add]; exact pk_sub (a := a + b) (b := 1) (by omega)
  rw [e, pk_div (by omega) (by omega) hb, nI_toInt]
  · simp
  · exact Nat.lt_of_le_of_lt (Nat.div_le_self _ _) (by omega)
theorem x_overdec {x y : Int32} (h2 : ¬ x ≤ 1) (hx : x.toInt ≤ 1000) (hy : 2 ≤ y.toInt ∧ y.toInt ≤ 1000) : ((x + y - 1) / y).toInt ≤ x.toInt - 1 ∧ 0 ≤ ((x + y - 1) / y).toInt := by
  have h3 : 2 ≤ x.toInt := by rw [x_ile] at h2; have : (1 : Int32).toInt = 1 := rfl; omega
  rw [x_over ⟨by omega, hx⟩ ⟨by omega, hy.2⟩]
  have ha : x.toInt.toNat = x.toInt.toNat := rfl
  generalize hA : x.toInt.toNat = a
  generalize hB : y.toInt.toNat = b
  have h4 : 2 ≤ a := by omega
  have h5 : 2 ≤ b := by omega
  have h6 : (a + b - 1) / b ≤ a - 1 := by
    rw [Nat.div_le_iff_le_mul_add_pred (by omega)]
    have h7 : b * 1 + (a - 1 - 1) * 2 ≤ b * (a - 1) := by
      have e1 : a - 1 = 1 + (a - 1 - 1) := by omega
      have e2 : b * (a - 1) = b * 1 + b * (a - 1 - 1) := by rw [← Nat.mul_add, ← e1]
      have e3 : (a - 1 - 1) * 2 ≤ b * (a - 1 - 1) := by rw [Nat.mul_comm]; exact Nat.mul_le_mul_right _ h5
      omega
    omega
  generalize (a + b - 1) / b = z at h6 ⊢
  omega
theorem x_over400 {x y : Int32} (hx : 0 ≤ x.toInt ∧ x.toInt ≤ 400) (hy : xP3 y) : ((x + y - 1) / y).toInt ≤ 400 := by
  have h3 := hy.1
  rw [x_over ⟨hx.1, by omega⟩ ⟨by omega, hy.2⟩]
  generalize hA : x.toInt.toNat = a
  generalize hB : y.toInt.toNat = b
  have h5 : 1 ≤ b := by omega
  have h6 : (a + b - 1) / b ≤ a := by
    rw [Nat.div_le_iff_le_mul_add_pred (by omega)]
    have : a * 1 ≤ a * b := Nat.mul_le_mul_left a h5
    rw [Nat.mul_comm b a]
    omega
  generalize (a + b - 1) / b = z at h6 ⊢
  omega
