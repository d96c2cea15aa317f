/-! ===== the reference's text: what its walks need ===== -/
def tI (M : FS) : Prop := 0 ≤ (M 3).toInt ∧ (M 3).toInt ≤ (M 2).toInt ∧ (M 2).toInt ≤ 60
def hrP (M : FS) : Prop := 0 ≤ (M 5).toInt ∧ (M 5).toInt ≤ 15
theorem z_X6_isHere {Y : YS} {a1 a2 : Int32} : gX6_isHere Y a1 a2 = 0 ∨ gX6_isHere Y a1 a2 = 1 := by
  unfold gX6_isHere
  (repeat' split) <;> first | exact Or.inl rfl | exact Or.inr rfl
theorem x_vin {x : Int32} {n : Nat} (h : 0 ≤ x.toInt) (h2 : x.toInt < n) : vp_in x n := vp_in_iff.mpr ⟨h, h2⟩
theorem tI_in {M : FS} (ht : tI M) (c : ¬ M 2 ≤ M 3) : vp_in (M 3) 60 := by
  rw [x_ile] at c
  obtain ⟨h1, h2, h3⟩ := ht
  exact x_vin h1 (by omega)
theorem here_lt {Y : YS} {a b : Int32} (c : ¬ gX6_isHere Y a b = 0) : (Y.1 3).toInt < (Y.1 2).toInt := by
  unfold gX6_isHere at c
  split at c
  · exact absurd rfl c
  · rename_i h
    rw [x_ile] at h
    omega
theorem tI_here {Y : YS} {a b : Int32} (ht : tI Y.1) (c : ¬ gX6_isHere Y a b = 0) : vp_in (Y.1 3) 60 := by
  have h := here_lt c
  obtain ⟨h1, h2, h3⟩ := ht
  exact x_vin h1 (by omega)
theorem isHere_no {Y : YS} {a b : Int32} (ht : tI Y.1) (h : 60 ≤ (Y.1 3).toInt) : gX6_isHere Y a b = 0 := by
  obtain ⟨h1, h2, h3⟩ := ht
  unfold gX6_isHere
  rw [if_pos (by rw [x_ile]; omega)]
theorem x_add1 {x : Int32} (h : 0 ≤ x.toInt) (h2 : x.toInt ≤ 100000) : (x + 1).toInt = x.toInt + 1 := by
  rw [Int32.toInt_add]
  have : (1 : Int32).toInt = 1 := rfl
  exact Int.bmod_eq_of_le (by omega) (by omega)
theorem tI_adv {Y : YS} {a b v : Int32} (ht : tI Y.1) (c : ¬ gX6_isHere Y a b = 0) : tI (upd (upd Y.1 4 v) 3 (Y.1 3 + 1)) ∧ (Y.1 3 + 1).toInt = (Y.1 3).toInt + 1 := by
  have h := here_lt c
  obtain ⟨h1, h2, h3⟩ := ht
  have e := x_add1 h1 (by omega)
  refine ⟨?_, e⟩
  show 0 ≤ (Y.1 3 + 1).toInt ∧ (Y.1 3 + 1).toInt ≤ (Y.1 2).toInt ∧ (Y.1 2).toInt ≤ 60
  omega
theorem tI_fu {Y : YS} {a b : Int32} {fu : Nat} (ht : tI Y.1) (c : ¬ gX6_isHere Y a b = 0) (h : 60 ≤ (Y.1 3).toInt + ((fu + 1 : Nat) : Int)) : 60 ≤ (Y.1 3 + 1).toInt + (fu : Int) := by
  have e := (tI_adv (v := 0) ht c).2
  omega
theorem tI_fu0 {Y : YS} {a b : Int32} (ht : tI Y.1) (c : ¬ gX6_isHere Y a b = 0) : 60 ≤ (Y.1 3 + 1).toInt + ((60 : Nat) : Int) := by
  have e := (tI_adv (v := 0) ht c).2
  have h1 := ht.1
  omega
theorem takes_eq {Y : YS} {c : Int32} : (gX6_takes Y c).2 = (upd Y.1 3 (if gX6_isHere Y c c = 0 then Y.1 3 + 0 else Y.1 3 + 1), Y.2.1, Y.2.2) := by
  unfold gX6_takes
  split <;> rfl
theorem takes_3 {Y : YS} {c : Int32} (ht : tI Y.1) : (Y.1 3).toInt ≤ ((gX6_takes Y c).2.1 3).toInt ∧ ((gX6_takes Y c).2.1 3).toInt ≤ (Y.1 2).toInt ∧ (¬ (gX6_takes Y c).1 = 0 → ((gX6_takes Y c).2.1 3).toInt = (Y.1 3).toInt + 1) := by
  have h1 : (gX6_takes Y c).1 = gX6_isHere Y c c := by unfold gX6_takes; split <;> rfl
  rw [takes_eq, h1]
  show (Y.1 3).toInt ≤ (if gX6_isHere Y c c = 0 then Y.1 3 + 0 else Y.1 3 + 1).toInt ∧ (if gX6_isHere Y c c = 0 then Y.1 3 + 0 else Y.1 3 + 1).toInt ≤ _ ∧ (_ → (if gX6_isHere Y c c = 0 then Y.1 3 + 0 else Y.1 3 + 1).toInt = _)
  split
  · rename_i h
    have e : Y.1 3 + 0 = Y.1 3 := Int32.add_zero _
    rw [e]
    exact ⟨Int.le_refl _, ht.2.1, fun z => absurd h z⟩
  · rename_i h
    have h2 := (tI_adv (v := 0) ht h)
    have h3 := here_lt h
    rw [h2.2]
    omega
theorem takes_k {Y : YS} {c : Int32} {k : Nat} (hk : k ≠ 3) : (gX6_takes Y c).2.1 k = Y.1 k := by
  rw [takes_eq]
  show (if k = 3 then _ else _) = _
  rw [if_neg hk]
theorem tI_takes {Y : YS} {c : Int32} (ht : tI Y.1) : tI (gX6_takes Y c).2.1 := by
  have h := takes_3 (c := c) ht
  unfold tI at ht ⊢
  rw [takes_k (k := 2) (by decide)]
  omega
theorem hr_takes {Y : YS} {c : Int32} (hr : hrP Y.1) : hrP (gX6_takes Y c).2.1 := by
  unfold hrP
  rw [takes_k (k := 5) (by decide)]
  exact hr
theorem rnL_inv {Y : YS} : ∀ (fu : Nat) (Y1 : YS), tI Y1.1 → tI (gX6_readsNumber_L39 Y fu Y1).2.1 ∧ (gX6_readsNumber_L39 Y fu Y1).2.1 5 = Y1.1 5 ∧ (Y1.1 3).toInt ≤ ((gX6_readsNumber_L39 Y fu Y1).2.1 3).toInt ∧ (gX6_readsNumber_L39 Y fu Y1).2.1 2 = Y1.1 2 := by
  intro fu
  induction fu with
  | zero => intro Y1 ht; exact ⟨ht, rfl, Int.le_refl _, rfl⟩
  | succ fu ih =>
    intro Y1 ht
    rw [gX6_readsNumber_L39]
    split
    · exact ⟨ht, rfl, Int.le_refl _, rfl⟩
    · rename_i h
      split
      · exact ⟨ht, rfl, Int.le_refl _, rfl⟩
      · have h1 := tI_adv (v := ((10 * (Y1.1 4)) + (Y1.2.1 (Y1.1 3).toNatClampNeg)) - 48) ht h
        have h2 := ih (upd (upd Y1.1 4 (((10 * (Y1.1 4)) + (Y1.2.1 (Y1.1 3).toNatClampNeg)) - 48)) 3 ((Y1.1 3) + 1), Y1.2.1, Y1.2.2) h1.1
        refine ⟨h2.1, h2.2.1, ?_, h2.2.2.2⟩
        have h3 := h2.2.2.1
        have h4 : ((upd (upd Y1.1 4 (((10 * (Y1.1 4)) + (Y1.2.1 (Y1.1 3).toNatClampNeg)) - 48)) 3 ((Y1.1 3) + 1), Y1.2.1, Y1.2.2) : YS).1 3 = Y1.1 3 + 1 := rfl
        rw [h4, h1.2] at h3
        omega
theorem rn_inv {Y : YS} (ht : tI Y.1) : tI (gX6_readsNumber Y).2.1 ∧ (gX6_readsNumber Y).2.1 5 = Y.1 5 ∧ (Y.1 3).toInt ≤ ((gX6_readsNumber Y).2.1 3).toInt ∧ (gX6_readsNumber Y).2.1 2 = Y.1 2 ∧ (¬ (gX6_readsNumber Y).1 = 0 → (Y.1 3).toInt + 1 ≤ ((gX6_readsNumber Y).2.1 3).toInt) := by
  unfold gX6_readsNumber
  split
  · exact ⟨ht, rfl, Int.le_refl _, rfl, fun h => absurd rfl h⟩
  · rename_i h
    have h1 := tI_adv (v := (Y.2.1 (Y.1 3).toNatClampNeg) - 48) ht h
    have h2 := rnL_inv (Y := Y) 60 (upd (upd Y.1 4 ((Y.2.1 (Y.1 3).toNatClampNeg) - 48)) 3 ((Y.1 3) + 1), Y.2.1, Y.2.2) h1.1
    have h3 := h2.2.2.1
    have h4 : ((upd (upd Y.1 4 ((Y.2.1 (Y.1 3).toNatClampNeg) - 48)) 3 ((Y.1 3) + 1), Y.2.1, Y.2.2) : YS).1 3 = Y.1 3 + 1 := rfl
    rw [h4, h1.2] at h3
    exact ⟨h2.1, h2.2.1, by omega, h2.2.2.2, fun _ => h3⟩
theorem tI_readsNumber {Y : YS} (ht : tI Y.1) : tI (gX6_readsNumber Y).2.1 := (rn_inv ht).1
theorem hr_readsNumber {Y : YS} (ht : tI Y.1) (hr : hrP Y.1) : hrP (gX6_readsNumber Y).2.1 := by
  unfold hrP
  rw [(rn_inv ht).2.1]
  exact hr
theorem x_3 {x : Int32} (h : 0 ≤ x.toInt ∧ x.toInt ≤ 15) : x = nI x.toNatClampNeg ∧ x.toNatClampNeg ≤ 15 := by
  obtain ⟨j, hj, rfl⟩ := nI_of (x := x) (by rw [x_ilt]; have : (0 : Int32).toInt = 0 := rfl; omega)
  rw [nI_toInt hj] at h
  rw [nI_clamp hj]
  exact ⟨rfl, by omega⟩
theorem x_3c {M : FS} (hr : hrP M) : (3 * M 5).toNatClampNeg = 3 * (M 5).toNatClampNeg := by
  obtain ⟨h1, h2⟩ := x_3 hr
  generalize (M 5).toNatClampNeg = j at h1 h2
  rw [h1, show (3 : Int32) = nI 3 from rfl, pk_mul, nI_clamp (by omega)]
theorem x_3c1 {M : FS} (hr : hrP M) : (3 * M 5 + 1).toNatClampNeg = 3 * (M 5).toNatClampNeg + 1 := by
  obtain ⟨h1, h2⟩ := x_3 hr
  generalize (M 5).toNatClampNeg = j at h1 h2
  rw [h1, show (3 : Int32) = nI 3 from rfl, show (1 : Int32) = nI 1 from rfl, pk_mul, nI_add, nI_clamp (by omega)]
theorem x_3c2 {M : FS} (hr : hrP M) : (3 * M 5 + 2).toNatClampNeg = 3 * (M 5).toNatClampNeg + 2 := by
  obtain ⟨h1, h2⟩ := x_3 hr
  generalize (M 5).toNatClampNeg = j at h1 h2
  rw [h1, show (3 : Int32) = nI 3 from rfl, show (2 : Int32) = nI 2 from rfl, pk_mul, nI_add, nI_clamp (by omega)]
theorem x_3i {M : FS} (hr : hrP M) : vp_in (3 * M 5) 60 := by
  obtain ⟨h1, h2⟩ := x_3 hr
  generalize (M 5).toNatClampNeg = j at h1 h2
  rw [h1, show (3 : Int32) = nI 3 from rfl, pk_mul]
  exact vp_in_nI (by omega) (by decide)
theorem x_3i1 {M : FS} (hr : hrP M) : vp_in (3 * M 5 + 1) 60 := by
  obtain ⟨h1, h2⟩ := x_3 hr
  generalize (M 5).toNatClampNeg = j at h1 h2
  rw [h1, show (3 : Int32) = nI 3 from rfl, show (1 : Int32) = nI 1 from rfl, pk_mul, nI_add]
  exact vp_in_nI (by omega) (by decide)
theorem x_3i2 {M : FS} (hr : hrP M) : vp_in (3 * M 5 + 2) 60 := by
  obtain ⟨h1, h2⟩ := x_3 hr
  generalize (M 5).toNatClampNeg = j at h1 h2
  rw [h1, show (3 : Int32) = nI 3 from rfl, show (2 : Int32) = nI 2 from rfl, pk_mul, nI_add]
  exact vp_in_nI (by omega) (by decide)
theorem tI_0 {M : FS} (hL : 0 ≤ (M 2).toInt ∧ (M 2).toInt ≤ 60) : tI (upd (upd M 3 0) 5 0) := by
  show 0 ≤ (0 : Int32).toInt ∧ (0 : Int32).toInt ≤ (M 2).toInt ∧ (M 2).toInt ≤ 60
  exact ⟨by decide, hL.1, hL.2⟩
theorem h4_r {M : FS} (ht : tI M) (h4 : 0 ≤ (M 5).toInt ∧ 4 * (M 5).toInt ≤ (M 3).toInt) : hrP M := by
  unfold tI at ht
  unfold hrP
  omega
/-- a number, an x and a number, behind a way -/
def rjN (w : Int32) (Y : YS) : Int32 × YS :=
  if (gX6_readsNumber Y).1 = 0 then (0, (gX6_readsNumber Y).2) else
  if (gX6_takes (gX6_readsNumber Y).2 120).1 = 0 then (0, (gX6_takes (gX6_readsNumber Y).2 120).2) else
  if (gX6_readsNumber (gX6_takes (gX6_readsNumber Y).2 120).2).1 = 0 then (0, (gX6_readsNumber (gX6_takes (gX6_readsNumber Y).2 120).2).2) else
  (1, (upd (gX6_readsNumber (gX6_takes (gX6_readsNumber Y).2 120).2).2.1 5 (((gX6_readsNumber (gX6_takes (gX6_readsNumber Y).2 120).2).2.1 5) + 1), (gX6_readsNumber (gX6_takes (gX6_readsNumber Y).2 120).2).2.2.1, upd (upd (upd (gX6_readsNumber (gX6_takes (gX6_readsNumber Y).2 120).2).2.2.2 (3 * ((gX6_readsNumber (gX6_takes (gX6_readsNumber Y).2 120).2).2.1 5).toNatClampNeg) w) (3 * ((gX6_readsNumber (gX6_takes (gX6_readsNumber Y).2 120).2).2.1 5).toNatClampNeg + 1) ((gX6_readsNumber Y).2.1 4)) (3 * ((gX6_readsNumber (gX6_takes (gX6_readsNumber Y).2 120).2).2.1 5).toNatClampNeg + 2) ((gX6_readsNumber (gX6_takes (gX6_readsNumber Y).2 120).2).2.1 4)))
theorem rj_eq {Y : YS} : gX6_readsJoin Y = (if (gX6_takes Y 108).1 = 0 then (if (gX6_takes (gX6_takes Y 108).2 98).1 = 0 then (if (gX6_takes (gX6_takes (gX6_takes Y 108).2 98).2 109).1 = 0 then (0, (gX6_takes (gX6_takes (gX6_takes Y 108).2 98).2 109).2) else rjN 2 (gX6_takes (gX6_takes (gX6_takes Y 108).2 98).2 109).2) else rjN 1 (gX6_takes (gX6_takes Y 108).2 98).2) else rjN 0 (gX6_takes Y 108).2) := rfl
theorem rjN_ok {w : Int32} {Y : YS} (ht : tI Y.1) (c : ¬ (rjN w Y).1 = 0) : tI (rjN w Y).2.1 ∧ (rjN w Y).2.1 5 = Y.1 5 + 1 ∧ (Y.1 3).toInt + 3 ≤ ((rjN w Y).2.1 3).toInt := by
  have h1 := rn_inv ht
  have t1 := tI_readsNumber ht
  have h2 := takes_3 (c := 120) t1
  have t2 := tI_takes (c := 120) t1
  have k2 := takes_k (Y := (gX6_readsNumber Y).2) (c := 120) (k := 5) (by decide)
  have h3 := rn_inv t2
  have t3 := tI_readsNumber t2
  unfold rjN at c ⊢
  generalize gX6_readsNumber Y = r1 at *
  generalize gX6_takes r1.2 120 = r2 at *
  generalize gX6_readsNumber r2.2 = r3 at *
  by_cases c1 : r1.1 = 0
  · rw [if_pos c1] at c; exact absurd rfl c
  · by_cases c2 : r2.1 = 0
    · rw [if_neg c1, if_pos c2] at c; exact absurd rfl c
    · by_cases c3 : r3.1 = 0
      · rw [if_neg c1, if_neg c2, if_pos c3] at c; exact absurd rfl c
      · rw [if_neg c1, if_neg c2, if_neg c3]
        have a1 := h1.2.2.2.2 c1
        have a2 := h2.2.2 c2
        have a3 := h3.2.2.2.2 c3
        refine ⟨?_, ?_, ?_⟩
        · show 0 ≤ (r3.2.1 3).toInt ∧ (r3.2.1 3).toInt ≤ (r3.2.1 2).toInt ∧ (r3.2.1 2).toInt ≤ 60
          exact t3
        · show r3.2.1 5 + 1 = _
          rw [h3.2.1, k2, h1.2.1]
        · show (Y.1 3).toInt + 3 ≤ (r3.2.1 3).toInt
          omega
theorem rj_ok {Y1 : YS} (ht : tI Y1.1) (c : ¬ (gX6_readsJoin Y1).1 = 0) : tI (gX6_readsJoin Y1).2.1 ∧ (gX6_readsJoin Y1).2.1 5 = Y1.1 5 + 1 ∧ (Y1.1 3).toInt + 4 ≤ ((gX6_readsJoin Y1).2.1 3).toInt := by
  rw [rj_eq] at c ⊢
  have h1 := takes_3 (c := 108) ht
  have t1 := tI_takes (c := 108) ht
  have k1 := takes_k (Y := Y1) (c := 108) (k := 5) (by decide)
  have h2 := takes_3 (c := 98) t1
  have t2 := tI_takes (c := 98) t1
  have k2 := takes_k (Y := (gX6_takes Y1 108).2) (c := 98) (k := 5) (by decide)
  have h3 := takes_3 (c := 109) t2
  have t3 := tI_takes (c := 109) t2
  have k3 := takes_k (Y := (gX6_takes (gX6_takes Y1 108).2 98).2) (c := 109) (k := 5) (by decide)
  generalize gX6_takes Y1 108 = r1 at *
  generalize gX6_takes r1.2 98 = r2 at *
  generalize gX6_takes r2.2 109 = r3 at *
  by_cases c1 : r1.1 = 0
  · rw [if_pos c1] at c ⊢
    by_cases c2 : r2.1 = 0
    · rw [if_pos c2] at c ⊢
      by_cases c3 : r3.1 = 0
      · rw [if_pos c3] at c; exact absurd rfl c
      · rw [if_neg c3] at c ⊢
        have hk := rjN_ok t3 c
        have a3 := h3.2.2 c3
        exact ⟨hk.1, by rw [hk.2.1, k3, k2, k1], by omega⟩
    · rw [if_neg c2] at c ⊢
      have hk := rjN_ok t2 c
      have a2 := h2.2.2 c2
      exact ⟨hk.1, by rw [hk.2.1, k2, k1], by omega⟩
  · rw [if_neg c1] at c ⊢
    have hk := rjN_ok t1 c
    have a1 := h1.2.2 c1
    exact ⟨hk.1, by rw [hk.2.1, k1], by omega⟩
theorem rj_step {Y1 : YS} {c2 : Int32} (ht : tI Y1.1) (h4 : 0 ≤ (Y1.1 5).toInt ∧ 4 * (Y1.1 5).toInt ≤ (Y1.1 3).toInt) (c : ¬ (gX6_readsJoin Y1).1 = 0) :
    tI (gX6_readsJoin Y1).2.1 ∧ tI (gX6_takes (gX6_readsJoin Y1).2 c2).2.1 ∧ (0 ≤ ((gX6_takes (gX6_readsJoin Y1).2 c2).2.1 5).toInt ∧ 4 * ((gX6_takes (gX6_readsJoin Y1).2 c2).2.1 5).toInt ≤ ((gX6_takes (gX6_readsJoin Y1).2 c2).2.1 3).toInt) ∧ (Y1.1 3).toInt + 1 ≤ ((gX6_takes (gX6_readsJoin Y1).2 c2).2.1 3).toInt := by
  have h := rj_ok ht c
  have t := takes_3 (c := c2) h.1
  have k := takes_k (Y := (gX6_readsJoin Y1).2) (c := c2) (k := 5) (by decide)
  have hb := ht.2
  have e : (Y1.1 5 + 1).toInt = (Y1.1 5).toInt + 1 := x_add1 h4.1 (by omega)
  rw [k, h.2.1, e]
  exact ⟨h.1, tI_takes h.1, by omega, by omega⟩
theorem rj_fu {x y : Int} {fu : Nat} (h : x + 1 ≤ y) (hfu : 61 ≤ x + ((fu + 1 : Nat) : Int)) : 61 ≤ y + (fu : Int) := by omega
