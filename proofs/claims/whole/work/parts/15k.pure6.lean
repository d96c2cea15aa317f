/-! ===== what the reference reads from its text ===== -/
def numP (x : Int32) : Prop := 1 ≤ x.toInt ∧ x.toInt ≤ 200
/-- all but the place and the number is as it was -/
def kpS (Y Y' : YS) : Prop := (∀ k, k ≠ 3 → k ≠ 4 → Y'.1 k = Y.1 k) ∧ Y'.2 = Y.2
theorem kpS.trans' {a b c : YS} (h1 : kpS a b) (h2 : kpS b c) : kpS a c := ⟨fun k h3 h4 => (h2.1 k h3 h4).trans (h1.1 k h3 h4), h2.2.trans h1.2⟩
theorem kp_takes {Y : YS} {c : Int32} : kpS Y (gX6_takes Y c).2 := ⟨fun k h3 _ => takes_k h3, by rw [takes_eq]⟩
theorem here_c {Y : YS} {a b : Int32} (c : ¬ gX6_isHere Y a b = 0) : a.toInt ≤ (Y.2.1 (Y.1 3).toNatClampNeg).toInt ∧ (Y.2.1 (Y.1 3).toNatClampNeg).toInt ≤ b.toInt := by
  unfold gX6_isHere at c
  split at c
  · exact absurd rfl c
  · rename_i h
    by_cases h2 : gX6_in (Y.2.1 (Y.1 3).toNatClampNeg).toInt64 a.toInt64 b.toInt64 = 0
    · rw [if_pos h2] at c; exact absurd rfl c
    · have := in_ne.mp h2
      rw [Int32.toInt_toInt64, Int32.toInt_toInt64] at this
      exact this
theorem kp_rnL {Y : YS} : ∀ (fu : Nat) (Y1 : YS), kpS Y1 (gX6_readsNumber_L39 Y fu Y1).2 ∧ (numP (Y1.1 4) → numP ((gX6_readsNumber_L39 Y fu Y1).2.1 4)) ∧ (gX6_readsNumber_L39 Y fu Y1).1 = 1 := by
  intro fu
  induction fu with
  | zero => intro Y1; exact ⟨⟨fun _ _ _ => rfl, rfl⟩, fun h => h, rfl⟩
  | succ fu ih =>
    intro Y1
    rw [gX6_readsNumber_L39]
    split
    · exact ⟨⟨fun _ _ _ => rfl, rfl⟩, fun h => h, rfl⟩
    · rename_i c
      split
      · exact ⟨⟨fun _ _ _ => rfl, rfl⟩, fun h => h, rfl⟩
      · rename_i d
        obtain ⟨h1, h2, h3⟩ := ih (upd (upd Y1.1 4 (((10 * (Y1.1 4)) + (Y1.2.1 (Y1.1 3).toNatClampNeg)) - 48)) 3 ((Y1.1 3) + 1), Y1.2.1, Y1.2.2)
        refine ⟨⟨fun k h5 h4 => ?_, h1.2⟩, fun hn => h2 ?_, h3⟩
        · rw [h1.1 k h5 h4]
          show upd (upd Y1.1 4 _) 3 _ k = _
          rw [f_upd, if_neg h5, f_upd, if_neg h4]
        · show numP (((10 * (Y1.1 4)) + (Y1.2.1 (Y1.1 3).toNatClampNeg)) - 48)
          obtain ⟨n1, n2⟩ := hn
          have hc := here_c c
          have e48 : (48 : Int32).toInt = 48 := rfl
          have e57 : (57 : Int32).toInt = 57 := rfl
          have e10 : (10 : Int32).toInt = 10 := rfl
          have e200 : (200 : Int32).toInt = 200 := rfl
          rw [e48, e57] at hc
          have em : (10 * Y1.1 4).toInt = 10 * (Y1.1 4).toInt := by rw [im (by rw [e10]; omega) (by rw [e10]; omega), e10]
          have ea : (10 * Y1.1 4 + Y1.2.1 (Y1.1 3).toNatClampNeg).toInt = 10 * (Y1.1 4).toInt + (Y1.2.1 (Y1.1 3).toNatClampNeg).toInt := by rw [ia (by omega) (by omega), em]
          have es : (10 * Y1.1 4 + Y1.2.1 (Y1.1 3).toNatClampNeg - 48).toInt = 10 * (Y1.1 4).toInt + (Y1.2.1 (Y1.1 3).toNatClampNeg).toInt - 48 := by rw [isb (by omega) (by omega), ea, e48]
          rw [x_ilt, es, e200] at d
          exact ⟨by omega, by omega⟩
theorem kp_rn {Y : YS} : kpS Y (gX6_readsNumber Y).2 ∧ (¬ (gX6_readsNumber Y).1 = 0 → numP ((gX6_readsNumber Y).2.1 4)) := by
  unfold gX6_readsNumber
  split
  · exact ⟨⟨fun _ _ _ => rfl, rfl⟩, fun h => absurd rfl h⟩
  · rename_i c
    obtain ⟨h1, h2, h3⟩ := kp_rnL (Y := Y) 60 (upd (upd Y.1 4 ((Y.2.1 (Y.1 3).toNatClampNeg) - 48)) 3 ((Y.1 3) + 1), Y.2.1, Y.2.2)
    refine ⟨⟨fun k h5 h4 => ?_, h1.2⟩, fun _ => h2 ?_⟩
    · rw [h1.1 k h5 h4]
      show upd (upd Y.1 4 _) 3 _ k = _
      rw [f_upd, if_neg h5, f_upd, if_neg h4]
    · show numP ((Y.2.1 (Y.1 3).toNatClampNeg) - 48)
      have hc := here_c c
      have e49 : (49 : Int32).toInt = 49 := rfl
      have e57 : (57 : Int32).toInt = 57 := rfl
      have e48 : (48 : Int32).toInt = 48 := rfl
      rw [e49, e57] at hc
      have es : (Y.2.1 (Y.1 3).toNatClampNeg - 48).toInt = (Y.2.1 (Y.1 3).toNatClampNeg).toInt - 48 := by rw [isb (by omega) (by omega), e48]
      exact ⟨by omega, by omega⟩
/-- what a join's reading leaves, and what it brings -/
def rdP (Y : YS) (r : Int32 × YS) : Prop := (∀ k, k ≠ 3 → k ≠ 4 → k ≠ 5 → r.2.1 k = Y.1 k) ∧ r.2.2.1 = Y.2.1 ∧ ((r.1 = 0 ∧ r.2.1 5 = Y.1 5 ∧ r.2.2.2 = Y.2.2) ∨
  (r.1 = 1 ∧ ∃ w a b : Int32, (w = 0 ∨ w = 1 ∨ w = 2) ∧ numP a ∧ numP b ∧ r.2.1 5 = Y.1 5 + 1 ∧ r.2.2.2 = upd (upd (upd Y.2.2 (3 * (Y.1 5).toNatClampNeg) w) (3 * (Y.1 5).toNatClampNeg + 1) a) (3 * (Y.1 5).toNatClampNeg + 2) b))
theorem rdP_0 {Y : YS} {Y' : YS} (h : kpS Y Y') : rdP Y (0, Y') := ⟨fun k h3 h4 _ => h.1 k h3 h4, congrArg Prod.fst h.2, Or.inl ⟨rfl, h.1 5 (by decide) (by decide), congrArg Prod.snd h.2⟩⟩
theorem rdP_k {Y Y' : YS} {r : Int32 × YS} (h : kpS Y Y') (hr : rdP Y' r) : rdP Y r := by
  obtain ⟨h1, h2, h3⟩ := hr
  refine ⟨fun k a b c => (h1 k a b c).trans (h.1 k a b), h2.trans (congrArg Prod.fst h.2), ?_⟩
  rw [h.1 5 (by decide) (by decide), show Y'.2.2 = Y.2.2 from congrArg Prod.snd h.2] at h3
  exact h3
theorem rjN_P {w : Int32} {Y : YS} (hw : w = 0 ∨ w = 1 ∨ w = 2) : rdP Y (rjN w Y) := by
  have h1 := kp_rn (Y := Y)
  have h2 := kp_takes (Y := (gX6_readsNumber Y).2) (c := 120)
  have h3 := kp_rn (Y := (gX6_takes (gX6_readsNumber Y).2 120).2)
  unfold rjN
  generalize gX6_readsNumber Y = r1 at *
  generalize gX6_takes r1.2 120 = r2 at *
  generalize gX6_readsNumber r2.2 = r3 at *
  have k3 := (h1.1.trans' h2).trans' h3.1
  by_cases c1 : r1.1 = 0
  · rw [if_pos c1]; exact rdP_0 h1.1
  · by_cases c2 : r2.1 = 0
    · rw [if_neg c1, if_pos c2]; exact rdP_0 (h1.1.trans' h2)
    · by_cases c3 : r3.1 = 0
      · rw [if_neg c1, if_neg c2, if_pos c3]; exact rdP_0 k3
      · rw [if_neg c1, if_neg c2, if_neg c3]
        have e5 : r3.2.1 5 = Y.1 5 := k3.1 5 (by decide) (by decide)
        have er : r3.2.2.2 = Y.2.2 := congrArg Prod.snd k3.2
        refine ⟨fun k a b c => ?_, (show r3.2.2.1 = Y.2.1 from congrArg Prod.fst k3.2), Or.inr ⟨rfl, w, r1.2.1 4, r3.2.1 4, hw, h1.2 c1, h3.2 c3, ?_, ?_⟩⟩
        · show upd r3.2.1 5 _ k = _
          rw [f_upd, if_neg c]
          exact k3.1 k a b
        · show r3.2.1 5 + 1 = _
          rw [e5]
        · show upd (upd (upd r3.2.2.2 (3 * (r3.2.1 5).toNatClampNeg) w) (3 * (r3.2.1 5).toNatClampNeg + 1) (r1.2.1 4)) (3 * (r3.2.1 5).toNatClampNeg + 2) (r3.2.1 4) = _
          rw [e5, er]
theorem rj_P {Y : YS} : rdP Y (gX6_readsJoin Y) := by
  rw [rj_eq]
  have h1 := kp_takes (Y := Y) (c := 108)
  have h2 := kp_takes (Y := (gX6_takes Y 108).2) (c := 98)
  have h3 := kp_takes (Y := (gX6_takes (gX6_takes Y 108).2 98).2) (c := 109)
  generalize gX6_takes Y 108 = r1 at *
  generalize gX6_takes r1.2 98 = r2 at *
  generalize gX6_takes r2.2 109 = r3 at *
  have k3 := (h1.trans' h2).trans' h3
  by_cases c1 : r1.1 = 0
  · rw [if_pos c1]
    by_cases c2 : r2.1 = 0
    · rw [if_pos c2]
      by_cases c3 : r3.1 = 0
      · rw [if_pos c3]; exact rdP_0 k3
      · rw [if_neg c3]; exact rdP_k k3 (rjN_P (Or.inr (Or.inr rfl)))
    · rw [if_neg c2]; exact rdP_k (h1.trans' h2) (rjN_P (Or.inr (Or.inl rfl)))
  · rw [if_neg c1]; exact rdP_k h1 (rjN_P (Or.inl rfl))
/-- the rows that were read are joins -/
def entP (Y : YS) : Prop := ∀ j, j < (Y.1 5).toNatClampNeg → okJ (Y.2.2 (3 * j)) (Y.2.2 (3 * j + 1)) (Y.2.2 (3 * j + 2))
def faI (Y Y1 : YS) : Prop := (∀ k, k ≠ 3 → k ≠ 4 → k ≠ 5 → Y1.1 k = Y.1 k) ∧ Y1.2.1 = Y.2.1 ∧ hrP Y1.1 ∧ entP Y1
theorem faI_rj {Y Y1 : YS} (h : faI Y Y1) (h14 : (gX6_readsJoin Y1).1 = 0 ∨ (Y1.1 5).toInt ≤ 14) : faI Y (gX6_readsJoin Y1).2 := by
  have hP := rj_P (Y := Y1)
  obtain ⟨h1, h2, h3, h4⟩ := h
  obtain ⟨p1, p2, p3⟩ := hP
  refine ⟨fun k a b c => (p1 k a b c).trans (h1 k a b c), p2.trans h2, ?_⟩
  rcases p3 with ⟨p3, p4, p5⟩ | ⟨p3, w, a, b, hw, ha, hb, p4, p5⟩
  · unfold hrP entP
    rw [p4, p5]
    exact ⟨h3, h4⟩
  · have h14 : (Y1.1 5).toInt ≤ 14 := h14.resolve_left (fun e => by rw [p3] at e; exact absurd e (by decide))
    obtain ⟨j, hj, e, ej⟩ := i_nI h3.1
    have hc : (Y1.1 5).toNatClampNeg = j := by rw [e, nI_clamp hj]
    have e1 : (Y1.1 5 + 1) = nI (j + 1) := by rw [e, nI_1]
    unfold hrP entP
    rw [p4, p5, e1, nI_toInt (by omega), nI_clamp (by omega), hc]
    refine ⟨by omega, fun i hi => ?_⟩
    by_cases h : i = j
    · subst h
      have u0 : upd (upd (upd Y1.2.2 (3 * i) w) (3 * i + 1) a) (3 * i + 2) b (3 * i) = w := by rw [f_upd, if_neg (by omega), f_upd, if_neg (by omega), f_upd, if_pos rfl]
      have u1 : upd (upd (upd Y1.2.2 (3 * i) w) (3 * i + 1) a) (3 * i + 2) b (3 * i + 1) = a := by rw [f_upd, if_neg (by omega), f_upd, if_pos rfl]
      have u2 : upd (upd (upd Y1.2.2 (3 * i) w) (3 * i + 1) a) (3 * i + 2) b (3 * i + 2) = b := by rw [f_upd, if_pos rfl]
      rw [u0, u1, u2]
      exact ⟨hw, ha, hb⟩
    · have u : ∀ k, k < 3 → upd (upd (upd Y1.2.2 (3 * j) w) (3 * j + 1) a) (3 * j + 2) b (3 * i + k) = Y1.2.2 (3 * i + k) := fun k hk => by rw [f_upd, if_neg (by omega), f_upd, if_neg (by omega), f_upd, if_neg (by omega)]
      have u0 : upd (upd (upd Y1.2.2 (3 * j) w) (3 * j + 1) a) (3 * j + 2) b (3 * i) = Y1.2.2 (3 * i) := u 0 (by decide)
      rw [u0, u 1 (by decide), u 2 (by decide)]
      exact h4 i (by omega)
theorem faI_takes {Y Y1 : YS} {c : Int32} (h : faI Y Y1) : faI Y (gX6_takes Y1 c).2 := by
  have k := kp_takes (Y := Y1) (c := c)
  obtain ⟨h1, h2, h3, h4⟩ := h
  refine ⟨fun i a b d => (k.1 i a b).trans (h1 i a b d), (congrArg Prod.fst k.2).trans h2, ?_⟩
  unfold hrP entP
  rw [k.1 5 (by decide) (by decide), show (gX6_takes Y1 c).2.2.2 = Y1.2.2 from congrArg Prod.snd k.2]
  exact ⟨h3, h4⟩
theorem fault_L {Y : YS} : ∀ (fu : Nat) (x : Int32) (Y1 : YS), faI Y Y1 → tI Y1.1 → (0 ≤ (Y1.1 5).toInt ∧ 4 * (Y1.1 5).toInt ≤ (Y1.1 3).toInt) → faI Y (gX6_fault_L12 Y fu x Y1).2 := by
  intro fu
  induction fu with
  | zero => intro x Y1 h _ _; exact h
  | succ fu ih =>
    intro x Y1 h ht h4
    rw [gX6_fault_L12]
    split
    · split <;> exact h
    · by_cases c : (gX6_readsJoin Y1).1 = 0
      · rw [if_pos c]
        exact faI_rj h (Or.inl c)
      · rw [if_neg c]
        have hs := rj_step (c2 := 44) ht h4 c
        have h14 : (Y1.1 5).toInt ≤ 14 := by
          have := rj_ok ht c
          have h6 := this.1.2
          have e : (Y1.1 5 + 1).toInt = (Y1.1 5).toInt + 1 := x_add1 h4.1 (by have := ht.2; omega)
          have := hs.2.2.1
          have hb := hs.2.1.2
          have k := (kp_takes (Y := (gX6_readsJoin Y1).2) (c := 44)).1 5 (by decide) (by decide)
          rw [k, (rj_ok ht c).2.1, e] at this
          omega
        exact ih _ _ (faI_takes (faI_rj h (Or.inr h14))) hs.2.1 hs.2.2.1
theorem fa_ok {Y : YS} (hL : 0 ≤ (Y.1 2).toInt ∧ (Y.1 2).toInt ≤ 60) : faI Y (gX6_fault Y).2 := by
  refine fault_L _ _ _ ⟨fun k h3 h4 h5 => ?_, rfl, ?_, fun j hj => ?_⟩ (tI_0 hL) ?_
  · show upd (upd Y.1 3 0) 5 0 k = _
    rw [f_upd, if_neg h5, f_upd, if_neg h3]
  · show 0 ≤ (0 : Int32).toInt ∧ (0 : Int32).toInt ≤ 15
    decide
  · have : j < (0 : Int32).toNatClampNeg := hj
    exact absurd this (Nat.not_lt_zero j)
  · show 0 ≤ (0 : Int32).toInt ∧ 4 * (0 : Int32).toInt ≤ (0 : Int32).toInt
    decide
/-! the rows that come -/
theorem aa_5 {M : FS} (h : hrP M) : M 5 = nI (M 5).toNatClampNeg ∧ (M 5).toNatClampNeg ≤ 15 := x_3 h
theorem aa_le {x : Int32} {i : Nat} (h : x = nI x.toNatClampNeg ∧ x.toNatClampNeg ≤ 15) (hi : x.toNatClampNeg ≤ i) (hi2 : i ≤ 15) : 3 * x ≤ nI (3 * i) := by
  obtain ⟨h1, h2⟩ := h
  generalize x.toNatClampNeg = j at *
  rw [h1, show (3 : Int32) = nI 3 from rfl, pk_mul]
  exact nI_le (by omega) (by omega)
theorem aa_gt {x : Int32} {i : Nat} (h : x = nI x.toNatClampNeg ∧ x.toNatClampNeg ≤ 15) (hi : i < x.toNatClampNeg) : ¬ 3 * x ≤ nI (3 * i) := by
  obtain ⟨h1, h2⟩ := h
  generalize x.toNatClampNeg = j at *
  rw [h1, show (3 : Int32) = nI 3 from rfl, pk_mul]
  exact nI_ge (by omega) (by omega)
theorem aa_i1 {i : Nat} (h : i < 15) : vp_in (nI (3 * i) + 1) 60 := by
  rw [nI_1]; exact vp_in_nI (by omega) (by decide)
theorem aa_c1 {i : Nat} (h : i < 15) : (nI (3 * i) + 1).toNatClampNeg = 3 * i + 1 := by
  rw [nI_1]; exact nI_clamp (by omega)
theorem aa_i2 {i : Nat} (h : i < 15) : vp_in (nI (3 * i) + 2) 60 := by
  rw [show (2 : Int32) = nI 2 from rfl, nI_add]; exact vp_in_nI (by omega) (by decide)
theorem aa_c2 {i : Nat} (h : i < 15) : (nI (3 * i) + 2).toNatClampNeg = 3 * i + 2 := by
  rw [show (2 : Int32) = nI 2 from rfl, nI_add]; exact nI_clamp (by omega)
theorem aa_inc {i : Nat} : nI (3 * i) + 3 = nI (3 * (i + 1)) := by
  rw [show (3 : Int32) = nI 3 from rfl, nI_add]
  rfl
theorem aa_16 {f : FS} (hm : mInv f) (h : nF f < 16) : ¬ f 4 = 16 := by
  intro e
  have h1 := n_toInt hm
  rw [e, show (16 : Int32).toInt = 16 from rfl] at h1
  omega
theorem aa_n {f : FS} {x : Int32} (hm : mInv f) (hx : x = nI x.toNatClampNeg ∧ x.toNatClampNeg ≤ 15) (c : f 4 + x ≤ 16) : nF f + x.toNatClampNeg ≤ 16 := by
  have h := n4_of hm
  have hn : (f 4).toNatClampNeg ≤ 16 := n_le hm
  obtain ⟨h1, h2⟩ := hx
  unfold nF
  generalize (f 4).toNatClampNeg = k at *
  generalize x.toNatClampNeg = j at *
  rw [h, h1, nI_add, show (16 : Int32) = nI 16 from rfl, nI_leI (by omega) (by decide)] at c
  exact c
/-! places of the row that are told -/
theorem ct_7 {x : Int32} (c : ¬ gX6_in x.toInt64 7 10 = 0) : vp_in (5 + x - 7) 153 := by
  have h := in_ne.mp c
  rw [show (7 : Int64).toInt = 7 from rfl, show (10 : Int64).toInt = 10 from rfl] at h
  have e5 : (5 : Int32).toInt = 5 := rfl
  have e7 : (7 : Int32).toInt = 7 := rfl
  have ea : (5 + x).toInt = 5 + x.toInt := by rw [ia (by omega) (by omega), e5]
  rw [vp_in_iff, isb (by omega) (by omega), ea, e7]
  omega
theorem ct_12 {x : Int32} (c : ¬ gX6_in x.toInt64 12 15 = 0) : vp_in (0 + x - 12) 153 := by
  have h := in_ne.mp c
  rw [show (12 : Int64).toInt = 12 from rfl, show (15 : Int64).toInt = 15 from rfl] at h
  have e7 : (12 : Int32).toInt = 12 := rfl
  have ea : (0 + x).toInt = x.toInt := by rw [Int32.zero_add]
  rw [vp_in_iff, isb (by omega) (by omega), ea, e7]
  omega
theorem ty_in {M : FS} (h : 0 ≤ (M 2).toInt ∧ (M 2).toInt ≤ 60) (c : ¬ M 2 = 60) : vp_in (M 2) 60 := by
  rw [i_eq, show (60 : Int32).toInt = 60 from rfl] at c
  rw [vp_in_iff]
  omega
