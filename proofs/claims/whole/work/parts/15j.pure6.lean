/-! ===== what the walks of the reference's acts need ===== -/
theorem i64_lt {x : Int32} {a : Int64} : (x.toInt64 < a) ↔ x.toInt < a.toInt := by
  rw [Int64.lt_iff_toInt_lt, Int32.toInt_toInt64]
theorem i64_gt {x : Int32} {a : Int64} : (a < x.toInt64) ↔ a.toInt < x.toInt := by
  rw [Int64.lt_iff_toInt_lt, Int32.toInt_toInt64]
theorem in_ne {x : Int32} {a b : Int64} : ¬ gX6_in x.toInt64 a b = 0 ↔ a.toInt ≤ x.toInt ∧ x.toInt ≤ b.toInt := by
  unfold gX6_in
  simp only [lg_cmp_lt, lg_cmp_gt, i64_lt, i64_gt]
  split
  · rename_i h
    exact ⟨fun e => absurd rfl e, fun e => by omega⟩
  · split
    · rename_i h
      exact ⟨fun e => absurd rfl e, fun e => by omega⟩
    · rename_i h1 h2
      exact ⟨fun _ => by omega, fun _ => by decide⟩
theorem tab_ne {x : Int32} : ¬ gX6_isTable x = 0 ↔ 1 ≤ x.toInt ∧ x.toInt ≤ 200 := in_ne
theorem i3_of {x : Int32} (h : 0 ≤ x.toInt ∧ x.toInt ≤ 2) : x = 0 ∨ x = 1 ∨ x = 2 := by
  rw [i_eq, i_eq, i_eq, i_0, i_1, i_2]
  omega
theorem okJ_in {a1 a2 a3 : Int32} (c1 : ¬ gX6_in a1.toInt64 0 2 = 0) (c2 : ¬ gX6_isTable a2 = 0) (c3 : ¬ gX6_isTable a3 = 0) : okJ a1 a2 a3 := ⟨i3_of (in_ne.mp c1), tab_ne.mp c2, tab_ne.mp c3⟩
theorem n_toInt {f : FS} (hm : mInv f) : (f 4).toInt = nF f := by
  have h := n4_of hm
  have hn : (f 4).toNatClampNeg ≤ 16 := n_le hm
  rw [h, nI_toInt (by omega)]
theorem ij_iff {f : FS} {x : Int32} (hm : mInv f) : ¬ gX6_isJoin f x = 0 ↔ 0 ≤ x.toInt ∧ x.toInt < nF f := by
  have hn := n_le hm
  have e : ((f 4).toInt64 - 1).toInt = (f 4).toInt - 1 := by
    have hi := n_toInt hm
    rw [Int64.toInt_sub, Int32.toInt_toInt64, show (1 : Int64).toInt = 1 from rfl]
    exact Int.bmod_eq_of_le (by omega) (by omega)
  unfold gX6_isJoin
  rw [in_ne, e, n_toInt hm, show (0 : Int64).toInt = 0 from rfl]
  omega
theorem ij_of {f : FS} {x : Int32} (hm : mInv f) (c : ¬ gX6_isJoin f x = 0) : x = nI x.toNatClampNeg ∧ x.toNatClampNeg < nF f := by
  have h := (ij_iff hm).mp c
  obtain ⟨j, hj, e, ej⟩ := i_nI h.1
  rw [e, nI_clamp hj]
  exact ⟨rfl, by omega⟩
theorem in_cl {x : Int32} {n : Nat} {a b : Int64} (c : ¬ gX6_in x.toInt64 a b = 0) (h0 : 0 ≤ a.toInt) (hb : b.toInt = n) : x.toNatClampNeg ≤ n := by
  have h := in_ne.mp c
  obtain ⟨j, hj, e, ej⟩ := i_nI (x := x) (by omega)
  rw [e, nI_clamp hj]
  omega
/-! the history's places -/
def hx4 (x : Int32) : Prop := 0 ≤ x.toInt ∧ x.toInt ≤ 4
def hx3 (x : Int32) : Prop := 0 ≤ x.toInt ∧ x.toInt ≤ 3
theorem hs_4 {M : FS} (h : M 0 = 4) : hx3 (upd M 0 (M 0 - 1) 0) := by
  show hx3 (M 0 - 1)
  rw [h]
  exact ⟨by decide, by decide⟩
theorem hs_n {x : Int32} (h : hx4 x) (c : ¬ x = 4) : hx3 x := by
  rw [i_eq, show (4 : Int32).toInt = 4 from rfl] at c
  exact ⟨h.1, by have := h.2; omega⟩
theorem hs_u {M : FS} (h : hx4 (M 0)) (c : ¬ M 0 = 0) : hx3 (upd M 0 (M 0 - 1) 0) := by
  show hx3 (M 0 - 1)
  rw [i_eq, i_0] at c
  obtain ⟨h1, h2⟩ := h
  have e : (M 0 - 1).toInt = (M 0).toInt - 1 := by rw [isb (by rw [i_1]; omega) (by rw [i_1]; omega), i_1]
  exact ⟨by omega, by omega⟩
theorem hs_i1 {i : Nat} (h : i < 459) : vp_in (nI i + nI 153) 612 := by
  rw [nI_add]
  exact vp_in_nI (by omega) (by decide)
theorem hs_c1 {i : Nat} (h : i < 459) : (nI i + nI 153).toNatClampNeg = i + 153 := by
  rw [nI_add]
  exact nI_clamp (by omega)
theorem hx3_of {x : Int32} (h : hx3 x) : x = nI x.toNatClampNeg ∧ x.toNatClampNeg ≤ 3 := by
  obtain ⟨j, hj, e, ej⟩ := i_nI h.1
  have := h.2
  rw [e, nI_clamp hj]
  exact ⟨rfl, by omega⟩
theorem hs_i2 {x : Int32} {i : Nat} (h : hx3 x) (hi : i < 153) : vp_in (nI 153 * x + nI i) 612 := by
  obtain ⟨e, hj⟩ := hx3_of h
  rw [e, pk_mul, nI_add]
  exact vp_in_nI (by omega) (by decide)
theorem hs_c2 {x : Int32} {i : Nat} (h : hx3 x) (hi : i < 153) : (nI 153 * x + nI i).toNatClampNeg = 153 * x.toNatClampNeg + i := by
  obtain ⟨e, hj⟩ := hx3_of h
  generalize x.toNatClampNeg = j at e hj
  rw [e, pk_mul, nI_add]
  exact nI_clamp (by omega)
/-! acts on the row -/
/-- what a walk through the queue leaves as it was -/
def gtK (f g : FS) : Prop := (∀ i, i < 8 → i ≠ 5 → g i = f i) ∧ (∀ j k, k < 9 → k ≠ 3 → k ≠ 4 → k ≠ 5 → k ≠ 8 → oF g j k = oF f j k) ∧ ∀ j, oF g j 3 = oF f j 3 ∨ (oF f j 3 = 0 ∧ oF g j 3 = 1)
theorem gtK.rfl' {f : FS} : gtK f f := ⟨fun _ _ _ => rfl, fun _ _ _ _ _ _ _ => rfl, fun _ => Or.inl rfl⟩
theorem gtK.trans' {f g h : FS} (a : gtK f g) (b : gtK g h) : gtK f h := by
  refine ⟨fun i hi h5 => (b.1 i hi h5).trans (a.1 i hi h5), fun j m h1 h2 h3 h4 h5 => (b.2.1 j m h1 h2 h3 h4 h5).trans (a.2.1 j m h1 h2 h3 h4 h5), fun j => ?_⟩
  rcases a.2.2 j with h1 | ⟨h1, h2⟩ <;> rcases b.2.2 j with h3 | ⟨h3, h4⟩
  · exact Or.inl (h3.trans h1)
  · exact Or.inr ⟨h1 ▸ h3, h4⟩
  · exact Or.inr ⟨h1, h3.trans h2⟩
  · exact Or.inr ⟨h1, h4⟩
theorem st_K {f g : FS} {j : Nat} {p : Int32} (hk : abK f g) (h0 : oF f j 3 = 0) : gtK f (goF g j p) := by
  refine ⟨fun i hi h5 => (goF_f (by omega) h5).trans (hk.1 i hi), fun i k h9 h3 h4 h5 h8 => ?_, fun i => ?_⟩
  · rw [goF_oF h9]
    by_cases h : i = j
    · subst h
      rw [if_pos rfl, if_neg h3, if_neg h4, if_neg h5]
      exact hk.2 i k h9 h4 h5 h8
    · rw [if_neg h]
      exact hk.2 i k h9 h4 h5 h8
  · rw [goF_oF (by decide)]
    by_cases h : i = j
    · subst h
      rw [if_pos rfl, if_pos rfl]
      exact Or.inr ⟨h0, rfl⟩
    · rw [if_neg h]
      exact Or.inl (hk.2 i 3 (by decide) (by decide) (by decide) (by decide))
theorem gt_L {f : FS} : ∀ (fu : Nat) (x : Int32) (f1 : FS), mInv f1 → x = gX6_ranked f1 0 → mInv (gX6_goesThrough_L6 f fu x f1) ∧ gtK f1 (gX6_goesThrough_L6 f fu x f1) := by
  intro fu
  induction fu with
  | zero => intro x f1 hm _; exact ⟨hm, gtK.rfl'⟩
  | succ fu ih =>
    intro x f1 hm hx
    rw [gX6_goesThrough_L6]
    by_cases h5 : x = -5
    · rw [if_pos h5]; exact ⟨hm, gtK.rfl'⟩
    · rw [if_neg h5]
      obtain ⟨hxe, h16, hn, h0⟩ := rk_some hm hx h5
      by_cases hs : (gX6_starts f1 x.toNatClampNeg).1 = 0
      · rw [if_pos hs]
        rcases st_cases hm hn with e | ⟨g, p, e, -⟩
        · rw [e]; exact ⟨hm, gtK.rfl'⟩
        · rw [e] at hs; exact absurd (show (1 : Int32) = 0 from hs) (by decide)
      · rw [if_neg hs]
        have hg := gt_step hm ⟨hxe, h16, hn, h0⟩ hs
        have hi := ih (gX6_ranked (gX6_starts f1 x.toNatClampNeg).2 0) _ hg.1 rfl
        refine ⟨hi.1, gtK.trans' ?_ hi.2⟩
        rcases st_cases hm hn with e | ⟨g, p, e, hg2, hk, hp⟩
        · rw [e] at hs; exact absurd rfl hs
        · rw [e]; exact st_K hk h0
theorem gt_ok {f : FS} (hm : mInv f) : mInv (gX6_goesThrough f) ∧ gtK f (gX6_goesThrough f) := gt_L _ _ _ hm rfl
theorem gtK_n {f g : FS} (h : gtK f g) : nF g = nF f := by
  unfold nF
  rw [h.1 4 (by decide) (by decide)]
theorem cm_ok {f : FS} {a1 a2 a3 : Int32} (hm : mInv f) (h16 : ¬ f 4 = 16) (hc : okJ a1 a2 a3) : mInv (gX6_comes f a1 a2 a3) ∧ nF (gX6_comes f a1 a2 a3) = nF f + 1 := by
  have h := com_inv hm h16 hc
  have hg := gt_ok h.1
  exact ⟨hg.1, (gtK_n hg.2).trans h.2⟩
theorem mJ_0 {f : FS} {j : Nat} (h : mJ f j) : mJ0 f j := by
  refine ⟨h.1, h.2.1, h.2.2.1, h.2.2.2.1, fun z => ?_, h.2.2.2.2.2⟩
  have := h.2.2.2.2.1 z
  exact ⟨this.1, this.2.1, by omega, this.2.2.2⟩
theorem en_ok {f : FS} {j : Nat} {s : Int32} (hm : mInv f) (hj : j < nF f) (hs : s = 2 ∨ s = 3) : mInv (gX6_ends f j s) :=
  mInv_set hm hj (fun i hi => ends_f (by omega)) (fun i hi k hk => by rw [ends_oF hk, if_neg hi]) (ends_J (mJ_0 (hm.2 j hj)) hs)
theorem ch_ok {f : FS} {j : Nat} {a : Int32} (hm : mInv f) (hj : j < nF f) (h0 : ¬ gX6_is f j 0 = 0) (ha : ¬ gX6_in a.toInt64 0 2 = 0) : mInv (gX6_sets f j 0 a) := by
  have h3 : oF f j 3 = 0 := Decidable.not_not.mp (fun z => h0 (is_ne.mpr z))
  refine mInv_set hm hj (fun i hi => f_sets (by omega)) (fun i hi k hk => by rw [oF_sets (by decide) hk, if_neg (by omega)]) ?_
  have hJ := hm.2 j hj
  have e : ∀ k, k < 9 → k ≠ 0 → oF (gX6_sets f j 0 a) j k = oF f j k := fun k hk h => by rw [oF_sets (by decide) hk, if_neg (by omega)]
  have e0 : oF (gX6_sets f j 0 a) j 0 = a := by rw [oF_sets (by decide) (by decide), if_pos ⟨rfl, rfl⟩]
  unfold mJ
  rw [e0, e 1 (by decide) (by decide), e 2 (by decide) (by decide), e 3 (by decide) (by decide), e 4 (by decide) (by decide), e 5 (by decide) (by decide)]
  exact ⟨i3_of (in_ne.mp ha), hJ.2.1, hJ.2.2.1, hJ.2.2.2.1, fun z => absurd (h3.symm.trans z) (by decide), hJ.2.2.2.2.2⟩
theorem se_of {a b : Int32} (c : ¬ gX6_isSetting a b = 0) : (a = 0 ∧ 20 ≤ b.toInt ∧ b.toInt ≤ 500) ∨ ((a = 1 ∨ a = 2) ∧ (b = 0 ∨ b = 1)) ∨ (a = 3 ∧ 1 ≤ b.toInt ∧ b.toInt ≤ 50) := by
  unfold gX6_isSetting at c
  have h01 : ¬ gX6_in b.toInt64 0 1 = 0 → b = 0 ∨ b = 1 := fun h => by
    have h : (0 : Int64).toInt ≤ b.toInt ∧ b.toInt ≤ (1 : Int64).toInt := in_ne.mp h
    rw [i_eq, i_eq, i_0, i_1]
    rw [show (0 : Int64).toInt = 0 from rfl, show (1 : Int64).toInt = 1 from rfl] at h
    omega
  by_cases h0 : a = 0
  · rw [if_pos h0] at c
    exact Or.inl ⟨h0, in_ne.mp c⟩
  · by_cases h1 : a = 1
    · rw [if_neg h0, if_pos h1] at c
      exact Or.inr (Or.inl ⟨Or.inl h1, h01 c⟩)
    · by_cases h2 : a = 2
      · rw [if_neg h0, if_neg h1, if_pos h2] at c
        exact Or.inr (Or.inl ⟨Or.inr h2, h01 c⟩)
      · by_cases h3 : a = 3
        · rw [if_neg h0, if_neg h1, if_neg h2, if_pos h3] at c
          refine Or.inr (Or.inr ⟨h3, ?_⟩)
          by_cases h4 : gX6_in b.toInt64 1 50 = 0
          · rw [if_pos h4] at c; exact absurd rfl c
          · exact in_ne.mp h4
        · rw [if_neg h0, if_neg h1, if_neg h2, if_neg h3] at c
          exact absurd rfl c
theorem se_in {a b : Int32} (c : ¬ gX6_isSetting a b = 0) : vp_in (0 + a) 153 ∧ (0 + a).toNatClampNeg < 4 := by
  rcases se_of c with ⟨rfl, -⟩ | ⟨rfl | rfl, -⟩ | ⟨rfl, -⟩ <;> exact ⟨by unfold vp_in; decide, by decide⟩
theorem set_inv {f : FS} {k : Nat} {v : Int32} (hm : mInv f) (h : (k = 0 ∧ 20 ≤ v.toInt ∧ v.toInt ≤ 500) ∨ ((k = 1 ∨ k = 2) ∧ (v = 0 ∨ v = 1)) ∨ (k = 3 ∧ 1 ≤ v.toInt ∧ v.toInt ≤ 50)) : mInv (upd f k v) := by
  have hk : k < 4 := by omega
  have h4 : upd f k v 4 = f 4 := by rw [f_upd, if_neg (by omega)]
  have ho : ∀ j m, oF (upd f k v) j m = oF f j m := fun j m => oF_upd (by omega)
  obtain ⟨⟨a, b0, b1, b2, b3, b4⟩, h2⟩ := hm
  refine ⟨⟨?_, ?_, ?_, ?_, ?_, fun j h1 h2 m hm => ?_⟩, fun j hj => ?_⟩
  · rw [h4]; exact a
  · rw [f_upd]
    split
    · omega
    · exact b0
  · rw [f_upd]
    split
    · rcases h with h | h | h
      · omega
      · exact h.2
      · omega
    · exact b1
  · rw [f_upd]
    split
    · rcases h with h | h | h
      · omega
      · exact h.2
      · omega
    · exact b2
  · rw [f_upd]
    split
    · omega
    · exact b3
  · rw [h4] at h1
    rw [ho]
    exact b4 j h1 h2 m hm
  · rw [h4] at hj
    exact mJ_ext (fun m _ => ho j m) (h2 j hj)
theorem set_ok {f : FS} {a b : Int32} (hm : mInv f) (c : ¬ gX6_isSetting a b = 0) : mInv (upd f (0 + a).toNatClampNeg b) := by
  refine set_inv hm ?_
  rcases se_of c with ⟨rfl, h⟩ | ⟨rfl | rfl, h⟩ | ⟨rfl, h⟩
  · exact Or.inl ⟨rfl, h⟩
  · exact Or.inr (Or.inl ⟨Or.inl rfl, h⟩)
  · exact Or.inr (Or.inl ⟨Or.inr rfl, h⟩)
  · exact Or.inr (Or.inr ⟨rfl, h⟩)
/-! a step, in one row a join -/
def offO (f : FS) (i : Nat) : Int32 := if gX6_is f i 1 = 0 then 0 else if f 3 ≤ oF f i 5 then f 3 else oF f i 5
def stp1 (f : FS) (i : Nat) : FS := stpR f i (oF f i 6 + b01 (gX6_is f i 0)) (oF f i 7 + b01 (gX6_is f i 1)) (oF f i 5 - offO f i) (f 7 + offO f i)
theorem stp_is {f : FS} {i : Nat} {A a : Int32} : gX6_is (gX6_sets f i 6 A) i a = gX6_is f i a := by
  have e : oF (gX6_sets f i 6 A) i 3 = oF f i 3 := by rw [oF_sets (by decide) (by decide), if_neg (by omega)]
  unfold gX6_is
  rw [gX6_of_eq, e]
  rfl
theorem stp_of {f : FS} {i : Nat} {A : Int32} : gX6_of (gX6_sets f i 6 A) i 7 = oF f i 7 := by
  rw [gX6_of_eq, oF_sets (by decide) (by decide), if_neg (by omega)]
theorem stp_7 {f : FS} {i : Nat} {A B W : Int32} : gX6_sets (gX6_sets (gX6_sets f i 6 A) i 7 B) i 5 W 7 = f 7 := by
  rw [f_sets (by decide), f_sets (by decide), f_sets (by decide)]
theorem L4_eq {f f1 : FS} {fu i : Nat} : gX6_steps_L4 f (fu + 1) i f1 = gX6_steps_L4 f fu (i + 1) (stp1 f1 i) := by
  rw [gX6_steps_L4]
  simp only [stp_is, stp_of, of_st, stp_7]
  simp only [gX6_of_eq]
  unfold stp1 offO stpR b01
  by_cases h1 : gX6_is f1 i 1 = 0 <;> by_cases h0 : gX6_is f1 i 0 = 0 <;> by_cases h3 : f1 3 ≤ oF f1 i 5 <;> simp only [h1, h0, h3, if_true, if_false]
theorem stp1_A {f f1 : FS} {i : Nat} (hs : sA f i f1) (hi : i < (f 4).toNatClampNeg) : sA f (i + 1) (stp1 f1 i) := by
  have e : ∀ A B, oF f1 i 5 = gX6_of (gX6_sets (gX6_sets f1 i 6 A) i 7 B) i 5 := fun A B => of_st.symm
  unfold stp1
  by_cases h1 : gX6_is f1 i 1 = 0
  · have eo : offO f1 i = 0 := if_pos h1
    rw [eo, e]
    exact sA_1 hs hi h1
  · by_cases h3 : f1 3 ≤ oF f1 i 5
    · have eo : offO f1 i = f1 3 := by unfold offO; rw [if_neg h1, if_pos h3]
      rw [eo]
      have := sA_3 (A := oF f1 i 6 + b01 (gX6_is f1 i 0)) (B := oF f1 i 7 + b01 (gX6_is f1 i 1)) (C := f1 7 + f1 3) hs hi h1 h3
      rw [← e] at this
      exact this
    · have eo : offO f1 i = oF f1 i 5 := by unfold offO; rw [if_neg h1, if_neg h3]
      rw [eo]
      have := sA_2 (A := oF f1 i 6 + b01 (gX6_is f1 i 0)) (B := oF f1 i 7 + b01 (gX6_is f1 i 1)) (C := f1 7 + oF f1 i 5) hs hi h1 h3
      rw [← e] at this
      exact this
theorem L149_ok {f : FS} : ∀ (fu i : Nat) (x : Int32) (f1 : FS), i + fu = (f 4).toNatClampNeg → sB f i f1 → mInv (gX6_steps_L149 f fu i x f1).2 ∧ nF (gX6_steps_L149 f fu i x f1).2 = nF f := by
  intro fu
  induction fu with
  | zero =>
    intro i x f1 hi hs
    have h := sB_n (v := f1 6 + 1) hs (by omega)
    have e4 : nF (upd f1 6 (f1 6 + 1)) = nF f := by
      unfold nF
      rw [f_upd, if_neg (by decide), hs.2.1]
    rw [gX6_steps_L149]
    split
    · exact ⟨h, e4⟩
    · have hg := gt_ok h
      exact ⟨hg.1, (gtK_n hg.2).trans e4⟩
  | succ fu ih =>
    intro i x f1 hi hs
    rw [gX6_steps_L149]
    by_cases c : gX6_is f1 i 1 = 0
    · rw [if_pos c]
      exact ih _ _ _ (by omega) (sB_1 hs (by omega) c)
    · rw [if_neg c]
      by_cases d : gX6_of f1 i 5 = 0
      · rw [if_pos d]
        exact ih _ _ _ (by omega) (sB_3 hs (by omega) c d)
      · rw [if_neg d]
        exact ih _ _ _ (by omega) (sB_2 hs (by omega) c d)
theorem L4_ok {f : FS} : ∀ (fu i : Nat) (f1 : FS), i + fu = (f 4).toNatClampNeg → sA f i f1 → mInv (gX6_steps_L4 f fu i f1).2 ∧ nF (gX6_steps_L4 f fu i f1).2 = nF f := by
  intro fu
  induction fu with
  | zero => intro i f1 hi hs; exact L149_ok _ _ _ _ (by omega) (sA_n hs (by omega))
  | succ fu ih =>
    intro i f1 hi hs
    rw [L4_eq]
    exact ih _ _ (by omega) (stp1_A hs (by omega))
theorem sp_ok {f : FS} (hm : mInv f) : mInv (gX6_steps f).2 ∧ nF (gX6_steps f).2 = nF f := L4_ok _ _ _ (by omega) (sA_0 hm)
