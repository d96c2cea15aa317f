/-- a join in a step, whose work may be done -/
def mJ0 (f : FS) (j : Nat) : Prop :=
  (oF f j 0 = 0 ∨ oF f j 0 = 1 ∨ oF f j 0 = 2) ∧ (1 ≤ (oF f j 1).toInt ∧ (oF f j 1).toInt ≤ 200) ∧ (1 ≤ (oF f j 2).toInt ∧ (oF f j 2).toInt ≤ 200) ∧
  (oF f j 3 = 0 ∨ oF f j 3 = 1 ∨ oF f j 3 = 2 ∨ oF f j 3 = 3) ∧
  (oF f j 3 = 1 → (gX6_needs f j).toInt ≤ (oF f j 4).toInt ∧ (oF f j 4).toInt ≤ 500 ∧ 0 ≤ (oF f j 5).toInt ∧ (oF f j 5).toInt ≤ (501 - (oF f j 4).toInt) * (gX6_works f j (oF f j 4)).toInt) ∧
  (¬ oF f j 3 = 1 → oF f j 4 = 0 ∧ oF f j 5 = 0)
def sA (f : FS) (i : Nat) (f1 : FS) : Prop := mB f1 ∧ f1 4 = f 4 ∧ (∀ j, j < (f 4).toNatClampNeg → if j < i then mJ0 f1 j else mJ f1 j)
def sB (f : FS) (i : Nat) (f1 : FS) : Prop := mB f1 ∧ f1 4 = f 4 ∧ (∀ j, j < (f 4).toNatClampNeg → if j < i then mJ f1 j else mJ0 f1 j)
theorem mJ0_ext {f g : FS} {j : Nat} (e : ∀ m, m < 6 → oF g j m = oF f j m) (h : mJ0 f j) : mJ0 g j := by
  unfold mJ0 at h ⊢
  rw [needs_ext (f := f) (g := g) (fun m hm => e m (by omega)), works_ext (f := f) (g := g) (fun m hm => e m (by omega)), e 0 (by decide), e 1 (by decide), e 2 (by decide), e 3 (by decide), e 4 (by decide), e 5 (by decide)]
  exact h
theorem sA_0 {f : FS} (hm : mInv f) : sA f 0 f := ⟨hm.1, rfl, fun j hj => by rw [if_neg (by omega)]; exact hm.2 j hj⟩
/-- the row of a join behind its part of a step -/
abbrev stpR (f1 : FS) (i : Nat) (A B W C : Int32) : FS := upd (gX6_sets (gX6_sets (gX6_sets f1 i 6 A) i 7 B) i 5 W) 7 C
theorem stp_oF {f1 : FS} {i j k : Nat} {A B W C : Int32} (hk : k < 9) : oF (stpR f1 i A B W C) j k = if j = i then (if k = 5 then W else if k = 7 then B else if k = 6 then A else oF f1 i k) else oF f1 j k := by
  rw [oF_upd (by decide), oF_sets (by decide) hk, oF_sets (by decide) hk, oF_sets (by decide) hk]
  by_cases h : j = i
  · subst h
    by_cases h5 : k = 5
    · subst h5; simp
    · by_cases h7 : k = 7
      · subst h7; simp
      · by_cases h6 : k = 6
        · subst h6; simp
        · simp [h5, h7, h6]
  · simp [h]
theorem stp_f {f1 : FS} {i k : Nat} {A B W C : Int32} (hk : k < 9) (h7 : k ≠ 7) : stpR f1 i A B W C k = f1 k := by
  unfold stpR
  rw [f_upd, if_neg h7, f_sets hk, f_sets hk, f_sets hk]
theorem sA_go {f f1 : FS} {i : Nat} {A B W C : Int32} (hs : sA f i f1) (hi : i < (f 4).toNatClampNeg) (hw : mJ f1 i → mJ0 (stpR f1 i A B W C) i) : sA f (i + 1) (stpR f1 i A B W C) := by
  obtain ⟨h1, h2, h3⟩ := hs
  refine ⟨mB_ext (fun k hk => stp_f (by omega) (by omega)) (fun j hj hj16 m hm => ?_) h1, by rw [stp_f (by decide) (by decide), h2], fun j hj => ?_⟩
  · unfold nF at hj
    rw [h2] at hj
    rw [stp_oF hm, if_neg (by omega)]
  · have h4 := h3 j hj
    by_cases h : j = i
    · subst h
      rw [if_neg (by omega)] at h4
      rw [if_pos (by omega)]
      exact hw h4
    · have e : ∀ m, m < 6 → oF (stpR f1 i A B W C) j m = oF f1 j m := fun m hm => by rw [stp_oF (by omega), if_neg h]
      by_cases h5 : j < i
      · rw [if_pos h5] at h4
        rw [if_pos (by omega)]
        exact mJ0_ext e h4
      · rw [if_neg h5] at h4
        rw [if_neg (by omega)]
        exact mJ_ext e h4
theorem stp_J0 {f1 : FS} {i : Nat} {A B W C : Int32} (hJ : mJ f1 i) (h1 : oF f1 i 3 = 1 → 0 ≤ W.toInt ∧ W.toInt ≤ (oF f1 i 5).toInt) (h0 : ¬ oF f1 i 3 = 1 → W = 0) : mJ0 (stpR f1 i A B W C) i := by
  have e : ∀ k, k < 5 → oF (stpR f1 i A B W C) i k = oF f1 i k := fun k hk => by rw [stp_oF (by omega), if_pos rfl, if_neg (by omega), if_neg (by omega), if_neg (by omega)]
  have e5 : oF (stpR f1 i A B W C) i 5 = W := by rw [stp_oF (by omega), if_pos rfl, if_pos rfl]
  unfold mJ0
  rw [needs_ext (f := f1) (fun m hm => e m (by omega)), works_ext (f := f1) (fun m hm => e m (by omega)), e 0 (by decide), e 1 (by decide), e 2 (by decide), e 3 (by decide), e 4 (by decide), e5]
  obtain ⟨a, b, c, d, h5, h6⟩ := hJ
  refine ⟨a, b, c, d, fun z => ?_, fun z => ⟨(h6 z).1, h0 z⟩⟩
  have := h1 z
  have := h5 z
  exact ⟨by omega, by omega, by omega, by omega⟩
theorem of_st {f1 : FS} {i : Nat} {A B : Int32} : gX6_of (gX6_sets (gX6_sets f1 i 6 A) i 7 B) i 5 = oF f1 i 5 := by
  rw [gX6_of_eq, oF_sets (by decide) (by decide), oF_sets (by decide) (by decide), if_neg (by omega), if_neg (by omega)]
theorem sA_1 {f f1 : FS} {i : Nat} {A B C : Int32} (hs : sA f i f1) (hi : i < (f 4).toNatClampNeg) (c : gX6_is f1 i 1 = 0) : sA f (i + 1) (upd (gX6_sets (gX6_sets (gX6_sets f1 i 6 A) i 7 B) i 5 (gX6_of (gX6_sets (gX6_sets f1 i 6 A) i 7 B) i 5 - 0)) 7 C) := by
  rw [is_ne] at c
  refine sA_go hs hi (fun hJ => stp_J0 hJ (fun h => absurd h c) (fun h => ?_))
  rw [of_st, (hJ.2.2.2.2.2 h).2]
  rfl
theorem sA_2 {f f1 : FS} {i : Nat} {A B C : Int32} (hs : sA f i f1) (hi : i < (f 4).toNatClampNeg) (c : ¬ gX6_is f1 i 1 = 0) (d : ¬ f1 3 ≤ gX6_of f1 i 5) : sA f (i + 1) (upd (gX6_sets (gX6_sets (gX6_sets f1 i 6 A) i 7 B) i 5 (gX6_of (gX6_sets (gX6_sets f1 i 6 A) i 7 B) i 5 - gX6_of f1 i 5)) 7 C) := by
  refine sA_go hs hi (fun hJ => stp_J0 hJ (fun h => ?_) (fun h => absurd (is_ne.mpr h) c))
  have := (hJ.2.2.2.2.1 h).2.2.1
  rw [of_st, gX6_of_eq, Int32.sub_self, i_0]
  omega
theorem sA_3 {f f1 : FS} {i : Nat} {A B C : Int32} (hs : sA f i f1) (hi : i < (f 4).toNatClampNeg) (c : ¬ gX6_is f1 i 1 = 0) (d : f1 3 ≤ gX6_of f1 i 5) : sA f (i + 1) (upd (gX6_sets (gX6_sets (gX6_sets f1 i 6 A) i 7 B) i 5 (gX6_of (gX6_sets (gX6_sets f1 i 6 A) i 7 B) i 5 - f1 3)) 7 C) := by
  have h3 := hs.1.2.2.2.2.1
  refine sA_go hs hi (fun hJ => stp_J0 hJ (fun h => ?_) (fun h => absurd (is_ne.mpr h) c))
  have := (hJ.2.2.2.2.1 h).2.2.1
  rw [x_ile, gX6_of_eq] at d
  have hh := (oF f1 i 5).toInt_lt
  rw [of_st, isb (by omega) (by omega)]
  omega
theorem sA_n {f f1 : FS} {i : Nat} (hs : sA f i f1) (hi : i = (f 4).toNatClampNeg) : sB f 0 f1 := by
  subst hi
  exact ⟨hs.1, hs.2.1, fun j hj => by have := hs.2.2 j hj; rw [if_pos hj] at this; rw [if_neg (by omega)]; exact this⟩
theorem sB_go {f f1 g : FS} {i : Nat} (hs : sB f i f1) (hi : i < (f 4).toNatClampNeg) (e : ∀ k, k < 5 → g k = f1 k) (ho : ∀ j, j ≠ i → ∀ m, m < 9 → oF g j m = oF f1 j m) (hw : mJ0 f1 i → mJ g i) : sB f (i + 1) g := by
  obtain ⟨h1, h2, h3⟩ := hs
  refine ⟨mB_ext e (fun j hj hj16 m hm => ?_) h1, by rw [e 4 (by decide), h2], fun j hj => ?_⟩
  · unfold nF at hj
    rw [h2] at hj
    exact ho j (by omega) m hm
  · have h4 := h3 j hj
    by_cases h : j = i
    · subst h
      rw [if_neg (by omega)] at h4
      rw [if_pos (by omega)]
      exact hw h4
    · have e : ∀ m, m < 6 → oF g j m = oF f1 j m := fun m hm => ho j h m (by omega)
      by_cases h5 : j < i
      · rw [if_pos h5] at h4
        rw [if_pos (by omega)]
        exact mJ_ext e h4
      · rw [if_neg h5] at h4
        rw [if_neg (by omega)]
        exact mJ0_ext e h4
theorem sB_1 {f f1 : FS} {i : Nat} (hs : sB f i f1) (hi : i < (f 4).toNatClampNeg) (c : gX6_is f1 i 1 = 0) : sB f (i + 1) f1 := by
  rw [is_ne] at c
  exact sB_go hs hi (fun _ _ => rfl) (fun _ _ _ _ => rfl) (fun h => ⟨h.1, h.2.1, h.2.2.1, h.2.2.2.1, fun z => absurd z c, h.2.2.2.2.2⟩)
theorem sB_2 {f f1 : FS} {i : Nat} (hs : sB f i f1) (hi : i < (f 4).toNatClampNeg) (c : ¬ gX6_is f1 i 1 = 0) (d : ¬ gX6_of f1 i 5 = 0) : sB f (i + 1) f1 := by
  refine sB_go hs hi (fun _ _ => rfl) (fun _ _ _ _ => rfl) (fun h => ⟨h.1, h.2.1, h.2.2.1, h.2.2.2.1, fun z => ?_, h.2.2.2.2.2⟩)
  have h5 := h.2.2.2.2.1 z
  rw [gX6_of_eq, i_eq, i_0] at d
  exact ⟨h5.1, h5.2.1, by omega, h5.2.2.2⟩
theorem ends_oF {f : FS} {j i k : Nat} {s : Int32} (hk : k < 9) : oF (gX6_ends f j s) i k = if i = j then (if k = 3 then s else if k = 4 then 0 else if k = 5 then 0 else oF f j k) else oF f i k := by
  unfold gX6_ends
  rw [oF_sets (by decide) hk, oF_sets (by decide) hk, oF_sets (by decide) hk]
  by_cases h : i = j
  · subst h
    by_cases h5 : k = 5
    · subst h5; simp
    · by_cases h4 : k = 4
      · subst h4; simp
      · by_cases h3 : k = 3
        · subst h3; simp
        · simp [h5, h4, h3]
  · simp [h]
theorem ends_f {f : FS} {j i : Nat} {s : Int32} (hi : i < 9) : gX6_ends f j s i = f i := by
  unfold gX6_ends
  rw [f_sets hi, f_sets hi, f_sets hi]
theorem ends_J {f : FS} {j : Nat} {s : Int32} (h : mJ0 f j) (hs : s = 2 ∨ s = 3) : mJ (gX6_ends f j s) j := by
  have e : ∀ k, k < 3 → oF (gX6_ends f j s) j k = oF f j k := fun k hk => by rw [ends_oF (by omega), if_pos rfl, if_neg (by omega), if_neg (by omega), if_neg (by omega)]
  have e3 : oF (gX6_ends f j s) j 3 = s := by rw [ends_oF (by omega), if_pos rfl, if_pos rfl]
  have e4 : oF (gX6_ends f j s) j 4 = 0 := by rw [ends_oF (by omega), if_pos rfl, if_neg (by decide), if_pos rfl]
  have e5 : oF (gX6_ends f j s) j 5 = 0 := by rw [ends_oF (by omega), if_pos rfl, if_neg (by decide), if_neg (by decide), if_pos rfl]
  unfold mJ
  rw [e 0 (by decide), e 1 (by decide), e 2 (by decide), e3, e4, e5]
  refine ⟨h.1, h.2.1, h.2.2.1, ?_, fun z => ?_, fun _ => ⟨rfl, rfl⟩⟩
  · rcases hs with rfl | rfl
    · exact Or.inr (Or.inr (Or.inl rfl))
    · exact Or.inr (Or.inr (Or.inr rfl))
  · rcases hs with rfl | rfl <;> exact absurd z (by decide)
theorem sB_3 {f f1 : FS} {i : Nat} (hs : sB f i f1) (hi : i < (f 4).toNatClampNeg) (c : ¬ gX6_is f1 i 1 = 0) (d : gX6_of f1 i 5 = 0) : sB f (i + 1) (gX6_ends f1 i 2) :=
  sB_go hs hi (fun k hk => ends_f (by omega)) (fun j hj m hm => by rw [ends_oF hm, if_neg hj]) (fun h => ends_J h (Or.inl rfl))
theorem mInv_upd {f : FS} {k : Nat} {v : Int32} (hm : mInv f) (hk : 5 ≤ k) (hk9 : k < 9) : mInv (upd f k v) := by
  have e : ∀ i, i < 5 → upd f k v i = f i := fun i hi => by rw [f_upd, if_neg (by omega)]
  refine ⟨mB_ext e (fun j _ _ m _ => oF_upd hk9) hm.1, fun j hj => ?_⟩
  rw [e 4 (by decide)] at hj
  exact mJ_ext (fun m _ => oF_upd hk9) (hm.2 j hj)
theorem sB_n {f f1 : FS} {i : Nat} {v : Int32} (hs : sB f i f1) (hi : i = (f 4).toNatClampNeg) : mInv (upd f1 6 v) := by
  subst hi
  refine mInv_upd ⟨hs.1, fun j hj => ?_⟩ (by decide) (by decide)
  rw [hs.2.1] at hj
  have := hs.2.2 j hj
  rw [if_pos hj] at this
  exact this
theorem n4_of {f : FS} (hm : mInv f) : f 4 = nI (f 4).toNatClampNeg := by
  obtain ⟨j, hj, e⟩ := nI_of hm.1.1.1
  rw [e, nI_clamp hj]
theorem n16_of {f : FS} (hm : mInv f) (h : ¬ f 4 = 16) : (f 4).toNatClampNeg < 16 := by
  have h1 := n_le hm
  have h2 := n4_of hm
  refine Nat.lt_of_le_of_ne h1 (fun e => h ?_)
  have e : (f 4).toNatClampNeg = 16 := e
  rw [h2, e]
  rfl
/-- a way and two tables as the document wants them -/
def okJ (a1 a2 a3 : Int32) : Prop := (a1 = 0 ∨ a1 = 1 ∨ a1 = 2) ∧ (1 ≤ a2.toInt ∧ a2.toInt ≤ 200) ∧ (1 ≤ a3.toInt ∧ a3.toInt ≤ 200)
/-- one has come -/
def comF (f : FS) (a1 a2 a3 : Int32) : FS := gX6_sets (gX6_sets (gX6_sets (upd f 4 (f 4 + 1)) (f 4).toNatClampNeg 0 a1) (f 4).toNatClampNeg 1 a2) (f 4).toNatClampNeg 2 a3
theorem com_oF {f : FS} {i k : Nat} {a1 a2 a3 : Int32} (hk : k < 9) : oF (comF f a1 a2 a3) i k = if i = nF f then (if k = 0 then a1 else if k = 1 then a2 else if k = 2 then a3 else oF f i k) else oF f i k := by
  unfold comF
  rw [oF_sets (by decide) hk, oF_sets (by decide) hk, oF_sets (by decide) hk, oF_upd (by decide)]
  by_cases h : i = nF f
  · have h' : i = (f 4).toNatClampNeg := h
    by_cases h2 : k = 2
    · subst h2; simp [h']
    · by_cases h1 : k = 1
      · subst h1; simp [h']
      · by_cases h0 : k = 0
        · subst h0; simp [h']
        · simp [h', h2, h1, h0]
  · have h' : ¬ i = (f 4).toNatClampNeg := h
    simp [h']
theorem com_f {f : FS} {i : Nat} {a1 a2 a3 : Int32} (hi : i < 9) : comF f a1 a2 a3 i = if i = 4 then f 4 + 1 else f i := by
  unfold comF
  rw [f_sets hi, f_sets hi, f_sets hi, f_upd]
theorem com_inv {f : FS} {a1 a2 a3 : Int32} (hm : mInv f) (h16 : ¬ f 4 = 16) (hc : okJ a1 a2 a3) : mInv (comF f a1 a2 a3) ∧ nF (comF f a1 a2 a3) = nF f + 1 := by
  have hn := n16_of hm h16
  have h4 := n4_of hm
  have e4 : comF f a1 a2 a3 4 = nI (nF f + 1) := by
    rw [com_f (by decide), if_pos rfl, ← nI_1]
    exact congrArg (fun z => z + 1) h4
  have en : nF (comF f a1 a2 a3) = nF f + 1 := by
    unfold nF at hn ⊢
    rw [e4]
    exact nI_clamp (by unfold nF; omega)
  have hz := hm.1.2.2.2.2.2
  have hzn := hz (nF f) (Nat.le_refl _) hn
  refine ⟨⟨⟨⟨?_, ?_⟩, ?_, ?_, ?_, ?_, ?_⟩, ?_⟩, en⟩
  · rw [e4]; exact nI_pos (by unfold nF; omega)
  · rw [show (comF f a1 a2 a3 4).toNatClampNeg = nF f + 1 from en]; exact hn
  · rw [com_f (by decide), if_neg (by decide)]; exact hm.1.2.1
  · rw [com_f (by decide), if_neg (by decide)]; exact hm.1.2.2.1
  · rw [com_f (by decide), if_neg (by decide)]; exact hm.1.2.2.2.1
  · rw [com_f (by decide), if_neg (by decide)]; exact hm.1.2.2.2.2.1
  · intro j hj hj16 k hk
    rw [show (comF f a1 a2 a3 4).toNatClampNeg = nF f + 1 from en] at hj
    rw [com_oF hk, if_neg (by omega)]
    exact hz j (Nat.le_of_succ_le hj) hj16 k hk
  · intro j hj
    rw [show (comF f a1 a2 a3 4).toNatClampNeg = nF f + 1 from en] at hj
    by_cases h : j = nF f
    · subst h
      have e3 : ∀ k, 3 ≤ k → k < 9 → oF (comF f a1 a2 a3) (nF f) k = 0 := fun k h3 h9 => by rw [com_oF h9, if_pos rfl, if_neg (by omega), if_neg (by omega), if_neg (by omega)]; exact hzn k h9
      have e0 : oF (comF f a1 a2 a3) (nF f) 0 = a1 := by rw [com_oF (by decide), if_pos rfl, if_pos rfl]
      have e1 : oF (comF f a1 a2 a3) (nF f) 1 = a2 := by rw [com_oF (by decide), if_pos rfl, if_neg (by decide), if_pos rfl]
      have e2 : oF (comF f a1 a2 a3) (nF f) 2 = a3 := by rw [com_oF (by decide), if_pos rfl, if_neg (by decide), if_neg (by decide), if_pos rfl]
      unfold mJ
      rw [e0, e1, e2, e3 3 (by decide) (by decide), e3 4 (by decide) (by decide), e3 5 (by decide) (by decide)]
      exact ⟨hc.1, hc.2.1, hc.2.2, Or.inl rfl, fun z => absurd z (by decide), fun _ => ⟨rfl, rfl⟩⟩
    · refine mJ_ext (fun m hm6 => by rw [com_oF (by omega), if_neg h]) (hm.2 j (by unfold nF at h hj; omega))
theorem cm_inv {f : FS} {a1 a2 a3 : Int32} (hm : mInv f) (h16 : ¬ f 4 = 16) (hc : okJ a1 a2 a3) : mInv (gX6_sets (gX6_sets (gX6_sets (upd f 4 (f 4 + 1)) (f 4).toNatClampNeg 0 a1) (f 4).toNatClampNeg 1 a2) (f 4).toNatClampNeg 2 a3) := (com_inv hm h16 hc).1
theorem i64_lt {x : Int32} {a : Int64} : (x.toInt64 < a) ↔ x.toInt < a.toInt := by
  rw [Int64.lt_iff_toInt_lt, Int32.toInt_toInt64]
theorem i64_gt {x : Int32} {a : Int64} : (a < x.toInt64) ↔ a.toInt < x.toInt := by
  rw [Int64.lt_iff_toInt_lt, Int32.toInt_toInt64]
theorem in_ne {x : Int32} {a b : Int64} : ¬ gX6_in x.toInt64 a b = 0 ↔ a.toInt ≤ x.toInt ∧ x.toInt ≤ b.toInt := by
  unfold gX6_in
  simp only [lg_cmp_lt, lg_cmp_gt, i64_lt, i64_gt]
  split
  · rename_i h
    exact ⟨fun e => absurd rfl e, fun e => by omega⟩
  · split
    · rename_i h
      exact ⟨fun e => absurd rfl e, fun e => by omega⟩
    · rename_i h1 h2
      exact ⟨fun _ => by omega, fun _ => by decide⟩
theorem tab_ne {x : Int32} : ¬ gX6_isTable x = 0 ↔ 1 ≤ x.toInt ∧ x.toInt ≤ 200 := in_ne
theorem i3_of {x : Int32} (h : 0 ≤ x.toInt ∧ x.toInt ≤ 2) : x = 0 ∨ x = 1 ∨ x = 2 := by
  rw [i_eq, i_eq, i_eq, i_0, i_1, i_2]
  omega
theorem okJ_in {a1 a2 a3 : Int32} (c1 : ¬ gX6_in a1.toInt64 0 2 = 0) (c2 : ¬ gX6_isTable a2 = 0) (c3 : ¬ gX6_isTable a3 = 0) : okJ a1 a2 a3 := ⟨i3_of (in_ne.mp c1), tab_ne.mp c2, tab_ne.mp c3⟩
theorem n_toInt {f : FS} (hm : mInv f) : (f 4).toInt = nF f := by
  have h := n4_of hm
  have hn : (f 4).toNatClampNeg ≤ 16 := n_le hm
  rw [h, nI_toInt (by omega)]
theorem ij_iff {f : FS} {x : Int32} (hm : mInv f) : ¬ gX6_isJoin f x = 0 ↔ 0 ≤ x.toInt ∧ x.toInt < nF f := by
  have hn := n_le hm
  have e : ((f 4).toInt64 - 1).toInt = (f 4).toInt - 1 := by
    have hi := n_toInt hm
    rw [Int64.toInt_sub, Int32.toInt_toInt64, show (1 : Int64).toInt = 1 from rfl]
    exact Int.bmod_eq_of_le (by omega) (by omega)
  unfold gX6_isJoin
  rw [in_ne, e, n_toInt hm, show (0 : Int64).toInt = 0 from rfl]
  omega
theorem ij_of {f : FS} {x : Int32} (hm : mInv f) (c : ¬ gX6_isJoin f x = 0) : x = nI x.toNatClampNeg ∧ x.toNatClampNeg < nF f := by
  have h := (ij_iff hm).mp c
  obtain ⟨j, hj, e, ej⟩ := i_nI h.1
  rw [e, nI_clamp hj]
  exact ⟨rfl, by omega⟩
theorem in_cl {x : Int32} {n : Nat} {a b : Int64} (c : ¬ gX6_in x.toInt64 a b = 0) (h0 : 0 ≤ a.toInt) (hb : b.toInt = n) : x.toNatClampNeg ≤ n := by
  have h := in_ne.mp c
  obtain ⟨j, hj, e, ej⟩ := i_nI (x := x) (by omega)
  rw [e, nI_clamp hj]
  omega
/-- what a walk through the queue leaves as it was -/
def gtK (f g : FS) : Prop := (∀ i, i < 8 → i ≠ 5 → g i = f i) ∧ (∀ j k, k < 9 → k ≠ 3 → k ≠ 4 → k ≠ 5 → k ≠ 8 → oF g j k = oF f j k) ∧ ∀ j, oF g j 3 = oF f j 3 ∨ (oF f j 3 = 0 ∧ oF g j 3 = 1)
theorem gtK.rfl' {f : FS} : gtK f f := ⟨fun _ _ _ => rfl, fun _ _ _ _ _ _ _ => rfl, fun _ => Or.inl rfl⟩
theorem gtK.trans' {f g h : FS} (a : gtK f g) (b : gtK g h) : gtK f h := by
  refine ⟨fun i hi h5 => (b.1 i hi h5).trans (a.1 i hi h5), fun j m h1 h2 h3 h4 h5 => (b.2.1 j m h1 h2 h3 h4 h5).trans (a.2.1 j m h1 h2 h3 h4 h5), fun j => ?_⟩
  rcases a.2.2 j with h1 | ⟨h1, h2⟩ <;> rcases b.2.2 j with h3 | ⟨h3, h4⟩
  · exact Or.inl (h3.trans h1)
  · exact Or.inr ⟨h1 ▸ h3, h4⟩
  · exact Or.inr ⟨h1, h3.trans h2⟩
  · exact Or.inr ⟨h1, h4⟩
theorem st_K {f g : FS} {j : Nat} {p : Int32} (hk : abK f g) (h0 : oF f j 3 = 0) : gtK f (goF g j p) := by
  refine ⟨fun i hi h5 => (goF_f (by omega) h5).trans (hk.1 i hi), fun i k h9 h3 h4 h5 h8 => ?_, fun i => ?_⟩
  · rw [goF_oF h9]
    by_cases h : i = j
    · subst h
      rw [if_pos rfl, if_neg h3, if_neg h4, if_neg h5]
      exact hk.2 i k h9 h4 h5 h8
    · rw [if_neg h]
      exact hk.2 i k h9 h4 h5 h8
  · rw [goF_oF (by decide)]
    by_cases h : i = j
    · subst h
      rw [if_pos rfl, if_pos rfl]
      exact Or.inr ⟨h0, rfl⟩
    · rw [if_neg h]
      exact Or.inl (hk.2 i 3 (by decide) (by decide) (by decide) (by decide))
theorem gt_L {f : FS} : ∀ (fu : Nat) (x : Int32) (f1 : FS), mInv f1 → x = gX6_ranked f1 0 → mInv (gX6_goesThrough_L6 f fu x f1) ∧ gtK f1 (gX6_goesThrough_L6 f fu x f1) := by
  intro fu
  induction fu with
  | zero => intro x f1 hm _; exact ⟨hm, gtK.rfl'⟩
  | succ fu ih =>
    intro x f1 hm hx
    rw [gX6_goesThrough_L6]
    by_cases h5 : x = -5
    · rw [if_pos h5]; exact ⟨hm, gtK.rfl'⟩
    · rw [if_neg h5]
      obtain ⟨hxe, h16, hn, h0⟩ := rk_some hm hx h5
      by_cases hs : (gX6_starts f1 x.toNatClampNeg).1 = 0
      · rw [if_pos hs]
        rcases st_cases hm hn with e | ⟨g, p, e, -⟩
        · rw [e]; exact ⟨hm, gtK.rfl'⟩
        · rw [e] at hs; exact absurd (show (1 : Int32) = 0 from hs) (by decide)
      · rw [if_neg hs]
        have hg := gt_step hm ⟨hxe, h16, hn, h0⟩ hs
        have hi := ih (gX6_ranked (gX6_starts f1 x.toNatClampNeg).2 0) _ hg.1 rfl
        refine ⟨hi.1, gtK.trans' ?_ hi.2⟩
        rcases st_cases hm hn with e | ⟨g, p, e, hg2, hk, hp⟩
        · rw [e] at hs; exact absurd rfl hs
        · rw [e]; exact st_K hk h0
theorem gt_ok {f : FS} (hm : mInv f) : mInv (gX6_goesThrough f) ∧ gtK f (gX6_goesThrough f) := gt_L _ _ _ hm rfl
theorem gtK_n {f g : FS} (h : gtK f g) : nF g = nF f := by
  unfold nF
  rw [h.1 4 (by decide) (by decide)]
theorem cm_ok {f : FS} {a1 a2 a3 : Int32} (hm : mInv f) (h16 : ¬ f 4 = 16) (hc : okJ a1 a2 a3) : mInv (gX6_comes f a1 a2 a3) ∧ nF (gX6_comes f a1 a2 a3) = nF f + 1 := by
  have h := com_inv hm h16 hc
  have hg := gt_ok h.1
  exact ⟨hg.1, (gtK_n hg.2).trans h.2⟩
theorem mJ_0 {f : FS} {j : Nat} (h : mJ f j) : mJ0 f j := by
  refine ⟨h.1, h.2.1, h.2.2.1, h.2.2.2.1, fun z => ?_, h.2.2.2.2.2⟩
  have := h.2.2.2.2.1 z
  exact ⟨this.1, this.2.1, by omega, this.2.2.2⟩
theorem en_ok {f : FS} {j : Nat} {s : Int32} (hm : mInv f) (hj : j < nF f) (hs : s = 2 ∨ s = 3) : mInv (gX6_ends f j s) :=
  mInv_set hm hj (fun i hi => ends_f (by omega)) (fun i hi k hk => by rw [ends_oF hk, if_neg hi]) (ends_J (mJ_0 (hm.2 j hj)) hs)
theorem ch_ok {f : FS} {j : Nat} {a : Int32} (hm : mInv f) (hj : j < nF f) (h0 : ¬ gX6_is f j 0 = 0) (ha : ¬ gX6_in a.toInt64 0 2 = 0) : mInv (gX6_sets f j 0 a) := by
  have h3 : oF f j 3 = 0 := Decidable.not_not.mp (fun z => h0 (is_ne.mpr z))
  refine mInv_set hm hj (fun i hi => f_sets (by omega)) (fun i hi k hk => by rw [oF_sets (by decide) hk, if_neg (by omega)]) ?_
  have hJ := hm.2 j hj
  have e : ∀ k, k < 9 → k ≠ 0 → oF (gX6_sets f j 0 a) j k = oF f j k := fun k hk h => by rw [oF_sets (by decide) hk, if_neg (by omega)]
  have e0 : oF (gX6_sets f j 0 a) j 0 = a := by rw [oF_sets (by decide) (by decide), if_pos ⟨rfl, rfl⟩]
  unfold mJ
  rw [e0, e 1 (by decide) (by decide), e 2 (by decide) (by decide), e 3 (by decide) (by decide), e 4 (by decide) (by decide), e 5 (by decide) (by decide)]
  exact ⟨i3_of (in_ne.mp ha), hJ.2.1, hJ.2.2.1, hJ.2.2.2.1, fun z => absurd (h3.symm.trans z) (by decide), hJ.2.2.2.2.2⟩
theorem se_of {a b : Int32} (c : ¬ gX6_isSetting a b = 0) : (a = 0 ∧ 20 ≤ b.toInt ∧ b.toInt ≤ 500) ∨ ((a = 1 ∨ a = 2) ∧ (b = 0 ∨ b = 1)) ∨ (a = 3 ∧ 1 ≤ b.toInt ∧ b.toInt ≤ 50) := by
  unfold gX6_isSetting at c
  have h01 : ¬ gX6_in b.toInt64 0 1 = 0 → b = 0 ∨ b = 1 := fun h => by
    have h : (0 : Int64).toInt ≤ b.toInt ∧ b.toInt ≤ (1 : Int64).toInt := in_ne.mp h
    rw [i_eq, i_eq, i_0, i_1]
    rw [show (0 : Int64).toInt = 0 from rfl, show (1 : Int64).toInt = 1 from rfl] at h
    omega
  by_cases h0 : a = 0
  · rw [if_pos h0] at c
    exact Or.inl ⟨h0, in_ne.mp c⟩
  · by_cases h1 : a = 1
    · rw [if_neg h0, if_pos h1] at c
      exact Or.inr (Or.inl ⟨Or.inl h1, h01 c⟩)
    · by_cases h2 : a = 2
      · rw [if_neg h0, if_neg h1, if_pos h2] at c
        exact Or.inr (Or.inl ⟨Or.inr h2, h01 c⟩)
      · by_cases h3 : a = 3
        · rw [if_neg h0, if_neg h1, if_neg h2, if_pos h3] at c
          refine Or.inr (Or.inr ⟨h3, ?_⟩)
          by_cases h4 : gX6_in b.toInt64 1 50 = 0
          · rw [if_pos h4] at c; exact absurd rfl c
          · exact in_ne.mp h4
        · rw [if_neg h0, if_neg h1, if_neg h2, if_neg h3] at c
          exact absurd rfl c
theorem se_in {a b : Int32} (c : ¬ gX6_isSetting a b = 0) : vp_in (0 + a) 153 ∧ (0 + a).toNatClampNeg < 4 := by
  rcases se_of c with ⟨rfl, -⟩ | ⟨rfl | rfl, -⟩ | ⟨rfl, -⟩ <;> exact ⟨by unfold vp_in; decide, by decide⟩
theorem set_inv {f : FS} {k : Nat} {v : Int32} (hm : mInv f) (h : (k = 0 ∧ 20 ≤ v.toInt ∧ v.toInt ≤ 500) ∨ ((k = 1 ∨ k = 2) ∧ (v = 0 ∨ v = 1)) ∨ (k = 3 ∧ 1 ≤ v.toInt ∧ v.toInt ≤ 50)) : mInv (upd f k v) := by
  have hk : k < 4 := by omega
  have h4 : upd f k v 4 = f 4 := by rw [f_upd, if_neg (by omega)]
  have ho : ∀ j m, oF (upd f k v) j m = oF f j m := fun j m => oF_upd (by omega)
  obtain ⟨⟨a, b0, b1, b2, b3, b4⟩, h2⟩ := hm
  refine ⟨⟨?_, ?_, ?_, ?_, ?_, fun j h1 h2 m hm => ?_⟩, fun j hj => ?_⟩
  · rw [h4]; exact a
  · rw [f_upd]
    split
    · omega
    · exact b0
  · rw [f_upd]
    split
    · rcases h with h | h | h
      · omega
      · exact h.2
      · omega
    · exact b1
  · rw [f_upd]
    split
    · rcases h with h | h | h
      · omega
      · exact h.2
      · omega
    · exact b2
  · rw [f_upd]
    split
    · omega
    · exact b3
  · rw [h4] at h1
    rw [ho]
    exact b4 j h1 h2 m hm
  · rw [h4] at hj
    exact mJ_ext (fun m _ => ho j m) (h2 j hj)
theorem set_ok {f : FS} {a b : Int32} (hm : mInv f) (c : ¬ gX6_isSetting a b = 0) : mInv (upd f (0 + a).toNatClampNeg b) := by
  refine set_inv hm ?_
  rcases se_of c with ⟨rfl, h⟩ | ⟨rfl | rfl, h⟩ | ⟨rfl, h⟩
  · exact Or.inl ⟨rfl, h⟩
  · exact Or.inr (Or.inl ⟨Or.inl rfl, h⟩)
  · exact Or.inr (Or.inl ⟨Or.inr rfl, h⟩)
  · exact Or.inr (Or.inr ⟨rfl, h⟩)
def offO (f : FS) (i : Nat) : Int32 := if gX6_is f i 1 = 0 then 0 else if f 3 ≤ oF f i 5 then f 3 else oF f i 5
def stp1 (f : FS) (i : Nat) : FS := stpR f i (oF f i 6 + b01 (gX6_is f i 0)) (oF f i 7 + b01 (gX6_is f i 1)) (oF f i 5 - offO f i) (f 7 + offO f i)
theorem stp_is {f : FS} {i : Nat} {A a : Int32} : gX6_is (gX6_sets f i 6 A) i a = gX6_is f i a := by
  have e : oF (gX6_sets f i 6 A) i 3 = oF f i 3 := by rw [oF_sets (by decide) (by decide), if_neg (by omega)]
  unfold gX6_is
  rw [gX6_of_eq, e]
  rfl
theorem stp_of {f : FS} {i : Nat} {A : Int32} : gX6_of (gX6_sets f i 6 A) i 7 = oF f i 7 := by
  rw [gX6_of_eq, oF_sets (by decide) (by decide), if_neg (by omega)]
theorem stp_7 {f : FS} {i : Nat} {A B W : Int32} : gX6_sets (gX6_sets (gX6_sets f i 6 A) i 7 B) i 5 W 7 = f 7 := by
  rw [f_sets (by decide), f_sets (by decide), f_sets (by decide)]
theorem L4_eq {f f1 : FS} {fu i : Nat} : gX6_steps_L4 f (fu + 1) i f1 = gX6_steps_L4 f fu (i + 1) (stp1 f1 i) := by
  rw [gX6_steps_L4]
  simp only [stp_is, stp_of, of_st, stp_7]
  simp only [gX6_of_eq]
  unfold stp1 offO stpR b01
  by_cases h1 : gX6_is f1 i 1 = 0 <;> by_cases h0 : gX6_is f1 i 0 = 0 <;> by_cases h3 : f1 3 ≤ oF f1 i 5 <;> simp only [h1, h0, h3, if_true, if_false]
theorem stp1_A {f f1 : FS} {i : Nat} (hs : sA f i f1) (hi : i < (f 4).toNatClampNeg) : sA f (i + 1) (stp1 f1 i) := by
  have e : ∀ A B, oF f1 i 5 = gX6_of (gX6_sets (gX6_sets f1 i 6 A) i 7 B) i 5 := fun A B => of_st.symm
  unfold stp1
  by_cases h1 : gX6_is f1 i 1 = 0
  · have eo : offO f1 i = 0 := if_pos h1
    rw [eo, e]
    exact sA_1 hs hi h1
  · by_cases h3 : f1 3 ≤ oF f1 i 5
    · have eo : offO f1 i = f1 3 := by unfold offO; rw [if_neg h1, if_pos h3]
      rw [eo]
      have := sA_3 (A := oF f1 i 6 + b01 (gX6_is f1 i 0)) (B := oF f1 i 7 + b01 (gX6_is f1 i 1)) (C := f1 7 + f1 3) hs hi h1 h3
      rw [← e] at this
      exact this
    · have eo : offO f1 i = oF f1 i 5 := by unfold offO; rw [if_neg h1, if_neg h3]
      rw [eo]
      have := sA_2 (A := oF f1 i 6 + b01 (gX6_is f1 i 0)) (B := oF f1 i 7 + b01 (gX6_is f1 i 1)) (C := f1 7 + oF f1 i 5) hs hi h1 h3
      rw [← e] at this
      exact this
theorem L149_ok {f : FS} : ∀ (fu i : Nat) (x : Int32) (f1 : FS), i + fu = (f 4).toNatClampNeg → sB f i f1 → mInv (gX6_steps_L149 f fu i x f1).2 ∧ nF (gX6_steps_L149 f fu i x f1).2 = nF f := by
  intro fu
  induction fu with
  | zero =>
    intro i x f1 hi hs
    have h := sB_n (v := f1 6 + 1) hs (by omega)
    have e4 : nF (upd f1 6 (f1 6 + 1)) = nF f := by
      unfold nF
      rw [f_upd, if_neg (by decide), hs.2.1]
    rw [gX6_steps_L149]
    split
    · exact ⟨h, e4⟩
    · have hg := gt_ok h
      exact ⟨hg.1, (gtK_n hg.2).trans e4⟩
  | succ fu ih =>
    intro i x f1 hi hs
    rw [gX6_steps_L149]
    by_cases c : gX6_is f1 i 1 = 0
    · rw [if_pos c]
      exact ih _ _ _ (by omega) (sB_1 hs (by omega) c)
    · rw [if_neg c]
      by_cases d : gX6_of f1 i 5 = 0
      · rw [if_pos d]
        exact ih _ _ _ (by omega) (sB_3 hs (by omega) c d)
      · rw [if_neg d]
        exact ih _ _ _ (by omega) (sB_2 hs (by omega) c d)
theorem L4_ok {f : FS} : ∀ (fu i : Nat) (f1 : FS), i + fu = (f 4).toNatClampNeg → sA f i f1 → mInv (gX6_steps_L4 f fu i f1).2 ∧ nF (gX6_steps_L4 f fu i f1).2 = nF f := by
  intro fu
  induction fu with
  | zero => intro i f1 hi hs; exact L149_ok _ _ _ _ (by omega) (sA_n hs (by omega))
  | succ fu ih =>
    intro i f1 hi hs
    rw [L4_eq]
    exact ih _ _ (by omega) (stp1_A hs (by omega))
theorem sp_ok {f : FS} (hm : mInv f) : mInv (gX6_steps f).2 ∧ nF (gX6_steps f).2 = nF f := L4_ok _ _ _ (by omega) (sA_0 hm)
def numP (x : Int32) : Prop := 1 ≤ x.toInt ∧ x.toInt ≤ 200
theorem aa_16 {f : FS} (hm : mInv f) (h : nF f < 16) : ¬ f 4 = 16 := by
  intro e
  have h1 := n_toInt hm
  rw [e, show (16 : Int32).toInt = 16 from rfl] at h1
  omega
theorem ct_7 {x : Int32} (c : ¬ gX6_in x.toInt64 7 10 = 0) : vp_in (5 + x - 7) 153 := by
  have h := in_ne.mp c
  rw [show (7 : Int64).toInt = 7 from rfl, show (10 : Int64).toInt = 10 from rfl] at h
  have e5 : (5 : Int32).toInt = 5 := rfl
  have e7 : (7 : Int32).toInt = 7 := rfl
  have ea : (5 + x).toInt = 5 + x.toInt := by rw [ia (by omega) (by omega), e5]
  rw [vp_in_iff, isb (by omega) (by omega), ea, e7]
  omega
theorem ct_12 {x : Int32} (c : ¬ gX6_in x.toInt64 12 15 = 0) : vp_in (0 + x - 12) 153 := by
  have h := in_ne.mp c
  rw [show (12 : Int64).toInt = 12 from rfl, show (15 : Int64).toInt = 15 from rfl] at h
  have e7 : (12 : Int32).toInt = 12 := rfl
  have ea : (0 + x).toInt = x.toInt := by rw [Int32.zero_add]
  rw [vp_in_iff, isb (by omega) (by omega), ea, e7]
  omega
def gX6_why (f : FS) (a1 : Int32) : Int32 := (if (gX6_isJoin f a1) = 0 then (-1) else (if (gX6_is f a1.toNatClampNeg 0) = 0 then 0 else (if (gX6_needs f a1.toNatClampNeg) ≤ (f 0) then (if (gX6_rankOf f a1.toNatClampNeg) ≤ 0 then 3 else 2) else 1)))
def gX6_join (f : FS) (a1 : Int32) (a2 : Int32) : Int32 := (if (gX6_isJoin f a1) = 0 then (-1) else (if a2 = 0 then (gX6_of f a1.toNatClampNeg 0) else (if a2 = 1 then (gX6_of f a1.toNatClampNeg 1) else (if a2 = 2 then (gX6_of f a1.toNatClampNeg 2) else (if a2 = 3 then (gX6_of f a1.toNatClampNeg 3) else (if a2 = 4 then (gX6_needs f a1.toNatClampNeg) else (if a2 = 5 then (gX6_wants f a1.toNatClampNeg) else (if a2 = 6 then (gX6_of f a1.toNatClampNeg 4) else (if a2 = 7 then (gX6_of f a1.toNatClampNeg 5) else (if a2 = 8 then (gX6_of f a1.toNatClampNeg 6) else (if a2 = 9 then (gX6_of f a1.toNatClampNeg 7) else (if a2 = 10 then (gX6_of f a1.toNatClampNeg 8) else (if a2 = 11 then (if (gX6_spills f a1.toNatClampNeg) = 0 then 0 else 1) else (-2))))))))))))))
def gX6_queue (f : FS) (a1 : Int32) : Int32 := (if 0 ≤ a1 then (gX6_ranked f a1) else (-2))
def gX6_work (f : FS) (a1 : Int32) (a2 : Int32) (a3 : Int32) (a4 : Int32) : Int32 := (if (gX6_in ((a1).toInt64) 0 2) = 0 then (-2) else (if (gX6_isTable a2) = 0 then (-2) else (if (gX6_isTable a3) = 0 then (-2) else (if (gX6_in ((a4).toInt64) 3 500) = 0 then (-2) else (if (gX6_needsOf a1 a2 a3) ≤ a4 then (gX6_workOf a1 a2 a3 a4) else (-5))))))
def gX6_bestWay_L37 (f : FS) (a1 : Int32) (a2 : Int32) (a3 : Int32) : Nat → Nat → Int32 → Int32
  | 0, i, x4 => x4
  | fu + 1, i, x4 => (if a3 < (gX6_needsOf (nI i) a1 a2) then (gX6_bestWay_L37 f a1 a2 a3 fu (i + 1) x4) else (if (gX6_workOf x4 a1 a2 a3) ≤ (gX6_workOf (nI i) a1 a2 a3) then (gX6_bestWay_L37 f a1 a2 a3 fu (i + 1) x4) else (gX6_bestWay_L37 f a1 a2 a3 fu (i + 1) (nI i))))
def gX6_bestWay (f : FS) (a1 : Int32) (a2 : Int32) (a3 : Int32) : Int32 := (if (gX6_isTable a1) = 0 then (-2) else (if (gX6_isTable a2) = 0 then (-2) else (if (gX6_in ((a3).toInt64) 3 500) = 0 then (-2) else (gX6_bestWay_L37 f a1 a2 a3 2 1 0))))
