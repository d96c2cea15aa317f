/-! ===== a step of the reference; one that comes ===== -/
/-- a join in a step, whose work may be done -/
def mJ0 (f : FS) (j : Nat) : Prop :=
  (oF f j 0 = 0 ∨ oF f j 0 = 1 ∨ oF f j 0 = 2) ∧ (1 ≤ (oF f j 1).toInt ∧ (oF f j 1).toInt ≤ 200) ∧ (1 ≤ (oF f j 2).toInt ∧ (oF f j 2).toInt ≤ 200) ∧
  (oF f j 3 = 0 ∨ oF f j 3 = 1 ∨ oF f j 3 = 2 ∨ oF f j 3 = 3) ∧
  (oF f j 3 = 1 → (gX6_needs f j).toInt ≤ (oF f j 4).toInt ∧ (oF f j 4).toInt ≤ 500 ∧ 0 ≤ (oF f j 5).toInt ∧ (oF f j 5).toInt ≤ (501 - (oF f j 4).toInt) * (gX6_works f j (oF f j 4)).toInt) ∧
  (¬ oF f j 3 = 1 → oF f j 4 = 0 ∧ oF f j 5 = 0)
def sA (f : FS) (i : Nat) (f1 : FS) : Prop := mB f1 ∧ f1 4 = f 4 ∧ (∀ j, j < (f 4).toNatClampNeg → if j < i then mJ0 f1 j else mJ f1 j)
def sB (f : FS) (i : Nat) (f1 : FS) : Prop := mB f1 ∧ f1 4 = f 4 ∧ (∀ j, j < (f 4).toNatClampNeg → if j < i then mJ f1 j else mJ0 f1 j)
theorem mJ0_ext {f g : FS} {j : Nat} (e : ∀ m, m < 6 → oF g j m = oF f j m) (h : mJ0 f j) : mJ0 g j := by
  unfold mJ0 at h ⊢
  rw [needs_ext (f := f) (g := g) (fun m hm => e m (by omega)), works_ext (f := f) (g := g) (fun m hm => e m (by omega)), e 0 (by decide), e 1 (by decide), e 2 (by decide), e 3 (by decide), e 4 (by decide), e 5 (by decide)]
  exact h
theorem sA_0 {f : FS} (hm : mInv f) : sA f 0 f := ⟨hm.1, rfl, fun j hj => by rw [if_neg (by omega)]; exact hm.2 j hj⟩
/-- the row of a join behind its part of a step -/
abbrev stpR (f1 : FS) (i : Nat) (A B W C : Int32) : FS := upd (gX6_sets (gX6_sets (gX6_sets f1 i 6 A) i 7 B) i 5 W) 7 C
theorem stp_oF {f1 : FS} {i j k : Nat} {A B W C : Int32} (hk : k < 9) : oF (stpR f1 i A B W C) j k = if j = i then (if k = 5 then W else if k = 7 then B else if k = 6 then A else oF f1 i k) else oF f1 j k := by
  rw [oF_upd (by decide), oF_sets (by decide) hk, oF_sets (by decide) hk, oF_sets (by decide) hk]
  by_cases h : j = i
  · subst h
    by_cases h5 : k = 5
    · subst h5; simp
    · by_cases h7 : k = 7
      · subst h7; simp
      · by_cases h6 : k = 6
        · subst h6; simp
        · simp [h5, h7, h6]
  · simp [h]
theorem stp_f {f1 : FS} {i k : Nat} {A B W C : Int32} (hk : k < 9) (h7 : k ≠ 7) : stpR f1 i A B W C k = f1 k := by
  unfold stpR
  rw [f_upd, if_neg h7, f_sets hk, f_sets hk, f_sets hk]
theorem sA_go {f f1 : FS} {i : Nat} {A B W C : Int32} (hs : sA f i f1) (hi : i < (f 4).toNatClampNeg) (hw : mJ f1 i → mJ0 (stpR f1 i A B W C) i) : sA f (i + 1) (stpR f1 i A B W C) := by
  obtain ⟨h1, h2, h3⟩ := hs
  refine ⟨mB_ext (fun k hk => stp_f (by omega) (by omega)) (fun j hj hj16 m hm => ?_) h1, by rw [stp_f (by decide) (by decide), h2], fun j hj => ?_⟩
  · unfold nF at hj
    rw [h2] at hj
    rw [stp_oF hm, if_neg (by omega)]
  · have h4 := h3 j hj
    by_cases h : j = i
    · subst h
      rw [if_neg (by omega)] at h4
      rw [if_pos (by omega)]
      exact hw h4
    · have e : ∀ m, m < 6 → oF (stpR f1 i A B W C) j m = oF f1 j m := fun m hm => by rw [stp_oF (by omega), if_neg h]
      by_cases h5 : j < i
      · rw [if_pos h5] at h4
        rw [if_pos (by omega)]
        exact mJ0_ext e h4
      · rw [if_neg h5] at h4
        rw [if_neg (by omega)]
        exact mJ_ext e h4
theorem stp_J0 {f1 : FS} {i : Nat} {A B W C : Int32} (hJ : mJ f1 i) (h1 : oF f1 i 3 = 1 → 0 ≤ W.toInt ∧ W.toInt ≤ (oF f1 i 5).toInt) (h0 : ¬ oF f1 i 3 = 1 → W = 0) : mJ0 (stpR f1 i A B W C) i := by
  have e : ∀ k, k < 5 → oF (stpR f1 i A B W C) i k = oF f1 i k := fun k hk => by rw [stp_oF (by omega), if_pos rfl, if_neg (by omega), if_neg (by omega), if_neg (by omega)]
  have e5 : oF (stpR f1 i A B W C) i 5 = W := by rw [stp_oF (by omega), if_pos rfl, if_pos rfl]
  unfold mJ0
  rw [needs_ext (f := f1) (fun m hm => e m (by omega)), works_ext (f := f1) (fun m hm => e m (by omega)), e 0 (by decide), e 1 (by decide), e 2 (by decide), e 3 (by decide), e 4 (by decide), e5]
  obtain ⟨a, b, c, d, h5, h6⟩ := hJ
  refine ⟨a, b, c, d, fun z => ?_, fun z => ⟨(h6 z).1, h0 z⟩⟩
  have := h1 z
  have := h5 z
  exact ⟨by omega, by omega, by omega, by omega⟩
theorem of_st {f1 : FS} {i : Nat} {A B : Int32} : gX6_of (gX6_sets (gX6_sets f1 i 6 A) i 7 B) i 5 = oF f1 i 5 := by
  rw [gX6_of_eq, oF_sets (by decide) (by decide), oF_sets (by decide) (by decide), if_neg (by omega), if_neg (by omega)]
theorem sA_1 {f f1 : FS} {i : Nat} {A B C : Int32} (hs : sA f i f1) (hi : i < (f 4).toNatClampNeg) (c : gX6_is f1 i 1 = 0) : sA f (i + 1) (upd (gX6_sets (gX6_sets (gX6_sets f1 i 6 A) i 7 B) i 5 (gX6_of (gX6_sets (gX6_sets f1 i 6 A) i 7 B) i 5 - 0)) 7 C) := by
  rw [is_ne] at c
  refine sA_go hs hi (fun hJ => stp_J0 hJ (fun h => absurd h c) (fun h => ?_))
  rw [of_st, (hJ.2.2.2.2.2 h).2]
  rfl
theorem sA_2 {f f1 : FS} {i : Nat} {A B C : Int32} (hs : sA f i f1) (hi : i < (f 4).toNatClampNeg) (c : ¬ gX6_is f1 i 1 = 0) (d : ¬ f1 3 ≤ gX6_of f1 i 5) : sA f (i + 1) (upd (gX6_sets (gX6_sets (gX6_sets f1 i 6 A) i 7 B) i 5 (gX6_of (gX6_sets (gX6_sets f1 i 6 A) i 7 B) i 5 - gX6_of f1 i 5)) 7 C) := by
  refine sA_go hs hi (fun hJ => stp_J0 hJ (fun h => ?_) (fun h => absurd (is_ne.mpr h) c))
  have := (hJ.2.2.2.2.1 h).2.2.1
  rw [of_st, gX6_of_eq, Int32.sub_self, i_0]
  omega
theorem sA_3 {f f1 : FS} {i : Nat} {A B C : Int32} (hs : sA f i f1) (hi : i < (f 4).toNatClampNeg) (c : ¬ gX6_is f1 i 1 = 0) (d : f1 3 ≤ gX6_of f1 i 5) : sA f (i + 1) (upd (gX6_sets (gX6_sets (gX6_sets f1 i 6 A) i 7 B) i 5 (gX6_of (gX6_sets (gX6_sets f1 i 6 A) i 7 B) i 5 - f1 3)) 7 C) := by
  have h3 := hs.1.2.2.2.2.1
  refine sA_go hs hi (fun hJ => stp_J0 hJ (fun h => ?_) (fun h => absurd (is_ne.mpr h) c))
  have := (hJ.2.2.2.2.1 h).2.2.1
  rw [x_ile, gX6_of_eq] at d
  have hh := (oF f1 i 5).toInt_lt
  rw [of_st, isb (by omega) (by omega)]
  omega
theorem sA_n {f f1 : FS} {i : Nat} (hs : sA f i f1) (hi : i = (f 4).toNatClampNeg) : sB f 0 f1 := by
  subst hi
  exact ⟨hs.1, hs.2.1, fun j hj => by have := hs.2.2 j hj; rw [if_pos hj] at this; rw [if_neg (by omega)]; exact this⟩
theorem sB_go {f f1 g : FS} {i : Nat} (hs : sB f i f1) (hi : i < (f 4).toNatClampNeg) (e : ∀ k, k < 5 → g k = f1 k) (ho : ∀ j, j ≠ i → ∀ m, m < 9 → oF g j m = oF f1 j m) (hw : mJ0 f1 i → mJ g i) : sB f (i + 1) g := by
  obtain ⟨h1, h2, h3⟩ := hs
  refine ⟨mB_ext e (fun j hj hj16 m hm => ?_) h1, by rw [e 4 (by decide), h2], fun j hj => ?_⟩
  · unfold nF at hj
    rw [h2] at hj
    exact ho j (by omega) m hm
  · have h4 := h3 j hj
    by_cases h : j = i
    · subst h
      rw [if_neg (by omega)] at h4
      rw [if_pos (by omega)]
      exact hw h4
    · have e : ∀ m, m < 6 → oF g j m = oF f1 j m := fun m hm => ho j h m (by omega)
      by_cases h5 : j < i
      · rw [if_pos h5] at h4
        rw [if_pos (by omega)]
        exact mJ_ext e h4
      · rw [if_neg h5] at h4
        rw [if_neg (by omega)]
        exact mJ0_ext e h4
theorem sB_1 {f f1 : FS} {i : Nat} (hs : sB f i f1) (hi : i < (f 4).toNatClampNeg) (c : gX6_is f1 i 1 = 0) : sB f (i + 1) f1 := by
  rw [is_ne] at c
  exact sB_go hs hi (fun _ _ => rfl) (fun _ _ _ _ => rfl) (fun h => ⟨h.1, h.2.1, h.2.2.1, h.2.2.2.1, fun z => absurd z c, h.2.2.2.2.2⟩)
theorem sB_2 {f f1 : FS} {i : Nat} (hs : sB f i f1) (hi : i < (f 4).toNatClampNeg) (c : ¬ gX6_is f1 i 1 = 0) (d : ¬ gX6_of f1 i 5 = 0) : sB f (i + 1) f1 := by
  refine sB_go hs hi (fun _ _ => rfl) (fun _ _ _ _ => rfl) (fun h => ⟨h.1, h.2.1, h.2.2.1, h.2.2.2.1, fun z => ?_, h.2.2.2.2.2⟩)
  have h5 := h.2.2.2.2.1 z
  rw [gX6_of_eq, i_eq, i_0] at d
  exact ⟨h5.1, h5.2.1, by omega, h5.2.2.2⟩
theorem ends_oF {f : FS} {j i k : Nat} {s : Int32} (hk : k < 9) : oF (gX6_ends f j s) i k = if i = j then (if k = 3 then s else if k = 4 then 0 else if k = 5 then 0 else oF f j k) else oF f i k := by
  unfold gX6_ends
  rw [oF_sets (by decide) hk, oF_sets (by decide) hk, oF_sets (by decide) hk]
  by_cases h : i = j
  · subst h
    by_cases h5 : k = 5
    · subst h5; simp
    · by_cases h4 : k = 4
      · subst h4; simp
      · by_cases h3 : k = 3
        · subst h3; simp
        · simp [h5, h4, h3]
  · simp [h]
theorem ends_f {f : FS} {j i : Nat} {s : Int32} (hi : i < 9) : gX6_ends f j s i = f i := by
  unfold gX6_ends
  rw [f_sets hi, f_sets hi, f_sets hi]
theorem ends_J {f : FS} {j : Nat} {s : Int32} (h : mJ0 f j) (hs : s = 2 ∨ s = 3) : mJ (gX6_ends f j s) j := by
  have e : ∀ k, k < 3 → oF (gX6_ends f j s) j k = oF f j k := fun k hk => by rw [ends_oF (by omega), if_pos rfl, if_neg (by omega), if_neg (by omega), if_neg (by omega)]
  have e3 : oF (gX6_ends f j s) j 3 = s := by rw [ends_oF (by omega), if_pos rfl, if_pos rfl]
  have e4 : oF (gX6_ends f j s) j 4 = 0 := by rw [ends_oF (by omega), if_pos rfl, if_neg (by decide), if_pos rfl]
  have e5 : oF (gX6_ends f j s) j 5 = 0 := by rw [ends_oF (by omega), if_pos rfl, if_neg (by decide), if_neg (by decide), if_pos rfl]
  unfold mJ
  rw [e 0 (by decide), e 1 (by decide), e 2 (by decide), e3, e4, e5]
  refine ⟨h.1, h.2.1, h.2.2.1, ?_, fun z => ?_, fun _ => ⟨rfl, rfl⟩⟩
  · rcases hs with rfl | rfl
    · exact Or.inr (Or.inr (Or.inl rfl))
    · exact Or.inr (Or.inr (Or.inr rfl))
  · rcases hs with rfl | rfl <;> exact absurd z (by decide)
theorem sB_3 {f f1 : FS} {i : Nat} (hs : sB f i f1) (hi : i < (f 4).toNatClampNeg) (c : ¬ gX6_is f1 i 1 = 0) (d : gX6_of f1 i 5 = 0) : sB f (i + 1) (gX6_ends f1 i 2) :=
  sB_go hs hi (fun k hk => ends_f (by omega)) (fun j hj m hm => by rw [ends_oF hm, if_neg hj]) (fun h => ends_J h (Or.inl rfl))
theorem mInv_upd {f : FS} {k : Nat} {v : Int32} (hm : mInv f) (hk : 5 ≤ k) (hk9 : k < 9) : mInv (upd f k v) := by
  have e : ∀ i, i < 5 → upd f k v i = f i := fun i hi => by rw [f_upd, if_neg (by omega)]
  refine ⟨mB_ext e (fun j _ _ m _ => oF_upd hk9) hm.1, fun j hj => ?_⟩
  rw [e 4 (by decide)] at hj
  exact mJ_ext (fun m _ => oF_upd hk9) (hm.2 j hj)
theorem sB_n {f f1 : FS} {i : Nat} {v : Int32} (hs : sB f i f1) (hi : i = (f 4).toNatClampNeg) : mInv (upd f1 6 v) := by
  subst hi
  refine mInv_upd ⟨hs.1, fun j hj => ?_⟩ (by decide) (by decide)
  rw [hs.2.1] at hj
  have := hs.2.2 j hj
  rw [if_pos hj] at this
  exact this
theorem n4_of {f : FS} (hm : mInv f) : f 4 = nI (f 4).toNatClampNeg := by
  obtain ⟨j, hj, e⟩ := nI_of hm.1.1.1
  rw [e, nI_clamp hj]
theorem n16_of {f : FS} (hm : mInv f) (h : ¬ f 4 = 16) : (f 4).toNatClampNeg < 16 := by
  have h1 := n_le hm
  have h2 := n4_of hm
  refine Nat.lt_of_le_of_ne h1 (fun e => h ?_)
  have e : (f 4).toNatClampNeg = 16 := e
  rw [h2, e]
  rfl
/-- a way and two tables as the document wants them -/
def okJ (a1 a2 a3 : Int32) : Prop := (a1 = 0 ∨ a1 = 1 ∨ a1 = 2) ∧ (1 ≤ a2.toInt ∧ a2.toInt ≤ 200) ∧ (1 ≤ a3.toInt ∧ a3.toInt ≤ 200)
/-- one has come -/
def comF (f : FS) (a1 a2 a3 : Int32) : FS := gX6_sets (gX6_sets (gX6_sets (upd f 4 (f 4 + 1)) (f 4).toNatClampNeg 0 a1) (f 4).toNatClampNeg 1 a2) (f 4).toNatClampNeg 2 a3
theorem com_oF {f : FS} {i k : Nat} {a1 a2 a3 : Int32} (hk : k < 9) : oF (comF f a1 a2 a3) i k = if i = nF f then (if k = 0 then a1 else if k = 1 then a2 else if k = 2 then a3 else oF f i k) else oF f i k := by
  unfold comF
  rw [oF_sets (by decide) hk, oF_sets (by decide) hk, oF_sets (by decide) hk, oF_upd (by decide)]
  by_cases h : i = nF f
  · have h' : i = (f 4).toNatClampNeg := h
    by_cases h2 : k = 2
    · subst h2; simp [h']
    · by_cases h1 : k = 1
      · subst h1; simp [h']
      · by_cases h0 : k = 0
        · subst h0; simp [h']
        · simp [h', h2, h1, h0]
  · have h' : ¬ i = (f 4).toNatClampNeg := h
    simp [h']
theorem com_f {f : FS} {i : Nat} {a1 a2 a3 : Int32} (hi : i < 9) : comF f a1 a2 a3 i = if i = 4 then f 4 + 1 else f i := by
  unfold comF
  rw [f_sets hi, f_sets hi, f_sets hi, f_upd]
theorem com_inv {f : FS} {a1 a2 a3 : Int32} (hm : mInv f) (h16 : ¬ f 4 = 16) (hc : okJ a1 a2 a3) : mInv (comF f a1 a2 a3) ∧ nF (comF f a1 a2 a3) = nF f + 1 := by
  have hn := n16_of hm h16
  have h4 := n4_of hm
  have e4 : comF f a1 a2 a3 4 = nI (nF f + 1) := by
    rw [com_f (by decide), if_pos rfl, ← nI_1]
    exact congrArg (fun z => z + 1) h4
  have en : nF (comF f a1 a2 a3) = nF f + 1 := by
    unfold nF at hn ⊢
    rw [e4]
    exact nI_clamp (by unfold nF; omega)
  have hz := hm.1.2.2.2.2.2
  have hzn := hz (nF f) (Nat.le_refl _) hn
  refine ⟨⟨⟨⟨?_, ?_⟩, ?_, ?_, ?_, ?_, ?_⟩, ?_⟩, en⟩
  · rw [e4]; exact nI_pos (by unfold nF; omega)
  · rw [show (comF f a1 a2 a3 4).toNatClampNeg = nF f + 1 from en]; exact hn
  · rw [com_f (by decide), if_neg (by decide)]; exact hm.1.2.1
  · rw [com_f (by decide), if_neg (by decide)]; exact hm.1.2.2.1
  · rw [com_f (by decide), if_neg (by decide)]; exact hm.1.2.2.2.1
  · rw [com_f (by decide), if_neg (by decide)]; exact hm.1.2.2.2.2.1
  · intro j hj hj16 k hk
    rw [show (comF f a1 a2 a3 4).toNatClampNeg = nF f + 1 from en] at hj
    rw [com_oF hk, if_neg (by omega)]
    exact hz j (Nat.le_of_succ_le hj) hj16 k hk
  · intro j hj
    rw [show (comF f a1 a2 a3 4).toNatClampNeg = nF f + 1 from en] at hj
    by_cases h : j = nF f
    · subst h
      have e3 : ∀ k, 3 ≤ k → k < 9 → oF (comF f a1 a2 a3) (nF f) k = 0 := fun k h3 h9 => by rw [com_oF h9, if_pos rfl, if_neg (by omega), if_neg (by omega), if_neg (by omega)]; exact hzn k h9
      have e0 : oF (comF f a1 a2 a3) (nF f) 0 = a1 := by rw [com_oF (by decide), if_pos rfl, if_pos rfl]
      have e1 : oF (comF f a1 a2 a3) (nF f) 1 = a2 := by rw [com_oF (by decide), if_pos rfl, if_neg (by decide), if_pos rfl]
      have e2 : oF (comF f a1 a2 a3) (nF f) 2 = a3 := by rw [com_oF (by decide), if_pos rfl, if_neg (by decide), if_neg (by decide), if_pos rfl]
      unfold mJ
      rw [e0, e1, e2, e3 3 (by decide) (by decide), e3 4 (by decide) (by decide), e3 5 (by decide) (by decide)]
      exact ⟨hc.1, hc.2.1, hc.2.2, Or.inl rfl, fun z => absurd z (by decide), fun _ => ⟨rfl, rfl⟩⟩
    · refine mJ_ext (fun m hm6 => by rw [com_oF (by omega), if_neg h]) (hm.2 j (by unfold nF at h hj; omega))
theorem cm_inv {f : FS} {a1 a2 a3 : Int32} (hm : mInv f) (h16 : ¬ f 4 = 16) (hc : okJ a1 a2 a3) : mInv (gX6_sets (gX6_sets (gX6_sets (upd f 4 (f 4 + 1)) (f 4).toNatClampNeg 0 a1) (f 4).toNatClampNeg 1 a2) (f 4).toNatClampNeg 2 a3) := (com_inv hm h16 hc).1
