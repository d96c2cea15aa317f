/-! ===== a join's row of the class, and of the reference ===== -/
def RJ (f : FS) (j : Nat) (v : Nat → Int32) : Prop :=
  v 0 = oF f j 3 ∧ v 1 = oF f j 4 ∧ v 2 = oF f j 5 ∧ v 3 = oF f j 6 ∧ v 4 = oF f j 7 ∧ v 5 = oF f j 8 ∧ v 6 = oF f j 0 ∧ v 7 = oF f j 1 ∧ v 8 = oF f j 2 ∧ v 9 = gX6_needs f j ∧ v 10 = gX6_wants f j
def RN (v : Nat → Int32) : Prop := v 0 = -1 ∧ v 1 = 0 ∧ v 2 = 0 ∧ v 3 = 0 ∧ v 4 = 0 ∧ v 5 = 0
def RS (f : FS) (P : PS) : Prop := (P.1 0 = f 0 ∧ P.1 1 = f 1 ∧ P.1 2 = f 2 ∧ P.1 3 = f 3) ∧ P.2.1 0 = f 4 ∧ P.2.1 1 = f 5 ∧ P.2.1 2 = f 6 ∧ P.2.1 3 = f 7 ∧ P.2.1 4 = f 8
/-- the pool shows what the row shows -/
def RP (f : FS) (P : PS) : Prop := RS f P ∧ (∀ j, j < nF f → RJ f j (P.2.2 j)) ∧ ∀ j, nF f ≤ j → j < 16 → RN (P.2.2 j)
theorem RJ_ext {f g : FS} {j : Nat} {v : Nat → Int32} (e : ∀ m, m < 9 → oF g j m = oF f j m) (h : RJ f j v) : RJ g j v := by
  unfold RJ at h ⊢
  rw [needs_ext (f := f) (g := g) (fun m hm => e m (by omega)), wants_ext (f := f) (g := g) (fun m hm => e m (by omega)), e 0 (by decide), e 1 (by decide), e 2 (by decide), e 3 (by decide), e 4 (by decide), e 5 (by decide), e 6 (by decide), e 7 (by decide), e 8 (by decide)]
  exact h
theorem RP_set {f g : FS} {P : PS} {F : Nat → Int32} {k : Nat} {v : Nat → Int32} (h : RP f P) (hk : k < nF f) (hs : RS g (P.1, F, va_up P.2.2 k v)) (e4 : g 4 = f 4) (ho : ∀ j, j ≠ k → ∀ m, m < 9 → oF g j m = oF f j m) (hv : RJ g k v) : RP g (P.1, F, va_up P.2.2 k v) := by
  have en : nF g = nF f := by unfold nF; rw [e4]
  refine ⟨hs, fun j hj => ?_, fun j hj hj16 => ?_⟩
  · show RJ g j (va_up P.2.2 k v j)
    by_cases hjk : j = k
    · subst hjk
      rw [show va_up P.2.2 j v j = v from if_pos rfl]
      exact hv
    · rw [show va_up P.2.2 k v j = P.2.2 j from if_neg hjk]
      exact RJ_ext (ho j hjk) (h.2.1 j (by omega))
  · show RN (va_up P.2.2 k v j)
    rw [show va_up P.2.2 k v j = P.2.2 j from if_neg (by omega)]
    exact h.2.2 j (by omega) hj16
/-! its numbers -/
theorem eq_isIn {f : FS} {j : Nat} {v : Nat → Int32} {n a : Int32} (h : RJ f j v) : gX1_isIn n v a = gX6_is f j a := by
  unfold gX1_isIn gX6_is
  rw [h.1]
  rfl
theorem nin_isIn {v : Nat → Int32} {n a : Int32} (h : RN v) (ha : 0 ≤ a.toInt) : gX1_isIn n v a = 0 := by
  unfold gX1_isIn
  rw [h.1, if_neg]
  rw [i_eq, show (-1 : Int32).toInt = -1 from rfl]
  omega
theorem eq_surplus {f : FS} {j : Nat} {v : Nat → Int32} {n : Int32} (h : RJ f j v) : gX1_surplus n v = gX6_extra f j := by
  unfold gX1_surplus
  rw [extra_eq, h.1, h.2.1, h.2.2.2.2.2.2.2.2.2.1]
theorem nin_surplus {v : Nat → Int32} {n : Int32} (h : RN v) : gX1_surplus n v = 0 := by
  unfold gX1_surplus
  rw [h.1, if_neg (by decide)]
theorem eq_spills {f : FS} {j : Nat} {v : Nat → Int32} {n : Int32} (h : RJ f j v) : gX1_spills n v = gX6_spills f j := by
  unfold gX1_spills gX3_spillsWith gX6_spills
  show (if v 0 = 1 then if (if v 6 = 0 then 0 else if v 10 ≤ v 1 then 0 else 1) = (0 : Int32) then 0 else 1 else 0) = _
  rw [h.1, h.2.1, h.2.2.2.2.2.2.1, h.2.2.2.2.2.2.2.2.2.2]
  simp only [gX6_of_eq]
  by_cases h1 : oF f j 3 = 1
  · rw [if_pos h1, if_neg (fun e => is_ne.mp e h1)]
    by_cases h2 : oF f j 0 = 0
    · simp [h2]
    · by_cases h3 : gX6_wants f j ≤ oF f j 4
      · simp [h2, h3]
      · simp [h2, h3]
  · rw [if_neg h1, if_pos (is_ne.mpr h1)]
theorem nin_spills {v : Nat → Int32} {n : Int32} (h : RN v) : gX1_spills n v = 0 := by
  unfold gX1_spills
  rw [h.1, if_neg (by decide)]
theorem RJ_w {f : FS} {j : Nat} {v : Nat → Int32} (h : RJ f j v) (hm : mJ f j) : wOK (v 6) (v 7) (v 8) := by
  rw [h.2.2.2.2.2.2.1, h.2.2.2.2.2.2.2.1, h.2.2.2.2.2.2.2.2.1]
  exact mJ_w hm
theorem eq_works {f : FS} {j : Nat} {v : Nat → Int32} {d : Int32} (h : RJ f j v) (hm : mJ f j) (hd : 3 ≤ d.toInt ∧ d.toInt ≤ 1000) : gX3_workWith (tl6 v) d = gX6_works f j d := by
  have e := eq_work (p := tl6 v) (d := d) (RJ_w h hm) (by show v 10 = gX6_wantsOf (v 6) (v 7) (v 8); rw [h.2.2.2.2.2.2.1, h.2.2.2.2.2.2.2.1, h.2.2.2.2.2.2.2.2.1]; exact h.2.2.2.2.2.2.2.2.2.2) hd
  rw [e]
  show gX6_workOf (v 6) (v 7) (v 8) d = _
  rw [h.2.2.2.2.2.2.1, h.2.2.2.2.2.2.2.1, h.2.2.2.2.2.2.2.2.1]
  rfl
/-! its acts -/
theorem RJ_start {f : FS} {j : Nat} {v : Nat → Int32} {n p : Int32} (h : RJ f j v) (hm : mJ f j) (hp : 3 ≤ p.toInt ∧ p.toInt ≤ 1000) : RJ (goF f j p) j (gX1_start n v p) := by
  have e : ∀ k, k < 9 → k ≠ 3 → k ≠ 4 → k ≠ 5 → oF (goF f j p) j k = oF f j k := fun k hk h3 h4 h5 => by rw [goF_oF hk, if_pos rfl, if_neg h3, if_neg h4, if_neg h5]
  have e3 : oF (goF f j p) j 3 = 1 := by rw [goF_oF (by omega), if_pos rfl, if_pos rfl]
  have e4 : oF (goF f j p) j 4 = p := by rw [goF_oF (by omega), if_pos rfl, if_neg (by omega), if_pos rfl]
  have e5 : oF (goF f j p) j 5 = gX6_works f j p := by rw [goF_oF (by omega), if_pos rfl, if_neg (by omega), if_neg (by omega), if_pos rfl]
  have ew : gX3_workWith (tl6 (upd (upd v 0 1) 1 p)) p = gX6_works f j p := by
    have : tl6 (upd (upd v 0 1) 1 p) = tl6 v := by
      funext k
      show upd (upd v 0 1) 1 p (6 + k) = v (6 + k)
      rw [f_upd, if_neg (by omega), f_upd, if_neg (by omega)]
    rw [this]
    exact eq_works h hm hp
  obtain ⟨h0, h1, h2, h3, h4, h5, h6, h7, h8, h9, h10⟩ := h
  unfold RJ
  rw [needs_ext (f := f) (fun m hm => e m (by omega) (by omega) (by omega) (by omega)), wants_ext (f := f) (fun m hm => e m (by omega) (by omega) (by omega) (by omega)), e3, e4, e5, e 6 (by decide) (by decide) (by decide) (by decide), e 7 (by decide) (by decide) (by decide) (by decide), e 8 (by decide) (by decide) (by decide) (by decide), e 0 (by decide) (by decide) (by decide) (by decide), e 1 (by decide) (by decide) (by decide) (by decide), e 2 (by decide) (by decide) (by decide) (by decide)]
  exact ⟨rfl, rfl, ew, h3, h4, h5, h6, h7, h8, h9, h10⟩
theorem RJ_end {f : FS} {j : Nat} {v : Nat → Int32} {n s : Int32} (h : RJ f j v) : RJ (gX6_ends f j s) j (gX1_end n v s) := by
  have e : ∀ k, k < 9 → k ≠ 3 → k ≠ 4 → k ≠ 5 → oF (gX6_ends f j s) j k = oF f j k := fun k hk h3 h4 h5 => by rw [ends_oF hk, if_pos rfl, if_neg h3, if_neg h4, if_neg h5]
  have e3 : oF (gX6_ends f j s) j 3 = s := by rw [ends_oF (by omega), if_pos rfl, if_pos rfl]
  have e4 : oF (gX6_ends f j s) j 4 = 0 := by rw [ends_oF (by omega), if_pos rfl, if_neg (by decide), if_pos rfl]
  have e5 : oF (gX6_ends f j s) j 5 = 0 := by rw [ends_oF (by omega), if_pos rfl, if_neg (by decide), if_neg (by decide), if_pos rfl]
  obtain ⟨h0, h1, h2, h3, h4, h5, h6, h7, h8, h9, h10⟩ := h
  unfold RJ
  rw [needs_ext (f := f) (fun m hm => e m (by omega) (by omega) (by omega) (by omega)), wants_ext (f := f) (fun m hm => e m (by omega) (by omega) (by omega) (by omega)), e3, e4, e5, e 6 (by decide) (by decide) (by decide) (by decide), e 7 (by decide) (by decide) (by decide) (by decide), e 8 (by decide) (by decide) (by decide) (by decide), e 0 (by decide) (by decide) (by decide) (by decide), e 1 (by decide) (by decide) (by decide) (by decide), e 2 (by decide) (by decide) (by decide) (by decide)]
  exact ⟨rfl, rfl, rfl, h3, h4, h5, h6, h7, h8, h9, h10⟩
theorem RJ_cw {f : FS} {j : Nat} {v : Nat → Int32} {n a : Int32} (h : RJ f j v) (hm : mJ f j) (ha : a = 0 ∨ a = 1 ∨ a = 2) : RJ (gX6_sets f j 0 a) j (gX1_changeWay n v a) := by
  have e : ∀ k, k < 9 → k ≠ 0 → oF (gX6_sets f j 0 a) j k = oF f j k := fun k hk h => by rw [oF_sets (by decide) hk, if_neg (by omega)]
  have e0 : oF (gX6_sets f j 0 a) j 0 = a := by rw [oF_sets (by decide) (by decide), if_pos ⟨rfl, rfl⟩]
  obtain ⟨h0, h1, h2, h3, h4, h5, h6, h7, h8, h9, h10⟩ := h
  have c := eq_cw (p := tl6 v) (a := a) ⟨ha, by show 1 ≤ (v 7).toInt ∧ _; rw [show tl6 v 1 = v 7 from rfl, h7]; exact hm.2.1, by show 1 ≤ (v 8).toInt ∧ _; rw [show tl6 v 2 = v 8 from rfl, h8]; exact hm.2.2.1⟩
  have en : gX6_needs (gX6_sets f j 0 a) j = gX6_needsOf a (oF f j 1) (oF f j 2) := by
    unfold gX6_needs
    simp only [gX6_of_eq]
    rw [e0, e 1 (by decide) (by decide), e 2 (by decide) (by decide)]
  have ewt : gX6_wants (gX6_sets f j 0 a) j = gX6_wantsOf a (oF f j 1) (oF f j 2) := by
    unfold gX6_wants
    simp only [gX6_of_eq]
    rw [e0, e 1 (by decide) (by decide), e 2 (by decide) (by decide)]
  unfold RJ
  rw [en, ewt, e0, e 1 (by decide) (by decide), e 2 (by decide) (by decide), e 3 (by decide) (by decide), e 4 (by decide) (by decide), e 5 (by decide) (by decide), e 6 (by decide) (by decide), e 7 (by decide) (by decide), e 8 (by decide) (by decide), ← h7, ← h8]
  exact ⟨h0, h1, h2, h3, h4, h5, c.1, c.2.1, c.2.2.1, c.2.2.2.1, c.2.2.2.2⟩
theorem RJ_gb {f : FS} {j : Nat} {v : Nat → Int32} {n m : Int32} (h : RJ f j v) (hm : mJ f j) (h1 : oF f j 3 = 1) (hm1 : 1 ≤ m.toInt) (hm2 : m.toInt ≤ (gX6_extra f j).toInt) : RJ (gX6_givesBack f j m) j (gX1_giveBack n v m) := by
  have hn := mJ_n hm
  have hb := gbW_bd hm h1 hm1 hm2
  have hp := hm.2.2.2.2.1 h1
  have e : ∀ k, k < 9 → k ≠ 4 → k ≠ 5 → k ≠ 8 → oF (gX6_givesBack f j m) j k = oF f j k := fun k hk h4 h5 h8 => by rw [gb_oF hk, if_pos rfl, if_neg h4, if_neg h5, if_neg h8]
  have e4 : oF (gX6_givesBack f j m) j 4 = oF f j 4 - m := by rw [gb_oF (by decide), if_pos rfl, if_pos rfl]
  have e5 : oF (gX6_givesBack f j m) j 5 = gbW f j m := by rw [gb_oF (by decide), if_pos rfl, if_neg (by decide), if_pos rfl]
  have e8 : oF (gX6_givesBack f j m) j 8 = oF f j 8 + m := by rw [gb_oF (by decide), if_pos rfl, if_neg (by decide), if_neg (by decide), if_pos rfl]
  have w1 : gX3_workWith (tl6 v) (v 1) = gX6_works f j (oF f j 4) := by rw [h.2.1]; exact eq_works h hm (by omega)
  have w2 : gX3_workWith (tl6 v) (v 1 - m) = gX6_works f j (oF f j 4 - m) := by rw [h.2.1]; exact eq_works h hm (by omega)
  have wb : 1 ≤ (gX6_works f j (oF f j 4)).toInt := (works_bd (mJ_w hm) (d := oF f j 4) (by omega)).1
  obtain ⟨h0, h1', h2, h3, h4, h5, h6, h7, h8, h9, h10⟩ := h
  have hg : gX1_giveBack n v m = upd (upd (upd v 2 (gbW f j m)) 1 (oF f j 4 - m)) 5 (oF f j 8 + m) := by
    unfold gX1_giveBack
    rw [w1, w2, if_neg, h1', h2, h5]
    · rfl
    · rw [lg_cmp_le, Int64.le_iff_toInt_le, Int32.toInt_toInt64, show (0 : Int64).toInt = 0 from rfl]
      omega
  rw [hg]
  unfold RJ
  rw [needs_ext (f := f) (fun m hm => e m (by omega) (by omega) (by omega) (by omega)), wants_ext (f := f) (fun m hm => e m (by omega) (by omega) (by omega) (by omega)), e4, e5, e8, e 3 (by decide) (by decide) (by decide) (by decide), e 6 (by decide) (by decide) (by decide) (by decide), e 7 (by decide) (by decide) (by decide) (by decide), e 0 (by decide) (by decide) (by decide) (by decide), e 1 (by decide) (by decide) (by decide) (by decide), e 2 (by decide) (by decide) (by decide) (by decide)]
  exact ⟨h0, rfl, rfl, h3, h4, rfl, h6, h7, h8, h9, h10⟩
theorem RJ_come {f : FS} {v : Nat → Int32} {n a b c : Int32} (hz : ∀ k, k < 9 → oF f (nF f) k = 0) (h : RN v) (hc : okJ a b c) : RJ (comF f a b c) (nF f) (gX1_come n v a b c) := by
  have e : ∀ k, 3 ≤ k → k < 9 → oF (comF f a b c) (nF f) k = 0 := fun k h3 h9 => by rw [com_oF h9, if_pos rfl, if_neg (by omega), if_neg (by omega), if_neg (by omega)]; exact hz k h9
  have e0 : oF (comF f a b c) (nF f) 0 = a := by rw [com_oF (by decide), if_pos rfl, if_pos rfl]
  have e1 : oF (comF f a b c) (nF f) 1 = b := by rw [com_oF (by decide), if_pos rfl, if_neg (by decide), if_pos rfl]
  have e2 : oF (comF f a b c) (nF f) 2 = c := by rw [com_oF (by decide), if_pos rfl, if_neg (by decide), if_neg (by decide), if_pos rfl]
  have hk := eq_make (p := tl6 v) (a := a) (b := b) (c := c) hc
  have en : gX6_needs (comF f a b c) (nF f) = gX6_needsOf a b c := by
    unfold gX6_needs
    simp only [gX6_of_eq]
    rw [e0, e1, e2]
  have ewt : gX6_wants (comF f a b c) (nF f) = gX6_wantsOf a b c := by
    unfold gX6_wants
    simp only [gX6_of_eq]
    rw [e0, e1, e2]
  obtain ⟨h0, h1, h2, h3, h4, h5⟩ := h
  unfold RJ
  rw [en, ewt, e0, e1, e2, e 3 (by decide) (by decide), e 4 (by decide) (by decide), e 5 (by decide) (by decide), e 6 (by decide) (by decide), e 7 (by decide) (by decide), e 8 (by decide) (by decide)]
  exact ⟨rfl, h1, h2, h3, h4, h5, hk.1, hk.2.1, hk.2.2.1, hk.2.2.2.1, hk.2.2.2.2⟩
