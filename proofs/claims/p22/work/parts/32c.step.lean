/-! ===== one step of the row, told in full ===== -/
def dn (g : FS) (j : Nat) : Int32 := if oF g j 3 = 1 ∧ oF g j 5 = 0 then 1 else 0
def EI (g : FS) (i : Nat) (h : FS) : Prop := (∀ k, k < 9 → h k = g k) ∧ ∀ j m, m < 9 → oF h j m = if j < i ∧ oF g j 3 = 1 ∧ oF g j 5 = 0 then (if m = 3 then 2 else if m = 4 then 0 else if m = 5 then 0 else oF g j m) else oF g j m
theorem EI_no {g h : FS} {i : Nat} (hE : EI g i h) (c : ¬ (oF g i 3 = 1 ∧ oF g i 5 = 0)) : EI g (i + 1) h := by
  refine ⟨hE.1, fun j m hm => ?_⟩
  rw [hE.2 j m hm]
  by_cases hj : j = i
  · subst hj
    rw [if_neg (fun z => c z.2), if_neg (fun z => c z.2)]
  · by_cases hl : j < i ∧ oF g j 3 = 1 ∧ oF g j 5 = 0
    · rw [if_pos hl, if_pos (show j < i + 1 ∧ oF g j 3 = 1 ∧ oF g j 5 = 0 from ⟨by omega, hl.2⟩)]
    · rw [if_neg hl, if_neg (fun z => hl ⟨by omega, z.2⟩)]
theorem EI_end {g h : FS} {i : Nat} (hE : EI g i h) (c : oF g i 3 = 1 ∧ oF g i 5 = 0) : EI g (i + 1) (gX6_ends h i 2) := by
  refine ⟨fun k hk => (ends_f hk).trans (hE.1 k hk), fun j m hm => ?_⟩
  rw [ends_oF hm]
  by_cases hj : j = i
  · subst hj
    have e9 : oF h j m = oF g j m := by
      rw [hE.2 j m hm]
      exact if_neg (fun z => absurd z.1 (Nat.lt_irrefl _))
    rw [if_pos rfl, if_pos (show j < j + 1 ∧ oF g j 3 = 1 ∧ oF g j 5 = 0 from ⟨by omega, c⟩), e9]
  · rw [if_neg hj, hE.2 j m hm]
    by_cases hl : j < i ∧ oF g j 3 = 1 ∧ oF g j 5 = 0
    · rw [if_pos hl, if_pos (show j < i + 1 ∧ oF g j 3 = 1 ∧ oF g j 5 = 0 from ⟨by omega, hl.2⟩)]
    · rw [if_neg hl, if_neg (fun z => hl ⟨by omega, z.2⟩)]
theorem L149_EI {f g : FS} : ∀ (fu i : Nat) (h : FS), i + fu = nF f → sB f i h → EI g i h → ∃ h', sB f (nF f) h' ∧ EI g (nF f) h' ∧ gX6_steps_L149 f fu i (sS (dn g) i) h = (if sS (dn g) (nF f) ≤ 0 then (sS (dn g) (nF f), upd h' 6 (h' 6 + 1)) else (sS (dn g) (nF f), gX6_goesThrough (upd h' 6 (h' 6 + 1)))) := by
  intro fu
  induction fu with
  | zero =>
    intro i h hi hs hE
    obtain rfl : i = nF f := by omega
    exact ⟨h, hs, hE, rfl⟩
  | succ fu ih =>
    intro i h hi hs hE
    have hig : i < (f 4).toNatClampNeg := by have : (f 4).toNatClampNeg = nF f := rfl; omega
    have e3 : oF h i 3 = oF g i 3 := by rw [hE.2 i 3 (by decide), if_neg (fun z => absurd z.1 (Nat.lt_irrefl _))]
    have e5 : oF h i 5 = oF g i 5 := by rw [hE.2 i 5 (by decide), if_neg (fun z => absurd z.1 (Nat.lt_irrefl _))]
    rw [gX6_steps_L149]
    by_cases c : gX6_is h i 1 = 0
    · rw [if_pos c]
      have cn : ¬ (oF g i 3 = 1 ∧ oF g i 5 = 0) := fun z => is_ne.mp c (e3.trans z.1)
      have es : sS (dn g) (i + 1) = sS (dn g) i := by
        show sS (dn g) i + dn g i = _
        unfold dn
        rw [if_neg cn, Int32.add_zero]
      obtain ⟨h', a, b, e⟩ := ih (i + 1) h (by omega) (sB_1 hs hig c) (EI_no hE cn)
      rw [es] at e
      exact ⟨h', a, b, e⟩
    · rw [if_neg c]
      have c3 : oF h i 3 = 1 := Decidable.not_not.mp (fun z => c (is_ne.mpr z))
      by_cases d : gX6_of h i 5 = 0
      · rw [if_pos d]
        have cy : oF g i 3 = 1 ∧ oF g i 5 = 0 := ⟨e3.symm.trans c3, e5.symm.trans d⟩
        have es : sS (dn g) (i + 1) = sS (dn g) i + 1 := by
          show sS (dn g) i + dn g i = _
          unfold dn
          rw [if_pos cy]
        obtain ⟨h', a, b, e⟩ := ih (i + 1) (gX6_ends h i 2) (by omega) (sB_3 hs hig c d) (EI_end hE cy)
        rw [es] at e
        exact ⟨h', a, b, e⟩
      · rw [if_neg d]
        have cn : ¬ (oF g i 3 = 1 ∧ oF g i 5 = 0) := fun z => d (e5.trans z.2)
        have es : sS (dn g) (i + 1) = sS (dn g) i := by
          show sS (dn g) i + dn g i = _
          unfold dn
          rw [if_neg cn, Int32.add_zero]
        obtain ⟨h', a, b, e⟩ := ih (i + 1) h (by omega) (sB_2 hs hig c d) (EI_no hE cn)
        rw [es] at e
        exact ⟨h', a, b, e⟩
/-- one that is done in the next step -/
abbrev fin (f : FS) (j : Nat) : Prop := oF f j 3 = 1 ∧ oF f j 5 ≤ f 3
def dF (f : FS) (j : Nat) : Int32 := if oF f j 3 = 1 then (if oF f j 5 ≤ f 3 then 1 else 0) else 0
theorem dF_1 {f : FS} {j : Nat} (h : fin f j) : dF f j = 1 := by unfold dF; rw [if_pos h.1, if_pos h.2]
theorem dF_0 {f : FS} {j : Nat} (h : ¬ fin f j) : dF f j = 0 := by
  unfold dF
  split
  · rename_i h1
    rw [if_neg (fun z => h ⟨h1, z⟩)]
  · rfl
theorem p1_keep {f : FS} {j m : Nat} (hm : m < 9) (h5 : m ≠ 5) (h6 : m ≠ 6) (h7 : m ≠ 7) : oF (pass1 f) j m = oF f j m := by
  rw [pass1_PI.2.2 j m hm]
  split
  · rw [stp1_oF hm, if_pos rfl, if_neg h5, if_neg h7, if_neg h6]
  · rfl
theorem p1_5 {f : FS} {j : Nat} (hj : j < nF f) : oF (pass1 f) j 5 = oF f j 5 - offO f j := by
  rw [pass1_PI.2.2 j 5 (by decide), if_pos hj, stp1_oF (by decide), if_pos rfl, if_pos rfl]
theorem off_1 {f : FS} {j : Nat} (h : oF f j 3 = 1) : offO f j = if f 3 ≤ oF f j 5 then f 3 else oF f j 5 := by
  unfold offO
  rw [if_neg (fun z => is_ne.mp z h)]
theorem off_0 {f : FS} {j : Nat} (h : ¬ oF f j 3 = 1) : offO f j = 0 := by
  unfold offO
  rw [if_pos (is_ne.mpr h)]
theorem fin_iff {f : FS} {j : Nat} (hm : mInv f) (hj : j < nF f) (h1 : oF f j 3 = 1) : oF (pass1 f) j 5 = 0 ↔ oF f j 5 ≤ f 3 := by
  have hw := mJ_wk (hm.2 j hj) h1
  have hs := hm.1.2.2.2.2.1
  rw [p1_5 hj, off_1 h1]
  by_cases c : f 3 ≤ oF f j 5
  · rw [if_pos c]
    rw [x_ile] at c
    rw [i_eq, isb (by omega) (by omega), i_0, x_ile]
    omega
  · rw [if_neg c, Int32.sub_self]
    rw [x_ile] at c
    rw [x_ile]
    exact ⟨fun _ => by omega, fun _ => rfl⟩
theorem dn_dF {f : FS} {j : Nat} (hm : mInv f) (hj : j < nF f) : dn (pass1 f) j = dF f j := by
  unfold dn dF
  rw [p1_keep (by decide) (by decide) (by decide) (by decide)]
  by_cases h1 : oF f j 3 = 1
  · rw [if_pos h1]
    by_cases c : oF f j 5 ≤ f 3
    · rw [if_pos c, if_pos ⟨h1, (fin_iff hm hj h1).mpr c⟩]
    · rw [if_neg c, if_neg (fun z => c ((fin_iff hm hj h1).mp z.2))]
  · rw [if_neg h1, if_neg (fun z => h1 z.1)]
/-- behind a step, before the queue is gone through -/
def SP (f H : FS) : Prop := mInv H ∧ nF H = nF f ∧ (∀ k, k < 9 → k ≠ 6 → k ≠ 7 → H k = f k) ∧ H 6 = f 6 + 1 ∧ H 7 = f 7 + sS (offO f) (nF f) ∧
  ∀ j, j < nF f → (∀ m, m < 9 → m ≠ 3 → m ≠ 4 → m ≠ 5 → m ≠ 6 → m ≠ 7 → oF H j m = oF f j m) ∧ oF H j 6 = oF f j 6 + b01 (gX6_is f j 0) ∧ oF H j 7 = oF f j 7 + b01 (gX6_is f j 1) ∧
    (fin f j → oF H j 3 = 2 ∧ oF H j 4 = 0 ∧ oF H j 5 = 0) ∧ (¬ fin f j → oF H j 3 = oF f j 3 ∧ oF H j 4 = oF f j 4 ∧ oF H j 5 = oF f j 5 - offO f j)
theorem st_SP {f : FS} (hm : mInv f) : ∃ H, SP f H ∧ gX6_steps f = (if sS (dF f) (nF f) ≤ 0 then (sS (dF f) (nF f), H) else (sS (dF f) (nF f), gX6_goesThrough H)) := by
  obtain ⟨h, hs, ⟨k1, k2⟩, e⟩ := L149_EI (f := f) (g := pass1 f) (nF f) 0 (pass1 f) (by omega) (pass1_sB hm) ⟨fun _ _ => rfl, fun j m _ => by rw [if_neg (fun z => absurd z.1 (Nat.not_lt_zero _))]⟩
  have e : gX6_steps f = _ := steps_eq.trans e
  have ed : sS (dn (pass1 f)) (nF f) = sS (dF f) (nF f) := sS_ext (fun j hj => dn_dF hm hj)
  rw [ed] at e
  obtain ⟨p1, p2, p3⟩ := pass1_PI (f := f)
  have hH := sB_n (v := h 6 + 1) hs rfl
  have ho : ∀ j m, oF (upd h 6 (h 6 + 1)) j m = oF h j m := fun j m => oF_upd (by decide)
  have hk : ∀ k, k < 9 → k ≠ 6 → k ≠ 7 → upd h 6 (h 6 + 1) k = f k := fun k h9 h6 h7 => by
    rw [f_upd, if_neg h6, k1 k h9]
    exact p1 k h9 h7
  refine ⟨upd h 6 (h 6 + 1), ⟨hH, by unfold nF; rw [hk 4 (by decide) (by decide) (by decide)], hk, ?_, ?_, fun j hj => ?_⟩, e⟩
  · rw [f_upd, if_pos rfl, k1 6 (by decide), p1 6 (by decide) (by decide)]
  · rw [f_upd, if_neg (by decide), k1 7 (by decide), p2]
  · have q3 : oF (pass1 f) j 3 = oF f j 3 := p1_keep (by decide) (by decide) (by decide) (by decide)
    have hq : ∀ m, m < 9 → oF (upd h 6 (h 6 + 1)) j m = if fin f j then (if m = 3 then 2 else if m = 4 then 0 else if m = 5 then 0 else oF (pass1 f) j m) else oF (pass1 f) j m := fun m hm9 => by
      rw [ho, k2 j m hm9, q3]
      by_cases c : fin f j
      · rw [if_pos c, if_pos ⟨hj, c.1, (fin_iff hm hj c.1).mpr c.2⟩]
      · rw [if_neg c, if_neg (fun z => c ⟨z.2.1, (fin_iff hm hj z.2.1).mp z.2.2⟩)]
    have h67 : ∀ m, m < 9 → m ≠ 3 → m ≠ 4 → m ≠ 5 → oF (upd h 6 (h 6 + 1)) j m = oF (pass1 f) j m := fun m h9 h3 h4 h5 => by
      rw [hq m h9]
      split
      · first | rfl | rw [if_neg h3, if_neg h4, if_neg h5]
      · rfl
    refine ⟨fun m h9 h3 h4 h5 h6 h7 => ?_, ?_, ?_, fun c => ?_, fun c => ?_⟩
    · rw [h67 m h9 h3 h4 h5]
      exact p1_keep h9 h5 h6 h7
    · rw [h67 6 (by decide) (by decide) (by decide) (by decide), p3 j 6 (by decide), if_pos hj, stp1_oF (by decide), if_pos rfl, if_neg (by decide), if_neg (by decide), if_pos rfl]
    · rw [h67 7 (by decide) (by decide) (by decide) (by decide), p3 j 7 (by decide), if_pos hj, stp1_oF (by decide), if_pos rfl, if_neg (by decide), if_pos rfl]
    · rw [hq 3 (by decide), hq 4 (by decide), hq 5 (by decide), if_pos c, if_pos c, if_pos c]
      exact ⟨rfl, rfl, rfl⟩
    · rw [hq 3 (by decide), hq 4 (by decide), hq 5 (by decide), if_neg c, if_neg c, if_neg c, q3, p1_5 hj]
      exact ⟨rfl, p1_keep (by decide) (by decide) (by decide) (by decide), rfl⟩
theorem sZ_mono {a b : Nat → Int} {n : Nat} (h : ∀ j, j < n → a j ≤ b j) : sZ a n ≤ sZ b n := by
  induction n with
  | zero => exact Int.le_refl _
  | succ n ih =>
    show sZ a n + a n ≤ sZ b n + b n
    have := ih (fun j hj => h j (by omega))
    have := h n (by omega)
    omega
theorem gr_le {f g : FS} (hf : mInv f) (hg : mInv g) (hn : nF g = nF f) (e : ∀ j, j < nF f → (oF g j 4).toInt ≤ (oF f j 4).toInt) : (gX6_granted g).toInt ≤ (gX6_granted f).toInt := by
  rw [(granted_Z hg).1, (granted_Z hf).1, hn]
  exact sZ_mono e
theorem SP_wx {f H : FS} (hm : mInv f) (h : SP f H) (hw : wx f) : wx H := by
  obtain ⟨mH, hn, hk, h6, h7, hj⟩ := h
  have ew : ∀ j, j < nF f → gX6_wants H j = gX6_wants f j := fun j hj2 => wants_ext (fun k hk => (hj j hj2).1 k (by omega) (by omega) (by omega) (by omega) (by omega) (by omega))
  refine ⟨fun j hj2 h3 => ?_, ?_, ?_⟩
  · rw [hn] at hj2
    obtain ⟨-, -, -, a, b⟩ := hj j hj2
    rw [ew j hj2]
    by_cases c : fin f j
    · rw [(a c).1] at h3
      exact absurd h3 (by decide)
    · rw [(b c).1] at h3
      rw [(b c).2.1]
      exact hw.1 j hj2 h3
  · have : (gX6_granted H).toInt ≤ (gX6_granted f).toInt := gr_le hm mH hn (fun j hj2 => by
      obtain ⟨-, -, -, a, b⟩ := hj j hj2
      by_cases c : fin f j
      · rw [(a c).2.1, i_0]
        exact (mJ_p (hm.2 j hj2)).1
      · rw [(b c).2.1]
        exact Int.le_refl _)
    have := hw.2.1
    rw [hk 5 (by decide) (by decide) (by decide)]
    omega
  · rw [hk 8 (by decide) (by decide) (by decide), hw.2.2]
    exact (gB_ext hn (fun j hj2 => (hj j hj2).1 8 (by decide) (by decide) (by decide) (by decide) (by decide) (by decide))).symm
/-! none is done: the head of the queue is as it was -/
theorem dF_bd {f : FS} {j : Nat} : 0 ≤ (dF f j).toInt ∧ (dF f j).toInt ≤ 1000 := by
  unfold dF
  (repeat' split) <;> decide
theorem dF_Z {f : FS} (hm : mInv f) : (sS (dF f) (nF f)).toInt = sZ (fun j => (dF f j).toInt) (nF f) := sS_Z (n_le hm) (fun _ _ => dF_bd)
theorem dF_none {f : FS} (hm : mInv f) (h : sS (dF f) (nF f) ≤ 0) : ∀ j, j < nF f → ¬ fin f j := by
  intro j hj c
  rw [x_ile, i_0, dF_Z hm] at h
  have h1 := sZ_ge (g := fun j => (dF f j).toInt) hj (fun i _ => dF_bd.1)
  have h1 : (dF f j).toInt ≤ sZ (fun j => (dF f j).toInt) (nF f) := h1
  rw [dF_1 c, i_1] at h1
  omega
theorem rank_ext {f g : FS} {a : Nat} (hn : nF g = nF f) (e1 : g 1 = f 1) (e : ∀ j, j < nF f → ∀ m, m < 4 → oF g j m = oF f j m) (ha : a < nF f) : gX6_rankOf g a = gX6_rankOf f a := by
  rw [rankOf_eq, rankOf_eq, show (g 4).toNatClampNeg = (f 4).toNatClampNeg from hn]
  refine sS_ext (fun i hi => ?_)
  have n1 : gX6_needs g i = gX6_needs f i := needs_ext (fun m hm => e i hi m (by omega))
  have n2 : gX6_needs g a = gX6_needs f a := needs_ext (fun m hm => e a ha m (by omega))
  unfold bAh gX6_isAhead
  rw [is_ext (e i hi 3 (by decide)), e1, n1, n2]
theorem free_ext {f g : FS} (e0 : g 0 = f 0) (eg : gX6_granted g = gX6_granted f) : gX6_free g = gX6_free f := by
  unfold gX6_free
  rw [e0, eg]
theorem SP_hdq {f H : FS} (hm : mInv f) (h : SP f H) (hd : hdq f) (h0 : sS (dF f) (nF f) ≤ 0) : hdq H := by
  have hnf := dF_none hm h0
  obtain ⟨mH, hn, hk, h6, h7, hj⟩ := h
  have e : ∀ j, j < nF f → ∀ m, m < 5 → oF H j m = oF f j m := fun j hj2 m hm5 => by
    obtain ⟨a, -, -, -, b⟩ := hj j hj2
    obtain ⟨b3, b4, -⟩ := b (hnf j hj2)
    by_cases h3 : m = 3
    · subst h3; exact b3
    · by_cases h4 : m = 4
      · subst h4; exact b4
      · exact a m (by omega) h3 h4 (by omega) (by omega) (by omega)
  intro j hj2 ha
  rw [hn] at hj2
  have ef := free_ext (hk 0 (by decide) (by decide) (by decide)) (gr_ext hn (fun j hj3 => e j hj3 4 (by decide)))
  rw [ef, needs_ext (f := f) (fun m hm => e j hj2 m (by omega))]
  refine hd j hj2 ⟨(e j hj2 3 (by decide)).symm.trans ha.1, ?_⟩
  rw [← rank_ext hn (hk 1 (by decide) (by decide) (by decide)) (fun j hj3 m hm4 => e j hj3 m (by omega)) hj2]
  exact ha.2
/-! the steps that it waited and worked -/
def sx (f : FS) : Prop := ∀ j, j < nF f → 0 ≤ (oF f j 6).toInt ∧ 0 ≤ (oF f j 7).toInt ∧ (oF f j 6).toInt + (oF f j 7).toInt ≤ (f 6).toInt
def WI (f : FS) (N : Nat) : Prop := mInv f ∧ wx f ∧ hdq f ∧ sx f ∧ 0 ≤ (f 6).toInt ∧ (f 6).toInt ≤ N
theorem gt_sx {f : FS} (hm : mInv f) (h : sx f) : sx (gX6_goesThrough f) := by
  have hk := (gt_ok hm).2
  intro j hj
  rw [gtK_n hk] at hj
  rw [hk.2.1 j 6 (by decide) (by decide) (by decide) (by decide) (by decide), hk.2.1 j 7 (by decide) (by decide) (by decide) (by decide) (by decide), hk.1 6 (by decide) (by decide)]
  exact h j hj
theorem gt_WI {f : FS} {N : Nat} (hm : mInv f) (hw : wx f) (hs : sx f) (h0 : 0 ≤ (f 6).toInt) (hN : (f 6).toInt ≤ N) : WI (gX6_goesThrough f) N := by
  have hg := gt_ok hm
  have ha := gt_all hm hw
  have e6 := hg.2.1 6 (by decide) (by decide)
  exact ⟨hg.1, ha.1, ha.2.1, gt_sx hm hs, by rw [e6]; exact h0, by rw [e6]; exact hN⟩
theorem SP_sx {f H : FS} {N : Nat} (h : SP f H) (hs : sx f) (h0 : 0 ≤ (f 6).toInt) (hN : (f 6).toInt ≤ N) (hb : N ≤ 1000000) : sx H ∧ (H 6).toInt = (f 6).toInt + 1 := by
  obtain ⟨mH, hn, hk, h6, h7, hj⟩ := h
  have e6 : (H 6).toInt = (f 6).toInt + 1 := by rw [h6, ia (by rw [i_1]; omega) (by rw [i_1]; omega), i_1]
  refine ⟨fun j hj2 => ?_, e6⟩
  rw [hn] at hj2
  obtain ⟨-, a6, a7, -⟩ := hj j hj2
  obtain ⟨s1, s2, s3⟩ := hs j hj2
  have hb0 : ∀ a, 0 ≤ (b01 (gX6_is f j a)).toInt ∧ (b01 (gX6_is f j a)).toInt ≤ 1 := fun a => by unfold b01; split <;> decide
  have hb1 : (b01 (gX6_is f j 0)).toInt + (b01 (gX6_is f j 1)).toInt ≤ 1 := by
    by_cases c : oF f j 3 = 0
    · have : gX6_is f j 1 = 0 := is_ne.mpr (by rw [c]; decide)
      have e : b01 (gX6_is f j 1) = 0 := if_pos this
      rw [e, i_0]
      have := (hb0 0).2
      omega
    · have e : b01 (gX6_is f j 0) = 0 := if_pos (is_ne.mpr c)
      rw [e, i_0]
      have := (hb0 1).2
      omega
  have g0 := hb0 0
  have g1 := hb0 1
  rw [a6, a7, e6, ia (by omega) (by omega), ia (by omega) (by omega)]
  omega
theorem st_WI {f : FS} {N : Nat} (h : WI f N) (hb : N ≤ 1000000) : WI (gX6_steps f).2 (N + 1) := by
  obtain ⟨hm, hw, hd, hs, h0, hN⟩ := h
  obtain ⟨H, hSP, e⟩ := st_SP hm
  have hx := SP_sx hSP hs h0 hN hb
  have hwH := SP_wx hm hSP hw
  rw [e]
  by_cases c : sS (dF f) (nF f) ≤ 0
  · rw [if_pos c]
    exact ⟨hSP.1, hwH, SP_hdq hm hSP hd c, hx.1, by rw [hx.2]; omega, by rw [hx.2]; omega⟩
  · rw [if_neg c]
    exact gt_WI hSP.1 hwH hx.1 (by rw [hx.2]; omega) (by rw [hx.2]; omega)
theorem stN_WI {f : FS} {N : Nat} (h : WI f N) : ∀ k : Nat, N + k ≤ 1000000 → WI (stN f k) (N + k) := by
  intro k
  induction k with
  | zero => intro _; exact h
  | succ k ih =>
    intro hk
    have h1 := st_WI (N := N + k) (ih (by omega)) (by omega)
    exact h1
theorem WI_le {f : FS} {N M : Nat} (h : WI f N) (hNM : N ≤ M) : WI f M := ⟨h.1, h.2.1, h.2.2.1, h.2.2.2.1, h.2.2.2.2.1, by have := h.2.2.2.2.2; omega⟩
theorem sx_ext {f g : FS} (hn : nF g = nF f) (e6 : g 6 = f 6) (e : ∀ j, j < nF f → oF g j 6 = oF f j 6 ∧ oF g j 7 = oF f j 7) (h : sx f) : sx g := by
  intro j hj
  rw [hn] at hj
  rw [(e j hj).1, (e j hj).2, e6]
  exact h j hj
theorem cn_WI {f : FS} {N j : Nat} (h : WI f N) (hj : j < nF f) : WI (gX6_goesThrough (gX6_ends f j 3)) N := by
  obtain ⟨hm, hw, hd, hs, h0, hN⟩ := h
  have e6 : gX6_ends f j 3 6 = f 6 := ends_f (by decide)
  refine gt_WI (en_ok hm hj (Or.inr rfl)) (en_wx hm hj (Or.inr rfl) hw) (sx_ext (by unfold nF; rw [ends_f (by decide)]) e6 (fun i _ => ?_) hs) (by rw [e6]; exact h0) (by rw [e6]; exact hN)
  rw [ends_oF (by decide), ends_oF (by decide)]
  split
  · rename_i c
    subst c
    exact ⟨rfl, rfl⟩
  · exact ⟨rfl, rfl⟩
theorem ch_WI {f : FS} {N j : Nat} {a : Int32} (h : WI f N) (hj : j < nF f) (h0 : ¬ gX6_is f j 0 = 0) (ha : ¬ gX6_in a.toInt64 0 2 = 0) : WI (gX6_goesThrough (gX6_sets f j 0 a)) N := by
  obtain ⟨hm, hw, hd, hs, hz, hN⟩ := h
  have e6 : gX6_sets f j 0 a 6 = f 6 := f_sets (by decide)
  have c3 : oF f j 3 = 0 := Decidable.not_not.mp (fun z => h0 (is_ne.mpr z))
  refine gt_WI (ch_ok hm hj h0 ha) (ch_wx (by rw [c3]; decide) hw) (sx_ext (by unfold nF; rw [f_sets (by decide)]) e6 (fun i _ => ?_) hs) (by rw [e6]; exact hz) (by rw [e6]; exact hN)
  rw [oF_sets (by decide) (by decide), oF_sets (by decide) (by decide), if_neg (by omega), if_neg (by omega)]
  exact ⟨rfl, rfl⟩
theorem se_WI {f : FS} {N : Nat} {a b : Int32} (h : WI f N) (c : ¬ gX6_isSetting a b = 0) : WI (gX6_goesThrough (upd f (0 + a).toNatClampNeg b)) N := by
  obtain ⟨hm, hw, hd, hs, hz, hN⟩ := h
  have hk := (se_in c).2
  have e6 : upd f (0 + a).toNatClampNeg b 6 = f 6 := by rw [f_upd, if_neg (by omega)]
  refine gt_WI (set_ok hm c) (upd_wx (Or.inl hk) hw) (sx_ext (by unfold nF; rw [f_upd, if_neg (by omega)]) e6 (fun i _ => ⟨oF_upd (by omega), oF_upd (by omega)⟩) hs) (by rw [e6]; exact hz) (by rw [e6]; exact hN)
theorem cm_WI {f : FS} {N : Nat} {a b c : Int32} (h : WI f N) (h16 : ¬ f 4 = 16) (hc : okJ a b c) : WI (gX6_comes f a b c) N := by
  obtain ⟨hm, hw, hd, hs, hz, hN⟩ := h
  have hi := com_inv hm h16 hc
  have h16' := n16_of hm h16
  have e6 : comF f a b c 6 = f 6 := by rw [com_f (by decide), if_neg (by decide)]
  have hzn := hm.1.2.2.2.2.2 (nF f) (Nat.le_refl _) h16'
  have hsx : sx (comF f a b c) := fun j hj => by
    rw [hi.2] at hj
    rw [com_oF (by decide), com_oF (by decide), e6]
    by_cases e : j = nF f
    · subst e
      rw [if_pos rfl, if_pos rfl, if_neg (by decide), if_neg (by decide), if_neg (by decide), if_neg (by decide), if_neg (by decide), if_neg (by decide), hzn 6 (by decide), hzn 7 (by decide), i_0]
      omega
    · rw [if_neg e, if_neg e]
      exact hs j (by omega)
  exact gt_WI (f := comF f a b c) hi.1 (com_wx hm h16 hc hw).1 hsx (by rw [e6]; exact hz) (by rw [e6]; exact hN)
/-! what a step says of those at work -/
theorem cB_sub {p q r : Nat → Bool} {n : Nat} (h : ∀ i, i < n → p i = true → q i = true ∨ r i = true) : cB p n ≤ cB q n + cB r n := by
  induction n with
  | zero => exact Nat.zero_le _
  | succ n ih =>
    show cB p n + _ ≤ (cB q n + _) + (cB r n + _)
    have h1 := ih (fun i hi => h i (by omega))
    by_cases hp : p n = true
    · rw [if_pos hp]
      rcases h n (by omega) hp with z | z
      · rw [if_pos z]; omega
      · rw [if_pos z]; omega
    · rw [if_neg hp]; omega
def fB (f : FS) (j : Nat) : Bool := decide (oF f j 3 = 1 ∧ oF f j 5 ≤ f 3)
theorem dF_N {f : FS} : sS (dF f) (nF f) = nI (cB (fB f) (nF f)) := sS_cB (fun j _ => by
  by_cases c : fin f j
  · rw [dF_1 c, if_pos (show fB f j = true from decide_eq_true c)]
  · rw [dF_0 c, if_neg (show ¬ fB f j = true from fun z => c (of_decide_eq_true z))])
theorem st_tell {f : FS} (hm : mInv f) : (gX6_steps f).1 = nI (cB (fB f) (nF f)) ∧ (gX6_steps f).2 7 = f 7 + sS (offO f) (nF f) ∧ (gX6_steps f).2 6 = f 6 + 1 ∧ nF (gX6_steps f).2 = nF f ∧
    cB (stB f 1) (nF f) ≤ cB (stB (gX6_steps f).2 1) (nF f) + cB (fB f) (nF f) ∧
    ∀ j, j < nF f → oF f j 3 = 1 → (oF f j 5 ≤ f 3 → oF (gX6_steps f).2 j 3 = 2 ∧ oF (gX6_steps f).2 j 4 = 0) ∧ (¬ oF f j 5 ≤ f 3 → oF (gX6_steps f).2 j 3 = 1 ∧ (cB (fB f) (nF f) = 0 → oF (gX6_steps f).2 j 5 = oF f j 5 - f 3)) := by
  obtain ⟨H, hSP, e⟩ := st_SP hm
  have hmS := (sp_ok hm).1
  have hnS := (sp_ok hm).2
  have hc16 := Nat.le_trans (cB_n (p := fB f) (nF f)) (n_le hm)
  have hle : sS (dF f) (nF f) ≤ 0 ↔ cB (fB f) (nF f) = 0 := by
    rw [dF_N, x_ile, i_0, nI_toInt (by omega)]
    omega
  have h1 : (gX6_steps f).1 = nI (cB (fB f) (nF f)) := by
    rw [e, ← dF_N]
    split <;> rfl
  have hK : gtK H (gX6_steps f).2 := by
    rw [e]
    split
    · exact gtK.rfl'
    · exact (gt_ok hSP.1).2
  have hZ : cB (fB f) (nF f) = 0 → (gX6_steps f).2 = H := fun z => by rw [e, if_pos (hle.mpr z)]
  generalize (gX6_steps f).2 = G at *
  obtain ⟨mH, hn, hk, h6, h7, hj⟩ := hSP
  have hst : ∀ j, j < nF f → oF f j 3 = 1 → (oF f j 5 ≤ f 3 → oF G j 3 = 2) ∧ (¬ oF f j 5 ≤ f 3 → oF G j 3 = 1) := fun j hj2 h3 => by
    obtain ⟨-, -, -, a, b⟩ := hj j hj2
    constructor
    · intro c
      have a3 := (a ⟨h3, c⟩).1
      rcases hK.2.2 j with z | ⟨z, -⟩
      · rw [z, a3]
      · rw [a3] at z
        exact absurd z (by decide)
    · intro c
      have b3 := (b (fun z => c z.2)).1
      rcases hK.2.2 j with z | ⟨z, -⟩
      · rw [z, b3, h3]
      · rw [b3, h3] at z
        exact absurd z (by decide)
  refine ⟨h1, (hK.1 7 (by decide) (by decide)).trans h7, (hK.1 6 (by decide) (by decide)).trans h6, hnS, ?_, fun j hj2 h3 => ⟨fun c => ⟨(hst j hj2 h3).1 c, ?_⟩, fun c => ⟨(hst j hj2 h3).2 c, fun z => ?_⟩⟩⟩
  · refine cB_sub (fun j hj2 h => ?_)
    have h3 := of_decide_eq_true h
    by_cases c : oF f j 5 ≤ f 3
    · exact Or.inr (decide_eq_true ⟨h3, c⟩)
    · exact Or.inl (decide_eq_true ((hst j hj2 h3).2 c))
  · have := (hmS.2 j (by rw [show (G 4).toNatClampNeg = nF f from hnS]; exact hj2)).2.2.2.2.2 (by rw [(hst j hj2 h3).1 c]; decide)
    exact this.1
  · rw [hZ z]
    obtain ⟨-, -, -, -, b⟩ := hj j hj2
    have hw := mJ_wk (hm.2 j hj2) h3
    have hs := hm.1.2.2.2.2.1
    rw [(b (fun z => c z.2)).2.2, off_1 h3, if_pos]
    rw [x_ile] at c
    rw [x_ile]
    omega
