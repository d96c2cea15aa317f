/-! ===== what else holds of the row between calls: grants up to what is wanted, the most granted, what was asked back, the head of the queue ===== -/
theorem i_canc8 {a b c m : Int32} (h : a + c = b + (c + m)) : a = b + m := by
  have h2 := congrArg (fun z => z - c) h
  have h3 : a + c - c = b + (c + m) - c := h2
  rw [Int32.add_sub_cancel, Int32.add_comm c m, ← Int32.add_assoc, Int32.add_sub_cancel] at h3
  exact h3
/-- what was given back, of all joins -/
def gB (f : FS) : Int32 := sS (fun j => oF f j 8) (nF f)
def wx (f : FS) : Prop := (∀ j, j < nF f → oF f j 3 = 1 → (oF f j 4).toInt ≤ (gX6_wants f j).toInt) ∧ (gX6_granted f).toInt ≤ (f 5).toInt ∧ f 8 = gB f
/-- the first of the queue needs more than is free -/
def hdq (f : FS) : Prop := ∀ j, j < nF f → atR f 0 j → (gX6_free f).toInt < (gX6_needs f j).toInt
theorem gr_chg {f g : FS} {k : Nat} (hf : mInv f) (hg : mInv g) (hn : nF g = nF f) (hk : k < nF f) (e : ∀ j, j < nF f → j ≠ k → oF g j 4 = oF f j 4) : (gX6_granted g).toInt = (gX6_granted f).toInt + ((oF g k 4).toInt - (oF f k 4).toInt) := by
  rw [(granted_Z hg).1, (granted_Z hf).1, hn]
  exact sZ_change hk (fun j hj hne => by show (oF g j 4).toInt = (oF f j 4).toInt; rw [e j hj hne])
theorem gr_ext {f g : FS} (hn : nF g = nF f) (e : ∀ j, j < nF f → oF g j 4 = oF f j 4) : gX6_granted g = gX6_granted f := by
  rw [granted_eq, granted_eq, show (g 4).toNatClampNeg = (f 4).toNatClampNeg from hn]
  exact sS_ext e
theorem gB_ext {f g : FS} (hn : nF g = nF f) (e : ∀ j, j < nF f → oF g j 8 = oF f j 8) : gB g = gB f := by
  unfold gB
  rw [hn]
  exact sS_ext e
theorem gb_wx {f : FS} {j : Nat} {m : Int32} (hm : mInv f) (hj : j < nF f) (h1 : oF f j 3 = 1) (hm1 : 1 ≤ m.toInt) (hm2 : m.toInt ≤ (gX6_extra f j).toInt) (hw : wx f) : wx (gX6_givesBack f j m) ∧ (gX6_granted (gX6_givesBack f j m)).toInt = (gX6_granted f).toInt - m.toInt := by
  have hg := gb_mInv hm hj h1 hm1 hm2
  have hn : nF (gX6_givesBack f j m) = nF f := by unfold nF; rw [gb_f (by decide), if_neg (by decide)]
  have hp := (hm.2 j hj).2.2.2.2.1 h1
  have hx := (mJ_x (hm.2 j hj)).1 h1
  have hn3 := mJ_n (hm.2 j hj)
  have e4 : oF (gX6_givesBack f j m) j 4 = oF f j 4 - m := by rw [gb_oF (by decide), if_pos rfl, if_pos rfl]
  have e4i : (oF f j 4 - m).toInt = (oF f j 4).toInt - m.toInt := isb (by omega) (by omega)
  have e8 : oF (gX6_givesBack f j m) j 8 = oF f j 8 + m := by rw [gb_oF (by decide), if_pos rfl, if_neg (by decide), if_neg (by decide), if_pos rfl]
  have eg : (gX6_granted (gX6_givesBack f j m)).toInt = (gX6_granted f).toInt - m.toInt := by
    rw [gr_chg hm hg hn hj (fun i _ hne => by rw [gb_oF (by decide), if_neg hne]), e4, e4i]
    omega
  refine ⟨⟨fun i hi hi3 => ?_, ?_, ?_⟩, eg⟩
  · rw [hn] at hi
    have ew : gX6_wants (gX6_givesBack f j m) i = gX6_wants f i := wants_ext (fun k hk => by
      rw [gb_oF (by omega)]
      split
      · rename_i h
        subst h
        rw [if_neg (by omega), if_neg (by omega), if_neg (by omega)]
      · rfl)
    rw [ew]
    by_cases h : i = j
    · subst h
      rw [e4, e4i]
      have := hw.1 i hi h1
      omega
    · rw [gb_oF (by decide), if_neg h] at hi3
      rw [gb_oF (by decide), if_neg h]
      exact hw.1 i hi hi3
  · rw [eg, gb_f (by decide), if_neg (by decide)]
    have := hw.2.1
    omega
  · rw [gb_f (by decide), if_pos rfl, hw.2.2]
    have hs : sS (fun i => oF (gX6_givesBack f j m) i 8) (nF f) + oF f j 8 = sS (fun i => oF f i 8) (nF f) + oF (gX6_givesBack f j m) j 8 :=
      sS_chg (a := fun i => oF (gX6_givesBack f j m) i 8) (b := fun i => oF f i 8) (n := nF f) (k := j) hj (fun i _ hne => by show oF (gX6_givesBack f j m) i 8 = oF f i 8; rw [gb_oF (by decide), if_neg hne])
    rw [e8] at hs
    unfold gB
    rw [hn]
    exact (i_canc8 hs).symm
theorem ab_wx {f : FS} {a : Int32} : ∀ (fu : Nat) (x : Int32) (f1 : FS), mInv f1 → enough f1 x → 0 ≤ x.toInt → x.toInt ≤ fu → wx f1 → wx (gX6_asksBack_L2 f a fu x f1) ∧ (gX6_granted (gX6_asksBack_L2 f a fu x f1)).toInt = (gX6_granted f1).toInt - x.toInt := by
  intro fu
  induction fu with
  | zero =>
    intro x f1 hm he h0 hf hw
    exact ⟨hw, by show (gX6_granted f1).toInt = _; omega⟩
  | succ fu ih =>
    intro x f1 hm he h0 hf hw
    rw [gX6_asksBack_L2]
    by_cases c : x ≤ 0
    · rw [if_pos c]
      rw [x_ile, i_0] at c
      exact ⟨hw, by omega⟩
    · rw [if_neg c]
      obtain ⟨p1, p2, p3⟩ := most_pos hm he c
      have c' := c
      rw [x_ile, i_0] at c'
      by_cases d : x ≤ gX6_extra f1 (mostOf f1)
      · rw [if_pos d]
        obtain ⟨-, -, -, h1, h2, h3⟩ := ab_step hm he c (Or.inr ⟨rfl, d⟩)
        rw [x_ile] at d
        have hb := gb_wx hm p1 p3 (m := x) (by omega) d hw
        have hi := ih (x - x) _ h1 h2 (by rw [Int32.sub_self, i_0]; omega) (by rw [Int32.sub_self, i_0]; omega) hb.1
        refine ⟨hi.1, ?_⟩
        rw [hi.2, hb.2, Int32.sub_self, i_0]
        omega
      · rw [if_neg d]
        obtain ⟨-, -, -, h1, h2, h3⟩ := ab_step hm he c (Or.inl ⟨rfl, d⟩)
        rw [x_ile] at d
        have hx := (mJ_x (hm.2 (mostOf f1) p1)).2.2
        have hb := gb_wx hm p1 p3 (m := gX6_extra f1 (mostOf f1)) (by omega) (Int.le_refl _) hw
        have hxl := x.toInt_lt
        have ex : (x - gX6_extra f1 (mostOf f1)).toInt = x.toInt - (gX6_extra f1 (mostOf f1)).toInt := isb (by omega) (by omega)
        have hi := ih (x - gX6_extra f1 (mostOf f1)) _ h1 h2 (by rw [ex]; omega) (by rw [ex]; omega) hb.1
        refine ⟨hi.1, ?_⟩
        rw [hi.2, hb.2, ex]
        omega
theorem go_wx {g : FS} {j : Nat} {p : Int32} (hm : mInv g) (hj : j < nF g) (h0 : oF g j 3 = 0) (hp : (gX6_needs g j).toInt ≤ p.toInt ∧ p.toInt ≤ (gX6_wants g j).toInt) (hw : wx g) : wx (goF g j p) ∧ (gX6_granted (goF g j p)).toInt = (gX6_granted g).toInt + p.toInt := by
  have hwt := mJ_wt (hm.2 j hj)
  have hG := go_mInv hm hj (p := p) ⟨hp.1, by omega⟩
  have hn : nF (goF g j p) = nF g := by unfold nF; rw [goF_f (by decide) (by decide)]
  have hn3 : nF (go3 g j p) = nF g := by unfold nF; rw [go3_f (by decide)]
  have e40 : oF g j 4 = 0 := ((hm.2 j hj).2.2.2.2.2 (by rw [h0]; decide)).1
  have e4 : oF (goF g j p) j 4 = p := by rw [goF_oF (by decide), if_pos rfl, if_neg (by decide), if_pos rfl]
  have eg : (gX6_granted (goF g j p)).toInt = (gX6_granted g).toInt + p.toInt := by
    rw [gr_chg hm hG hn hj (fun i _ hne => by rw [goF_oF (by decide), if_neg hne]), e4, e40, i_0]
    omega
  have e3 : gX6_granted (goF g j p) = gX6_granted (go3 g j p) := gr_ext (hn.trans hn3.symm) (fun i _ => by rw [goF_oF (by decide), go3_oF (by decide)])
  refine ⟨⟨fun i hi hi3 => ?_, ?_, ?_⟩, eg⟩
  · rw [hn] at hi
    have ew : gX6_wants (goF g j p) i = gX6_wants g i := wants_ext (fun k hk => by
      rw [goF_oF (by omega)]
      split
      · rename_i h
        subst h
        rw [if_neg (by omega), if_neg (by omega), if_neg (by omega)]
      · rfl)
    rw [ew]
    by_cases h : i = j
    · subst h
      rw [e4]
      exact hp.2
    · rw [goF_oF (by decide), if_neg h] at hi3
      rw [goF_oF (by decide), if_neg h]
      exact hw.1 i hi hi3
  · rw [e3]
    show _ ≤ (if gX6_granted (go3 g j p) ≤ go3 g j p 5 then go3 g j p 5 else gX6_granted (go3 g j p)).toInt
    split
    · rename_i h
      rw [x_ile] at h
      exact h
    · exact Int.le_refl _
  · rw [goF_f (by decide) (by decide), hw.2.2]
    exact (gB_ext hn (fun i _ => by
      rw [goF_oF (by decide)]
      split
      · rename_i h
        subst h
        rw [if_neg (by decide), if_neg (by decide), if_neg (by decide)]
      · rfl)).symm
theorem st_wx {f : FS} {j : Nat} (hm : mInv f) (hj : j < nF f) (h0 : oF f j 3 = 0) (hw : wx f) : ((gX6_starts f j).1 = 0 ∧ (gX6_starts f j).2 = f ∧ (gX6_free f).toInt < (gX6_needs f j).toInt) ∨ ((gX6_starts f j).1 = 1 ∧ wx (gX6_starts f j).2 ∧ (gX6_granted f).toInt ≤ (gX6_granted (gX6_starts f j).2).toInt) := by
  have hn16 := n_le hm
  have hn := mJ_n (hm.2 j hj)
  have hwt := mJ_wt (hm.2 j hj)
  have hf := free_Z hm
  rw [starts_eq]
  by_cases c : gX6_free f < gX6_needs f j
  · rw [if_pos c]
    have c' := c
    rw [x_ilt] at c'
    by_cases d2 : f 2 = 1
    · rw [if_pos d2]
      by_cases d0 : f 0 < gX6_granted f
      · rw [if_pos d0]
        exact Or.inl ⟨rfl, rfl, c'⟩
      · rw [if_neg d0]
        by_cases d1 : gX6_free f + gX6_spares f < gX6_needs f j
        · rw [if_pos d1]
          exact Or.inl ⟨rfl, rfl, c'⟩
        · rw [if_neg d1]
          have he := st_enough hm (j := j) (by omega) c d1
          have hi := ab_inv hm he
          have ex : (gX6_needs f j - gX6_free f).toInt = (gX6_needs f j).toInt - (gX6_free f).toInt := isb (by omega) (by omega)
          have hb := ab_wx (f := f) (a := gX6_needs f j - gX6_free f) (gX6_needs f j - gX6_free f).toInt.toNat (gX6_needs f j - gX6_free f) f hm he (by omega) (by omega) hw
          have hb : wx (gX6_asksBack f (gX6_needs f j - gX6_free f)) ∧ (gX6_granted (gX6_asksBack f (gX6_needs f j - gX6_free f))).toInt = (gX6_granted f).toInt - (gX6_needs f j - gX6_free f).toInt := hb
          have en : gX6_needs (gX6_asksBack f (gX6_needs f j - gX6_free f)) j = gX6_needs f j := needs_ext (fun m hm => hi.2.2 j m (by omega) (by omega) (by omega) (by omega))
          have ew : gX6_wants (gX6_asksBack f (gX6_needs f j - gX6_free f)) j = gX6_wants f j := wants_ext (fun m hm => hi.2.2 j m (by omega) (by omega) (by omega) (by omega))
          have enn : nF (gX6_asksBack f (gX6_needs f j - gX6_free f)) = nF f := by unfold nF; rw [hi.2.1 4 (by decide)]
          have e3 : oF (gX6_asksBack f (gX6_needs f j - gX6_free f)) j 3 = 0 := by rw [hi.2.2 j 3 (by decide) (by decide) (by decide) (by decide)]; exact h0
          have hg := go_wx (p := gX6_needs f j) hi.1 (by omega) e3 (by rw [en, ew]; omega) hb.1
          refine Or.inr ⟨rfl, hg.1, ?_⟩
          show (gX6_granted f).toInt ≤ (gX6_granted (goF (gX6_asksBack f (gX6_needs f j - gX6_free f)) j (gX6_needs f j))).toInt
          rw [hg.2, hb.2, ex]
          omega
    · rw [if_neg d2]
      exact Or.inl ⟨rfl, rfl, c'⟩
  · rw [if_neg c]
    rw [x_ilt] at c
    by_cases d : gX6_wants f j ≤ gX6_free f
    · rw [if_pos d]
      have hg := go_wx (p := gX6_wants f j) hm hj h0 (by omega) hw
      refine Or.inr ⟨rfl, hg.1, ?_⟩
      show (gX6_granted f).toInt ≤ (gX6_granted (goF f j (gX6_wants f j))).toInt
      rw [hg.2]
      omega
    · rw [if_neg d]
      rw [x_ile] at d
      have hg := go_wx (p := gX6_free f) hm hj h0 (by omega) hw
      refine Or.inr ⟨rfl, hg.1, ?_⟩
      show (gX6_granted f).toInt ≤ (gX6_granted (goF f j (gX6_free f))).toInt
      rw [hg.2]
      omega
theorem atR_one {f : FS} {i j : Nat} (hm : mInv f) (hi : i < nF f) (hj : j < nF f) (h1 : atR f 0 i) (h2 : atR f 0 j) : i = j := by
  have a := (rank0 hm hi).mp h1.2 j hj h2.1
  have b := (rank0 hm hj).mp h2.2 i hi h1.1
  exact key_inj hm hi hj (by omega)
theorem gt_wx {f : FS} : ∀ (fu : Nat) (x : Int32) (f1 : FS), mInv f1 → x = gX6_ranked f1 0 → wcnt f1 (nF f1) ≤ fu → wx f1 → wx (gX6_goesThrough_L6 f fu x f1) ∧ hdq (gX6_goesThrough_L6 f fu x f1) ∧ (gX6_granted f1).toInt ≤ (gX6_granted (gX6_goesThrough_L6 f fu x f1)).toInt := by
  intro fu
  induction fu with
  | zero =>
    intro x f1 hm hx hc hw
    refine ⟨hw, fun j hj ha => ?_, Int.le_refl _⟩
    have ha' : oF f1 j 3 = 0 := ha.1
    have := wcnt_pos (f := f1) (show j < nF f1 from hj) ha'
    omega
  | succ fu ih =>
    intro x f1 hm hx hc hw
    rw [gX6_goesThrough_L6]
    by_cases h5 : x = -5
    · rw [if_pos h5]
      refine ⟨hw, fun j hj ha => ?_, Int.le_refl _⟩
      rcases rk_cases (a := 0) hm with ⟨-, r2⟩ | ⟨k, hk, r1, -⟩
      · exact absurd ha (r2 j hj)
      · have hn := n_le hm
        rw [hx, r1] at h5
        exact absurd h5 (nI_ne5 (by omega))
    · rw [if_neg h5]
      rcases rk_cases (a := 0) hm with ⟨r1, -⟩ | ⟨j, hj, r1, r2, -⟩
      · exact absurd (hx.trans r1) h5
      · have hn := n_le hm
        have hxj : x = nI j := hx.trans r1
        have hxc : x.toNatClampNeg = j := by rw [hxj, nI_clamp (by omega)]
        have hg := gt_step (x := x) hm ⟨by rw [hxc, hxj], by omega, by rw [hxc]; exact hj, by rw [hxc]; exact r2.1⟩
        rw [hxc] at hg ⊢
        rcases st_wx hm hj r2.1 hw with ⟨s1, s2, s3⟩ | ⟨s1, s2, s3⟩
        · rw [if_pos s1, s2]
          refine ⟨hw, fun i hi ha => ?_, Int.le_refl _⟩
          rw [atR_one hm hi hj ha r2]
          exact s3
        · have s0 : ¬ (gX6_starts f1 j).1 = 0 := by rw [s1]; decide
          rw [if_neg s0]
          obtain ⟨g1, g2⟩ := hg s0
          have g2 : wcnt (gX6_starts f1 j).2 (nF (gX6_starts f1 j).2) < wcnt f1 (nF f1) := g2
          obtain ⟨i1, i2, i3⟩ := ih (gX6_ranked (gX6_starts f1 j).2 0) (gX6_starts f1 j).2 g1 rfl (by omega) s2
          exact ⟨i1, i2, by omega⟩
/-- behind a walk through the queue -/
theorem gt_all {f : FS} (hm : mInv f) (hw : wx f) : wx (gX6_goesThrough f) ∧ hdq (gX6_goesThrough f) ∧ (gX6_granted f).toInt ≤ (gX6_granted (gX6_goesThrough f)).toInt := gt_wx 16 _ f hm rfl (wcnt_le hm) hw
/-! before it -/
theorem en_wx {f : FS} {j : Nat} {s : Int32} (hm : mInv f) (hj : j < nF f) (hs : s = 2 ∨ s = 3) (hw : wx f) : wx (gX6_ends f j s) := by
  have hg := en_ok hm hj hs
  have hn : nF (gX6_ends f j s) = nF f := by unfold nF; rw [ends_f (by decide)]
  have e4 : oF (gX6_ends f j s) j 4 = 0 := by rw [ends_oF (by decide), if_pos rfl, if_neg (by decide), if_pos rfl]
  have hp := mJ_p (hm.2 j hj)
  refine ⟨fun i hi hi3 => ?_, ?_, ?_⟩
  · rw [hn] at hi
    by_cases h : i = j
    · subst h
      rw [ends_oF (by decide), if_pos rfl, if_pos rfl] at hi3
      rcases hs with rfl | rfl <;> exact absurd hi3 (by decide)
    · have ew : gX6_wants (gX6_ends f j s) i = gX6_wants f i := wants_ext (fun k hk => by rw [ends_oF (by omega), if_neg h])
      rw [ew, ends_oF (by decide), if_neg h]
      rw [ends_oF (by decide), if_neg h] at hi3
      exact hw.1 i hi hi3
  · rw [gr_chg hm hg hn hj (fun i _ hne => by rw [ends_oF (by decide), if_neg hne]), e4, i_0, ends_f (by decide)]
    have := hw.2.1
    omega
  · rw [ends_f (by decide), hw.2.2]
    exact (gB_ext hn (fun i _ => by
      rw [ends_oF (by decide)]
      split
      · rename_i h
        subst h
        rw [if_neg (by decide), if_neg (by decide), if_neg (by decide)]
      · rfl)).symm
theorem ch_wx {f : FS} {j : Nat} {a : Int32} (h0 : ¬ oF f j 3 = 1) (hw : wx f) : wx (gX6_sets f j 0 a) := by
  have hn : nF (gX6_sets f j 0 a) = nF f := by unfold nF; rw [f_sets (by decide)]
  have e : ∀ i k, k < 9 → k ≠ 0 → oF (gX6_sets f j 0 a) i k = oF f i k := fun i k hk h => by rw [oF_sets (by decide) hk, if_neg (by omega)]
  refine ⟨fun i hi hi3 => ?_, ?_, ?_⟩
  · rw [hn] at hi
    rw [e i 3 (by decide) (by decide)] at hi3
    have hij : i ≠ j := fun z => h0 (z ▸ hi3)
    have ew : gX6_wants (gX6_sets f j 0 a) i = gX6_wants f i := wants_ext (fun k hk => by rw [oF_sets (by decide) (by omega), if_neg (by omega)])
    rw [ew, e i 4 (by decide) (by decide)]
    exact hw.1 i hi hi3
  · rw [gr_ext hn (fun i _ => e i 4 (by decide) (by decide)), f_sets (by decide)]
    exact hw.2.1
  · rw [f_sets (by decide), hw.2.2]
    exact (gB_ext hn (fun i _ => e i 8 (by decide) (by decide))).symm
theorem upd_wx {f : FS} {k : Nat} {v : Int32} (hk : k < 4 ∨ k = 6 ∨ k = 7) (hw : wx f) : wx (upd f k v) := by
  have hn : nF (upd f k v) = nF f := by unfold nF; rw [f_upd, if_neg (by omega)]
  have e : ∀ i m, oF (upd f k v) i m = oF f i m := fun i m => oF_upd (by omega)
  refine ⟨fun i hi hi3 => ?_, ?_, ?_⟩
  · rw [hn] at hi
    rw [e] at hi3
    rw [e, wants_ext (f := f) (fun m _ => e i m)]
    exact hw.1 i hi hi3
  · rw [gr_ext hn (fun i _ => e i 4), f_upd, if_neg (by omega)]
    exact hw.2.1
  · rw [f_upd, if_neg (by omega), hw.2.2]
    exact (gB_ext hn (fun i _ => e i 8)).symm
theorem com_wx {f : FS} {a b c : Int32} (hm : mInv f) (h16 : ¬ f 4 = 16) (hc : okJ a b c) (hw : wx f) : wx (comF f a b c) ∧ gX6_granted (comF f a b c) = gX6_granted f := by
  have hn := (com_inv hm h16 hc).2
  have h16' := n16_of hm h16
  have hz := hm.1.2.2.2.2.2 (nF f) (Nat.le_refl _) h16'
  have eo : ∀ k, 3 ≤ k → k < 9 → oF (comF f a b c) (nF f) k = 0 := fun k h3 h9 => by rw [com_oF h9, if_pos rfl, if_neg (by omega), if_neg (by omega), if_neg (by omega)]; exact hz k h9
  have er : ∀ i, i < nF f → ∀ k, k < 9 → oF (comF f a b c) i k = oF f i k := fun i hi k hk => by rw [com_oF hk, if_neg (by omega)]
  have eg : gX6_granted (comF f a b c) = gX6_granted f := by
    rw [granted_eq, granted_eq, show (comF f a b c 4).toNatClampNeg = nF f + 1 from hn]
    show sS (fun j => oF (comF f a b c) j 4) (nF f) + oF (comF f a b c) (nF f) 4 = sS (fun j => oF f j 4) (nF f)
    rw [eo 4 (by decide) (by decide), Int32.add_zero]
    exact sS_ext (fun i hi => er i hi 4 (by decide))
  refine ⟨⟨fun i hi hi3 => ?_, ?_, ?_⟩, eg⟩
  · rw [hn] at hi
    by_cases h : i = nF f
    · subst h
      rw [eo 3 (by decide) (by decide)] at hi3
      exact absurd hi3 (by decide)
    · rw [er i (by omega) 3 (by decide)] at hi3
      rw [er i (by omega) 4 (by decide), wants_ext (f := f) (fun k hk => er i (by omega) k (by omega))]
      exact hw.1 i (by omega) hi3
  · rw [eg, com_f (by decide), if_neg (by decide)]
    exact hw.2.1
  · rw [com_f (by decide), if_neg (by decide), hw.2.2]
    unfold gB
    rw [hn]
    show _ = sS (fun j => oF (comF f a b c) j 8) (nF f) + oF (comF f a b c) (nF f) 8
    rw [eo 8 (by decide) (by decide), Int32.add_zero]
    exact (sS_ext (fun i hi => er i hi 8 (by decide))).symm
