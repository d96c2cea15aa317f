/-! ===== the acts: the same answers, the same state behind ===== -/
def EQ2 (q : Int32 × CS) (r : Int32 × MS) : Prop := q.1 = r.1 ∧ RR q.2 r.2
theorem act_EQ {C : CS} {Z : MS} {f' : FS} {P' : PS} {v v' : Int32} (h : RR C Z) (hf : RP f' P') (hm : mInv f') (hv : v' = v) :
    EQ2 (v', (P', gX0_record C.2.1 C.1, C.2.2.1, C.2.2.2.1, C.2.2.2.2.1, C.2.2.2.2.2.1, C.2.2.2.2.2.2)) ((gX6_acted (Z.1, f', gX6_copy Z.2.1 Z.2.2.1, Z.2.2.2.1, Z.2.2.2.2.1, Z.2.2.2.2.2.1, Z.2.2.2.2.2.2.1, Z.2.2.2.2.2.2.2) v).1, (gX6_acted (Z.1, f', gX6_copy Z.2.1 Z.2.2.1, Z.2.2.2.1, Z.2.2.2.2.1, Z.2.2.2.2.2.1, Z.2.2.2.2.2.2.1, Z.2.2.2.2.2.2.2) v).2) :=
  ⟨hv.trans (act_RR h hf hm).1.symm, (act_RR h hf hm).2⟩
theorem isWay_iff {a : Int32} : gX3_isWay a = 0 ↔ gX6_in a.toInt64 0 2 = 0 := by
  have h := in_ne (x := a) (a := 0) (b := 2)
  rw [show (0 : Int64).toInt = 0 from rfl, show (2 : Int64).toInt = 2 from rfl] at h
  unfold gX3_isWay
  by_cases c1 : a < 0
  · rw [if_pos c1]
    rw [x_ilt, i_0] at c1
    exact ⟨fun _ => Decidable.not_not.mp (fun z => by have := h.mp z; omega), fun _ => rfl⟩
  · rw [if_neg c1]
    rw [x_ilt, i_0] at c1
    by_cases c2 : 2 < a
    · rw [if_pos c2]
      rw [x_ilt, i_2] at c2
      exact ⟨fun _ => Decidable.not_not.mp (fun z => by have := h.mp z; omega), fun _ => rfl⟩
    · rw [if_neg c2]
      rw [x_ilt, i_2] at c2
      exact ⟨fun z => absurd z (by decide), fun z => absurd z (h.mpr (by omega))⟩
theorem isTab_iff {a : Int32} : gX3_isTable a = 0 ↔ gX6_isTable a = 0 := by
  have h := tab_ne (x := a)
  have e200 : (200 : Int32).toInt = 200 := rfl
  unfold gX3_isTable
  by_cases c1 : a < 1
  · rw [if_pos c1]
    rw [x_ilt, i_1] at c1
    exact ⟨fun _ => Decidable.not_not.mp (fun z => by have := h.mp z; omega), fun _ => rfl⟩
  · rw [if_neg c1]
    rw [x_ilt, i_1] at c1
    by_cases c2 : 200 < a
    · rw [if_pos c2]
      rw [x_ilt, e200] at c2
      exact ⟨fun _ => Decidable.not_not.mp (fun z => by have := h.mp z; omega), fun _ => rfl⟩
    · rw [if_neg c2]
      rw [x_ilt, e200] at c2
      exact ⟨fun z => absurd z (by decide), fun z => absurd z (h.mpr (by omega))⟩
theorem isPag_iff {a : Int32} : gX5_isPages a = 0 ↔ gX6_in a.toInt64 3 500 = 0 := by
  have h := in_ne (x := a) (a := 3) (b := 500)
  rw [show (3 : Int64).toInt = 3 from rfl, show (500 : Int64).toInt = 500 from rfl] at h
  have e500 : (500 : Int32).toInt = 500 := rfl
  unfold gX5_isPages
  by_cases c1 : a < 3
  · rw [if_pos c1]
    rw [x_ilt, i_3] at c1
    exact ⟨fun _ => Decidable.not_not.mp (fun z => by have := h.mp z; omega), fun _ => rfl⟩
  · rw [if_neg c1]
    rw [x_ilt, i_3] at c1
    by_cases c2 : 500 < a
    · rw [if_pos c2]
      rw [x_ilt, e500] at c2
      exact ⟨fun _ => Decidable.not_not.mp (fun z => by have := h.mp z; omega), fun _ => rfl⟩
    · rw [if_neg c2]
      rw [x_ilt, e500] at c2
      exact ⟨fun z => absurd z (by decide), fun z => absurd z (h.mpr (by omega))⟩
theorem fits_eq {a b c : Int32} : gX3_fits a b c = (if gX6_in a.toInt64 0 2 = 0 then 0 else if gX6_isTable b = 0 then 0 else if gX6_isTable c = 0 then 0 else 1) := by
  unfold gX3_fits
  by_cases c1 : gX6_in a.toInt64 0 2 = 0
  · rw [if_pos c1, if_pos (isWay_iff.mpr c1)]
  · rw [if_neg c1, if_neg (fun z => c1 (isWay_iff.mp z))]
    by_cases c2 : gX6_isTable b = 0
    · rw [if_pos c2, if_pos (isTab_iff.mpr c2)]
    · rw [if_neg c2, if_neg (fun z => c2 (isTab_iff.mp z))]
      by_cases c3 : gX6_isTable c = 0
      · rw [if_pos c3, if_pos (isTab_iff.mpr c3)]
      · rw [if_neg c3, if_neg (fun z => c3 (isTab_iff.mp z))]
/-! one comes -/
theorem eq_com {f : FS} {P : PS} {a b c : Int32} (h : RP f P) (hm : mInv f) (h16 : ¬ f 4 = 16) (hc : okJ a b c) : RP (comF f a b c) (P.1, upd P.2.1 0 (P.2.1 0 + 1), va_up P.2.2 (nF f) (gX1_come (nI (nF f)) (P.2.2 (nF f)) a b c)) := by
  have hn := n16_of hm h16
  have hn : nF f < 16 := hn
  have hi := com_inv hm h16 hc
  obtain ⟨⟨⟨a0, a1, a2, a3⟩, b0, b1, b2, b3, b4⟩, hj, hr⟩ := h
  have e : ∀ i, i < 9 → i ≠ 4 → f i = comF f a b c i := fun i hi h4 => by rw [com_f hi, if_neg h4]
  refine ⟨⟨⟨a0.trans (e 0 (by decide) (by decide)), a1.trans (e 1 (by decide) (by decide)), a2.trans (e 2 (by decide) (by decide)), a3.trans (e 3 (by decide) (by decide))⟩, ?_, b1.trans (e 5 (by decide) (by decide)), b2.trans (e 6 (by decide) (by decide)), b3.trans (e 7 (by decide) (by decide)), b4.trans (e 8 (by decide) (by decide))⟩, fun j hj2 => ?_, fun j hj2 hj16 => ?_⟩
  · show P.2.1 0 + 1 = comF f a b c 4
    rw [b0, com_f (by decide), if_pos rfl]
  · show RJ (comF f a b c) j (va_up P.2.2 (nF f) (gX1_come (nI (nF f)) (P.2.2 (nF f)) a b c) j)
    rw [hi.2] at hj2
    by_cases hjn : j = nF f
    · rw [hjn, va_here]
      exact RJ_come (fun k hk => hm.1.2.2.2.2.2 (nF f) (Nat.le_refl _) hn k hk) (hr (nF f) (Nat.le_refl _) hn) hc
    · rw [show va_up P.2.2 (nF f) (gX1_come (nI (nF f)) (P.2.2 (nF f)) a b c) j = P.2.2 j from if_neg hjn]
      exact RJ_ext (fun m hm9 => by rw [com_oF hm9, if_neg hjn]) (hj j (by omega))
  · show RN (va_up P.2.2 (nF f) (gX1_come (nI (nF f)) (P.2.2 (nF f)) a b c) j)
    rw [hi.2] at hj2
    rw [show va_up P.2.2 (nF f) (gX1_come (nI (nF f)) (P.2.2 (nF f)) a b c) j = P.2.2 j from if_neg (by omega)]
    exact hr j (by omega) hj16
theorem eq_take {f : FS} {P : PS} {a b c : Int32} (h : RP f P) (hm : mInv f) (h16 : ¬ f 4 = 16) (hc : okJ a b c) : RP (gX6_comes f a b c) (gX4_take P a b c).2 ∧ (gX4_take P a b c).1 = gX6_comes f a b c 4 - 1 := by
  have hn : nF f < 16 := n16_of hm h16
  have h4 := n4_of hm
  have hp0 : P.2.1 0 = f 4 := h.1.2.1
  have hlt : P.2.1 0 < nI 16 := by rw [hp0, h4]; exact (nI_ltI (by unfold nF at hn; omega) (by decide)).mpr hn
  have hcl : (P.2.1 0).toNatClampNeg = nF f := by rw [hp0]
  have hi := com_inv hm h16 hc
  have hg := gt_ok hi.1
  unfold gX4_take
  rw [if_pos hlt, hcl]
  refine ⟨eq_gt (eq_com h hm h16 hc) hi.1, ?_⟩
  show nI (nF f) = gX6_goesThrough (comF f a b c) 4 - 1
  rw [hg.2.1 4 (by decide) (by decide), com_f (by decide), if_pos rfl, Int32.add_sub_cancel]
  exact h4.symm
theorem room_iff {f : FS} {P : PS} {k : Nat} (h : RP f P) (hm : mInv f) (hk : k ≤ 20) : nI k ≤ gX4_room P ↔ nF f + k ≤ 16 := by
  have hp0 : P.2.1 0 = f 4 := h.1.2.1
  have hn : nF f ≤ 16 := n_le hm
  have h4 : f 4 = nI (nF f) := n4_of hm
  unfold gX4_room
  rw [hp0, h4, x_ile, nI_toInt (by omega), pk_sub_toInt (by decide) (by omega)]
  omega
theorem eq_ask {C : CS} {Z : MS} {a b c : Int32} (h : RR C Z) : EQ2 (gX5_ask C a b c) (gX6_ask Z a b c) := by
  obtain ⟨⟨h1, h2⟩, -⟩ := id h
  unfold gX5_ask gX6_ask
  rw [fits_eq]
  by_cases c1 : gX6_in a.toInt64 0 2 = 0
  · rw [if_pos c1, if_pos c1, if_pos rfl]; exact ⟨rfl, h⟩
  · rw [if_neg c1, if_neg c1]
    by_cases c2 : gX6_isTable b = 0
    · rw [if_pos c2, if_pos c2, if_pos rfl]; exact ⟨rfl, h⟩
    · rw [if_neg c2, if_neg c2]
      by_cases c3 : gX6_isTable c = 0
      · rw [if_pos c3, if_pos c3, if_pos rfl]; exact ⟨rfl, h⟩
      · rw [if_neg c3, if_neg c3, if_neg (show ¬ (1 : Int32) = 0 by decide)]
        have hr := room_iff (k := 1) h1 h2 (by decide)
        have hr : 1 ≤ gX4_room C.1 ↔ nF Z.2.1 + 1 ≤ 16 := hr
        by_cases c4 : Z.2.1 4 = 16
        · have hn : nF Z.2.1 = 16 := by unfold nF; rw [c4]; rfl
          rw [if_pos c4, if_neg (fun z => by have := hr.mp z; omega)]
          exact ⟨rfl, h⟩
        · have hn : nF Z.2.1 < 16 := n16_of h2 c4
          rw [if_neg c4, if_pos (hr.mpr (by omega))]
          have hc := okJ_in c1 c2 c3
          have ht := eq_take h1 h2 c4 hc
          exact act_EQ h ht.1 (cm_ok h2 c4 hc).1 ht.2
/-! cancelling, changing -/
theorem find_eq {f : FS} {P : PS} {a : Int32} (h : RP f P) (hm : mInv f) : gX4_find P a = if gX6_isJoin f a = 0 then none else some a.toNatClampNeg := by
  have hj := ij_iff (x := a) hm
  have hn : nF f ≤ 16 := n_le hm
  have hp0 : P.2.1 0 = f 4 := h.1.2.1
  have h4 : (f 4).toInt = nF f := n_toInt hm
  have e16 : (nI 16).toInt = 16 := nI_toInt (by decide)
  unfold gX4_find
  rw [hp0]
  by_cases c : gX6_isJoin f a = 0
  · rw [if_pos c]
    by_cases c1 : a < 0
    · rw [if_pos c1]
    · rw [if_neg c1]
      by_cases c2 : f 4 ≤ a
      · rw [if_pos c2]
      · rw [x_ilt, i_0] at c1
        rw [x_ile] at c2
        exact absurd c (hj.mpr (by omega))
  · rw [if_neg c]
    have := hj.mp c
    rw [if_neg (show ¬ a < 0 by rw [x_ilt, i_0]; omega), if_neg (show ¬ f 4 ≤ a by rw [x_ile]; omega), if_neg (show ¬ nI 16 ≤ a by rw [x_ile, e16]; omega)]
theorem eq_ends {f : FS} {P : PS} {j : Nat} {s : Int32} (h : RP f P) (hj : j < nF f) : RP (gX6_ends f j s) (P.1, P.2.1, va_up P.2.2 j (gX1_end (nI j) (P.2.2 j) s)) := by
  obtain ⟨⟨a0, a1, a2, a3⟩, b0, b1, b2, b3, b4⟩ := h.1
  refine RP_set h hj ?_ (ends_f (by decide)) (fun i hi k hk => by rw [ends_oF hk, if_neg hi]) (RJ_end (h.2.1 j hj))
  unfold RS
  rw [ends_f (by decide), ends_f (by decide), ends_f (by decide), ends_f (by decide), ends_f (by decide), ends_f (by decide), ends_f (by decide), ends_f (by decide), ends_f (by decide)]
  exact ⟨⟨a0, a1, a2, a3⟩, b0, b1, b2, b3, b4⟩
theorem eq_cwP {f : FS} {P : PS} {j : Nat} {a : Int32} (h : RP f P) (hm : mInv f) (hj : j < nF f) (ha : a = 0 ∨ a = 1 ∨ a = 2) : RP (gX6_sets f j 0 a) (P.1, P.2.1, va_up P.2.2 j (gX1_changeWay (nI j) (P.2.2 j) a)) := by
  obtain ⟨⟨a0, a1, a2, a3⟩, b0, b1, b2, b3, b4⟩ := h.1
  refine RP_set h hj ?_ (f_sets (by decide)) (fun i hi k hk => by rw [oF_sets (by decide) hk, if_neg (by omega)]) (RJ_cw (h.2.1 j hj) (hm.2 j hj) ha)
  unfold RS
  rw [f_sets (by decide), f_sets (by decide), f_sets (by decide), f_sets (by decide), f_sets (by decide), f_sets (by decide), f_sets (by decide), f_sets (by decide), f_sets (by decide)]
  exact ⟨⟨a0, a1, a2, a3⟩, b0, b1, b2, b3, b4⟩
theorem eq_cancel {C : CS} {Z : MS} {a : Int32} (h : RR C Z) : EQ2 (gX5_cancel C a) (gX6_cancel Z a) := by
  obtain ⟨⟨h1, h2⟩, -⟩ := id h
  unfold gX5_cancel gX6_cancel
  rw [find_eq h1 h2]
  by_cases c1 : gX6_isJoin Z.2.1 a = 0
  · rw [if_pos c1, if_pos c1, if_pos rfl]; exact ⟨rfl, h⟩
  · rw [if_neg c1, if_neg c1, if_neg (show ¬ some a.toNatClampNeg = none by simp)]
    obtain ⟨ea, hj⟩ := ij_of h2 c1
    show EQ2 (if gX1_isIn (nI a.toNatClampNeg) (C.1.2.2 a.toNatClampNeg) 0 = 0 then (if gX1_isIn (nI a.toNatClampNeg) (C.1.2.2 a.toNatClampNeg) 1 = 0 then (-4, C) else (gX1_pages (nI a.toNatClampNeg) (C.1.2.2 a.toNatClampNeg), (gX4_goThroughQueue (C.1.1, C.1.2.1, va_up C.1.2.2 a.toNatClampNeg (gX1_end (nI a.toNatClampNeg) (C.1.2.2 a.toNatClampNeg) 3)), gX0_record C.2.1 C.1, C.2.2.1, C.2.2.2.1, C.2.2.2.2.1, C.2.2.2.2.2.1, C.2.2.2.2.2.2))) else (gX1_pages (nI a.toNatClampNeg) (C.1.2.2 a.toNatClampNeg), (gX4_goThroughQueue (C.1.1, C.1.2.1, va_up C.1.2.2 a.toNatClampNeg (gX1_end (nI a.toNatClampNeg) (C.1.2.2 a.toNatClampNeg) 3)), gX0_record C.2.1 C.1, C.2.2.1, C.2.2.2.1, C.2.2.2.2.1, C.2.2.2.2.2.1, C.2.2.2.2.2.2))) _
    generalize a.toNatClampNeg = j at *
    rw [eq_isIn (h1.2.1 j hj), eq_isIn (h1.2.1 j hj)]
    have hact := act_EQ (v' := gX1_pages (nI j) (C.1.2.2 j)) (v := gX6_of Z.2.1 j 4) h (eq_gt (eq_ends (s := 3) h1 hj) (en_ok h2 hj (Or.inr rfl))) (gt_ok (en_ok h2 hj (Or.inr rfl))).1 (h1.2.1 j hj).2.1
    have hst := (h2.2 j hj).2.2.2.1
    have hle : gX6_of Z.2.1 j 3 ≤ 1 ↔ oF Z.2.1 j 3 = 0 ∨ oF Z.2.1 j 3 = 1 := by
      rw [gX6_of_eq]
      rcases hst with e | e | e | e <;> rw [e] <;> decide
    by_cases c2 : oF Z.2.1 j 3 = 0
    · rw [if_neg (fun z => is_ne.mp z c2), if_pos (hle.mpr (Or.inl c2))]
      exact hact
    · rw [if_pos (is_ne.mpr c2)]
      by_cases c3 : oF Z.2.1 j 3 = 1
      · rw [if_neg (fun z => is_ne.mp z c3), if_pos (hle.mpr (Or.inr c3))]
        exact hact
      · rw [if_pos (is_ne.mpr c3), if_neg (fun z => (hle.mp z).elim c2 c3)]
        exact ⟨rfl, h⟩
theorem eq_change {C : CS} {Z : MS} {a b : Int32} (h : RR C Z) : EQ2 (gX5_change C a b) (gX6_change Z a b) := by
  obtain ⟨⟨h1, h2⟩, -⟩ := id h
  unfold gX5_change gX6_change
  rw [find_eq h1 h2]
  by_cases c1 : gX6_isJoin Z.2.1 a = 0
  · rw [if_pos c1, if_pos c1, if_pos rfl]; exact ⟨rfl, h⟩
  · rw [if_neg c1, if_neg c1, if_neg (show ¬ some a.toNatClampNeg = none by simp)]
    obtain ⟨ea, hj⟩ := ij_of h2 c1
    by_cases c2 : gX6_in b.toInt64 0 2 = 0
    · rw [if_pos c2, if_pos (isWay_iff.mpr c2)]; exact ⟨rfl, h⟩
    · rw [if_neg c2, if_neg (fun z => c2 (isWay_iff.mp z))]
      show EQ2 (if gX1_isIn (nI a.toNatClampNeg) (C.1.2.2 a.toNatClampNeg) 0 = 0 then (-4, C) else (if gX1_way (nI a.toNatClampNeg) (C.1.2.2 a.toNatClampNeg) = b then (-5, C) else (gX1_way (nI a.toNatClampNeg) (C.1.2.2 a.toNatClampNeg), (gX4_goThroughQueue (C.1.1, C.1.2.1, va_up C.1.2.2 a.toNatClampNeg (gX1_changeWay (nI a.toNatClampNeg) (C.1.2.2 a.toNatClampNeg) b)), gX0_record C.2.1 C.1, C.2.2.1, C.2.2.2.1, C.2.2.2.2.1, C.2.2.2.2.2.1, C.2.2.2.2.2.2)))) _
      generalize a.toNatClampNeg = j at *
      rw [eq_isIn (h1.2.1 j hj), show gX1_way (nI j) (C.1.2.2 j) = gX6_of Z.2.1 j 0 from (h1.2.1 j hj).2.2.2.2.2.2.1]
      by_cases c3 : gX6_is Z.2.1 j 0 = 0
      · rw [if_pos c3, if_pos c3]; exact ⟨rfl, h⟩
      · rw [if_neg c3, if_neg c3]
        by_cases c4 : gX6_of Z.2.1 j 0 = b
        · rw [if_pos c4, if_pos c4]; exact ⟨rfl, h⟩
        · rw [if_neg c4, if_neg c4]
          have hk := ch_ok h2 hj c3 c2
          exact act_EQ h (eq_gt (eq_cwP h1 h2 hj (i3_of (in_ne.mp c2))) hk) (gt_ok hk).1 rfl
/-! settings -/
theorem allows_iff {a b : Int32} : gX4_allows a b = 0 ↔ gX6_isSetting a b = 0 := by
  have hin : ∀ (lo hi : Int32) (l u : Int64), lo.toInt = l.toInt → hi.toInt = u.toInt → ((if b < lo then (0 : Int32) else if hi < b then 0 else 1) = 0 ↔ gX6_in b.toInt64 l u = 0) := by
    intro lo hi l u e1 e2
    have h := in_ne (x := b) (a := l) (b := u)
    by_cases c1 : b < lo
    · rw [if_pos c1]
      rw [x_ilt] at c1
      exact ⟨fun _ => Decidable.not_not.mp (fun z => by have := h.mp z; omega), fun _ => rfl⟩
    · rw [if_neg c1]
      rw [x_ilt] at c1
      by_cases c2 : hi < b
      · rw [if_pos c2]
        rw [x_ilt] at c2
        exact ⟨fun _ => Decidable.not_not.mp (fun z => by have := h.mp z; omega), fun _ => rfl⟩
      · rw [if_neg c2]
        rw [x_ilt] at c2
        exact ⟨fun z => absurd z (by decide), fun z => absurd z (h.mpr (by omega))⟩
  have i01 : ¬ (1 : Int32) = 0 := by decide
  have i02 : ¬ (2 : Int32) = 0 := by decide
  have i12 : ¬ (2 : Int32) = 1 := by decide
  have i03 : ¬ (3 : Int32) = 0 := by decide
  have i13 : ¬ (3 : Int32) = 1 := by decide
  have i23 : ¬ (3 : Int32) = 2 := by decide
  unfold gX4_allows gX6_isSetting
  by_cases h0 : a = 0
  · subst h0
    rw [if_neg (show ¬ (0 : Int32) < 0 by decide), if_neg (show ¬ nI 4 ≤ (0 : Int32) by decide), if_pos rfl]
    exact hin 20 500 20 500 rfl rfl
  · by_cases h1 : a = 1
    · subst h1
      rw [if_neg (show ¬ (1 : Int32) < 0 by decide), if_neg (show ¬ nI 4 ≤ (1 : Int32) by decide), if_neg i01, if_pos rfl]
      exact hin 0 1 0 1 rfl rfl
    · by_cases h2 : a = 2
      · subst h2
        rw [if_neg (show ¬ (2 : Int32) < 0 by decide), if_neg (show ¬ nI 4 ≤ (2 : Int32) by decide), if_neg i02, if_neg i12, if_pos rfl]
        exact hin 0 1 0 1 rfl rfl
      · by_cases h3 : a = 3
        · subst h3
          rw [if_neg (show ¬ (3 : Int32) < 0 by decide), if_neg (show ¬ nI 4 ≤ (3 : Int32) by decide), if_neg i03, if_neg i13, if_neg i23, if_pos rfl]
          have e := hin 1 50 1 50 rfl rfl
          have e' : (if (if gX6_in b.toInt64 1 50 = 0 then (0 : Int32) else 1) = 0 then True else False) ↔ gX6_in b.toInt64 1 50 = 0 := by
            by_cases c : gX6_in b.toInt64 1 50 = 0
            · simp [c]
            · simp [c]
          have e2 : (if gX6_in b.toInt64 1 50 = 0 then (0 : Int32) else 1) = 0 ↔ gX6_in b.toInt64 1 50 = 0 := by
            by_cases c : gX6_in b.toInt64 1 50 = 0
            · rw [if_pos c]; exact ⟨fun _ => c, fun _ => rfl⟩
            · rw [if_neg c]; exact ⟨fun z => absurd z (by decide), fun z => absurd z c⟩
          exact e.trans e2.symm
        · rw [if_neg h0, if_neg h1, if_neg h2, if_neg h3]
          refine ⟨fun _ => rfl, fun _ => ?_⟩
          by_cases c1 : a < 0
          · rw [if_pos c1]
          · rw [if_neg c1]
            by_cases c2 : nI 4 ≤ a
            · rw [if_pos c2]
            · rw [x_ilt, i_0] at c1
              rw [x_ile, nI_toInt (by decide)] at c2
              rw [i_eq, i_0] at h0
              rw [i_eq, i_1] at h1
              rw [i_eq, i_2] at h2
              rw [i_eq, i_3] at h3
              omega
theorem eq_setP {f : FS} {P : PS} {k : Nat} {v : Int32} (h : RP f P) (hk : k < 4) : RP (upd f k v) (upd P.1 k v, P.2.1, P.2.2) := by
  obtain ⟨⟨⟨a0, a1, a2, a3⟩, b0, b1, b2, b3, b4⟩, hj, hr⟩ := h
  have en : nF (upd f k v) = nF f := by unfold nF; rw [f_upd, if_neg (by omega)]
  have e : ∀ i, 4 ≤ i → i < 9 → f i = upd f k v i := fun i h1 h2 => by rw [f_upd, if_neg (by omega)]
  have g : ∀ i, P.1 i = f i → upd P.1 k v i = upd f k v i := fun i hi => by rw [f_upd, f_upd, hi]
  exact ⟨⟨⟨g 0 a0, g 1 a1, g 2 a2, g 3 a3⟩, b0.trans (e 4 (by decide) (by decide)), b1.trans (e 5 (by decide) (by decide)), b2.trans (e 6 (by decide) (by decide)), b3.trans (e 7 (by decide) (by decide)), b4.trans (e 8 (by decide) (by decide))⟩, fun j hj2 => RJ_ext (fun m _ => oF_upd (by omega)) (hj j (by omega)), fun j hj2 hj16 => hr j (by omega) hj16⟩
theorem eq_set {C : CS} {Z : MS} {a b : Int32} (h : RR C Z) : EQ2 (gX5_set C a b) (gX6_set Z a b) := by
  obtain ⟨⟨h1, h2⟩, -⟩ := id h
  unfold gX5_set gX6_set
  by_cases c1 : gX6_isSetting a b = 0
  · rw [if_pos c1, if_pos (allows_iff.mpr c1)]; exact ⟨rfl, h⟩
  · rw [if_neg c1, if_neg (fun z => c1 (allows_iff.mp z))]
    have hk4 := (se_in c1).2
    have e0 : (0 + a) = a := Int32.zero_add _
    have hrng : ¬ a < 0 ∧ ¬ nI 4 ≤ a := by
      rcases se_of c1 with ⟨rfl, -⟩ | ⟨rfl | rfl, -⟩ | ⟨rfl, -⟩ <;> exact ⟨by decide, by decide⟩
    have hs1 : gX4_setting C.1 a = Z.2.1 (0 + a).toNatClampNeg := by
      obtain ⟨a0, a1, a2, a3⟩ := h1.1.1
      rcases se_of c1 with ⟨rfl, -⟩ | ⟨rfl | rfl, -⟩ | ⟨rfl, -⟩
      · exact a0
      · exact a1
      · exact a2
      · exact a3
    have hs2 : gX4_changeSetting C.1 a b = gX4_goThroughQueue (upd C.1.1 (0 + a).toNatClampNeg b, C.1.2.1, C.1.2.2) := by
      unfold gX4_changeSetting
      rw [if_neg hrng.1, if_neg hrng.2, e0]
    rw [hs1, hs2]
    by_cases c2 : Z.2.1 (0 + a).toNatClampNeg = b
    · rw [if_pos c2, if_pos c2]; exact ⟨rfl, h⟩
    · rw [if_neg c2, if_neg c2]
      have hk := set_ok h2 c1
      exact act_EQ h (eq_gt (eq_setP h1 hk4) hk) (gt_ok hk).1 rfl
