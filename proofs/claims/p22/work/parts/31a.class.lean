/-! ===== the class: what its calls say of its row (from the rows of whole) ===== -/
def hx4 (x : Int32) : Prop := 0 ≤ x.toInt ∧ x.toInt ≤ 4
theorem t2_in {x : Int32} (c : ¬ gX6_isTable x = 0) : xT200 x := by
  have h := tab_ne.mp c
  exact ⟨by omega, h.2⟩
theorem pg_in {x : Int32} (c : ¬ gX6_in x.toInt64 3 500 = 0) : xP3 x := by
  have h := in_ne.mp c
  rw [show (3 : Int64).toInt = 3 from rfl, show (500 : Int64).toInt = 500 from rfl] at h
  exact ⟨h.1, by omega⟩
theorem jcopy {v w : Nat → Int32} : ∀ k, k < 11 → gX1_copyFrom v w k = w k := by
  intro k hk
  match k, hk with
  | 0, _ => rfl
  | 1, _ => rfl
  | 2, _ => rfl
  | 3, _ => rfl
  | 4, _ => rfl
  | 5, _ => rfl
  | 6, _ => rfl
  | 7, _ => rfl
  | 8, _ => rfl
  | 9, _ => rfl
  | 10, _ => rfl
theorem RJ_pt {f : FS} {j : Nat} {v w : Nat → Int32} (h : ∀ k, k < 11 → w k = v k) (hv : RJ f j v) : RJ f j w := by
  unfold RJ at hv ⊢
  rw [h 0 (by decide), h 1 (by decide), h 2 (by decide), h 3 (by decide), h 4 (by decide), h 5 (by decide), h 6 (by decide), h 7 (by decide), h 8 (by decide), h 9 (by decide), h 10 (by decide)]
  exact hv
theorem RN_pt {v w : Nat → Int32} (h : ∀ k, k < 11 → w k = v k) (hv : RN v) : RN w := by
  unfold RN at hv ⊢
  rw [h 0 (by decide), h 1 (by decide), h 2 (by decide), h 3 (by decide), h 4 (by decide), h 5 (by decide)]
  exact hv
theorem pc_L40 {P O : PS} : ∀ (fu i : Nat) (P1 : PS), (∀ m, m < 4 → (gX4_copyFrom_L40 P O fu i P1).1 m = P1.1 m) ∧ (∀ m, m < 5 → (gX4_copyFrom_L40 P O fu i P1).2.1 m = O.2.1 m) ∧ ∀ j, (gX4_copyFrom_L40 P O fu i P1).2.2 j = if i ≤ j ∧ j < i + fu then gX1_copyFrom (P1.2.2 j) (O.2.2 j) else P1.2.2 j := by
  intro fu
  induction fu with
  | zero =>
    intro i P1
    refine ⟨fun _ _ => rfl, fun m hm => ?_, fun j => by rw [if_neg (by omega)]; rfl⟩
    match m, hm with
    | 0, _ => rfl
    | 1, _ => rfl
    | 2, _ => rfl
    | 3, _ => rfl
    | 4, _ => rfl
  | succ fu ih =>
    intro i P1
    rw [gX4_copyFrom_L40]
    obtain ⟨h1, h2, h3⟩ := ih (i + 1) (P1.1, P1.2.1, va_up P1.2.2 i (gX1_copyFrom (P1.2.2 i) (O.2.2 i)))
    refine ⟨h1, h2, fun j => ?_⟩
    rw [h3 j]
    show (if i + 1 ≤ j ∧ j < i + 1 + fu then gX1_copyFrom (va_up P1.2.2 i (gX1_copyFrom (P1.2.2 i) (O.2.2 i)) j) (O.2.2 j) else va_up P1.2.2 i (gX1_copyFrom (P1.2.2 i) (O.2.2 i)) j) = _
    by_cases h : j = i
    · subst h
      rw [if_neg (show ¬ (j + 1 ≤ j ∧ j < j + 1 + fu) by omega), if_pos (show j ≤ j ∧ j < j + (fu + 1) by omega), va_here]
    · have e : va_up P1.2.2 i (gX1_copyFrom (P1.2.2 i) (O.2.2 i)) j = P1.2.2 j := if_neg h
      rw [e]
      by_cases h2 : i + 1 ≤ j ∧ j < i + 1 + fu
      · rw [if_pos h2, if_pos (show i ≤ j ∧ j < i + (fu + 1) by omega)]
      · rw [if_neg h2, if_neg (show ¬ (i ≤ j ∧ j < i + (fu + 1)) by omega)]
theorem pc_L2 {P O : PS} : ∀ (fu i : Nat) (P1 : PS), i + fu = 4 → (∀ m, m < i → P1.1 m = O.1 m) → (∀ m, m < 4 → (gX4_copyFrom_L2 P O fu i P1).1 m = O.1 m) ∧ (∀ m, m < 5 → (gX4_copyFrom_L2 P O fu i P1).2.1 m = O.2.1 m) ∧ ∀ j, j < 16 → ∀ k, k < 11 → (gX4_copyFrom_L2 P O fu i P1).2.2 j k = O.2.2 j k := by
  intro fu
  induction fu with
  | zero =>
    intro i P1 hi h
    rw [gX4_copyFrom_L2]
    obtain ⟨h1, h2, h3⟩ := pc_L40 (P := P) (O := O) 16 0 P1
    refine ⟨fun m hm => (h1 m hm).trans (h m (by omega)), h2, fun j hj k hk => ?_⟩
    rw [h3 j, if_pos (by omega)]
    exact jcopy k hk
  | succ fu ih =>
    intro i P1 hi h
    rw [gX4_copyFrom_L2]
    refine ih (i + 1) _ (by omega) (fun m hm => ?_)
    show upd P1.1 i (O.1 i) m = _
    rw [f_upd]
    split
    · rename_i e; rw [e]
    · exact h m (by omega)
theorem eq_copy {f : FS} {P O : PS} (h : RP f O) (hm : mInv f) : RP f (gX4_copyFrom P O) := by
  have hn := n_le hm
  obtain ⟨h1, h2, h3⟩ := pc_L2 (P := P) (O := O) 4 0 P (by decide) (fun m hm => by omega)
  obtain ⟨⟨⟨a0, a1, a2, a3⟩, b0, b1, b2, b3, b4⟩, hj, hr⟩ := h
  exact ⟨⟨⟨(h1 0 (by decide)).trans a0, (h1 1 (by decide)).trans a1, (h1 2 (by decide)).trans a2, (h1 3 (by decide)).trans a3⟩, (h2 0 (by decide)).trans b0, (h2 1 (by decide)).trans b1, (h2 2 (by decide)).trans b2, (h2 3 (by decide)).trans b3, (h2 4 (by decide)).trans b4⟩, fun j hj2 => RJ_pt (h3 j (by omega)) (hj j hj2), fun j hj2 hj16 => RN_pt (h3 j hj16) (hr j hj2 hj16)⟩
theorem i4_cases {x : Int32} (h : hx4 x) : x = nI x.toNatClampNeg ∧ x.toNatClampNeg ≤ 4 := by
  obtain ⟨j, hj, e, ej⟩ := i_nI h.1
  have := h.2
  rw [e, nI_clamp hj]
  exact ⟨rfl, by omega⟩
theorem isWay_iff {a : Int32} : gX3_isWay a = 0 ↔ gX6_in a.toInt64 0 2 = 0 := by
  have h := in_ne (x := a) (a := 0) (b := 2)
  rw [show (0 : Int64).toInt = 0 from rfl, show (2 : Int64).toInt = 2 from rfl] at h
  unfold gX3_isWay
  by_cases c1 : a < 0
  · rw [if_pos c1]
    rw [x_ilt, i_0] at c1
    exact ⟨fun _ => Decidable.not_not.mp (fun z => by have := h.mp z; omega), fun _ => rfl⟩
  · rw [if_neg c1]
    rw [x_ilt, i_0] at c1
    by_cases c2 : 2 < a
    · rw [if_pos c2]
      rw [x_ilt, i_2] at c2
      exact ⟨fun _ => Decidable.not_not.mp (fun z => by have := h.mp z; omega), fun _ => rfl⟩
    · rw [if_neg c2]
      rw [x_ilt, i_2] at c2
      exact ⟨fun z => absurd z (by decide), fun z => absurd z (h.mpr (by omega))⟩
theorem isTab_iff {a : Int32} : gX3_isTable a = 0 ↔ gX6_isTable a = 0 := by
  have h := tab_ne (x := a)
  have e200 : (200 : Int32).toInt = 200 := rfl
  unfold gX3_isTable
  by_cases c1 : a < 1
  · rw [if_pos c1]
    rw [x_ilt, i_1] at c1
    exact ⟨fun _ => Decidable.not_not.mp (fun z => by have := h.mp z; omega), fun _ => rfl⟩
  · rw [if_neg c1]
    rw [x_ilt, i_1] at c1
    by_cases c2 : 200 < a
    · rw [if_pos c2]
      rw [x_ilt, e200] at c2
      exact ⟨fun _ => Decidable.not_not.mp (fun z => by have := h.mp z; omega), fun _ => rfl⟩
    · rw [if_neg c2]
      rw [x_ilt, e200] at c2
      exact ⟨fun z => absurd z (by decide), fun z => absurd z (h.mpr (by omega))⟩
theorem isPag_iff {a : Int32} : gX5_isPages a = 0 ↔ gX6_in a.toInt64 3 500 = 0 := by
  have h := in_ne (x := a) (a := 3) (b := 500)
  rw [show (3 : Int64).toInt = 3 from rfl, show (500 : Int64).toInt = 500 from rfl] at h
  have e500 : (500 : Int32).toInt = 500 := rfl
  unfold gX5_isPages
  by_cases c1 : a < 3
  · rw [if_pos c1]
    rw [x_ilt, i_3] at c1
    exact ⟨fun _ => Decidable.not_not.mp (fun z => by have := h.mp z; omega), fun _ => rfl⟩
  · rw [if_neg c1]
    rw [x_ilt, i_3] at c1
    by_cases c2 : 500 < a
    · rw [if_pos c2]
      rw [x_ilt, e500] at c2
      exact ⟨fun _ => Decidable.not_not.mp (fun z => by have := h.mp z; omega), fun _ => rfl⟩
    · rw [if_neg c2]
      rw [x_ilt, e500] at c2
      exact ⟨fun z => absurd z (by decide), fun z => absurd z (h.mpr (by omega))⟩
theorem fits_eq {a b c : Int32} : gX3_fits a b c = (if gX6_in a.toInt64 0 2 = 0 then 0 else if gX6_isTable b = 0 then 0 else if gX6_isTable c = 0 then 0 else 1) := by
  unfold gX3_fits
  by_cases c1 : gX6_in a.toInt64 0 2 = 0
  · rw [if_pos c1, if_pos (isWay_iff.mpr c1)]
  · rw [if_neg c1, if_neg (fun z => c1 (isWay_iff.mp z))]
    by_cases c2 : gX6_isTable b = 0
    · rw [if_pos c2, if_pos (isTab_iff.mpr c2)]
    · rw [if_neg c2, if_neg (fun z => c2 (isTab_iff.mp z))]
      by_cases c3 : gX6_isTable c = 0
      · rw [if_pos c3, if_pos (isTab_iff.mpr c3)]
      · rw [if_neg c3, if_neg (fun z => c3 (isTab_iff.mp z))]
theorem eq_com {f : FS} {P : PS} {a b c : Int32} (h : RP f P) (hm : mInv f) (h16 : ¬ f 4 = 16) (hc : okJ a b c) : RP (comF f a b c) (P.1, upd P.2.1 0 (P.2.1 0 + 1), va_up P.2.2 (nF f) (gX1_come (nI (nF f)) (P.2.2 (nF f)) a b c)) := by
  have hn := n16_of hm h16
  have hn : nF f < 16 := hn
  have hi := com_inv hm h16 hc
  obtain ⟨⟨⟨a0, a1, a2, a3⟩, b0, b1, b2, b3, b4⟩, hj, hr⟩ := h
  have e : ∀ i, i < 9 → i ≠ 4 → f i = comF f a b c i := fun i hi h4 => by rw [com_f hi, if_neg h4]
  refine ⟨⟨⟨a0.trans (e 0 (by decide) (by decide)), a1.trans (e 1 (by decide) (by decide)), a2.trans (e 2 (by decide) (by decide)), a3.trans (e 3 (by decide) (by decide))⟩, ?_, b1.trans (e 5 (by decide) (by decide)), b2.trans (e 6 (by decide) (by decide)), b3.trans (e 7 (by decide) (by decide)), b4.trans (e 8 (by decide) (by decide))⟩, fun j hj2 => ?_, fun j hj2 hj16 => ?_⟩
  · show P.2.1 0 + 1 = comF f a b c 4
    rw [b0, com_f (by decide), if_pos rfl]
  · show RJ (comF f a b c) j (va_up P.2.2 (nF f) (gX1_come (nI (nF f)) (P.2.2 (nF f)) a b c) j)
    rw [hi.2] at hj2
    by_cases hjn : j = nF f
    · rw [hjn, va_here]
      exact RJ_come (fun k hk => hm.1.2.2.2.2.2 (nF f) (Nat.le_refl _) hn k hk) (hr (nF f) (Nat.le_refl _) hn) hc
    · rw [show va_up P.2.2 (nF f) (gX1_come (nI (nF f)) (P.2.2 (nF f)) a b c) j = P.2.2 j from if_neg hjn]
      exact RJ_ext (fun m hm9 => by rw [com_oF hm9, if_neg hjn]) (hj j (by omega))
  · show RN (va_up P.2.2 (nF f) (gX1_come (nI (nF f)) (P.2.2 (nF f)) a b c) j)
    rw [hi.2] at hj2
    rw [show va_up P.2.2 (nF f) (gX1_come (nI (nF f)) (P.2.2 (nF f)) a b c) j = P.2.2 j from if_neg (by omega)]
    exact hr j (by omega) hj16
theorem eq_take {f : FS} {P : PS} {a b c : Int32} (h : RP f P) (hm : mInv f) (h16 : ¬ f 4 = 16) (hc : okJ a b c) : RP (gX6_comes f a b c) (gX4_take P a b c).2 ∧ (gX4_take P a b c).1 = gX6_comes f a b c 4 - 1 := by
  have hn : nF f < 16 := n16_of hm h16
  have h4 := n4_of hm
  have hp0 : P.2.1 0 = f 4 := h.1.2.1
  have hlt : P.2.1 0 < nI 16 := by rw [hp0, h4]; exact (nI_ltI (by unfold nF at hn; omega) (by decide)).mpr hn
  have hcl : (P.2.1 0).toNatClampNeg = nF f := by rw [hp0]
  have hi := com_inv hm h16 hc
  have hg := gt_ok hi.1
  unfold gX4_take
  rw [if_pos hlt, hcl]
  refine ⟨eq_gt (eq_com h hm h16 hc) hi.1, ?_⟩
  show nI (nF f) = gX6_goesThrough (comF f a b c) 4 - 1
  rw [hg.2.1 4 (by decide) (by decide), com_f (by decide), if_pos rfl, Int32.add_sub_cancel]
  exact h4.symm
theorem room_iff {f : FS} {P : PS} {k : Nat} (h : RP f P) (hm : mInv f) (hk : k ≤ 20) : nI k ≤ gX4_room P ↔ nF f + k ≤ 16 := by
  have hp0 : P.2.1 0 = f 4 := h.1.2.1
  have hn : nF f ≤ 16 := n_le hm
  have h4 : f 4 = nI (nF f) := n4_of hm
  unfold gX4_room
  rw [hp0, h4, x_ile, nI_toInt (by omega), pk_sub_toInt (by decide) (by omega)]
  omega
theorem find_eq {f : FS} {P : PS} {a : Int32} (h : RP f P) (hm : mInv f) : gX4_find P a = if gX6_isJoin f a = 0 then none else some a.toNatClampNeg := by
  have hj := ij_iff (x := a) hm
  have hn : nF f ≤ 16 := n_le hm
  have hp0 : P.2.1 0 = f 4 := h.1.2.1
  have h4 : (f 4).toInt = nF f := n_toInt hm
  have e16 : (nI 16).toInt = 16 := nI_toInt (by decide)
  unfold gX4_find
  rw [hp0]
  by_cases c : gX6_isJoin f a = 0
  · rw [if_pos c]
    by_cases c1 : a < 0
    · rw [if_pos c1]
    · rw [if_neg c1]
      by_cases c2 : f 4 ≤ a
      · rw [if_pos c2]
      · rw [x_ilt, i_0] at c1
        rw [x_ile] at c2
        exact absurd c (hj.mpr (by omega))
  · rw [if_neg c]
    have := hj.mp c
    rw [if_neg (show ¬ a < 0 by rw [x_ilt, i_0]; omega), if_neg (show ¬ f 4 ≤ a by rw [x_ile]; omega), if_neg (show ¬ nI 16 ≤ a by rw [x_ile, e16]; omega)]
theorem eq_ends {f : FS} {P : PS} {j : Nat} {s : Int32} (h : RP f P) (hj : j < nF f) : RP (gX6_ends f j s) (P.1, P.2.1, va_up P.2.2 j (gX1_end (nI j) (P.2.2 j) s)) := by
  obtain ⟨⟨a0, a1, a2, a3⟩, b0, b1, b2, b3, b4⟩ := h.1
  refine RP_set h hj ?_ (ends_f (by decide)) (fun i hi k hk => by rw [ends_oF hk, if_neg hi]) (RJ_end (h.2.1 j hj))
  unfold RS
  rw [ends_f (by decide), ends_f (by decide), ends_f (by decide), ends_f (by decide), ends_f (by decide), ends_f (by decide), ends_f (by decide), ends_f (by decide), ends_f (by decide)]
  exact ⟨⟨a0, a1, a2, a3⟩, b0, b1, b2, b3, b4⟩
theorem eq_cwP {f : FS} {P : PS} {j : Nat} {a : Int32} (h : RP f P) (hm : mInv f) (hj : j < nF f) (ha : a = 0 ∨ a = 1 ∨ a = 2) : RP (gX6_sets f j 0 a) (P.1, P.2.1, va_up P.2.2 j (gX1_changeWay (nI j) (P.2.2 j) a)) := by
  obtain ⟨⟨a0, a1, a2, a3⟩, b0, b1, b2, b3, b4⟩ := h.1
  refine RP_set h hj ?_ (f_sets (by decide)) (fun i hi k hk => by rw [oF_sets (by decide) hk, if_neg (by omega)]) (RJ_cw (h.2.1 j hj) (hm.2 j hj) ha)
  unfold RS
  rw [f_sets (by decide), f_sets (by decide), f_sets (by decide), f_sets (by decide), f_sets (by decide), f_sets (by decide), f_sets (by decide), f_sets (by decide), f_sets (by decide)]
  exact ⟨⟨a0, a1, a2, a3⟩, b0, b1, b2, b3, b4⟩
theorem allows_iff {a b : Int32} : gX4_allows a b = 0 ↔ gX6_isSetting a b = 0 := by
  have hin : ∀ (lo hi : Int32) (l u : Int64), lo.toInt = l.toInt → hi.toInt = u.toInt → ((if b < lo then (0 : Int32) else if hi < b then 0 else 1) = 0 ↔ gX6_in b.toInt64 l u = 0) := by
    intro lo hi l u e1 e2
    have h := in_ne (x := b) (a := l) (b := u)
    by_cases c1 : b < lo
    · rw [if_pos c1]
      rw [x_ilt] at c1
      exact ⟨fun _ => Decidable.not_not.mp (fun z => by have := h.mp z; omega), fun _ => rfl⟩
    · rw [if_neg c1]
      rw [x_ilt] at c1
      by_cases c2 : hi < b
      · rw [if_pos c2]
        rw [x_ilt] at c2
        exact ⟨fun _ => Decidable.not_not.mp (fun z => by have := h.mp z; omega), fun _ => rfl⟩
      · rw [if_neg c2]
        rw [x_ilt] at c2
        exact ⟨fun z => absurd z (by decide), fun z => absurd z (h.mpr (by omega))⟩
  have i01 : ¬ (1 : Int32) = 0 := by decide
  have i02 : ¬ (2 : Int32) = 0 := by decide
  have i12 : ¬ (2 : Int32) = 1 := by decide
  have i03 : ¬ (3 : Int32) = 0 := by decide
  have i13 : ¬ (3 : Int32) = 1 := by decide
  have i23 : ¬ (3 : Int32) = 2 := by decide
  unfold gX4_allows gX6_isSetting
  by_cases h0 : a = 0
  · subst h0
    rw [if_neg (show ¬ (0 : Int32) < 0 by decide), if_neg (show ¬ nI 4 ≤ (0 : Int32) by decide), if_pos rfl]
    exact hin 20 500 20 500 rfl rfl
  · by_cases h1 : a = 1
    · subst h1
      rw [if_neg (show ¬ (1 : Int32) < 0 by decide), if_neg (show ¬ nI 4 ≤ (1 : Int32) by decide), if_neg i01, if_pos rfl]
      exact hin 0 1 0 1 rfl rfl
    · by_cases h2 : a = 2
      · subst h2
        rw [if_neg (show ¬ (2 : Int32) < 0 by decide), if_neg (show ¬ nI 4 ≤ (2 : Int32) by decide), if_neg i02, if_neg i12, if_pos rfl]
        exact hin 0 1 0 1 rfl rfl
      · by_cases h3 : a = 3
        · subst h3
          rw [if_neg (show ¬ (3 : Int32) < 0 by decide), if_neg (show ¬ nI 4 ≤ (3 : Int32) by decide), if_neg i03, if_neg i13, if_neg i23, if_pos rfl]
          have e := hin 1 50 1 50 rfl rfl
          have e' : (if (if gX6_in b.toInt64 1 50 = 0 then (0 : Int32) else 1) = 0 then True else False) ↔ gX6_in b.toInt64 1 50 = 0 := by
            by_cases c : gX6_in b.toInt64 1 50 = 0
            · simp [c]
            · simp [c]
          have e2 : (if gX6_in b.toInt64 1 50 = 0 then (0 : Int32) else 1) = 0 ↔ gX6_in b.toInt64 1 50 = 0 := by
            by_cases c : gX6_in b.toInt64 1 50 = 0
            · rw [if_pos c]; exact ⟨fun _ => c, fun _ => rfl⟩
            · rw [if_neg c]; exact ⟨fun z => absurd z (by decide), fun z => absurd z c⟩
          exact e.trans e2.symm
        · rw [if_neg h0, if_neg h1, if_neg h2, if_neg h3]
          refine ⟨fun _ => rfl, fun _ => ?_⟩
          by_cases c1 : a < 0
          · rw [if_pos c1]
          · rw [if_neg c1]
            by_cases c2 : nI 4 ≤ a
            · rw [if_pos c2]
            · rw [x_ilt, i_0] at c1
              rw [x_ile, nI_toInt (by decide)] at c2
              rw [i_eq, i_0] at h0
              rw [i_eq, i_1] at h1
              rw [i_eq, i_2] at h2
              rw [i_eq, i_3] at h3
              omega
theorem eq_setP {f : FS} {P : PS} {k : Nat} {v : Int32} (h : RP f P) (hk : k < 4) : RP (upd f k v) (upd P.1 k v, P.2.1, P.2.2) := by
  obtain ⟨⟨⟨a0, a1, a2, a3⟩, b0, b1, b2, b3, b4⟩, hj, hr⟩ := h
  have en : nF (upd f k v) = nF f := by unfold nF; rw [f_upd, if_neg (by omega)]
  have e : ∀ i, 4 ≤ i → i < 9 → f i = upd f k v i := fun i h1 h2 => by rw [f_upd, if_neg (by omega)]
  have g : ∀ i, P.1 i = f i → upd P.1 k v i = upd f k v i := fun i hi => by rw [f_upd, f_upd, hi]
  exact ⟨⟨⟨g 0 a0, g 1 a1, g 2 a2, g 3 a3⟩, b0.trans (e 4 (by decide) (by decide)), b1.trans (e 5 (by decide) (by decide)), b2.trans (e 6 (by decide) (by decide)), b3.trans (e 7 (by decide) (by decide)), b4.trans (e 8 (by decide) (by decide))⟩, fun j hj2 => RJ_ext (fun m _ => oF_upd (by omega)) (hj j (by omega)), fun j hj2 hj16 => hr j (by omega) hj16⟩
/-- the class holds the row -/
def LR (C : CS) (f : FS) : Prop := (RP f C.1 ∧ mInv f) ∧ hx4 C.2.1.1
theorem cstep_L {C : CS} {A : Nat} (hA : A ≤ 1000) : ∀ (fu t : Nat) (C1 : CS) (f1 : FS), RP f1 C1.1 → mInv f1 → t ≤ A → A ≤ t + fu → ∃ P', gX5_step_L37 C (nI A) fu (nI t) C1 = (gX4_joinsIn P' 2 - gX4_joinsIn C.1 2, (P', C1.2)) ∧ RP (stN f1 (A - t)) P' := by
  intro fu
  induction fu with
  | zero =>
    intro t C1 f1 h hm h1 h2
    refine ⟨C1.1, rfl, ?_⟩
    rw [show A - t = 0 by omega]
    exact h
  | succ fu ih =>
    intro t C1 f1 h hm h1 h2
    rw [gX5_step_L37]
    by_cases c : nI A ≤ nI t
    · rw [if_pos c]
      have := (nI_leI (by omega) (by omega)).mp c
      refine ⟨C1.1, rfl, ?_⟩
      rw [show A - t = 0 by omega]
      exact h
    · rw [if_neg c]
      have hlt : t < A := by
        rcases Nat.lt_or_ge t A with hl | hl
        · exact hl
        · exact absurd (nI_le hl (by omega)) c
      have es : nI A - nI t = nI (A - t) := pk_sub (by omega)
      have et : (nI (A - t)).toInt = ((A - t : Nat) : Int) := nI_toInt (by omega)
      obtain ⟨k, k1, k2, k3, k4, -⟩ := leap_sim (a := nI A - nI t) h hm (by rw [es, et]; omega)
      rw [es, et] at k2
      have ex : nI t + (if 1 < (gX4_leap C1.1 (nI A - nI t)).1 then (gX4_leap C1.1 (nI A - nI t)).1 else 1) = nI (t + k) := by
        rw [k3]
        split
        · rw [nI_add]
        · rename_i q
          rw [x_ilt, i_1, nI_toInt (by omega)] at q
          rw [show k = 1 by omega, nI_1]
      rw [ex]
      obtain ⟨P', p1, p2⟩ := ih (t + k) ((gX4_leap C1.1 (nI A - nI t)).2, C1.2.1, C1.2.2.1, C1.2.2.2.1, C1.2.2.2.2.1, C1.2.2.2.2.2.1, C1.2.2.2.2.2.2) (stN f1 k) k4 (stN_ok hm k).1 (by omega) (by omega)
      refine ⟨P', p1, ?_⟩
      rw [stN_add, show k + (A - (t + k)) = A - t by omega] at p2
      exact p2
theorem ways_eq {T : TS} {i : Nat} (h : i < 12) : gX2_wayOf T (nI i) = T.2.2.1 i ∧ gX2_leftOf T (nI i) = T.2.2.2.1 i ∧ gX2_rightOf T (nI i) = T.2.2.2.2 i := by
  have c1 : ¬ nI i < 0 := nI_pos (by omega)
  have c2 : ¬ nI 12 ≤ nI i := nI_ge h (by decide)
  unfold gX2_wayOf gX2_leftOf gX2_rightOf
  rw [if_neg c1, if_neg c2, if_neg c1, if_neg c2, if_neg c1, if_neg c2, nI_clamp (by omega)]
  exact ⟨rfl, rfl, rfl⟩
theorem eq_why {C : CS} {f : FS} {a : Int32} (h : LR C f) : gX5_why C a = gX6_why f a := by
  obtain ⟨⟨h1, h2⟩, -⟩ := id h
  unfold gX5_why gX6_why
  rw [find_eq h1 h2]
  by_cases c1 : gX6_isJoin f a = 0
  · rw [if_pos c1, if_pos c1, if_pos rfl]
  · rw [if_neg c1, if_neg c1, if_neg (show ¬ some a.toNatClampNeg = none by simp)]
    obtain ⟨ea, hj⟩ := ij_of h2 c1
    show gX4_hindrance C.1 a.toNatClampNeg = _
    generalize a.toNatClampNeg = j at *
    unfold gX4_hindrance
    rw [eq_isIn (h1.2.1 j hj), show gX1_need (nI j) (C.1.2.2 j) = gX6_needs f j from (h1.2.1 j hj).2.2.2.2.2.2.2.2.2.1, eq_cAh h1 h2 hj, show gX4_setting C.1 0 = f 0 from h1.1.1.1]
theorem eq_queue {C : CS} {f : FS} {a : Int32} (h : LR C f) : gX5_queue C a = gX6_queue f a := by
  obtain ⟨⟨h1, h2⟩, -⟩ := id h
  unfold gX5_queue gX6_queue
  by_cases c : 0 ≤ a
  · rw [if_pos c, if_pos c]
    rcases eq_atR (a := a) h1 h2 with ⟨e1, e2⟩ | ⟨j, hj, e1, e2⟩
    · rw [e2, if_pos rfl, e1]
    · rw [e2, if_neg (show ¬ some j = none by simp), e1]
      rfl
  · rw [if_neg c, if_neg c]
theorem eq_spare {C : CS} {f : FS} (h : LR C f) : gX5_spare C = gX6_spare f := eq_surp h.1.1 h.1.2
theorem LR_pl {C : CS} {f : FS} {R' : PS} {p' : Nat → Int32} (h : LR C f) : LR (C.1, C.2.1, C.2.2.1, C.2.2.2.1, C.2.2.2.2.1, R', p') f := h
theorem eq_mkwork {p : Nat → Int32} {w a b d : Int32} (h : wOK w a b) (hd : 3 ≤ d.toInt ∧ d.toInt ≤ 1000) : gX3_make p w a b 3 = gX6_needsOf w a b ∧ gX3_workWith (gX3_make p w a b) d = gX6_workOf w a b d := by
  obtain ⟨m0, m1, m2, m3, m4⟩ := eq_make (p := p) h
  refine ⟨m3, ?_⟩
  rw [eq_work (p := gX3_make p w a b) (by rw [m0, m1, m2]; exact h) (by rw [m4, m0, m1, m2]) hd, m0, m1, m2]
theorem eq_workc {C : CS} {f : FS} {w a b d : Int32} (h : LR C f) : (gX5_work C w a b d).1 = gX6_work f w a b d ∧ LR (gX5_work C w a b d).2 f := by
  unfold gX5_work gX6_work
  rw [fits_eq]
  by_cases c1 : gX6_in w.toInt64 0 2 = 0
  · rw [if_pos c1, if_pos c1, if_pos rfl]; exact ⟨rfl, h⟩
  · rw [if_neg c1, if_neg c1]
    by_cases c2 : gX6_isTable a = 0
    · rw [if_pos c2, if_pos c2, if_pos rfl]; exact ⟨rfl, h⟩
    · rw [if_neg c2, if_neg c2]
      by_cases c3 : gX6_isTable b = 0
      · rw [if_pos c3, if_pos c3, if_pos rfl]; exact ⟨rfl, h⟩
      · rw [if_neg c3, if_neg c3, if_neg (show ¬ (1 : Int32) = 0 by decide)]
        by_cases c4 : gX6_in d.toInt64 3 500 = 0
        · rw [if_pos c4, if_pos (isPag_iff.mpr c4)]; exact ⟨rfl, h⟩
        · rw [if_neg c4, if_neg (fun z => c4 (isPag_iff.mp z))]
          obtain ⟨e1, e2⟩ := eq_mkwork (p := C.2.2.2.2.2.2) (okJ_in c1 c2 c3) (pg_in c4)
          rw [e1, e2]
          by_cases c5 : gX6_needsOf w a b ≤ d
          · rw [if_pos c5, if_pos c5]; exact ⟨rfl, LR_pl h⟩
          · rw [if_neg c5, if_neg c5]; exact ⟨rfl, LR_pl h⟩
theorem bw_L {C : CS} {f : FS} {a b d : Int32} (ha : 1 ≤ a.toInt ∧ a.toInt ≤ 200) (hb : 1 ≤ b.toInt ∧ b.toInt ≤ 200) (hd : 3 ≤ d.toInt ∧ d.toInt ≤ 1000) : ∀ (fu i : Nat) (x y : Int32) (C1 : CS), 1 ≤ i → i + fu ≤ 3 → y = gX6_workOf x a b d →
    ∃ p', gX5_bestWay_L45 C a b d fu i x y C1 = (gX6_bestWay_L37 f a b d fu i x, (C1.1, C1.2.1, C1.2.2.1, C1.2.2.2.1, C1.2.2.2.2.1, C1.2.2.2.2.2.1, p')) := by
  intro fu
  induction fu with
  | zero => intro i x y C1 _ _ _; exact ⟨C1.2.2.2.2.2.2, rfl⟩
  | succ fu ih =>
    intro i x y C1 h1 h2 hy
    have hw : wOK (nI i) a b := ⟨i3_of (by rw [nI_toInt (by omega)]; omega), ha, hb⟩
    obtain ⟨e1, e2⟩ := eq_mkwork (p := C1.2.2.2.2.2.2) hw hd
    rw [gX5_bestWay_L45, gX6_bestWay_L37, e1, e2, hy]
    by_cases c1 : d < gX6_needsOf (nI i) a b
    · rw [if_pos c1, if_pos c1]
      exact ih (i + 1) x _ _ (by omega) (by omega) rfl
    · rw [if_neg c1, if_neg c1]
      by_cases c2 : gX6_workOf x a b d ≤ gX6_workOf (nI i) a b d
      · rw [if_pos c2, if_pos c2]
        exact ih (i + 1) x _ _ (by omega) (by omega) rfl
      · rw [if_neg c2, if_neg c2]
        exact ih (i + 1) (nI i) _ _ (by omega) (by omega) rfl
theorem eq_best {C : CS} {f : FS} {a b d : Int32} (h : LR C f) : (gX5_bestWay C a b d).1 = gX6_bestWay f a b d ∧ LR (gX5_bestWay C a b d).2 f := by
  unfold gX5_bestWay gX6_bestWay
  rw [fits_eq, if_neg (show ¬ gX6_in (0 : Int32).toInt64 0 2 = 0 by decide)]
  by_cases c2 : gX6_isTable a = 0
  · rw [if_pos c2, if_pos c2, if_pos rfl]; exact ⟨rfl, h⟩
  · rw [if_neg c2, if_neg c2]
    by_cases c3 : gX6_isTable b = 0
    · rw [if_pos c3, if_pos c3, if_pos rfl]; exact ⟨rfl, h⟩
    · rw [if_neg c3, if_neg c3, if_neg (show ¬ (1 : Int32) = 0 by decide)]
      by_cases c4 : gX6_in d.toInt64 3 500 = 0
      · rw [if_pos c4, if_pos (isPag_iff.mpr c4)]; exact ⟨rfl, h⟩
      · rw [if_neg c4, if_neg (fun z => c4 (isPag_iff.mp z))]
        have ha := tab_ne.mp c2
        have hb := tab_ne.mp c3
        have hd := pg_in c4
        have e0 := (eq_mkwork (p := C.2.2.2.2.2.2) (w := 0) ⟨Or.inl rfl, ha, hb⟩ hd).2
        obtain ⟨p', e⟩ := bw_L (C := C) (f := f) ha hb hd 2 1 0 (gX3_workWith (gX3_make C.2.2.2.2.2.2 0 a b) d) (C.1, C.2.1, C.2.2.1, C.2.2.2.1, C.2.2.2.2.1, C.2.2.2.2.2.1, gX3_make C.2.2.2.2.2.2 0 a b) (by decide) (by decide) e0
        rw [e]
        exact ⟨rfl, LR_pl h⟩
def dAt (f : FS) (j s : Nat) : Prop := oF (stN f s) j 3 = 2
def dRes (f : FS) (j : Nat) (r : Int32) : Prop := (∃ T, T ≤ 20000 ∧ dAt f j T ∧ (∀ s, s < T → ¬ dAt f j s) ∧ r = nI T) ∨ ((∀ s, s ≤ 20000 → ¬ dAt f j s) ∧ r = -5)
theorem dRes_one {f : FS} {j : Nat} {r q : Int32} (h1 : dRes f j r) (h2 : dRes f j q) : r = q := by
  rcases h1 with ⟨T, a1, a2, a3, a4⟩ | ⟨a1, a2⟩ <;> rcases h2 with ⟨S, b1, b2, b3, b4⟩ | ⟨b1, b2⟩
  · have : T = S := by
      rcases Nat.lt_trichotomy T S with h | h | h
      · exact absurd a2 (b3 T h)
      · exact h
      · exact absurd b2 (a3 S h)
    rw [a4, b4, this]
  · exact absurd a2 (b1 T a1)
  · exact absurd b2 (a1 S b1)
  · rw [a2, b2]
theorem cdone_L {C : CS} {a : Int32} {f : FS} {j : Nat} (hm : mInv f) (hjn : j < nF f) (hj : (gX4_find (gX4_copyFrom C.2.2.2.2.2.1 C.1) a).getD 0 = j) : ∀ (fu t : Nat) (C1 : CS), RP (stN f t) C1.2.2.2.2.2.1 → t ≤ 20000 → 20000 ≤ t + fu → (∀ s, s < t → ¬ dAt f j s) →
    ∃ r R', gX5_doneIn_L39 C a fu (nI t) C1 = (r, (C1.1, C1.2.1, C1.2.2.1, C1.2.2.2.1, C1.2.2.2.2.1, R', C1.2.2.2.2.2.2)) ∧ dRes f j r := by
  have hin : ∀ (t : Nat) (R : PS), RP (stN f t) R → gX1_isIn (nI j) (R.2.2 j) 2 = gX6_is (stN f t) j 2 := fun t R h => eq_isIn (h.2.1 j (by rw [(stN_ok hm t).2]; exact hjn))
  have hdone : ∀ (t : Nat), ¬ gX6_is (stN f t) j 2 = 0 → dAt f j t := fun t c => (show oF (stN f t) j 3 = 2 from Decidable.not_not.mp (fun z => c (is_ne.mpr z)))
  intro fu
  induction fu with
  | zero =>
    intro t C1 h h1 h2 hs
    have et : t = 20000 := by omega
    rw [gX5_doneIn_L39, hj, hin t _ h]
    by_cases c : gX6_is (stN f t) j 2 = 0
    · rw [if_pos c, if_pos c]
      refine ⟨-5, C1.2.2.2.2.2.1, rfl, Or.inr ⟨fun s hs2 => ?_, rfl⟩⟩
      by_cases hst : s = t
      · subst hst; exact is_ne.mp c
      · exact hs s (by omega)
    · rw [if_neg c, if_neg c]
      exact ⟨nI t, C1.2.2.2.2.2.1, rfl, Or.inl ⟨t, h1, hdone t c, hs, rfl⟩⟩
  | succ fu ih =>
    intro t C1 h h1 h2 hs
    rw [gX5_doneIn_L39, hj, hin t _ h]
    by_cases c : gX6_is (stN f t) j 2 = 0
    · rw [if_pos c]
      by_cases c2 : (20000 : Int32) ≤ nI t
      · rw [if_pos c2, if_pos c]
        have c2 : nI 20000 ≤ nI t := c2
        have := (nI_leI (by decide) (by omega)).mp c2
        refine ⟨-5, C1.2.2.2.2.2.1, rfl, Or.inr ⟨fun s hs2 => ?_, rfl⟩⟩
        by_cases hst : s = t
        · subst hst; exact is_ne.mp c
        · exact hs s (by omega)
      · rw [if_neg c2]
        have hlt : t < 20000 := by
          rcases Nat.lt_or_ge t 20000 with hl | hl
          · exact hl
          · exact absurd (show nI 20000 ≤ nI t from nI_le hl (by omega)) c2
        have es : (20000 : Int32) - nI t = nI (20000 - t) := pk_sub (a := 20000) (b := t) (by omega)
        have et : (nI (20000 - t)).toInt = ((20000 - t : Nat) : Int) := nI_toInt (by omega)
        obtain ⟨k, k1, k2, k3, k4, k5⟩ := leap_sim (a := 20000 - nI t) h (stN_ok hm t).1 (by rw [es, et]; omega)
        rw [es, et] at k2
        have ex : nI t + (if 1 < (gX4_leap C1.2.2.2.2.2.1 (20000 - nI t)).1 then (gX4_leap C1.2.2.2.2.2.1 (20000 - nI t)).1 else 1) = nI (t + k) := by
          rw [k3]
          split
          · rw [nI_add]
          · rename_i q
            rw [x_ilt, i_1, nI_toInt (by omega)] at q
            rw [show k = 1 by omega, nI_1]
        rw [ex]
        rw [stN_add] at k4
        have hn := n_le hm
        obtain ⟨r, R', e, hr⟩ := ih (t + k) (C1.1, C1.2.1, C1.2.2.1, C1.2.2.2.1, C1.2.2.2.2.1, (gX4_leap C1.2.2.2.2.2.1 (20000 - nI t)).2, C1.2.2.2.2.2.2) k4 (by omega) (by omega) (fun s hs2 => by
          rcases Nat.lt_or_ge s t with hl | hl
          · exact hs s hl
          · have := k5 (s - t) (by omega) j (by omega)
            rw [stN_add, show t + (s - t) = s by omega] at this
            unfold dAt
            rw [this]
            exact is_ne.mp c)
        exact ⟨r, R', e, hr⟩
    · rw [if_neg c, if_neg c]
      exact ⟨nI t, C1.2.2.2.2.2.1, rfl, Or.inl ⟨t, h1, hdone t c, hs, rfl⟩⟩
theorem eq_join {C : CS} {f : FS} {a b : Int32} (h : LR C f) : gX5_join C a b = gX6_join f a b := by
  obtain ⟨⟨h1, h2⟩, -⟩ := id h
  unfold gX5_join gX6_join
  rw [find_eq h1 h2]
  by_cases c1 : gX6_isJoin f a = 0
  · rw [if_pos c1, if_pos c1, if_pos rfl]
  · rw [if_neg c1, if_neg c1, if_neg (show ¬ some a.toNatClampNeg = none by simp)]
    obtain ⟨ea, hj⟩ := ij_of h2 c1
    show (if gX1_canTell b = 0 then (-2) else gX1_tell (nI a.toNatClampNeg) (C.1.2.2 a.toNatClampNeg) b) = _
    generalize a.toNatClampNeg = j at *
    obtain ⟨h0, h1', h2', h3, h4, h5, h6, h7, h8, h9, h10⟩ := h1.2.1 j hj
    have hsp := eq_spills (n := nI j) (h1.2.1 j hj)
    unfold gX1_canTell gX1_tell
    by_cases k0 : b = 0
    · subst k0
      rw [if_neg (show ¬ (0 : Int32) < 0 by decide), if_neg (show ¬ (11 : Int32) < 0 by decide), if_neg (show ¬ (1 : Int32) = 0 by decide)]
      rw [if_pos (show (0 : Int32) = 0 from rfl), if_pos (show (0 : Int32) = 0 from rfl), h6]
      rfl
    · by_cases k1 : b = 1
      · subst k1
        rw [if_neg (show ¬ (1 : Int32) < 0 by decide), if_neg (show ¬ (11 : Int32) < 1 by decide), if_neg (show ¬ (1 : Int32) = 0 by decide)]
        rw [if_neg (show ¬ (1 : Int32) = 0 by decide), if_pos (show (1 : Int32) = 1 from rfl), if_neg (show ¬ (1 : Int32) = 0 by decide), if_pos (show (1 : Int32) = 1 from rfl), h7]
        rfl
      · by_cases k2 : b = 2
        · subst k2
          rw [if_neg (show ¬ (2 : Int32) < 0 by decide), if_neg (show ¬ (11 : Int32) < 2 by decide), if_neg (show ¬ (1 : Int32) = 0 by decide)]
          rw [if_neg (show ¬ (2 : Int32) = 0 by decide), if_neg (show ¬ (2 : Int32) = 1 by decide), if_pos (show (2 : Int32) = 2 from rfl), if_neg (show ¬ (2 : Int32) = 0 by decide), if_neg (show ¬ (2 : Int32) = 1 by decide), if_pos (show (2 : Int32) = 2 from rfl), h8]
          rfl
        · by_cases k3 : b = 3
          · subst k3
            rw [if_neg (show ¬ (3 : Int32) < 0 by decide), if_neg (show ¬ (11 : Int32) < 3 by decide), if_neg (show ¬ (1 : Int32) = 0 by decide)]
            rw [if_neg (show ¬ (3 : Int32) = 0 by decide), if_neg (show ¬ (3 : Int32) = 1 by decide), if_neg (show ¬ (3 : Int32) = 2 by decide), if_pos (show (3 : Int32) = 3 from rfl), if_neg (show ¬ (3 : Int32) = 0 by decide), if_neg (show ¬ (3 : Int32) = 1 by decide), if_neg (show ¬ (3 : Int32) = 2 by decide), if_pos (show (3 : Int32) = 3 from rfl), h0]
            rfl
          · by_cases k4 : b = 4
            · subst k4
              rw [if_neg (show ¬ (4 : Int32) < 0 by decide), if_neg (show ¬ (11 : Int32) < 4 by decide), if_neg (show ¬ (1 : Int32) = 0 by decide)]
              rw [if_neg (show ¬ (4 : Int32) = 0 by decide), if_neg (show ¬ (4 : Int32) = 1 by decide), if_neg (show ¬ (4 : Int32) = 2 by decide), if_neg (show ¬ (4 : Int32) = 3 by decide), if_pos (show (4 : Int32) = 4 from rfl), if_neg (show ¬ (4 : Int32) = 0 by decide), if_neg (show ¬ (4 : Int32) = 1 by decide), if_neg (show ¬ (4 : Int32) = 2 by decide), if_neg (show ¬ (4 : Int32) = 3 by decide), if_pos (show (4 : Int32) = 4 from rfl), h9]
            · by_cases k5 : b = 5
              · subst k5
                rw [if_neg (show ¬ (5 : Int32) < 0 by decide), if_neg (show ¬ (11 : Int32) < 5 by decide), if_neg (show ¬ (1 : Int32) = 0 by decide)]
                rw [if_neg (show ¬ (5 : Int32) = 0 by decide), if_neg (show ¬ (5 : Int32) = 1 by decide), if_neg (show ¬ (5 : Int32) = 2 by decide), if_neg (show ¬ (5 : Int32) = 3 by decide), if_neg (show ¬ (5 : Int32) = 4 by decide), if_pos (show (5 : Int32) = 5 from rfl), if_neg (show ¬ (5 : Int32) = 0 by decide), if_neg (show ¬ (5 : Int32) = 1 by decide), if_neg (show ¬ (5 : Int32) = 2 by decide), if_neg (show ¬ (5 : Int32) = 3 by decide), if_neg (show ¬ (5 : Int32) = 4 by decide), if_pos (show (5 : Int32) = 5 from rfl), h10]
              · by_cases k6 : b = 6
                · subst k6
                  rw [if_neg (show ¬ (6 : Int32) < 0 by decide), if_neg (show ¬ (11 : Int32) < 6 by decide), if_neg (show ¬ (1 : Int32) = 0 by decide)]
                  rw [if_neg (show ¬ (6 : Int32) = 0 by decide), if_neg (show ¬ (6 : Int32) = 1 by decide), if_neg (show ¬ (6 : Int32) = 2 by decide), if_neg (show ¬ (6 : Int32) = 3 by decide), if_neg (show ¬ (6 : Int32) = 4 by decide), if_neg (show ¬ (6 : Int32) = 5 by decide), if_pos (show (6 : Int32) = 6 from rfl), if_neg (show ¬ (6 : Int32) = 0 by decide), if_neg (show ¬ (6 : Int32) = 1 by decide), if_neg (show ¬ (6 : Int32) = 2 by decide), if_neg (show ¬ (6 : Int32) = 3 by decide), if_neg (show ¬ (6 : Int32) = 4 by decide), if_neg (show ¬ (6 : Int32) = 5 by decide), if_pos (show (6 : Int32) = 6 from rfl), h1']
                  rfl
                · by_cases k7 : b = 7
                  · subst k7
                    rw [if_neg (show ¬ (7 : Int32) < 0 by decide), if_neg (show ¬ (11 : Int32) < 7 by decide), if_neg (show ¬ (1 : Int32) = 0 by decide)]
                    rw [if_neg (show ¬ (7 : Int32) = 0 by decide), if_neg (show ¬ (7 : Int32) = 1 by decide), if_neg (show ¬ (7 : Int32) = 2 by decide), if_neg (show ¬ (7 : Int32) = 3 by decide), if_neg (show ¬ (7 : Int32) = 4 by decide), if_neg (show ¬ (7 : Int32) = 5 by decide), if_neg (show ¬ (7 : Int32) = 6 by decide), if_pos (show (7 : Int32) = 7 from rfl), if_neg (show ¬ (7 : Int32) = 0 by decide), if_neg (show ¬ (7 : Int32) = 1 by decide), if_neg (show ¬ (7 : Int32) = 2 by decide), if_neg (show ¬ (7 : Int32) = 3 by decide), if_neg (show ¬ (7 : Int32) = 4 by decide), if_neg (show ¬ (7 : Int32) = 5 by decide), if_neg (show ¬ (7 : Int32) = 6 by decide), if_pos (show (7 : Int32) = 7 from rfl), h2']
                    rfl
                  · by_cases k8 : b = 8
                    · subst k8
                      rw [if_neg (show ¬ (8 : Int32) < 0 by decide), if_neg (show ¬ (11 : Int32) < 8 by decide), if_neg (show ¬ (1 : Int32) = 0 by decide)]
                      rw [if_neg (show ¬ (8 : Int32) = 0 by decide), if_neg (show ¬ (8 : Int32) = 1 by decide), if_neg (show ¬ (8 : Int32) = 2 by decide), if_neg (show ¬ (8 : Int32) = 3 by decide), if_neg (show ¬ (8 : Int32) = 4 by decide), if_neg (show ¬ (8 : Int32) = 5 by decide), if_neg (show ¬ (8 : Int32) = 6 by decide), if_neg (show ¬ (8 : Int32) = 7 by decide), if_pos (show (8 : Int32) = 8 from rfl), if_neg (show ¬ (8 : Int32) = 0 by decide), if_neg (show ¬ (8 : Int32) = 1 by decide), if_neg (show ¬ (8 : Int32) = 2 by decide), if_neg (show ¬ (8 : Int32) = 3 by decide), if_neg (show ¬ (8 : Int32) = 4 by decide), if_neg (show ¬ (8 : Int32) = 5 by decide), if_neg (show ¬ (8 : Int32) = 6 by decide), if_neg (show ¬ (8 : Int32) = 7 by decide), if_pos (show (8 : Int32) = 8 from rfl), h3]
                      rfl
                    · by_cases k9 : b = 9
                      · subst k9
                        rw [if_neg (show ¬ (9 : Int32) < 0 by decide), if_neg (show ¬ (11 : Int32) < 9 by decide), if_neg (show ¬ (1 : Int32) = 0 by decide)]
                        rw [if_neg (show ¬ (9 : Int32) = 0 by decide), if_neg (show ¬ (9 : Int32) = 1 by decide), if_neg (show ¬ (9 : Int32) = 2 by decide), if_neg (show ¬ (9 : Int32) = 3 by decide), if_neg (show ¬ (9 : Int32) = 4 by decide), if_neg (show ¬ (9 : Int32) = 5 by decide), if_neg (show ¬ (9 : Int32) = 6 by decide), if_neg (show ¬ (9 : Int32) = 7 by decide), if_neg (show ¬ (9 : Int32) = 8 by decide), if_pos (show (9 : Int32) = 9 from rfl), if_neg (show ¬ (9 : Int32) = 0 by decide), if_neg (show ¬ (9 : Int32) = 1 by decide), if_neg (show ¬ (9 : Int32) = 2 by decide), if_neg (show ¬ (9 : Int32) = 3 by decide), if_neg (show ¬ (9 : Int32) = 4 by decide), if_neg (show ¬ (9 : Int32) = 5 by decide), if_neg (show ¬ (9 : Int32) = 6 by decide), if_neg (show ¬ (9 : Int32) = 7 by decide), if_neg (show ¬ (9 : Int32) = 8 by decide), if_pos (show (9 : Int32) = 9 from rfl), h4]
                        rfl
                      · by_cases k10 : b = 10
                        · subst k10
                          rw [if_neg (show ¬ (10 : Int32) < 0 by decide), if_neg (show ¬ (11 : Int32) < 10 by decide), if_neg (show ¬ (1 : Int32) = 0 by decide)]
                          rw [if_neg (show ¬ (10 : Int32) = 0 by decide), if_neg (show ¬ (10 : Int32) = 1 by decide), if_neg (show ¬ (10 : Int32) = 2 by decide), if_neg (show ¬ (10 : Int32) = 3 by decide), if_neg (show ¬ (10 : Int32) = 4 by decide), if_neg (show ¬ (10 : Int32) = 5 by decide), if_neg (show ¬ (10 : Int32) = 6 by decide), if_neg (show ¬ (10 : Int32) = 7 by decide), if_neg (show ¬ (10 : Int32) = 8 by decide), if_neg (show ¬ (10 : Int32) = 9 by decide), if_pos (show (10 : Int32) = 10 from rfl), if_neg (show ¬ (10 : Int32) = 0 by decide), if_neg (show ¬ (10 : Int32) = 1 by decide), if_neg (show ¬ (10 : Int32) = 2 by decide), if_neg (show ¬ (10 : Int32) = 3 by decide), if_neg (show ¬ (10 : Int32) = 4 by decide), if_neg (show ¬ (10 : Int32) = 5 by decide), if_neg (show ¬ (10 : Int32) = 6 by decide), if_neg (show ¬ (10 : Int32) = 7 by decide), if_neg (show ¬ (10 : Int32) = 8 by decide), if_neg (show ¬ (10 : Int32) = 9 by decide), if_pos (show (10 : Int32) = 10 from rfl), h5]
                          rfl
                        · by_cases k11 : b = 11
                          · subst k11
                            rw [if_neg (show ¬ (11 : Int32) < 0 by decide), if_neg (show ¬ (11 : Int32) < 11 by decide), if_neg (show ¬ (1 : Int32) = 0 by decide)]
                            rw [if_neg (show ¬ (11 : Int32) = 0 by decide), if_neg (show ¬ (11 : Int32) = 1 by decide), if_neg (show ¬ (11 : Int32) = 2 by decide), if_neg (show ¬ (11 : Int32) = 3 by decide), if_neg (show ¬ (11 : Int32) = 4 by decide), if_neg (show ¬ (11 : Int32) = 5 by decide), if_neg (show ¬ (11 : Int32) = 6 by decide), if_neg (show ¬ (11 : Int32) = 7 by decide), if_neg (show ¬ (11 : Int32) = 8 by decide), if_neg (show ¬ (11 : Int32) = 9 by decide), if_neg (show ¬ (11 : Int32) = 10 by decide), if_neg (show ¬ (11 : Int32) = 0 by decide), if_neg (show ¬ (11 : Int32) = 1 by decide), if_neg (show ¬ (11 : Int32) = 2 by decide), if_neg (show ¬ (11 : Int32) = 3 by decide), if_neg (show ¬ (11 : Int32) = 4 by decide), if_neg (show ¬ (11 : Int32) = 5 by decide), if_neg (show ¬ (11 : Int32) = 6 by decide), if_neg (show ¬ (11 : Int32) = 7 by decide), if_neg (show ¬ (11 : Int32) = 8 by decide), if_neg (show ¬ (11 : Int32) = 9 by decide), if_neg (show ¬ (11 : Int32) = 10 by decide), if_pos (show (11 : Int32) = 11 from rfl), hsp]
                          · have hb : ¬ (0 ≤ b.toInt ∧ b.toInt ≤ 11) := by
                              rw [i_eq, i_0] at k0
                              rw [i_eq, show (1 : Int32).toInt = 1 from rfl] at k1
                              rw [i_eq, show (2 : Int32).toInt = 2 from rfl] at k2
                              rw [i_eq, show (3 : Int32).toInt = 3 from rfl] at k3
                              rw [i_eq, show (4 : Int32).toInt = 4 from rfl] at k4
                              rw [i_eq, show (5 : Int32).toInt = 5 from rfl] at k5
                              rw [i_eq, show (6 : Int32).toInt = 6 from rfl] at k6
                              rw [i_eq, show (7 : Int32).toInt = 7 from rfl] at k7
                              rw [i_eq, show (8 : Int32).toInt = 8 from rfl] at k8
                              rw [i_eq, show (9 : Int32).toInt = 9 from rfl] at k9
                              rw [i_eq, show (10 : Int32).toInt = 10 from rfl] at k10
                              rw [i_eq, show (11 : Int32).toInt = 11 from rfl] at k11
                              omega
                            rw [if_neg k0, if_neg k1, if_neg k2, if_neg k3, if_neg k4, if_neg k5, if_neg k6, if_neg k7, if_neg k8, if_neg k9, if_neg k10]
                            rw [if_neg k0, if_neg k1, if_neg k2, if_neg k3, if_neg k4, if_neg k5, if_neg k6, if_neg k7, if_neg k8, if_neg k9, if_neg k10, if_neg k11]
                            by_cases d1 : b < 0
                            · rw [if_pos d1, if_pos (show (0 : Int32) = 0 from rfl)]
                            · rw [if_neg d1]
                              by_cases d2 : 11 < b
                              · rw [if_pos d2, if_pos (show (0 : Int32) = 0 from rfl)]
                              · rw [x_ilt, i_0] at d1
                                rw [x_ilt, show (11 : Int32).toInt = 11 from rfl] at d2
                                omega
