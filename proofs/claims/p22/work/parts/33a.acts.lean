/-! ===== the class's acts, by its row ===== -/
theorem rec_hx4 {S : HS3} {P : PS} (h : hx4 S.1) : hx4 (gX0_record S P).1 := by
  unfold gX0_record
  split
  · rename_i c
    rw [x_ilt, nI_toInt (by decide)] at c
    have h1 := h.1
    have h2 := h.2
    show 0 ≤ (S.1 + 1).toInt ∧ (S.1 + 1).toInt ≤ 4
    rw [ia (by rw [i_1]; omega) (by rw [i_1]; omega), i_1]
    omega
  · show hx4 (3 + 1)
    unfold hx4
    decide
theorem LR_hz {C : CS} {f : FS} (h : LR C f) : ¬ C.2.1.1 < 0 := by
  rw [x_ilt, i_0]
  have := h.2.1
  omega
theorem LR_hn {C : CS} {f : FS} (h : LR C f) : ¬ C.1.2.1 0 < 0 := by
  rw [show C.1.2.1 0 = f 4 from h.1.1.1.2.1]
  exact h.1.2.1.1.1
theorem okJ_fits {a b c : Int32} (hc : okJ a b c) : gX3_fits a b c = 1 := by
  have h0 := in_ne (x := a) (a := 0) (b := 2)
  rw [show (0 : Int64).toInt = 0 from rfl, show (2 : Int64).toInt = 2 from rfl] at h0
  have ha : 0 ≤ a.toInt ∧ a.toInt ≤ 2 := by
    rcases hc.1 with rfl | rfl | rfl <;> decide
  rw [fits_eq, if_neg (h0.mpr ha), if_neg (tab_ne.mpr hc.2.1), if_neg (tab_ne.mpr hc.2.2)]
theorem l_ask {C : CS} {f : FS} {a b c : Int32} (h : LR C f) (hc : okJ a b c) : (f 4 = 16 → gX5_ask C a b c = (-3, C)) ∧ (¬ f 4 = 16 → (gX5_ask C a b c).1 = nI (nF f) ∧ LR (gX5_ask C a b c).2 (gX6_comes f a b c)) := by
  obtain ⟨⟨h1, h2⟩, hh⟩ := id h
  have hr := room_iff (k := 1) h1 h2 (by decide)
  have hr : 1 ≤ gX4_room C.1 ↔ nF f + 1 ≤ 16 := hr
  unfold gX5_ask
  rw [okJ_fits hc, if_neg (show ¬ (1 : Int32) = 0 by decide)]
  constructor
  · intro c4
    have hn : nF f = 16 := by unfold nF; rw [c4]; rfl
    rw [if_neg (fun z => by have := hr.mp z; omega)]
  · intro c4
    have hn : nF f < 16 := n16_of h2 c4
    have ht := eq_take h1 h2 c4 hc
    have hk := cm_ok h2 c4 hc
    rw [if_pos (hr.mpr (by omega))]
    refine ⟨?_, ⟨⟨ht.1, hk.1⟩, rec_hx4 hh⟩⟩
    show (gX4_take C.1 a b c).1 = nI (nF f)
    rw [ht.2, n4_of hk.1, show (gX6_comes f a b c 4).toNatClampNeg = nF f + 1 from hk.2, ← nI_1, Int32.add_sub_cancel]
theorem isJ_n {f : FS} (hm : mInv f) : gX6_isJoin f (nI (nF f)) = 0 := by
  have hn := n_le hm
  exact Decidable.not_not.mp (fun z => by
    have := (ij_iff hm).mp z
    rw [nI_toInt (by omega)] at this
    omega)
theorem l_cancel_n {C : CS} {f : FS} (h : LR C f) : gX5_cancel C (nI (nF f)) = (-1, C) := by
  obtain ⟨⟨h1, h2⟩, hh⟩ := id h
  unfold gX5_cancel
  rw [find_eq h1 h2, if_pos (isJ_n h2), if_pos rfl]
theorem l_cancel {C : CS} {f : FS} {j : Nat} (h : LR C f) (hj : j < nF f) : (¬ oF f j 3 = 0 → ¬ oF f j 3 = 1 → gX5_cancel C (nI j) = (-4, C)) ∧ (oF f j 3 = 0 ∨ oF f j 3 = 1 → (gX5_cancel C (nI j)).1 = oF f j 4 ∧ LR (gX5_cancel C (nI j)).2 (gX6_goesThrough (gX6_ends f j 3))) := by
  obtain ⟨⟨h1, h2⟩, hh⟩ := id h
  obtain ⟨e1, e2⟩ := isJ h2 hj
  unfold gX5_cancel
  rw [find_eq h1 h2, if_neg e1, e2, if_neg (show ¬ some j = none by simp)]
  have hd : ∀ q : Int32 × CS, (if gX1_isIn (nI j) (C.1.2.2 j) 0 = 0 then (if gX1_isIn (nI j) (C.1.2.2 j) 1 = 0 then (-4, C) else q) else q) = if oF f j 3 = 0 ∨ oF f j 3 = 1 then q else (-4, C) := fun q => by
    rw [eq_isIn (h1.2.1 j hj), eq_isIn (h1.2.1 j hj)]
    by_cases c2 : oF f j 3 = 0
    · rw [if_neg (fun z => is_ne.mp z c2), if_pos (Or.inl c2)]
    · rw [if_pos (is_ne.mpr c2)]
      by_cases c3 : oF f j 3 = 1
      · rw [if_neg (fun z => is_ne.mp z c3), if_pos (Or.inr c3)]
      · rw [if_pos (is_ne.mpr c3), if_neg (fun z => z.elim c2 c3)]
  show (_ → _ → (if gX1_isIn (nI j) (C.1.2.2 j) 0 = 0 then (if gX1_isIn (nI j) (C.1.2.2 j) 1 = 0 then (-4, C) else (gX1_pages (nI j) (C.1.2.2 j), (gX4_goThroughQueue (C.1.1, C.1.2.1, va_up C.1.2.2 j (gX1_end (nI j) (C.1.2.2 j) 3)), gX0_record C.2.1 C.1, C.2.2.1, C.2.2.2.1, C.2.2.2.2.1, C.2.2.2.2.2.1, C.2.2.2.2.2.2))) else (gX1_pages (nI j) (C.1.2.2 j), (gX4_goThroughQueue (C.1.1, C.1.2.1, va_up C.1.2.2 j (gX1_end (nI j) (C.1.2.2 j) 3)), gX0_record C.2.1 C.1, C.2.2.1, C.2.2.2.1, C.2.2.2.2.1, C.2.2.2.2.2.1, C.2.2.2.2.2.2))) = _) ∧
    (_ → (if gX1_isIn (nI j) (C.1.2.2 j) 0 = 0 then (if gX1_isIn (nI j) (C.1.2.2 j) 1 = 0 then (-4, C) else (gX1_pages (nI j) (C.1.2.2 j), (gX4_goThroughQueue (C.1.1, C.1.2.1, va_up C.1.2.2 j (gX1_end (nI j) (C.1.2.2 j) 3)), gX0_record C.2.1 C.1, C.2.2.1, C.2.2.2.1, C.2.2.2.2.1, C.2.2.2.2.2.1, C.2.2.2.2.2.2))) else (gX1_pages (nI j) (C.1.2.2 j), (gX4_goThroughQueue (C.1.1, C.1.2.1, va_up C.1.2.2 j (gX1_end (nI j) (C.1.2.2 j) 3)), gX0_record C.2.1 C.1, C.2.2.1, C.2.2.2.1, C.2.2.2.2.1, C.2.2.2.2.2.1, C.2.2.2.2.2.2))).1 = _ ∧ LR (if gX1_isIn (nI j) (C.1.2.2 j) 0 = 0 then (if gX1_isIn (nI j) (C.1.2.2 j) 1 = 0 then (-4, C) else (gX1_pages (nI j) (C.1.2.2 j), (gX4_goThroughQueue (C.1.1, C.1.2.1, va_up C.1.2.2 j (gX1_end (nI j) (C.1.2.2 j) 3)), gX0_record C.2.1 C.1, C.2.2.1, C.2.2.2.1, C.2.2.2.2.1, C.2.2.2.2.2.1, C.2.2.2.2.2.2))) else (gX1_pages (nI j) (C.1.2.2 j), (gX4_goThroughQueue (C.1.1, C.1.2.1, va_up C.1.2.2 j (gX1_end (nI j) (C.1.2.2 j) 3)), gX0_record C.2.1 C.1, C.2.2.1, C.2.2.2.1, C.2.2.2.2.1, C.2.2.2.2.2.1, C.2.2.2.2.2.2))).2 _)
  rw [hd]
  constructor
  · intro c2 c3
    rw [if_neg (fun z => z.elim c2 c3)]
  · intro c
    rw [if_pos c]
    exact ⟨(h1.2.1 j hj).2.1, ⟨⟨eq_gt (eq_ends (s := 3) h1 hj) (en_ok h2 hj (Or.inr rfl)), (gt_ok (en_ok h2 hj (Or.inr rfl))).1⟩, rec_hx4 hh⟩⟩
theorem l_change_n {C : CS} {f : FS} {a : Int32} (h : LR C f) : gX5_change C (nI (nF f)) a = (-1, C) := by
  obtain ⟨⟨h1, h2⟩, hh⟩ := id h
  unfold gX5_change
  rw [find_eq h1 h2, if_pos (isJ_n h2), if_pos rfl]
theorem l_change {C : CS} {f : FS} {j : Nat} {a : Int32} (h : LR C f) (hj : j < nF f) (ha : ¬ gX6_in a.toInt64 0 2 = 0) : (¬ oF f j 3 = 0 → gX5_change C (nI j) a = (-4, C)) ∧ (oF f j 3 = 0 → oF f j 0 = a → gX5_change C (nI j) a = (-5, C)) ∧ (oF f j 3 = 0 → ¬ oF f j 0 = a → (gX5_change C (nI j) a).1 = oF f j 0 ∧ LR (gX5_change C (nI j) a).2 (gX6_goesThrough (gX6_sets f j 0 a))) := by
  obtain ⟨⟨h1, h2⟩, hh⟩ := id h
  obtain ⟨e1, e2⟩ := isJ h2 hj
  have hu : gX5_change C (nI j) a = if oF f j 3 = 0 then (if oF f j 0 = a then (-5, C) else (oF f j 0, (gX4_goThroughQueue (C.1.1, C.1.2.1, va_up C.1.2.2 j (gX1_changeWay (nI j) (C.1.2.2 j) a)), gX0_record C.2.1 C.1, C.2.2.1, C.2.2.2.1, C.2.2.2.2.1, C.2.2.2.2.2.1, C.2.2.2.2.2.2))) else (-4, C) := by
    unfold gX5_change
    rw [find_eq h1 h2, if_neg e1, e2, if_neg (show ¬ some j = none by simp), if_neg (fun z => ha (isWay_iff.mp z))]
    show (if gX1_isIn (nI j) (C.1.2.2 j) 0 = 0 then (-4, C) else (if gX1_way (nI j) (C.1.2.2 j) = a then (-5, C) else (gX1_way (nI j) (C.1.2.2 j), (gX4_goThroughQueue (C.1.1, C.1.2.1, va_up C.1.2.2 j (gX1_changeWay (nI j) (C.1.2.2 j) a)), gX0_record C.2.1 C.1, C.2.2.1, C.2.2.2.1, C.2.2.2.2.1, C.2.2.2.2.2.1, C.2.2.2.2.2.2)))) = _
    rw [eq_isIn (h1.2.1 j hj), show gX1_way (nI j) (C.1.2.2 j) = oF f j 0 from (h1.2.1 j hj).2.2.2.2.2.2.1]
    by_cases c3 : oF f j 3 = 0
    · rw [if_neg (fun z => is_ne.mp z c3), if_pos c3]
    · rw [if_pos (is_ne.mpr c3), if_neg c3]
  rw [hu]
  refine ⟨fun c => by rw [if_neg c], fun c d => by rw [if_pos c, if_pos d], fun c d => ?_⟩
  rw [if_pos c, if_neg d]
  have hk := ch_ok h2 hj (fun z => is_ne.mp z c) ha
  exact ⟨rfl, ⟨⟨eq_gt (eq_cwP h1 h2 hj (i3_of (in_ne.mp ha))) hk, (gt_ok hk).1⟩, rec_hx4 hh⟩⟩
theorem l_step {C : CS} {f : FS} {A : Nat} (h : LR C f) (hA : 1 ≤ A) (hA2 : A ≤ 1000) : (gX5_step C (nI A)).1 = gX6_manyWith (stN f A) 2 - gX6_manyWith f 2 ∧ LR (gX5_step C (nI A)).2 (stN f A) := by
  obtain ⟨⟨h1, h2⟩, hh⟩ := id h
  have eA : (nI A).toInt = A := nI_toInt (by omega)
  unfold gX5_step
  rw [if_neg (show ¬ nI A < 1 by rw [x_ilt, i_1]; omega), if_pos (show nI A ≤ 1000 by rw [x_ile, show (1000 : Int32).toInt = 1000 from rfl]; omega), eA]
  obtain ⟨P', p1, p2⟩ := cstep_L (C := C) (A := A) hA2 A 0 (C.1, gX0_record C.2.1 C.1, C.2.2.1, C.2.2.2.1, C.2.2.2.2.1, C.2.2.2.2.2.1, C.2.2.2.2.2.2) f h1 h2 (Nat.zero_le _) (by omega)
  rw [show ((A : Int)).toNat = A from rfl, show (0 : Int32) = nI 0 from rfl, p1]
  rw [Nat.sub_zero] at p2
  have hok := (stN_ok h2 A).1
  refine ⟨?_, ⟨⟨p2, hok⟩, rec_hx4 hh⟩⟩
  show gX4_joinsIn P' 2 - gX4_joinsIn C.1 2 = _
  rw [eq_many p2 hok (by decide), eq_many h1 h2 (by decide)]
theorem l_step1 {C : CS} {f : FS} (h : LR C f) : (gX5_step C 1).1 = (gX6_steps f).1 ∧ LR (gX5_step C 1).2 (gX6_steps f).2 := by
  obtain ⟨e1, e2⟩ := l_step (A := 1) h (Nat.le_refl _) (by decide)
  have e1 : (gX5_step C 1).1 = gX6_manyWith (gX6_steps f).2 2 - gX6_manyWith f 2 := e1
  refine ⟨?_, e2⟩
  rw [e1, st_dcn h.1.2, Int32.add_comm, Int32.add_sub_cancel]
theorem l_set {C : CS} {f : FS} {a b : Int32} (h : LR C f) (c : ¬ gX6_isSetting a b = 0) : (f (0 + a).toNatClampNeg = b → gX5_set C a b = (-5, C)) ∧ (¬ f (0 + a).toNatClampNeg = b → (gX5_set C a b).1 = f (0 + a).toNatClampNeg ∧ LR (gX5_set C a b).2 (gX6_goesThrough (upd f (0 + a).toNatClampNeg b))) := by
  obtain ⟨⟨h1, h2⟩, hh⟩ := id h
  unfold gX5_set
  rw [if_neg (fun z => c (allows_iff.mp z))]
  have hk4 := (se_in c).2
  have e0 : (0 + a) = a := Int32.zero_add _
  have hrng : ¬ a < 0 ∧ ¬ nI 4 ≤ a := by
    rcases se_of c with ⟨rfl, -⟩ | ⟨rfl | rfl, -⟩ | ⟨rfl, -⟩ <;> exact ⟨by decide, by decide⟩
  have hs1 : gX4_setting C.1 a = f (0 + a).toNatClampNeg := by
    obtain ⟨a0, a1, a2, a3⟩ := h1.1.1
    rcases se_of c with ⟨rfl, -⟩ | ⟨rfl | rfl, -⟩ | ⟨rfl, -⟩
    · exact a0
    · exact a1
    · exact a2
    · exact a3
  have hs2 : gX4_changeSetting C.1 a b = gX4_goThroughQueue (upd C.1.1 (0 + a).toNatClampNeg b, C.1.2.1, C.1.2.2) := by
    unfold gX4_changeSetting
    rw [if_neg hrng.1, if_neg hrng.2, e0]
  rw [hs1, hs2]
  refine ⟨fun c2 => by rw [if_pos c2], fun c2 => ?_⟩
  rw [if_neg c2]
  have hk := set_ok h2 c
  exact ⟨rfl, ⟨⟨eq_gt (eq_setP h1 hk4) hk, (gt_ok hk).1⟩, rec_hx4 hh⟩⟩
def dAns (f : FS) (a r : Int32) : Prop := if gX6_isJoin f a = 0 then r = -1 else if gX6_is f a.toNatClampNeg 3 = 0 then dRes f a.toNatClampNeg r else r = -4
theorem dAns_one {f : FS} {a r q : Int32} (h1 : dAns f a r) (h2 : dAns f a q) : r = q := by
  unfold dAns at h1 h2
  by_cases c1 : gX6_isJoin f a = 0
  · rw [if_pos c1] at h1 h2
    rw [h1, h2]
  · rw [if_neg c1] at h1 h2
    by_cases c2 : gX6_is f a.toNatClampNeg 3 = 0
    · rw [if_pos c2] at h1 h2
      exact dRes_one h1 h2
    · rw [if_neg c2] at h1 h2
      rw [h1, h2]
theorem l_doneIn {C : CS} {f : FS} {a : Int32} (h : LR C f) : dAns f a (gX5_doneIn C a).1 ∧ LR (gX5_doneIn C a).2 f := by
  obtain ⟨⟨h1, h2⟩, hh⟩ := id h
  have hcp : RP f (gX4_copyFrom C.2.2.2.2.2.1 C.1) := eq_copy h1 h2
  have hf := find_eq (a := a) hcp h2
  unfold gX5_doneIn dAns
  by_cases c1 : gX6_isJoin f a = 0
  · rw [if_pos c1] at hf
    rw [if_pos c1, if_pos hf]
    exact ⟨rfl, LR_pl h⟩
  · rw [if_neg c1] at hf
    rw [if_neg c1, if_neg (show ¬ gX4_find (gX4_copyFrom C.2.2.2.2.2.1 C.1) a = none by rw [hf]; simp)]
    obtain ⟨ea, hjn⟩ := ij_of h2 c1
    have hg : (gX4_find (gX4_copyFrom C.2.2.2.2.2.1 C.1) a).getD 0 = a.toNatClampNeg := by rw [hf]; rfl
    rw [hg, eq_isIn (hcp.2.1 _ hjn)]
    by_cases c2 : gX6_is f a.toNatClampNeg 3 = 0
    · rw [if_pos c2, if_pos c2]
      obtain ⟨q, R', e2, d2⟩ := cdone_L (C := C) (a := a) h2 hjn hg 20000 0 (C.1, C.2.1, C.2.2.1, C.2.2.2.1, C.2.2.2.2.1, gX4_copyFrom C.2.2.2.2.2.1 C.1, C.2.2.2.2.2.2) hcp (Nat.zero_le _) (by decide) (fun s hs => by omega)
      have e2 : gX5_doneIn_L39 C a 20000 0 (C.1, C.2.1, C.2.2.1, C.2.2.2.1, C.2.2.2.2.1, gX4_copyFrom C.2.2.2.2.2.1 C.1, C.2.2.2.2.2.2) = _ := e2
      rw [e2]
      exact ⟨d2, LR_pl h⟩
    · rw [if_neg c2, if_neg c2]
      exact ⟨rfl, LR_pl h⟩
/-! numbers of the whole, and of a join -/
theorem cnt_0 {C : CS} {f : FS} (h : LR C f) : gX5_count C 0 = f 4 := by
  unfold gX5_count gX4_canTell gX4_tell
  rw [if_neg (show ¬ (0 : Int32) = 16 by decide), if_neg (show ¬ (0 : Int32) = 17 by decide), if_neg (show ¬ (0 : Int32) < 0 by decide), if_neg (show ¬ (15 : Int32) < 0 by decide), if_neg (show ¬ (1 : Int32) = 0 by decide), if_pos (show (0 : Int32) = 0 from rfl)]
  exact h.1.1.1.2.1
theorem cnt_1 {C : CS} {f : FS} (h : LR C f) : gX5_count C 1 = gX6_manyWith f 0 := by
  unfold gX5_count gX4_canTell gX4_tell
  rw [if_neg (show ¬ (1 : Int32) = 16 by decide), if_neg (show ¬ (1 : Int32) = 17 by decide), if_neg (show ¬ (1 : Int32) < 0 by decide), if_neg (show ¬ (15 : Int32) < 1 by decide), if_neg (show ¬ (1 : Int32) = 0 by decide), if_neg (show ¬ (1 : Int32) = 0 by decide), if_pos (show (1 : Int32) = 1 from rfl), show (1 : Int32) - 1 = 0 by decide]
  exact eq_many (a := 0) h.1.1 h.1.2 (by decide)
theorem cnt_2 {C : CS} {f : FS} (h : LR C f) : gX5_count C 2 = gX6_manyWith f 1 := by
  unfold gX5_count gX4_canTell gX4_tell
  rw [if_neg (show ¬ (2 : Int32) = 16 by decide), if_neg (show ¬ (2 : Int32) = 17 by decide), if_neg (show ¬ (2 : Int32) < 0 by decide), if_neg (show ¬ (15 : Int32) < 2 by decide), if_neg (show ¬ (1 : Int32) = 0 by decide), if_neg (show ¬ (2 : Int32) = 0 by decide), if_neg (show ¬ (2 : Int32) = 1 by decide), if_pos (show (2 : Int32) = 2 from rfl), show (2 : Int32) - 1 = 1 by decide]
  exact eq_many (a := 1) h.1.1 h.1.2 (by decide)
theorem cnt_3 {C : CS} {f : FS} (h : LR C f) : gX5_count C 3 = gX6_manyWith f 2 := by
  unfold gX5_count gX4_canTell gX4_tell
  rw [if_neg (show ¬ (3 : Int32) = 16 by decide), if_neg (show ¬ (3 : Int32) = 17 by decide), if_neg (show ¬ (3 : Int32) < 0 by decide), if_neg (show ¬ (15 : Int32) < 3 by decide), if_neg (show ¬ (1 : Int32) = 0 by decide), if_neg (show ¬ (3 : Int32) = 0 by decide), if_neg (show ¬ (3 : Int32) = 1 by decide), if_neg (show ¬ (3 : Int32) = 2 by decide), if_pos (show (3 : Int32) = 3 from rfl), show (3 : Int32) - 1 = 2 by decide]
  exact eq_many (a := 2) h.1.1 h.1.2 (by decide)
theorem cnt_4 {C : CS} {f : FS} (h : LR C f) : gX5_count C 4 = gX6_manyWith f 3 := by
  unfold gX5_count gX4_canTell gX4_tell
  rw [if_neg (show ¬ (4 : Int32) = 16 by decide), if_neg (show ¬ (4 : Int32) = 17 by decide), if_neg (show ¬ (4 : Int32) < 0 by decide), if_neg (show ¬ (15 : Int32) < 4 by decide), if_neg (show ¬ (1 : Int32) = 0 by decide), if_neg (show ¬ (4 : Int32) = 0 by decide), if_neg (show ¬ (4 : Int32) = 1 by decide), if_neg (show ¬ (4 : Int32) = 2 by decide), if_neg (show ¬ (4 : Int32) = 3 by decide), if_pos (show (4 : Int32) = 4 from rfl), show (4 : Int32) - 1 = 3 by decide]
  exact eq_many (a := 3) h.1.1 h.1.2 (by decide)
theorem cnt_5 {C : CS} {f : FS} (h : LR C f) : gX5_count C 5 = gX6_granted f := by
  unfold gX5_count gX4_canTell gX4_tell
  rw [if_neg (show ¬ (5 : Int32) = 16 by decide), if_neg (show ¬ (5 : Int32) = 17 by decide), if_neg (show ¬ (5 : Int32) < 0 by decide), if_neg (show ¬ (15 : Int32) < 5 by decide), if_neg (show ¬ (1 : Int32) = 0 by decide), if_neg (show ¬ (5 : Int32) = 0 by decide), if_neg (show ¬ (5 : Int32) = 1 by decide), if_neg (show ¬ (5 : Int32) = 2 by decide), if_neg (show ¬ (5 : Int32) = 3 by decide), if_neg (show ¬ (5 : Int32) = 4 by decide), if_pos (show (5 : Int32) = 5 from rfl)]
  exact eq_granted h.1.1 h.1.2
theorem cnt_6 {C : CS} {f : FS} (h : LR C f) : gX5_count C 6 = gX6_free f := by
  unfold gX5_count gX4_canTell gX4_tell
  rw [if_neg (show ¬ (6 : Int32) = 16 by decide), if_neg (show ¬ (6 : Int32) = 17 by decide), if_neg (show ¬ (6 : Int32) < 0 by decide), if_neg (show ¬ (15 : Int32) < 6 by decide), if_neg (show ¬ (1 : Int32) = 0 by decide), if_neg (show ¬ (6 : Int32) = 0 by decide), if_neg (show ¬ (6 : Int32) = 1 by decide), if_neg (show ¬ (6 : Int32) = 2 by decide), if_neg (show ¬ (6 : Int32) = 3 by decide), if_neg (show ¬ (6 : Int32) = 4 by decide), if_neg (show ¬ (6 : Int32) = 5 by decide), if_pos (show (6 : Int32) = 6 from rfl)]
  exact eq_free h.1.1 h.1.2
theorem cnt_7 {C : CS} {f : FS} (h : LR C f) : gX5_count C 7 = f 5 := by
  unfold gX5_count gX4_canTell gX4_tell
  rw [if_neg (show ¬ (7 : Int32) = 16 by decide), if_neg (show ¬ (7 : Int32) = 17 by decide), if_neg (show ¬ (7 : Int32) < 0 by decide), if_neg (show ¬ (15 : Int32) < 7 by decide), if_neg (show ¬ (1 : Int32) = 0 by decide), if_neg (show ¬ (7 : Int32) = 0 by decide), if_neg (show ¬ (7 : Int32) = 1 by decide), if_neg (show ¬ (7 : Int32) = 2 by decide), if_neg (show ¬ (7 : Int32) = 3 by decide), if_neg (show ¬ (7 : Int32) = 4 by decide), if_neg (show ¬ (7 : Int32) = 5 by decide), if_neg (show ¬ (7 : Int32) = 6 by decide), if_pos (show (7 : Int32) = 7 from rfl)]
  exact h.1.1.1.2.2.1
theorem cnt_8 {C : CS} {f : FS} (h : LR C f) : gX5_count C 8 = f 6 := by
  unfold gX5_count gX4_canTell gX4_tell
  rw [if_neg (show ¬ (8 : Int32) = 16 by decide), if_neg (show ¬ (8 : Int32) = 17 by decide), if_neg (show ¬ (8 : Int32) < 0 by decide), if_neg (show ¬ (15 : Int32) < 8 by decide), if_neg (show ¬ (1 : Int32) = 0 by decide), if_neg (show ¬ (8 : Int32) = 0 by decide), if_neg (show ¬ (8 : Int32) = 1 by decide), if_neg (show ¬ (8 : Int32) = 2 by decide), if_neg (show ¬ (8 : Int32) = 3 by decide), if_neg (show ¬ (8 : Int32) = 4 by decide), if_neg (show ¬ (8 : Int32) = 5 by decide), if_neg (show ¬ (8 : Int32) = 6 by decide), if_neg (show ¬ (8 : Int32) = 7 by decide), if_pos (show (8 : Int32) = 8 from rfl)]
  exact h.1.1.1.2.2.2.1
theorem cnt_9 {C : CS} {f : FS} (h : LR C f) : gX5_count C 9 = f 7 := by
  unfold gX5_count gX4_canTell gX4_tell
  rw [if_neg (show ¬ (9 : Int32) = 16 by decide), if_neg (show ¬ (9 : Int32) = 17 by decide), if_neg (show ¬ (9 : Int32) < 0 by decide), if_neg (show ¬ (15 : Int32) < 9 by decide), if_neg (show ¬ (1 : Int32) = 0 by decide), if_neg (show ¬ (9 : Int32) = 0 by decide), if_neg (show ¬ (9 : Int32) = 1 by decide), if_neg (show ¬ (9 : Int32) = 2 by decide), if_neg (show ¬ (9 : Int32) = 3 by decide), if_neg (show ¬ (9 : Int32) = 4 by decide), if_neg (show ¬ (9 : Int32) = 5 by decide), if_neg (show ¬ (9 : Int32) = 6 by decide), if_neg (show ¬ (9 : Int32) = 7 by decide), if_neg (show ¬ (9 : Int32) = 8 by decide), if_pos (show (9 : Int32) = 9 from rfl)]
  exact h.1.1.1.2.2.2.2.1
theorem cnt_10 {C : CS} {f : FS} (h : LR C f) : gX5_count C 10 = f 8 := by
  unfold gX5_count gX4_canTell gX4_tell
  rw [if_neg (show ¬ (10 : Int32) = 16 by decide), if_neg (show ¬ (10 : Int32) = 17 by decide), if_neg (show ¬ (10 : Int32) < 0 by decide), if_neg (show ¬ (15 : Int32) < 10 by decide), if_neg (show ¬ (1 : Int32) = 0 by decide), if_neg (show ¬ (10 : Int32) = 0 by decide), if_neg (show ¬ (10 : Int32) = 1 by decide), if_neg (show ¬ (10 : Int32) = 2 by decide), if_neg (show ¬ (10 : Int32) = 3 by decide), if_neg (show ¬ (10 : Int32) = 4 by decide), if_neg (show ¬ (10 : Int32) = 5 by decide), if_neg (show ¬ (10 : Int32) = 6 by decide), if_neg (show ¬ (10 : Int32) = 7 by decide), if_neg (show ¬ (10 : Int32) = 8 by decide), if_neg (show ¬ (10 : Int32) = 9 by decide), if_pos (show (10 : Int32) = 10 from rfl)]
  exact h.1.1.1.2.2.2.2.2
theorem cnt_11 {C : CS} {f : FS} (h : LR C f) : gX5_count C 11 = gX6_spilling f := by
  unfold gX5_count gX4_canTell gX4_tell
  rw [if_neg (show ¬ (11 : Int32) = 16 by decide), if_neg (show ¬ (11 : Int32) = 17 by decide), if_neg (show ¬ (11 : Int32) < 0 by decide), if_neg (show ¬ (15 : Int32) < 11 by decide), if_neg (show ¬ (1 : Int32) = 0 by decide), if_neg (show ¬ (11 : Int32) = 0 by decide), if_neg (show ¬ (11 : Int32) = 1 by decide), if_neg (show ¬ (11 : Int32) = 2 by decide), if_neg (show ¬ (11 : Int32) = 3 by decide), if_neg (show ¬ (11 : Int32) = 4 by decide), if_neg (show ¬ (11 : Int32) = 5 by decide), if_neg (show ¬ (11 : Int32) = 6 by decide), if_neg (show ¬ (11 : Int32) = 7 by decide), if_neg (show ¬ (11 : Int32) = 8 by decide), if_neg (show ¬ (11 : Int32) = 9 by decide), if_neg (show ¬ (11 : Int32) = 10 by decide), if_pos (show (11 : Int32) = 11 from rfl)]
  exact eq_spilling h.1.1 h.1.2
theorem cnt_12 {C : CS} {f : FS} (h : LR C f) : gX5_count C 12 = f 0 := by
  unfold gX5_count gX4_canTell gX4_tell
  rw [if_neg (show ¬ (12 : Int32) = 16 by decide), if_neg (show ¬ (12 : Int32) = 17 by decide), if_neg (show ¬ (12 : Int32) < 0 by decide), if_neg (show ¬ (15 : Int32) < 12 by decide), if_neg (show ¬ (1 : Int32) = 0 by decide), if_neg (show ¬ (12 : Int32) = 0 by decide), if_neg (show ¬ (12 : Int32) = 1 by decide), if_neg (show ¬ (12 : Int32) = 2 by decide), if_neg (show ¬ (12 : Int32) = 3 by decide), if_neg (show ¬ (12 : Int32) = 4 by decide), if_neg (show ¬ (12 : Int32) = 5 by decide), if_neg (show ¬ (12 : Int32) = 6 by decide), if_neg (show ¬ (12 : Int32) = 7 by decide), if_neg (show ¬ (12 : Int32) = 8 by decide), if_neg (show ¬ (12 : Int32) = 9 by decide), if_neg (show ¬ (12 : Int32) = 10 by decide), if_neg (show ¬ (12 : Int32) = 11 by decide), show (12 : Int32) - 12 = 0 by decide]
  exact h.1.1.1.1.1
theorem cnt_13 {C : CS} {f : FS} (h : LR C f) : gX5_count C 13 = f 1 := by
  unfold gX5_count gX4_canTell gX4_tell
  rw [if_neg (show ¬ (13 : Int32) = 16 by decide), if_neg (show ¬ (13 : Int32) = 17 by decide), if_neg (show ¬ (13 : Int32) < 0 by decide), if_neg (show ¬ (15 : Int32) < 13 by decide), if_neg (show ¬ (1 : Int32) = 0 by decide), if_neg (show ¬ (13 : Int32) = 0 by decide), if_neg (show ¬ (13 : Int32) = 1 by decide), if_neg (show ¬ (13 : Int32) = 2 by decide), if_neg (show ¬ (13 : Int32) = 3 by decide), if_neg (show ¬ (13 : Int32) = 4 by decide), if_neg (show ¬ (13 : Int32) = 5 by decide), if_neg (show ¬ (13 : Int32) = 6 by decide), if_neg (show ¬ (13 : Int32) = 7 by decide), if_neg (show ¬ (13 : Int32) = 8 by decide), if_neg (show ¬ (13 : Int32) = 9 by decide), if_neg (show ¬ (13 : Int32) = 10 by decide), if_neg (show ¬ (13 : Int32) = 11 by decide), show (13 : Int32) - 12 = 1 by decide]
  exact h.1.1.1.1.2.1
theorem cnt_14 {C : CS} {f : FS} (h : LR C f) : gX5_count C 14 = f 2 := by
  unfold gX5_count gX4_canTell gX4_tell
  rw [if_neg (show ¬ (14 : Int32) = 16 by decide), if_neg (show ¬ (14 : Int32) = 17 by decide), if_neg (show ¬ (14 : Int32) < 0 by decide), if_neg (show ¬ (15 : Int32) < 14 by decide), if_neg (show ¬ (1 : Int32) = 0 by decide), if_neg (show ¬ (14 : Int32) = 0 by decide), if_neg (show ¬ (14 : Int32) = 1 by decide), if_neg (show ¬ (14 : Int32) = 2 by decide), if_neg (show ¬ (14 : Int32) = 3 by decide), if_neg (show ¬ (14 : Int32) = 4 by decide), if_neg (show ¬ (14 : Int32) = 5 by decide), if_neg (show ¬ (14 : Int32) = 6 by decide), if_neg (show ¬ (14 : Int32) = 7 by decide), if_neg (show ¬ (14 : Int32) = 8 by decide), if_neg (show ¬ (14 : Int32) = 9 by decide), if_neg (show ¬ (14 : Int32) = 10 by decide), if_neg (show ¬ (14 : Int32) = 11 by decide), show (14 : Int32) - 12 = 2 by decide]
  exact h.1.1.1.1.2.2.1
theorem cnt_15 {C : CS} {f : FS} (h : LR C f) : gX5_count C 15 = f 3 := by
  unfold gX5_count gX4_canTell gX4_tell
  rw [if_neg (show ¬ (15 : Int32) = 16 by decide), if_neg (show ¬ (15 : Int32) = 17 by decide), if_neg (show ¬ (15 : Int32) < 0 by decide), if_neg (show ¬ (15 : Int32) < 15 by decide), if_neg (show ¬ (1 : Int32) = 0 by decide), if_neg (show ¬ (15 : Int32) = 0 by decide), if_neg (show ¬ (15 : Int32) = 1 by decide), if_neg (show ¬ (15 : Int32) = 2 by decide), if_neg (show ¬ (15 : Int32) = 3 by decide), if_neg (show ¬ (15 : Int32) = 4 by decide), if_neg (show ¬ (15 : Int32) = 5 by decide), if_neg (show ¬ (15 : Int32) = 6 by decide), if_neg (show ¬ (15 : Int32) = 7 by decide), if_neg (show ¬ (15 : Int32) = 8 by decide), if_neg (show ¬ (15 : Int32) = 9 by decide), if_neg (show ¬ (15 : Int32) = 10 by decide), if_neg (show ¬ (15 : Int32) = 11 by decide), show (15 : Int32) - 12 = 3 by decide]
  exact h.1.1.1.1.2.2.2
theorem jn_0 {C : CS} {f : FS} {j : Nat} (h : LR C f) (hj : j < nF f) : gX5_join C (nI j) 0 = oF f j 0 := by
  obtain ⟨e1, e2⟩ := isJ h.1.2 hj
  rw [eq_join h]
  unfold gX6_join
  rw [if_neg e1, e2, if_pos rfl]
  rfl
theorem jn_3 {C : CS} {f : FS} {j : Nat} (h : LR C f) (hj : j < nF f) : gX5_join C (nI j) 3 = oF f j 3 := by
  obtain ⟨e1, e2⟩ := isJ h.1.2 hj
  rw [eq_join h]
  unfold gX6_join
  rw [if_neg e1, e2, if_neg (show ¬ (3 : Int32) = 0 by decide), if_neg (show ¬ (3 : Int32) = 1 by decide), if_neg (show ¬ (3 : Int32) = 2 by decide), if_pos rfl]
  rfl
theorem jn_4 {C : CS} {f : FS} {j : Nat} (h : LR C f) (hj : j < nF f) : gX5_join C (nI j) 4 = gX6_needs f j := by
  obtain ⟨e1, e2⟩ := isJ h.1.2 hj
  rw [eq_join h]
  unfold gX6_join
  rw [if_neg e1, e2, if_neg (show ¬ (4 : Int32) = 0 by decide), if_neg (show ¬ (4 : Int32) = 1 by decide), if_neg (show ¬ (4 : Int32) = 2 by decide), if_neg (show ¬ (4 : Int32) = 3 by decide), if_pos rfl]
theorem jn_5 {C : CS} {f : FS} {j : Nat} (h : LR C f) (hj : j < nF f) : gX5_join C (nI j) 5 = gX6_wants f j := by
  obtain ⟨e1, e2⟩ := isJ h.1.2 hj
  rw [eq_join h]
  unfold gX6_join
  rw [if_neg e1, e2, if_neg (show ¬ (5 : Int32) = 0 by decide), if_neg (show ¬ (5 : Int32) = 1 by decide), if_neg (show ¬ (5 : Int32) = 2 by decide), if_neg (show ¬ (5 : Int32) = 3 by decide), if_neg (show ¬ (5 : Int32) = 4 by decide), if_pos rfl]
theorem jn_6 {C : CS} {f : FS} {j : Nat} (h : LR C f) (hj : j < nF f) : gX5_join C (nI j) 6 = oF f j 4 := by
  obtain ⟨e1, e2⟩ := isJ h.1.2 hj
  rw [eq_join h]
  unfold gX6_join
  rw [if_neg e1, e2, if_neg (show ¬ (6 : Int32) = 0 by decide), if_neg (show ¬ (6 : Int32) = 1 by decide), if_neg (show ¬ (6 : Int32) = 2 by decide), if_neg (show ¬ (6 : Int32) = 3 by decide), if_neg (show ¬ (6 : Int32) = 4 by decide), if_neg (show ¬ (6 : Int32) = 5 by decide), if_pos rfl]
  rfl
theorem jn_7 {C : CS} {f : FS} {j : Nat} (h : LR C f) (hj : j < nF f) : gX5_join C (nI j) 7 = oF f j 5 := by
  obtain ⟨e1, e2⟩ := isJ h.1.2 hj
  rw [eq_join h]
  unfold gX6_join
  rw [if_neg e1, e2, if_neg (show ¬ (7 : Int32) = 0 by decide), if_neg (show ¬ (7 : Int32) = 1 by decide), if_neg (show ¬ (7 : Int32) = 2 by decide), if_neg (show ¬ (7 : Int32) = 3 by decide), if_neg (show ¬ (7 : Int32) = 4 by decide), if_neg (show ¬ (7 : Int32) = 5 by decide), if_neg (show ¬ (7 : Int32) = 6 by decide), if_pos rfl]
  rfl
theorem jn_8 {C : CS} {f : FS} {j : Nat} (h : LR C f) (hj : j < nF f) : gX5_join C (nI j) 8 = oF f j 6 := by
  obtain ⟨e1, e2⟩ := isJ h.1.2 hj
  rw [eq_join h]
  unfold gX6_join
  rw [if_neg e1, e2, if_neg (show ¬ (8 : Int32) = 0 by decide), if_neg (show ¬ (8 : Int32) = 1 by decide), if_neg (show ¬ (8 : Int32) = 2 by decide), if_neg (show ¬ (8 : Int32) = 3 by decide), if_neg (show ¬ (8 : Int32) = 4 by decide), if_neg (show ¬ (8 : Int32) = 5 by decide), if_neg (show ¬ (8 : Int32) = 6 by decide), if_neg (show ¬ (8 : Int32) = 7 by decide), if_pos rfl]
  rfl
theorem jn_9 {C : CS} {f : FS} {j : Nat} (h : LR C f) (hj : j < nF f) : gX5_join C (nI j) 9 = oF f j 7 := by
  obtain ⟨e1, e2⟩ := isJ h.1.2 hj
  rw [eq_join h]
  unfold gX6_join
  rw [if_neg e1, e2, if_neg (show ¬ (9 : Int32) = 0 by decide), if_neg (show ¬ (9 : Int32) = 1 by decide), if_neg (show ¬ (9 : Int32) = 2 by decide), if_neg (show ¬ (9 : Int32) = 3 by decide), if_neg (show ¬ (9 : Int32) = 4 by decide), if_neg (show ¬ (9 : Int32) = 5 by decide), if_neg (show ¬ (9 : Int32) = 6 by decide), if_neg (show ¬ (9 : Int32) = 7 by decide), if_neg (show ¬ (9 : Int32) = 8 by decide), if_pos rfl]
  rfl
theorem jn_10 {C : CS} {f : FS} {j : Nat} (h : LR C f) (hj : j < nF f) : gX5_join C (nI j) 10 = oF f j 8 := by
  obtain ⟨e1, e2⟩ := isJ h.1.2 hj
  rw [eq_join h]
  unfold gX6_join
  rw [if_neg e1, e2, if_neg (show ¬ (10 : Int32) = 0 by decide), if_neg (show ¬ (10 : Int32) = 1 by decide), if_neg (show ¬ (10 : Int32) = 2 by decide), if_neg (show ¬ (10 : Int32) = 3 by decide), if_neg (show ¬ (10 : Int32) = 4 by decide), if_neg (show ¬ (10 : Int32) = 5 by decide), if_neg (show ¬ (10 : Int32) = 6 by decide), if_neg (show ¬ (10 : Int32) = 7 by decide), if_neg (show ¬ (10 : Int32) = 8 by decide), if_neg (show ¬ (10 : Int32) = 9 by decide), if_pos rfl]
  rfl
theorem jn_11 {C : CS} {f : FS} {j : Nat} (h : LR C f) (hj : j < nF f) : gX5_join C (nI j) 11 = (if gX6_spills f j = 0 then 0 else 1) := by
  obtain ⟨e1, e2⟩ := isJ h.1.2 hj
  rw [eq_join h]
  unfold gX6_join
  rw [if_neg e1, e2, if_neg (show ¬ (11 : Int32) = 0 by decide), if_neg (show ¬ (11 : Int32) = 1 by decide), if_neg (show ¬ (11 : Int32) = 2 by decide), if_neg (show ¬ (11 : Int32) = 3 by decide), if_neg (show ¬ (11 : Int32) = 4 by decide), if_neg (show ¬ (11 : Int32) = 5 by decide), if_neg (show ¬ (11 : Int32) = 6 by decide), if_neg (show ¬ (11 : Int32) = 7 by decide), if_neg (show ¬ (11 : Int32) = 8 by decide), if_neg (show ¬ (11 : Int32) = 9 by decide), if_neg (show ¬ (11 : Int32) = 10 by decide), if_pos rfl]
theorem jn_n {C : CS} {f : FS} {b : Int32} (h : LR C f) : gX5_join C (nI (nF f)) b = -1 := by
  rw [eq_join h]
  unfold gX6_join
  rw [if_pos (isJ_n h.1.2)]
