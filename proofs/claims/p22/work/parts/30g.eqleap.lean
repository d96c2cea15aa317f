/-! ===== how far a leap goes ===== -/
theorem sl_spec {w sp : Int32} (hw : 1 ≤ w.toInt ∧ w.toInt ≤ 200400000) (hs : 1 ≤ sp.toInt ∧ sp.toInt ≤ 50) : 1 ≤ ((w + sp - 1) / sp).toInt ∧ (((w + sp - 1) / sp).toInt - 1) * sp.toInt < w.toInt := by
  obtain ⟨a, ha, rfl, ea⟩ := i_nI (x := w) (by omega)
  obtain ⟨b, hb, rfl, eb⟩ := i_nI (x := sp) (by omega)
  have e : nI a + nI b - 1 = nI (a + b - 1) := by rw [nI_add]; exact pk_sub (a := a + b) (b := 1) (by omega)
  rw [e, pk_div (by omega) (by omega) hb, nI_toInt (Nat.lt_of_le_of_lt (Nat.div_le_self _ _) (by omega)), ea, eb]
  have h1 : 1 ≤ (a + b - 1) / b := by
    rw [Nat.le_div_iff_mul_le (by omega)]
    omega
  have h2 : (a + b - 1) / b * b ≤ a + b - 1 := Nat.div_mul_le_self _ _
  generalize (a + b - 1) / b = q at h1 h2 ⊢
  have h3 : ((q : Int) - 1) * (b : Int) = (q : Int) * (b : Int) - (b : Int) := by rw [Int.sub_mul, Int.one_mul]
  have h4 : (q : Int) * (b : Int) = ((q * b : Nat) : Int) := (Int.natCast_mul q b).symm
  omega
theorem L22_spec {f : FS} {P : PS} {a : Int32} (h : RP f P) (hm : mInv f) : ∀ (fu i : Nat) (x : Int32), i + fu = 16 → 1 ≤ x.toInt → ∃ k : Int32, gX4_leap_L22 P a fu i x = gX4_leap_L79 P a 16 0 k 0 P ∧ 1 ≤ k.toInt ∧ k.toInt ≤ x.toInt ∧ ∀ j, i ≤ j → j < nF f → oF f j 3 = 1 → (k.toInt - 1) * (f 3).toInt < (oF f j 5).toInt := by
  have hs := hm.1.2.2.2.2.1
  intro fu
  induction fu with
  | zero => intro i x h1 hx; exact ⟨x, rfl, hx, Int.le_refl _, fun j h2 h3 _ => by have := n_le hm; omega⟩
  | succ fu ih =>
    intro i x h1 hx
    rw [gX4_leap_L22]
    by_cases c : gX1_isIn (nI i) (P.2.2 i) 1 = 0
    · rw [if_pos c]
      obtain ⟨k, e1, e2, e3, e4⟩ := ih (i + 1) x (by omega) hx
      refine ⟨k, e1, e2, e3, fun j h2 h3 h4 => ?_⟩
      by_cases hj : j = i
      · subst hj
        rw [eq_isIn (h.2.1 j h3)] at c
        exact absurd h4 (is_ne.mp c)
      · exact e4 j (by omega) h3 h4
    · rw [if_neg c]
      have hi : i < nF f := by
        rcases Nat.lt_or_ge i (nF f) with hl | hl
        · exact hl
        · exact absurd (nin_isIn (h.2.2 i hl (by omega)) (by decide)) c
      rw [eq_isIn (h.2.1 i hi)] at c
      have c3 : oF f i 3 = 1 := Decidable.not_not.mp (fun z => c (is_ne.mpr z))
      have hw := mJ_wk (hm.2 i hi) c3
      have esl : gX1_stepsLeft (nI i) (P.2.2 i) (gX4_setting P 3) = (oF f i 5 + f 3 - 1) / f 3 := by
        have e3 : gX4_setting P 3 = f 3 := h.1.1.2.2.2
        unfold gX1_stepsLeft
        rw [e3, if_pos (show (1 : Int32) ≤ f 3 by rw [x_ile, i_1]; omega), (h.2.1 i hi).2.2.1]
      have hsl := sl_spec hw hs
      rw [esl]
      generalize (oF f i 5 + f 3 - 1) / f 3 = sl at hsl ⊢
      have hx' : 1 ≤ (if sl < x then sl else x).toInt ∧ (if sl < x then sl else x).toInt ≤ x.toInt ∧ (if sl < x then sl else x).toInt ≤ sl.toInt := by
        split
        · rename_i q; rw [x_ilt] at q; omega
        · rename_i q; rw [x_ilt] at q; omega
      obtain ⟨k, e1, e2, e3, e4⟩ := ih (i + 1) _ (by omega) hx'.1
      refine ⟨k, e1, e2, by omega, fun j h2 h3 h4 => ?_⟩
      by_cases hj : j = i
      · subst hj
        have := Int.mul_le_mul_of_nonneg_right (a := k.toInt - 1) (b := sl.toInt - 1) (c := (f 3).toInt) (by omega) (by omega)
        omega
      · exact e4 j (by omega) h3 h4
theorem pass_sA {f : FS} : ∀ (fu i : Nat) (f1 : FS), i + fu = nF f → sA f i f1 → sA f (i + fu) (passF fu i f1) := by
  intro fu
  induction fu with
  | zero => intro i f1 _ h; exact h
  | succ fu ih =>
    intro i f1 hi h
    have := ih (i + 1) _ (by omega) (stp1_A h (by unfold nF at hi; omega))
    rw [show i + 1 + fu = i + (fu + 1) by omega] at this
    exact this
theorem pass1_sB {f : FS} (hm : mInv f) : sB f 0 (pass1 f) := by
  have := pass_sA (f := f) (nF f) 0 f (by omega) (sA_0 hm)
  rw [Nat.zero_add] at this
  exact sA_n this rfl
theorem stN_ok {f : FS} (hm : mInv f) : ∀ k, mInv (stN f k) ∧ nF (stN f k) = nF f := by
  intro k
  induction k with
  | zero => exact ⟨hm, rfl⟩
  | succ k ih =>
    have := sp_ok ih.1
    exact ⟨this.1, this.2.trans ih.2⟩
theorem leap_sim {f : FS} {P : PS} {a : Int32} (h : RP f P) (hm : mInv f) (ha : 1 ≤ a.toInt ∧ a.toInt ≤ 20000) :
    ∃ k : Nat, 1 ≤ k ∧ (k : Int) ≤ a.toInt ∧ (gX4_leap P a).1 = nI k ∧ RP (stN f k) (gX4_leap P a).2 ∧ ∀ i, i < k → ∀ j, j < 16 → oF (stN f i) j 3 = oF f j 3 := by
  obtain ⟨K, e1, e2, e3, e4⟩ := L22_spec (a := a) h hm 16 0 a (by omega) ha.1
  have e1 : gX4_leap P a = gX4_leap_L79 P a 16 0 K 0 P := e1
  obtain ⟨k, hk, eK, eKi⟩ := i_nI (x := K) (by omega)
  obtain ⟨kk, rfl⟩ : ∃ kk, k = kk + 1 := ⟨k - 1, by omega⟩
  have hs := hm.1.2.2.2.2.1
  have hd : ∀ i, i ≤ kk → noDone f i := fun i hi j hj h3 => by
    have h4 := e4 j (Nat.zero_le _) hj h3
    rw [eKi] at h4
    have := Int.mul_le_mul_of_nonneg_right (a := (i : Int)) (b := ((kk + 1 : Nat) : Int) - 1) (c := (f 3).toInt) (by omega) (by omega)
    omega
  have hk2 : kk + 1 ≤ 20000 := by omega
  obtain ⟨hA, h6, -⟩ := stN_adv hm kk (by omega) (hd kk (Nat.le_refl _))
  have hok := stN_ok hm kk
  refine ⟨kk + 1, by omega, by omega, by rw [e1, leap_L79, eK], ?_, fun i hi j hj => ?_⟩
  · rw [e1]
    show RP (gX6_steps (stN f kk)).2 _
    rw [steps_eq]
    have hA1 := Adv_s hm hA (by rw [nI_toInt (by omega)]; omega)
    rw [nI_1, ← eK] at hA1
    have e46 : f 6 + K = pass1 (stN f kk) 6 + 1 := by
      rw [pass1_PI.1 6 (by decide) (by decide), h6, Int32.add_assoc, nI_1, eK]
    have en : (stN f kk 4).toNatClampNeg = nF f := hok.2
    rw [en]
    have hn := n_le hm
    obtain ⟨⟨a0, a1, a2, a3⟩, b0, b1, b2, b3, b4⟩ := h.1
    have eg : ∀ m, m < 9 → m ≠ 7 → m ≠ 6 → f m = pass1 (stN f kk) m := fun m hm h7 h6 => (hA1.1 m hm h7 h6).symm
    have := fin_A (a := a) h hA1 hok.2 e46 (nF f) (16 - nF f) 0 0 0 (pass1 (stN f kk)) P (by omega) (by omega) (pass1_sB hok.1) ⟨fun _ => by decide, fun _ => rfl⟩ (by decide) (fun _ _ => rfl) (fun _ _ _ _ => rfl)
      ⟨⟨a0.trans (eg 0 (by decide) (by decide) (by decide)), a1.trans (eg 1 (by decide) (by decide) (by decide)), a2.trans (eg 2 (by decide) (by decide) (by decide)), a3.trans (eg 3 (by decide) (by decide) (by decide))⟩, b0.trans (eg 4 (by decide) (by decide) (by decide)), b1.trans (eg 5 (by decide) (by decide) (by decide)), by rw [b2]; exact e46, b3.trans (Int32.add_zero _).symm, b4.trans (eg 8 (by decide) (by decide) (by decide))⟩
      (fun j hj => by omega) (fun _ _ => rfl)
    rw [show nF f + (16 - nF f) = 16 by omega] at this
    exact this
  · obtain ⟨hAi, -, -⟩ := stN_adv hm i (by omega) (hd i (by omega))
    rcases Nat.lt_or_ge j (nF f) with hl | hl
    · exact (hAi.2.2.1 j hl).2.2.2 3 (by decide) (by decide) (by decide) (by decide)
    · exact hAi.2.2.2 j hl hj 3 (by decide)
/-! how many are done -/
theorem sS_chg {a b : Nat → Int32} {n k : Nat} (hk : k < n) (e : ∀ j, j < n → j ≠ k → a j = b j) : sS a n + b k = sS b n + a k := by
  induction n with
  | zero => omega
  | succ n ih =>
    show sS a n + a n + b k = sS b n + b n + a k
    by_cases hn : k = n
    · subst hn
      rw [sS_ext (g := a) (h := b) (fun j hj => e j (by omega) (by omega)), Int32.add_assoc, Int32.add_assoc, Int32.add_comm (a k)]
    · rw [e n (by omega) (by omega), Int32.add_assoc, Int32.add_comm (b n), ← Int32.add_assoc, ih (by omega) (fun j hj hne => e j (by omega) hne), Int32.add_assoc, Int32.add_comm (a k), ← Int32.add_assoc]
def dcn (f : FS) (n : Nat) : Int32 := sS (fun j => b01 (gX6_is f j 2)) n
theorem dcn_ext {f g : FS} {n : Nat} (h : ∀ j, j < n → (oF g j 3 = 2 ↔ oF f j 3 = 2)) : dcn g n = dcn f n := by
  refine sS_ext (fun j hj => ?_)
  have := h j hj
  unfold b01
  by_cases c : gX6_is f j 2 = 0
  · rw [if_pos c, if_pos (is_ne.mpr (fun z => is_ne.mp c (this.mp z)))]
  · rw [if_neg c, if_neg (fun z => is_ne.mp z (this.mpr (Decidable.not_not.mp (fun y => c (is_ne.mpr y)))))]
theorem gt_dcn {f : FS} {n : Nat} (hm : mInv f) : dcn (gX6_goesThrough f) n = dcn f n := by
  refine dcn_ext (fun j hj => ?_)
  rcases (gt_ok hm).2.2.2 j with h | ⟨h1, h2⟩
  · rw [h]
  · rw [h1, h2]
    exact ⟨fun z => absurd z (by decide), fun z => absurd z (by decide)⟩
theorem upd_dcn {f : FS} {n : Nat} {v : Int32} : dcn (upd f 6 v) n = dcn f n := dcn_ext (fun j _ => by rw [oF_upd (by decide)])
theorem i_canc {a b c d x : Int32} (h : a + (x + 1) = b + 1 + c) : a + x = b + c := by
  have h2 : a + x + 1 = b + c + 1 := by
    rw [Int32.add_assoc, h, Int32.add_assoc, Int32.add_comm 1 c, ← Int32.add_assoc]
  have h3 := congrArg (fun z => z - 1) h2
  simpa [Int32.add_sub_cancel] using h3
theorem L149_dcn {f : FS} : ∀ (fu i : Nat) (x : Int32) (h : FS), i + fu = nF f → sB f i h → dcn (gX6_steps_L149 f fu i x h).2 (nF f) + x = dcn h (nF f) + (gX6_steps_L149 f fu i x h).1 := by
  intro fu
  induction fu with
  | zero =>
    intro i x h hi hs
    have hmi := sB_n (v := h 6 + 1) hs (by unfold nF at hi; omega)
    rw [gX6_steps_L149]
    split
    · show dcn (upd h 6 (h 6 + 1)) _ + x = _
      rw [upd_dcn]
    · show dcn (gX6_goesThrough (upd h 6 (h 6 + 1))) _ + x = _
      rw [gt_dcn hmi, upd_dcn]
  | succ fu ih =>
    intro i x h hi hs
    have hig : i < (f 4).toNatClampNeg := by have : (f 4).toNatClampNeg = nF f := rfl; omega
    rw [gX6_steps_L149]
    by_cases c : gX6_is h i 1 = 0
    · rw [if_pos c]
      exact ih _ _ _ (by omega) (sB_1 hs hig c)
    · rw [if_neg c]
      have c3 : oF h i 3 = 1 := Decidable.not_not.mp (fun z => c (is_ne.mpr z))
      by_cases d : gX6_of h i 5 = 0
      · rw [if_pos d]
        have e := ih (i + 1) (x + 1) (gX6_ends h i 2) (by omega) (sB_3 hs hig c d)
        have e3 : oF (gX6_ends h i 2) i 3 = 2 := by rw [ends_oF (by decide), if_pos rfl, if_pos rfl]
        have b1 : b01 (gX6_is (gX6_ends h i 2) i 2) = 1 := if_neg (fun z => is_ne.mp z e3)
        have b0 : b01 (gX6_is h i 2) = 0 := if_pos (is_ne.mpr (by rw [c3]; decide))
        have ed : dcn (gX6_ends h i 2) (nF f) = dcn h (nF f) + 1 := by
          have := sS_chg (a := fun j => b01 (gX6_is (gX6_ends h i 2) j 2)) (b := fun j => b01 (gX6_is h j 2)) (n := nF f) (k := i) hig (fun j _ hne => by show b01 _ = b01 _; rw [is_ext (f := h) (g := gX6_ends h i 2) (by rw [ends_oF (by decide), if_neg hne])])
          have this : dcn (gX6_ends h i 2) (nF f) + b01 (gX6_is h i 2) = dcn h (nF f) + b01 (gX6_is (gX6_ends h i 2) i 2) := this
          rw [b0, b1, Int32.add_zero] at this
          exact this
        rw [ed] at e
        exact i_canc (d := 0) e
      · rw [if_neg d]
        exact ih _ _ _ (by omega) (sB_2 hs hig c d)
theorem st_dcn {f : FS} (hm : mInv f) : gX6_manyWith (gX6_steps f).2 2 = gX6_manyWith f 2 + (gX6_steps f).1 := by
  have en := (sp_ok hm).2
  have h1 := L149_dcn (f := f) (nF f) 0 0 (pass1 f) (by omega) (pass1_sB hm)
  have e : gX6_steps f = gX6_steps_L149 f (nF f) 0 0 (pass1 f) := steps_eq
  rw [← e, Int32.add_zero] at h1
  have h2 : dcn (pass1 f) (nF f) = dcn f (nF f) := dcn_ext (fun j hj => by
    rw [pass1_PI.2.2 j 3 (by decide), if_pos hj, stp1_oF (by decide), if_pos rfl, if_neg (by decide), if_neg (by decide), if_neg (by decide)])
  rw [manyWith_eq, manyWith_eq]
  show dcn (gX6_steps f).2 (nF (gX6_steps f).2) = dcn f (nF f) + _
  rw [en, h1, h2]
theorem cnN_eq {f : FS} (hm : mInv f) : ∀ k, gX6_manyWith (stN f k) 2 = gX6_manyWith f 2 + cnN f k := by
  intro k
  induction k with
  | zero => exact (Int32.add_zero _).symm
  | succ k ih =>
    show gX6_manyWith (gX6_steps (stN f k)).2 2 = _ + (cnN f k + (gX6_steps (stN f k)).1)
    rw [st_dcn (stN_ok hm k).1, ih, Int32.add_assoc]
theorem stN_s {f : FS} : ∀ k, stN (gX6_steps f).2 k = stN f (k + 1) := by
  intro k
  induction k with
  | zero => rfl
  | succ k ih =>
    show (gX6_steps (stN (gX6_steps f).2 k)).2 = (gX6_steps (stN f (k + 1))).2
    rw [ih]
theorem cnN_s {f : FS} : ∀ k, (gX6_steps f).1 + cnN (gX6_steps f).2 k = cnN f (k + 1) := by
  intro k
  induction k with
  | zero => show (gX6_steps f).1 + 0 = 0 + (gX6_steps f).1; rw [Int32.add_comm]
  | succ k ih =>
    show (gX6_steps f).1 + (cnN (gX6_steps f).2 k + (gX6_steps (stN (gX6_steps f).2 k)).1) = cnN f (k + 1) + (gX6_steps (stN f (k + 1))).1
    rw [← Int32.add_assoc, ih, stN_s]
theorem stN_add {f : FS} (i : Nat) : ∀ k, stN (stN f i) k = stN f (i + k) := by
  intro k
  induction k with
  | zero => rfl
  | succ k ih =>
    show (gX6_steps (stN (stN f i) k)).2 = (gX6_steps (stN f (i + k))).2
    rw [ih]
