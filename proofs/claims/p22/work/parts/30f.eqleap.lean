/-! ===== leaps, walked beside the reference's steps ===== -/
theorem L149_none {f h : FS} : ∀ (fu i : Nat) (x : Int32), (∀ j, i ≤ j → j < i + fu → oF h j 3 = 1 → ¬ oF h j 5 = 0) → gX6_steps_L149 f fu i x h = (if x ≤ 0 then (x, upd h 6 (h 6 + 1)) else (x, gX6_goesThrough (upd h 6 (h 6 + 1)))) := by
  intro fu
  induction fu with
  | zero => intro i x _; rfl
  | succ fu ih =>
    intro i x hn
    rw [gX6_steps_L149]
    have hx := ih (i + 1) x (fun j h1 h2 => hn j (by omega) (by omega))
    by_cases c : gX6_is h i 1 = 0
    · rw [if_pos c, hx]
    · rw [if_neg c]
      have c3 : oF h i 3 = 1 := Decidable.not_not.mp (fun z => c (is_ne.mpr z))
      have d : ¬ gX6_of h i 5 = 0 := hn i (Nat.le_refl _) (by omega) c3
      rw [if_neg d, hx]
theorem Adv_upd {f g : FS} {i v : Int32} (h : Adv f g i) : Adv f (upd g 6 v) i := by
  obtain ⟨h1, h2, h3, h4⟩ := h
  have ho : ∀ j m, oF (upd g 6 v) j m = oF g j m := fun j m => oF_upd (by decide)
  refine ⟨fun m hm h7 h6 => ?_, ?_, fun j hj => ?_, fun j hj hj16 m hm => ?_⟩
  · rw [f_upd, if_neg h6]; exact h1 m hm h7 h6
  · rw [f_upd, if_neg (by decide)]; exact h2
  · obtain ⟨a5, a6, a7, ao⟩ := h3 j hj
    unfold AdvJ
    rw [ho, ho, ho]
    exact ⟨a5, a6, a7, fun m hm h5 h6 h7 => by rw [ho]; exact ao m hm h5 h6 h7⟩
  · rw [ho]; exact h4 j hj hj16 m hm
/-- so many steps -/
def stN (f : FS) : Nat → FS
  | 0 => f
  | k + 1 => (gX6_steps (stN f k)).2
def cnN (f : FS) : Nat → Int32
  | 0 => 0
  | k + 1 => cnN f k + (gX6_steps (stN f k)).1
theorem i_mulk {sp : Int32} {k : Nat} (hs : 1 ≤ sp.toInt ∧ sp.toInt ≤ 50) (hk : k ≤ 20001) : (nI k * sp).toInt = (k : Int) * sp.toInt ∧ 0 ≤ (k : Int) * sp.toInt ∧ (k : Int) * sp.toInt ≤ 20001 * 50 := by
  have hb : 0 ≤ (k : Int) * sp.toInt ∧ (k : Int) * sp.toInt ≤ 20001 * 50 := ⟨Int.mul_nonneg (by omega) (by omega), Int.mul_le_mul (by omega) (by omega) (by omega) (by omega)⟩
  have e := nI_toInt (n := k) (by omega)
  exact ⟨by rw [im (by rw [e]; omega) (by rw [e]; omega), e], hb.1, hb.2⟩
/-- none is done in k steps -/
def noDone (f : FS) (k : Nat) : Prop := ∀ j, j < nF f → oF f j 3 = 1 → (k : Int) * (f 3).toInt < (oF f j 5).toInt
theorem Adv_n0 {f g : FS} {k : Nat} (hm : mInv f) (h : Adv f g (nI k)) (hk : k ≤ 20001) (hd : noDone f k) : ∀ j, j < nF f → oF g j 3 = 1 → ¬ oF g j 5 = 0 := by
  intro j hj h3
  obtain ⟨a5, -, -, ao⟩ := h.2.2.1 j hj
  rw [ao 3 (by decide) (by decide) (by decide) (by decide)] at h3
  have hw := mJ_wk (hm.2 j hj) h3
  have hl := hd j hj h3
  obtain ⟨e1, e2, e3⟩ := i_mulk hm.1.2.2.2.2.1 hk
  have et : tkO f j (nI k) = nI k * f 3 := by
    unfold tkO
    rw [if_neg (fun z => is_ne.mp z h3), if_pos (by rw [x_ilt, e1]; exact hl)]
  rw [a5, et, i_eq, i_0, isb (by rw [e1]; omega) (by rw [e1]; omega), e1]
  omega
theorem stN_adv {f : FS} (hm : mInv f) : ∀ k : Nat, k ≤ 20000 → noDone f k → Adv f (stN f k) (nI k) ∧ (stN f k) 6 = f 6 + nI k ∧ cnN f k = 0 := by
  intro k
  induction k with
  | zero => intro _ _; exact ⟨Adv_0 hm, (Int32.add_zero _).symm, rfl⟩
  | succ k ih =>
    intro hk hd
    have hd' : noDone f k := fun j hj h3 => by
      have := hd j hj h3
      have hs := hm.1.2.2.2.2.1
      have : ((k + 1 : Nat) : Int) * (f 3).toInt = (k : Int) * (f 3).toInt + (f 3).toInt := by
        rw [show ((k + 1 : Nat) : Int) = (k : Int) + 1 from rfl, Int.add_mul, Int.one_mul]
      omega
    obtain ⟨h1, h2, h3⟩ := ih (by omega) hd'
    have hA := Adv_s hm h1 (by rw [nI_toInt (by omega)]; omega)
    rw [nI_1] at hA
    have en : nF (stN f k) = nF f := by unfold nF; rw [h1.1 4 (by decide) (by decide) (by decide)]
    have hn := Adv_n0 hm hA (by omega) hd
    have e := L149_none (f := stN f k) (h := pass1 (stN f k)) (nF (stN f k)) 0 0 (fun j _ hj => hn j (by omega))
    rw [if_pos (show (0 : Int32) ≤ 0 by decide)] at e
    have es : gX6_steps (stN f k) = (0, upd (pass1 (stN f k)) 6 (pass1 (stN f k) 6 + 1)) := steps_eq.trans e
    refine ⟨?_, ?_, ?_⟩
    · show Adv f (gX6_steps (stN f k)).2 _
      rw [es]
      exact Adv_upd hA
    · show (gX6_steps (stN f k)).2 6 = _
      rw [es]
      show pass1 (stN f k) 6 + 1 = _
      rw [pass1_PI.1 6 (by decide) (by decide), h2, Int32.add_assoc, nI_1]
    · show cnN f k + (gX6_steps (stN f k)).1 = 0
      rw [es, h3]
      rfl
/-! the class' loop over the joins -/
theorem pass_RJ {f h : FS} {j : Nat} {v : Nat → Int32} {n K : Int32} (hv : RJ f j v) (hA : AdvJ f h K j) (hs : ∀ x, gX6_is f j x = gX6_is h j x) : (gX1_pass n v K (f 3)).1 = tkO f j K ∧ RJ h j (gX1_pass n v K (f 3)).2 := by
  obtain ⟨a5, a6, a7, ao⟩ := hA
  obtain ⟨v0, v1, v2, v3, v4, v5, v6, v7, v8, v9, v10⟩ := hv
  have e : ∀ m, m < 9 → m ≠ 5 → m ≠ 6 → m ≠ 7 → oF h j m = oF f j m := ao
  have en : gX6_needs h j = gX6_needs f j := needs_ext (fun m hm => e m (by omega) (by omega) (by omega) (by omega))
  have ewt : gX6_wants h j = gX6_wants f j := wants_ext (fun m hm => e m (by omega) (by omega) (by omega) (by omega))
  have r0 := e 0 (by decide) (by decide) (by decide) (by decide)
  have r1 := e 1 (by decide) (by decide) (by decide) (by decide)
  have r2 := e 2 (by decide) (by decide) (by decide) (by decide)
  have r3 := e 3 (by decide) (by decide) (by decide) (by decide)
  have r4 := e 4 (by decide) (by decide) (by decide) (by decide)
  have r8 := e 8 (by decide) (by decide) (by decide) (by decide)
  unfold RJ gX1_pass
  rw [en, ewt, r0, r1, r2, r3, r4, r8, a5, a6, a7]
  by_cases c0 : oF f j 3 = 0
  · have c1 : ¬ oF f j 3 = 1 := by rw [c0]; decide
    have i0 : ¬ gX6_is f j 0 = 0 := fun z => is_ne.mp z c0
    have i1 : gX6_is f j 1 = 0 := is_ne.mpr c1
    have et : tkO f j K = 0 := if_pos i1
    rw [v0, if_pos c0, if_neg c1, et, if_neg i0, if_pos i1, Int32.sub_zero, Int32.add_zero]
    exact ⟨rfl, v0, v1, v2, congrArg (fun z => z + K) v3, v4, v5, v6, v7, v8, v9, v10⟩
  · have i0 : gX6_is f j 0 = 0 := is_ne.mpr c0
    by_cases c1 : oF f j 3 = 1
    · have i1 : ¬ gX6_is f j 1 = 0 := fun z => is_ne.mp z c1
      have et : tkO f j K = (if K * f 3 < oF f j 5 then K * f 3 else oF f j 5) := if_neg i1
      rw [v0, if_neg c0, if_pos c1, if_pos i0, if_neg i1, et, v2, Int32.add_zero]
      exact ⟨rfl, v0, v1, rfl, v3, congrArg (fun z => z + K) v4, v5, v6, v7, v8, v9, v10⟩
    · have i1 : gX6_is f j 1 = 0 := is_ne.mpr c1
      have et : tkO f j K = 0 := if_pos i1
      rw [v0, if_neg c0, if_neg c1, et, if_pos i0, if_pos i1, Int32.sub_zero, Int32.add_zero, Int32.add_zero]
      exact ⟨rfl, v0, v1, v2, v3, v4, v5, v6, v7, v8, v9, v10⟩
theorem nin_pass {v : Nat → Int32} {n K s : Int32} (h : RN v) : gX1_pass n v K s = (0, v) := by
  unfold gX1_pass
  have h0 : ¬ v 0 = 0 := by rw [h.1]; decide
  have h1 : ¬ v 0 = 1 := by rw [h.1]; decide
  rw [if_neg h0, if_neg h1]
theorem all_iff {f : FS} {j : Nat} {v : Nat → Int32} {n : Int32} (h : RJ f j v) : gX1_hasWorkedAll n v = 0 ↔ ¬ (oF f j 3 = 1 ∧ oF f j 5 = 0) := by
  unfold gX1_hasWorkedAll
  rw [h.1, h.2.2.1]
  by_cases c : oF f j 3 = 1
  · rw [if_pos c]
    by_cases d : oF f j 5 = 0
    · rw [if_pos d]; exact ⟨fun z => absurd z (by decide), fun z => absurd ⟨c, d⟩ z⟩
    · rw [if_neg d]; exact ⟨fun _ z => d z.2, fun _ => rfl⟩
  · rw [if_neg c]; exact ⟨fun _ z => c z.1, fun _ => rfl⟩
theorem nin_all {v : Nat → Int32} {n : Int32} (h : RN v) : gX1_hasWorkedAll n v = 0 := by
  unfold gX1_hasWorkedAll
  rw [h.1, if_neg (by decide)]
/-- the class behind its loop: what it shows of h, but the steps -/
def QS (h : FS) (K : Int32) (Q : PS) (w : Int32) : Prop := (Q.1 0 = h 0 ∧ Q.1 1 = h 1 ∧ Q.1 2 = h 2 ∧ Q.1 3 = h 3) ∧ Q.2.1 0 = h 4 ∧ Q.2.1 1 = h 5 ∧ Q.2.1 2 + K = h 6 + 1 ∧ Q.2.1 3 = w ∧ Q.2.1 4 = h 8
theorem va_same {α : Type} {J : Nat → α} {i j : Nat} : va_up J i (J i) j = J j := by
  unfold va_up
  split
  · rename_i h; rw [h]
  · rfl
theorem va_here {α : Type} {J : Nat → α} {i : Nat} {v : α} : va_up J i v i = v := if_pos rfl
theorem fin_B {f h : FS} {P : PS} {a K : Int32} (en : nF h = nF f) (hmi : mInv (upd h 6 (h 6 + 1))) : ∀ (n i : Nat) (x y : Int32) (Q : PS), nF f ≤ i → i + n = 16 → (y = 0 ↔ x ≤ 0) → QS h K Q (h 7) → (∀ j, j < nF f → RJ h j (Q.2.2 j)) → (∀ j, nF f ≤ j → j < 16 → RN (Q.2.2 j)) →
    RP (if x ≤ 0 then (x, upd h 6 (h 6 + 1)) else (x, gX6_goesThrough (upd h 6 (h 6 + 1)))).2 (gX4_leap_L79 P a n i K y Q).2 := by
  intro n
  induction n with
  | zero =>
    intro i x y Q h1 h2 hxy hq hj hr
    have hR : RP (upd h 6 (h 6 + 1)) (Q.1, upd Q.2.1 2 (Q.2.1 2 + K), Q.2.2) := by
      obtain ⟨⟨a0, a1, a2, a3⟩, b0, b1, b2, b3, b4⟩ := hq
      have en2 : nF (upd h 6 (h 6 + 1)) = nF f := by unfold nF; rw [f_upd, if_neg (by decide)]; exact en
      refine ⟨⟨⟨a0, a1, a2, a3⟩, b0, b1, b2, b3, b4⟩, fun j hj2 => ?_, fun j hj2 hj16 => ?_⟩
      · exact RJ_ext (fun m _ => oF_upd (by decide)) (hj j (by omega))
      · exact hr j (by omega) hj16
    rw [gX4_leap_L79]
    by_cases c : x ≤ 0
    · rw [if_pos c, if_pos (hxy.mpr c)]; exact hR
    · rw [if_neg c, if_neg (fun z => c (hxy.mp z))]; exact eq_gt hR hmi
  | succ n ih =>
    intro i x y Q h1 h2 hxy hq hj hr
    have hri := hr i h1 (by omega)
    rw [gX4_leap_L79]
    have ep := nin_pass (n := nI i) (K := K) (s := gX4_setting P 3) hri
    rw [ep]
    show RP _ (if gX1_hasWorkedAll (nI i) (va_up Q.2.2 i (Q.2.2 i) i) = 0 then gX4_leap_L79 P a n (i + 1) K y (Q.1, upd Q.2.1 3 (Q.2.1 3 + 0), va_up Q.2.2 i (Q.2.2 i)) else _).2
    rw [va_here, if_pos (nin_all hri)]
    obtain ⟨⟨a0, a1, a2, a3⟩, b0, b1, b2, b3, b4⟩ := hq
    refine ih (i + 1) x y _ (by omega) (by omega) hxy ⟨⟨a0, a1, a2, a3⟩, b0, b1, b2, ?_, b4⟩ (fun j hj2 => ?_) (fun j hj2 hj16 => ?_)
    · show Q.2.1 3 + 0 = _
      rw [Int32.add_zero]; exact b3
    · show RJ h j (va_up Q.2.2 i (Q.2.2 i) j)
      rw [va_same]; exact hj j hj2
    · show RN (va_up Q.2.2 i (Q.2.2 i) j)
      rw [va_same]; exact hr j hj2 hj16
theorem fin_A {f g h0 : FS} {P : PS} {a K : Int32} (hR : RP f P) (hA : Adv f h0 K) (en : nF g = nF f) (e46 : f 6 + K = h0 6 + 1) : ∀ (m n i : Nat) (x y : Int32) (h : FS) (Q : PS), i + m = nF f → i + m + n = 16 → sB g i h → (y = 0 ↔ x ≤ 0) → (0 ≤ x.toInt ∧ x.toInt ≤ i) → (∀ k, k < 9 → h k = h0 k) → (∀ j, i ≤ j → ∀ k, k < 9 → oF h j k = oF h0 j k) →
    QS h0 K Q (f 7 + sS (fun j => tkO f j K) i) → (∀ j, j < i → RJ h j (Q.2.2 j)) → (∀ j, i ≤ j → Q.2.2 j = P.2.2 j) →
    RP (gX6_steps_L149 g m i x h).2 (gX4_leap_L79 P a (m + n) i K y Q).2 := by
  intro m
  induction m with
  | zero =>
    intro n i x y h Q h1 h2 hs hxy hx hk ho hq hj hp
    have hmi := sB_n (v := h 6 + 1) hs (by have en' : (g 4).toNatClampNeg = nF f := en; omega)
    have e4 : h 4 = h0 4 := hk 4 (by decide)
    have enh : nF h = nF f := by unfold nF; rw [e4, hA.1 4 (by decide) (by decide) (by decide)]
    rw [gX6_steps_L149, Nat.zero_add]
    refine fin_B enh hmi n i x y Q (by omega) (by omega) hxy ?_ (fun j hj2 => hj j (by omega)) (fun j hj2 hj16 => by rw [hp j (by omega)]; exact hR.2.2 j hj2 hj16)
    obtain ⟨⟨a0, a1, a2, a3⟩, b0, b1, b2, b3, b4⟩ := hq
    unfold QS
    rw [hk 0 (by decide), hk 1 (by decide), hk 2 (by decide), hk 3 (by decide), hk 4 (by decide), hk 5 (by decide), hk 6 (by decide), hk 7 (by decide), hk 8 (by decide)]
    refine ⟨⟨a0, a1, a2, a3⟩, b0, b1, b2, ?_, b4⟩
    rw [b3, hA.2.1, ← h1]
    rfl
  | succ m ih =>
    intro n i x y h Q h1 h2 hs hxy hx hk ho hq hj hp
    have hi : i < nF f := by omega
    have hig : i < (g 4).toNatClampNeg := by rw [show (g 4).toNatClampNeg = nF f from en]; exact hi
    have ev : Q.2.2 i = P.2.2 i := hp i (Nat.le_refl _)
    have hAi := hA.2.2.1 i hi
    have hso : ∀ x, gX6_is f i x = gX6_is h0 i x := fun x => (is_ext (hAi.2.2.2 3 (by decide) (by decide) (by decide) (by decide))).symm
    have e3 : gX4_setting P 3 = f 3 := hR.1.1.2.2.2
    obtain ⟨p1, p2⟩ := pass_RJ (n := nI i) (K := K) (hR.2.1 i hi) hAi hso
    have p2 : RJ h i (gX1_pass (nI i) (P.2.2 i) K (f 3)).2 := RJ_ext (fun k hk9 => ho i (Nat.le_refl _) k hk9) p2
    obtain ⟨⟨a0, a1, a2, a3⟩, b0, b1, b2, b3, b4⟩ := hq
    rw [show m + 1 + n = (m + n) + 1 by omega, gX4_leap_L79, gX6_steps_L149, ev, e3]
    generalize hpp : gX1_pass (nI i) (P.2.2 i) K (f 3) = pp at p1 p2 ⊢
    rw [va_here]
    have hQ3 : (Q.2.1 3 + pp.1) = f 7 + sS (fun j => tkO f j K) (i + 1) := by
      rw [b3, p1, Int32.add_assoc]; rfl
    by_cases c : gX6_is h i 1 = 0
    · have hal : gX1_hasWorkedAll (nI i) pp.2 = 0 := (all_iff p2).mpr (fun z => is_ne.mp c z.1)
      rw [if_pos c, if_pos hal]
      refine ih n (i + 1) x y h _ (by omega) (by omega) (sB_1 hs hig c) hxy (by omega) hk (fun j hj2 => ho j (by omega)) ⟨⟨a0, a1, a2, a3⟩, b0, b1, b2, hQ3, b4⟩ (fun j hj2 => ?_) (fun j hj2 => ?_)
      · show RJ h j (va_up Q.2.2 i pp.2 j)
        by_cases hji : j = i
        · subst hji; rw [va_here]; exact p2
        · rw [show va_up Q.2.2 i pp.2 j = Q.2.2 j from if_neg hji]; exact hj j (by omega)
      · show va_up Q.2.2 i pp.2 j = _
        rw [show va_up Q.2.2 i pp.2 j = Q.2.2 j from if_neg (by omega)]; exact hp j (by omega)
    · have c3 : oF h i 3 = 1 := Decidable.not_not.mp (fun z => c (is_ne.mpr z))
      rw [if_neg c]
      by_cases d : gX6_of h i 5 = 0
      · have hal : ¬ gX1_hasWorkedAll (nI i) pp.2 = 0 := fun z => (all_iff p2).mp z ⟨c3, d⟩
        rw [if_pos d, if_neg hal]
        have ex : (x + 1).toInt = x.toInt + 1 := by rw [ia (by rw [i_1]; omega) (by rw [i_1]; omega), i_1]
        refine ih n (i + 1) (x + 1) 1 (gX6_ends h i 2) _ (by omega) (by omega) (sB_3 hs hig c d) ⟨fun z => absurd z (by decide), fun z => by rw [x_ile, ex, i_0] at z; omega⟩ (by rw [ex]; omega) (fun k hk9 => (ends_f hk9).trans (hk k hk9)) (fun j hj2 k hk9 => by rw [ends_oF hk9, if_neg (by omega)]; exact ho j (by omega) k hk9) ⟨⟨a0, a1, a2, a3⟩, b0, b1, b2, hQ3, b4⟩ (fun j hj2 => ?_) (fun j hj2 => ?_)
        · show RJ (gX6_ends h i 2) j (va_up (va_up Q.2.2 i pp.2) i (gX1_end (nI i) pp.2 2) j)
          by_cases hji : j = i
          · subst hji; rw [va_here]; exact RJ_end p2
          · rw [show va_up (va_up Q.2.2 i pp.2) i (gX1_end (nI i) pp.2 2) j = Q.2.2 j from (if_neg hji).trans (if_neg hji)]
            exact RJ_ext (fun k hk9 => by rw [ends_oF hk9, if_neg hji]) (hj j (by omega))
        · show va_up (va_up Q.2.2 i pp.2) i (gX1_end (nI i) pp.2 2) j = _
          have hji : ¬ j = i := by omega
          rw [show va_up (va_up Q.2.2 i pp.2) i (gX1_end (nI i) pp.2 2) j = Q.2.2 j from (if_neg hji).trans (if_neg hji)]
          exact hp j (by omega)
      · have hal : gX1_hasWorkedAll (nI i) pp.2 = 0 := (all_iff p2).mpr (fun z => d z.2)
        rw [if_neg d, if_pos hal]
        refine ih n (i + 1) x y h _ (by omega) (by omega) (sB_2 hs hig c d) hxy (by omega) hk (fun j hj2 => ho j (by omega)) ⟨⟨a0, a1, a2, a3⟩, b0, b1, b2, hQ3, b4⟩ (fun j hj2 => ?_) (fun j hj2 => ?_)
        · show RJ h j (va_up Q.2.2 i pp.2 j)
          by_cases hji : j = i
          · subst hji; rw [va_here]; exact p2
          · rw [show va_up Q.2.2 i pp.2 j = Q.2.2 j from if_neg hji]; exact hj j (by omega)
        · show va_up Q.2.2 i pp.2 j = _
          rw [show va_up Q.2.2 i pp.2 j = Q.2.2 j from if_neg (by omega)]; exact hp j (by omega)
