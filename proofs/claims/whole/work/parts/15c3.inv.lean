/-! ===== asking back, starting, going through: what holds behind them ===== -/
theorem ab_step {f1 : FS} {x1 m : Int32} (hm : mInv f1) (he : enough f1 x1) (h0 : ¬ x1 ≤ 0)
    (hc : (m = gX6_extra f1 (gX6_asksBack_L11 f1 ((f1 4).toNatClampNeg - 1) 1 0) ∧ ¬ x1 ≤ gX6_extra f1 (gX6_asksBack_L11 f1 ((f1 4).toNatClampNeg - 1) 1 0)) ∨ (m = x1 ∧ x1 ≤ gX6_extra f1 (gX6_asksBack_L11 f1 ((f1 4).toNatClampNeg - 1) 1 0))) :
    xP3 (gX6_of f1 (gX6_asksBack_L11 f1 ((f1 4).toNatClampNeg - 1) 1 0) 4 - m) ∧ xP3 (gX6_of f1 (gX6_asksBack_L11 f1 ((f1 4).toNatClampNeg - 1) 1 0) 4) ∧ ¬ (gX6_works f1 (gX6_asksBack_L11 f1 ((f1 4).toNatClampNeg - 1) 1 0) (gX6_of f1 (gX6_asksBack_L11 f1 ((f1 4).toNatClampNeg - 1) 1 0) 4)).toInt64 = 0 ∧
      mInv (gX6_givesBack f1 (gX6_asksBack_L11 f1 ((f1 4).toNatClampNeg - 1) 1 0) m) ∧ enough (gX6_givesBack f1 (gX6_asksBack_L11 f1 ((f1 4).toNatClampNeg - 1) 1 0) m) (x1 - m) ∧ (x1 - m).toInt < x1.toInt := by
  have hp := most_pos hm he h0
  unfold mostOf at hp
  obtain ⟨h1, h2, h3⟩ := hp
  generalize gX6_asksBack_L11 f1 ((f1 4).toNatClampNeg - 1) 1 0 = k at *
  rw [x_ile, i_0] at h0
  have hs := (spares_Z hm).2
  have hm1 : 1 ≤ m.toInt ∧ m.toInt ≤ (gX6_extra f1 k).toInt ∧ m.toInt ≤ x1.toInt := by
    rcases hc with ⟨rfl, h⟩ | ⟨rfl, h⟩ <;> (rw [x_ile] at h; omega)
  have hJ := hm.2 k h1
  have hn := mJ_n hJ
  have hpg := mJ_p hJ
  have hb := gbW_bd hJ h3 hm1.1 hm1.2.1
  have hw := works_bd (mJ_w hJ) (d := oF f1 k 4) (by have := hJ.2.2.2.2.1 h3; omega)
  have he' : x1.toInt ≤ (gX6_spares f1).toInt := he
  have e1 : (x1 - m).toInt = x1.toInt - m.toInt := isb (by omega) (by omega)
  refine ⟨⟨?_, ?_⟩, ⟨?_, ?_⟩, ?_, gb_mInv hm h1 h3 hm1.1 hm1.2.1, ?_, by omega⟩
  · show 3 ≤ (oF f1 k 4 - m).toInt; omega
  · show (oF f1 k 4 - m).toInt ≤ 1000; omega
  · show 3 ≤ (oF f1 k 4).toInt; omega
  · show (oF f1 k 4).toInt ≤ 1000; omega
  · change 1 ≤ (gX6_works f1 k (oF f1 k 4)).toInt ∧ _ at hw
    show ¬ (gX6_works f1 k (oF f1 k 4)).toInt64 = 0
    obtain ⟨b, hb', e, eb⟩ := i_nI (x := gX6_works f1 k (oF f1 k 4)) (by omega)
    rw [e, nI_l hb', show (0 : Int64) = lN 0 from rfl, lN_eq hb' (by decide)]
    omega
  · unfold enough
    rw [gb_spares hm h1 h3 hm1.1 hm1.2.1, e1]
    omega
/-- what asking back leaves as it was -/
def abK (f g : FS) : Prop := (∀ i, i < 8 → g i = f i) ∧ ∀ j m, m < 9 → m ≠ 4 → m ≠ 5 → m ≠ 8 → oF g j m = oF f j m
theorem abK.rfl' {f : FS} : abK f f := ⟨fun _ _ => rfl, fun _ _ _ _ _ _ => rfl⟩
theorem abK.trans' {f g h : FS} (a : abK f g) (b : abK g h) : abK f h := ⟨fun i hi => (b.1 i hi).trans (a.1 i hi), fun j m h1 h2 h3 h4 => (b.2 j m h1 h2 h3 h4).trans (a.2 j m h1 h2 h3 h4)⟩
theorem abK_gb {f : FS} {j : Nat} {m : Int32} : abK f (gX6_givesBack f j m) := by
  refine ⟨fun i hi => by rw [gb_f (by omega), if_neg (by omega)], fun i k hk h4 h5 h8 => ?_⟩
  by_cases h : i = j
  · subst h
    rw [gb_oF hk, if_pos rfl, if_neg h4, if_neg h5, if_neg h8]
  · rw [gb_oF hk, if_neg h]
theorem ab_L {f : FS} {a : Int32} : ∀ (fu : Nat) (x : Int32) (f1 : FS), mInv f1 → enough f1 x → mInv (gX6_asksBack_L2 f a fu x f1) ∧ abK f1 (gX6_asksBack_L2 f a fu x f1) := by
  intro fu
  induction fu with
  | zero => intro x f1 hm _; exact ⟨hm, abK.rfl'⟩
  | succ fu ih =>
    intro x f1 hm he
    rw [gX6_asksBack_L2]
    split
    · exact ⟨hm, abK.rfl'⟩
    · rename_i h0
      split
      · rename_i h
        obtain ⟨-, -, -, h1, h2, -⟩ := ab_step hm he h0 (Or.inr ⟨rfl, h⟩)
        have h3 := ih _ _ h1 h2
        exact ⟨h3.1, abK_gb.trans' h3.2⟩
      · rename_i h
        obtain ⟨-, -, -, h1, h2, -⟩ := ab_step hm he h0 (Or.inl ⟨rfl, h⟩)
        have h3 := ih _ _ h1 h2
        exact ⟨h3.1, abK_gb.trans' h3.2⟩
theorem ab_inv {f : FS} {x : Int32} (hm : mInv f) (he : enough f x) : mInv (gX6_asksBack f x) ∧ abK f (gX6_asksBack f x) := ab_L _ _ _ hm he
theorem bI_ab {f : FS} {x : Int32} (hm : mInv f) (he : enough f x) : bI (gX6_asksBack f x) := bI_of (ab_inv hm he).1
/-- one that waits is started with p pages -/
def go3 (f : FS) (j : Nat) (p : Int32) : FS := gX6_sets (gX6_sets (gX6_sets f j 3 1) j 4 p) j 5 (gX6_works (gX6_sets (gX6_sets f j 3 1) j 4 p) j p)
def goF (f : FS) (j : Nat) (p : Int32) : FS := upd (go3 f j p) 5 (if gX6_granted (go3 f j p) ≤ go3 f j p 5 then go3 f j p 5 else gX6_granted (go3 f j p))
theorem ite_up {g : FS} {x y a b : Int32} : (if x ≤ y then ((1 : Int32), upd g 5 a) else (1, upd g 5 b)) = (1, upd g 5 (if x ≤ y then a else b)) := by split <;> rfl
theorem starts_eq {f : FS} {j : Nat} : gX6_starts f j = (if gX6_free f < gX6_needs f j then (if f 2 = 1 then (if f 0 < gX6_granted f then (0, f) else (if gX6_free f + gX6_spares f < gX6_needs f j then (0, f) else (1, goF (gX6_asksBack f (gX6_needs f j - gX6_free f)) j (gX6_needs f j)))) else (0, f)) else (if gX6_wants f j ≤ gX6_free f then (1, goF f j (gX6_wants f j)) else (1, goF f j (gX6_free f)))) := by
  unfold gX6_starts
  simp only [ite_up]
  rfl
theorem go3_oF {f : FS} {j i k : Nat} {p : Int32} (hk : k < 9) : oF (go3 f j p) i k = if i = j then (if k = 3 then 1 else if k = 4 then p else if k = 5 then gX6_works f j p else oF f j k) else oF f i k := by
  have ew : gX6_works (gX6_sets (gX6_sets f j 3 1) j 4 p) j p = gX6_works f j p := works_ext (fun m hm => by rw [oF_sets (by decide) (by omega), oF_sets (by decide) (by omega), if_neg (by omega), if_neg (by omega)])
  unfold go3
  rw [ew, oF_sets (by decide) hk, oF_sets (by decide) hk, oF_sets (by decide) hk]
  by_cases h : i = j
  · subst h
    by_cases h5 : k = 5
    · subst h5; simp
    · by_cases h4 : k = 4
      · subst h4; simp
      · by_cases h3 : k = 3
        · subst h3; simp
        · simp [h5, h4, h3]
  · simp [h]
theorem go3_f {f : FS} {j i : Nat} {p : Int32} (hi : i < 9) : go3 f j p i = f i := by
  unfold go3
  rw [f_sets hi, f_sets hi, f_sets hi]
theorem goF_oF {f : FS} {j i k : Nat} {p : Int32} (hk : k < 9) : oF (goF f j p) i k = if i = j then (if k = 3 then 1 else if k = 4 then p else if k = 5 then gX6_works f j p else oF f j k) else oF f i k := by
  unfold goF
  rw [oF_upd (by decide), go3_oF hk]
theorem goF_f {f : FS} {j i : Nat} {p : Int32} (hi : i < 9) (h5 : i ≠ 5) : goF f j p i = f i := by
  unfold goF
  rw [f_upd, if_neg h5, go3_f hi]
theorem go_mInv {f : FS} {j : Nat} {p : Int32} (hm : mInv f) (hj : j < nF f) (hp : (gX6_needs f j).toInt ≤ p.toInt ∧ p.toInt ≤ 500) : mInv (goF f j p) := by
  refine mInv_set hm hj (fun i hi => goF_f (by omega) (by omega)) (fun i hi k hk => by rw [goF_oF hk, if_neg hi]) ?_
  have hJ := hm.2 j hj
  have hn := mJ_n hJ
  have e : ∀ k, k < 3 → oF (goF f j p) j k = oF f j k := fun k hk => by rw [goF_oF (by omega), if_pos rfl, if_neg (by omega), if_neg (by omega), if_neg (by omega)]
  have e3 : oF (goF f j p) j 3 = 1 := by rw [goF_oF (by omega), if_pos rfl, if_pos rfl]
  have e4 : oF (goF f j p) j 4 = p := by rw [goF_oF (by omega), if_pos rfl, if_neg (by omega), if_pos rfl]
  have e5 : oF (goF f j p) j 5 = gX6_works f j p := by rw [goF_oF (by omega), if_pos rfl, if_neg (by omega), if_neg (by omega), if_pos rfl]
  have hw := works_bd (mJ_w hJ) (d := p) (by omega)
  change 1 ≤ (gX6_works f j p).toInt ∧ (gX6_works f j p).toInt ≤ 400000 at hw
  unfold mJ
  rw [needs_ext e, works_ext e, e 0 (by decide), e 1 (by decide), e 2 (by decide), e3, e4, e5]
  refine ⟨hJ.1, hJ.2.1, hJ.2.2.1, Or.inr (Or.inl rfl), fun _ => ⟨hp.1, hp.2, hw.1, ?_⟩, fun h => absurd rfl h⟩
  have h1 : 1 * (gX6_works f j p).toInt ≤ (501 - p.toInt) * (gX6_works f j p).toInt := Int.mul_le_mul_of_nonneg_right (by omega) (by omega)
  omega
theorem wcnt_ext {f g : FS} {n : Nat} (h : ∀ i, i < n → oF g i 3 = oF f i 3) : wcnt g n = wcnt f n := by
  induction n with
  | zero => rfl
  | succ n ih =>
    show wcnt g n + _ = wcnt f n + _
    rw [ih (fun i hi => h i (by omega)), h n (by omega)]
theorem wcnt_dn {f g : FS} {n j : Nat} (hj : j < n) (h0 : oF f j 3 = 0) (h1 : oF g j 3 = 1) (h : ∀ i, i < n → i ≠ j → oF g i 3 = oF f i 3) : wcnt g n + 1 = wcnt f n := by
  induction n with
  | zero => omega
  | succ n ih =>
    show wcnt g n + _ + 1 = wcnt f n + _
    by_cases hn : j = n
    · subst hn
      rw [wcnt_ext (fun i hi => h i (by omega) (by omega)), h0, h1, if_pos rfl, if_neg (by decide)]
    · rw [← ih (by omega) (fun i hi hne => h i (by omega) hne), h n (by omega) (by omega)]
      omega
theorem st_enough {f : FS} {j : Nat} (hm : mInv f) (hj : j < 16) (h1 : gX6_free f < gX6_needs f j) (h2 : ¬ gX6_free f + gX6_spares f < gX6_needs f j) : enough f (gX6_needs f j - gX6_free f) := by
  have hf := free_Z hm
  have hs := (spares_Z hm).2
  rw [x_ilt] at h1
  rw [x_ilt, ia (by omega) (by omega)] at h2
  unfold enough
  have := (gX6_needs f j).toInt_lt
  rw [isb (by omega) (by omega)]
  omega
theorem needs_any {f : FS} {j : Nat} (hm : mInv f) (hj : j < 16) : 3 ≤ (gX6_needs f j).toInt ∧ (gX6_needs f j).toInt ≤ 22 := by
  rcases Nat.lt_or_ge j (nF f) with h | h
  · exact mJ_n (hm.2 j h)
  · have h1 := hm.1.2.2.2.2.2 j h hj
    unfold gX6_needs
    simp only [gX6_of_eq]
    rw [h1 0 (by decide), h1 1 (by decide), h1 2 (by decide)]
    decide
theorem wants_any {f : FS} {j : Nat} (hm : mInv f) (hj : j < 16) : (gX6_needs f j).toInt ≤ (gX6_wants f j).toInt ∧ (gX6_wants f j).toInt ≤ 300 := by
  rcases Nat.lt_or_ge j (nF f) with h | h
  · exact mJ_wt (hm.2 j h)
  · have h1 := hm.1.2.2.2.2.2 j h hj
    unfold gX6_needs gX6_wants
    simp only [gX6_of_eq]
    rw [h1 0 (by decide), h1 1 (by decide), h1 2 (by decide)]
    decide
theorem st_pfree {f : FS} {j : Nat} (hm : mInv f) (hj : j < 16) (h1 : ¬ gX6_free f < gX6_needs f j) : xP3 (gX6_free f) := by
  have hf := free_Z hm
  have hn := needs_any hm hj
  rw [x_ilt] at h1
  exact ⟨by omega, by omega⟩
theorem st_pwant {f : FS} {j : Nat} (hm : mInv f) (hj : j < 16) : xP3 (gX6_wants f j) := by
  have hn := needs_any hm hj
  have hw := wants_any hm hj
  exact ⟨by omega, by omega⟩
theorem st_pneed {f : FS} {j : Nat} (hm : mInv f) (hj : j < 16) : xP3 (gX6_needs f j) := by
  have hn := needs_any hm hj
  exact ⟨by omega, by omega⟩
/-! the one at a rank -/
def atR (f : FS) (a : Int32) (j : Nat) : Prop := oF f j 3 = 0 ∧ gX6_rankOf f j = a
theorem rk_L {f : FS} {a : Int32} : ∀ fu i, (gX6_ranked_L2 f a fu i = -5 ∧ ∀ j, i ≤ j → j < i + fu → ¬ atR f a j) ∨ ∃ j, i ≤ j ∧ j < i + fu ∧ gX6_ranked_L2 f a fu i = nI j ∧ atR f a j ∧ ∀ k, i ≤ k → k < j → ¬ atR f a k := by
  intro fu
  induction fu with
  | zero => intro i; exact Or.inl ⟨rfl, fun j h1 h2 => by omega⟩
  | succ fu ih =>
    intro i
    rw [gX6_ranked_L2]
    by_cases h : atR f a i
    · rw [if_neg (fun e => is_ne.mp e h.1), if_pos h.2]
      exact Or.inr ⟨i, Nat.le_refl i, by omega, rfl, h, fun k h1 h2 => by omega⟩
    · have e : (if gX6_is f i 0 = 0 then gX6_ranked_L2 f a fu (i + 1) else if gX6_rankOf f i = a then nI i else gX6_ranked_L2 f a fu (i + 1)) = gX6_ranked_L2 f a fu (i + 1) := by
        split
        · rfl
        · rename_i h1
          split
          · rename_i h2
            exact absurd ⟨Decidable.not_not.mp (fun z => h1 (is_ne.mpr z)), h2⟩ h
          · rfl
      rw [e]
      rcases ih (i + 1) with ⟨h1, h2⟩ | ⟨j, h1, h2, h3, h4, h5⟩
      · refine Or.inl ⟨h1, fun j h3 h4 => ?_⟩
        by_cases hj : j = i
        · subst hj; exact h
        · exact h2 j (by omega) (by omega)
      · refine Or.inr ⟨j, by omega, by omega, h3, h4, fun k h6 h7 => ?_⟩
        by_cases hk : k = i
        · subst hk; exact h
        · exact h5 k (by omega) h7
theorem rk_cases {f : FS} {a : Int32} (hm : mInv f) : (gX6_ranked f a = -5 ∧ ∀ j, j < nF f → ¬ atR f a j) ∨ ∃ j, j < nF f ∧ gX6_ranked f a = nI j ∧ atR f a j ∧ ∀ k, k < j → ¬ atR f a k := by
  rcases rk_L (f := f) (a := a) (nF f) 0 with ⟨h1, h2⟩ | ⟨j, -, h2, h3, h4, h5⟩
  · exact Or.inl ⟨h1, fun j hj => h2 j (Nat.zero_le _) (by omega)⟩
  · exact Or.inr ⟨j, by omega, h3, h4, fun k hk => h5 k (Nat.zero_le _) hk⟩
theorem nI_ne5 {j : Nat} (h : j < 2 ^ 31) : ¬ nI j = -5 := by
  rw [i_eq, nI_toInt h, show (-5 : Int32).toInt = -5 from rfl]
  omega
theorem rk_some {f : FS} {x : Int32} (hm : mInv f) (hx : x = gX6_ranked f 0) (h : ¬ x = (-5)) : x = nI x.toNatClampNeg ∧ x.toNatClampNeg < 16 ∧ x.toNatClampNeg < (f 4).toNatClampNeg ∧ oF f x.toNatClampNeg 3 = 0 := by
  subst hx
  rcases rk_cases (a := 0) hm with ⟨h1, -⟩ | ⟨j, h1, h2, h3, -⟩
  · exact absurd h1 h
  · have hn := n_le hm
    rw [h2, nI_clamp (by omega)]
    exact ⟨rfl, by omega, h1, h3.1⟩
theorem wcnt_pos {f : FS} {n j : Nat} (hj : j < n) (h0 : oF f j 3 = 0) : 0 < wcnt f n := by
  induction n with
  | zero => omega
  | succ n ih =>
    show 0 < wcnt f n + _
    by_cases hn : j = n
    · subst hn
      rw [h0, if_pos rfl]
      omega
    · have := ih (by omega)
      omega
theorem rk_none {f : FS} {x : Int32} (hm : mInv f) (hx : x = gX6_ranked f 0) (h : wcnt f (f 4).toNatClampNeg ≤ 0) : x = (-5) := by
  subst hx
  rcases rk_cases (a := 0) hm with ⟨h1, -⟩ | ⟨j, h1, h2, h3, -⟩
  · exact h1
  · have := wcnt_pos h1 h3.1
    exact absurd h (Nat.not_le_of_lt this)
theorem wcnt_len {f : FS} : ∀ n, wcnt f n ≤ n := by
  intro n
  induction n with
  | zero => exact Nat.le_refl _
  | succ n ih =>
    show wcnt f n + _ ≤ n + 1
    split <;> omega
theorem wcnt_le {f : FS} (hm : mInv f) : wcnt f (f 4).toNatClampNeg ≤ 16 := Nat.le_trans (wcnt_len _) (n_le hm)
/-- a start that is one: what it does -/
theorem st_cases {f : FS} {j : Nat} (hm : mInv f) (hj : j < nF f) : (gX6_starts f j = (0, f)) ∨ ∃ g p, gX6_starts f j = (1, goF g j p) ∧ mInv g ∧ abK f g ∧ (gX6_needs g j).toInt ≤ p.toInt ∧ p.toInt ≤ 500 := by
  have hn16 := n_le hm
  have hn := needs_any hm (j := j) (by omega)
  have hw := wants_any hm (j := j) (by omega)
  rw [starts_eq]
  split
  · rename_i h1
    split
    · split
      · exact Or.inl rfl
      · split
        · exact Or.inl rfl
        · rename_i h2
          have he := st_enough hm (j := j) (by omega) h1 h2
          have hi := ab_inv hm he
          have en : gX6_needs (gX6_asksBack f (gX6_needs f j - gX6_free f)) j = gX6_needs f j := needs_ext (fun m hm => hi.2.2 j m (by omega) (by omega) (by omega) (by omega))
          refine Or.inr ⟨_, _, rfl, hi.1, hi.2, ?_, by omega⟩
          rw [en]
          omega
    · exact Or.inl rfl
  · rename_i h1
    rw [x_ilt] at h1
    have hf := free_Z hm
    split
    · exact Or.inr ⟨_, _, rfl, hm, abK.rfl', by omega, by omega⟩
    · exact Or.inr ⟨_, _, rfl, hm, abK.rfl', by omega, by omega⟩
theorem gt_step {f : FS} {x : Int32} (hm : mInv f) (hx : x = nI x.toNatClampNeg ∧ x.toNatClampNeg < 16 ∧ x.toNatClampNeg < (f 4).toNatClampNeg ∧ oF f x.toNatClampNeg 3 = 0) (h : ¬ (gX6_starts f x.toNatClampNeg).1 = 0) :
    mInv (gX6_starts f x.toNatClampNeg).2 ∧ wcnt (gX6_starts f x.toNatClampNeg).2 ((gX6_starts f x.toNatClampNeg).2 4).toNatClampNeg < wcnt f (f 4).toNatClampNeg := by
  obtain ⟨-, h16, hn, hw⟩ := hx
  generalize x.toNatClampNeg = j at *
  rcases st_cases hm hn with e | ⟨g, p, e, hg, hk, hp⟩
  · rw [e] at h
    exact absurd rfl h
  · rw [e]
    have e4 : g 4 = f 4 := hk.1 4 (by decide)
    have hj : j < nF g := by unfold nF; rw [e4]; exact hn
    refine ⟨go_mInv hg hj hp, ?_⟩
    show wcnt (goF g j p) (goF g j p 4).toNatClampNeg < _
    rw [goF_f (by decide) (by decide), e4]
    have := wcnt_dn (f := f) (g := goF g j p) hn hw (by rw [goF_oF (by decide), if_pos rfl, if_pos rfl]) (fun i hi hne => by rw [goF_oF (by decide), if_neg hne]; exact hk.2 i 3 (by decide) (by decide) (by decide) (by decide))
    omega
