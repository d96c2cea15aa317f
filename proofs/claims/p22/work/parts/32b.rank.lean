/-! ===== ranks in the queue ===== -/
def cB (p : Nat → Bool) : Nat → Nat
  | 0 => 0
  | n + 1 => cB p n + (if p n = true then 1 else 0)
theorem cB_le {p q : Nat → Bool} {n : Nat} (h : ∀ i, i < n → p i = true → q i = true) : cB p n ≤ cB q n := by
  induction n with
  | zero => exact Nat.le_refl _
  | succ n ih =>
    show cB p n + _ ≤ cB q n + _
    have h1 := ih (fun i hi => h i (by omega))
    by_cases hp : p n = true
    · rw [if_pos hp, if_pos (h n (by omega) hp)]; omega
    · rw [if_neg hp]; omega
theorem cB_n {p : Nat → Bool} : ∀ n, cB p n ≤ n := by
  intro n
  induction n with
  | zero => exact Nat.le_refl _
  | succ n ih =>
    show cB p n + _ ≤ n + 1
    split <;> omega
theorem cB_add {p q : Nat → Bool} {n a : Nat} (ha : a < n) (hp : ¬ p a = true) (hq : q a = true) (h : ∀ i, i < n → i ≠ a → p i = q i) : cB q n = cB p n + 1 := by
  induction n with
  | zero => omega
  | succ n ih =>
    show cB q n + _ = cB p n + _ + 1
    by_cases e : a = n
    · subst e
      rw [if_pos hq, if_neg hp]
      have : cB q a = cB p a := Nat.le_antisymm (cB_le (fun i hi hh => by rw [h i (by omega) (by omega)]; exact hh)) (cB_le (fun i hi hh => by rw [← h i (by omega) (by omega)]; exact hh))
      omega
    · rw [ih (by omega) (fun i hi hne => h i (by omega) hne), h n (by omega) (by omega)]
      omega
theorem cB_ex {p q : Nat → Bool} {n : Nat} (h : cB p n < cB q n) : ∃ i, i < n ∧ q i = true ∧ ¬ p i = true := by
  refine Classical.byContradiction fun z => ?_
  have := cB_le (p := q) (q := p) (n := n) (fun i hi hq => Classical.byContradiction fun hp => z ⟨i, hi, hq, hp⟩)
  omega
theorem min_ex {p : Nat → Bool} {k : Nat → Int} : ∀ n, (∃ i, i < n ∧ p i = true) → ∃ m, m < n ∧ p m = true ∧ ∀ i, i < n → p i = true → k m ≤ k i := by
  intro n
  induction n with
  | zero => rintro ⟨i, hi, -⟩; omega
  | succ n ih =>
    rintro ⟨i, hi, hp⟩
    by_cases e : ∃ i, i < n ∧ p i = true
    · obtain ⟨m, h1, h2, h3⟩ := ih e
      by_cases hn : p n = true ∧ k n < k m
      · refine ⟨n, by omega, hn.1, fun i hi hp => ?_⟩
        by_cases hin : i = n
        · subst hin; exact Int.le_refl _
        · have := h3 i (by omega) hp
          omega
      · refine ⟨m, by omega, h2, fun i hi hp => ?_⟩
        by_cases hin : i = n
        · subst hin
          rcases Int.lt_or_le (k i) (k m) with hl | hl
          · exact absurd ⟨hp, hl⟩ hn
          · exact hl
        · exact h3 i (by omega) hp
    · have hin : i = n := by
        rcases Nat.lt_or_ge i n with hl | hl
        · exact absurd ⟨i, hl, hp⟩ e
        · omega
      subst hin
      refine ⟨i, by omega, hp, fun j hj hpj => ?_⟩
      by_cases hji : j = i
      · subst hji; exact Int.le_refl _
      · exact absurd ⟨j, by omega, hpj⟩ e
/-- in a state -/
def stB (f : FS) (a : Int32) (i : Nat) : Bool := decide (oF f i 3 = a)
/-- waits and is ahead of j -/
def aB (f : FS) (j i : Nat) : Bool := decide (oF f i 3 = 0 ∧ key f i < key f j)
def rkN (f : FS) (j : Nat) : Nat := cB (aB f j) (nF f)
theorem sS_cB {g : Nat → Int32} {p : Nat → Bool} {n : Nat} (h : ∀ i, i < n → g i = if p i = true then 1 else 0) : sS g n = nI (cB p n) := by
  induction n with
  | zero => rfl
  | succ n ih =>
    show sS g n + g n = nI (cB p n + _)
    rw [ih (fun i hi => h i (by omega)), h n (by omega)]
    by_cases hp : p n = true
    · rw [if_pos hp, if_pos hp, nI_1]
    · rw [if_neg hp, if_neg hp, Int32.add_zero, Nat.add_zero]
theorem rank_N {f : FS} {j : Nat} (hm : mInv f) (hj : j < nF f) : gX6_rankOf f j = nI (rkN f j) := by
  rw [rankOf_eq]
  refine sS_cB (fun i hi => ?_)
  unfold bAh aB
  by_cases c : gX6_is f i 0 = 0
  · rw [if_pos c, if_neg (fun z => is_ne.mp c (of_decide_eq_true z).1)]
  · rw [if_neg c]
    have c3 : oF f i 3 = 0 := Decidable.not_not.mp (fun z => c (is_ne.mpr z))
    by_cases d : gX6_isAhead f i j = 0
    · rw [if_pos d, if_neg (fun z => (ahead_iff hm hi hj).mpr (of_decide_eq_true z).2 d)]
    · rw [if_neg d, if_pos (decide_eq_true ⟨c3, (ahead_iff hm hi hj).mp d⟩)]
theorem many_N {f : FS} {a : Int32} : gX6_manyWith f a = nI (cB (stB f a) (nF f)) := by
  rw [manyWith_eq]
  refine sS_cB (fun i _ => ?_)
  unfold b01 stB
  by_cases c : gX6_is f i a = 0
  · rw [if_pos c, if_neg (fun z => is_ne.mp c (of_decide_eq_true z))]
  · rw [if_neg c, if_pos (decide_eq_true (Decidable.not_not.mp (fun z => c (is_ne.mpr z))))]
theorem rk_le16 {f : FS} {j : Nat} (hm : mInv f) : rkN f j ≤ 16 := Nat.le_trans (cB_n _) (n_le hm)
theorem rk_lt {f : FS} {j : Nat} (hj : j < nF f) (h0 : oF f j 3 = 0) : rkN f j < cB (stB f 0) (nF f) := by
  have h1 : cB (fun i => aB f j i || decide (i = j)) (nF f) = rkN f j + 1 := cB_add hj (fun z => by have := (of_decide_eq_true z).2; omega) (by simp) (fun i _ hne => by simp [hne])
  have h2 : cB (fun i => aB f j i || decide (i = j)) (nF f) ≤ cB (stB f 0) (nF f) := cB_le (fun i _ h => by
    rcases Bool.or_eq_true_iff.mp h with z | z
    · exact decide_eq_true (of_decide_eq_true z).1
    · have z := of_decide_eq_true z
      subst z
      exact decide_eq_true h0)
  omega
theorem rk_mono {f : FS} {i j : Nat} (h : rkN f i < rkN f j) : key f i < key f j := by
  rcases Int.lt_or_le (key f i) (key f j) with hl | hl
  · exact hl
  · have : rkN f j ≤ rkN f i := cB_le (fun a _ z => by
      have z := of_decide_eq_true z
      exact decide_eq_true ⟨z.1, by omega⟩)
    omega
theorem rk_ex {f : FS} (hm : mInv f) : ∀ k, k < cB (stB f 0) (nF f) → ∃ j, j < nF f ∧ oF f j 3 = 0 ∧ rkN f j = k := by
  intro k
  induction k with
  | zero =>
    intro hk
    obtain ⟨i, hi, hq, -⟩ := cB_ex (p := fun _ => false) (q := stB f 0) (n := nF f) (by
      have : cB (fun _ => false) (nF f) = 0 := by
        generalize nF f = n
        induction n with
        | zero => rfl
        | succ n ih => show cB _ n + _ = 0; rw [ih, if_neg Bool.false_ne_true]
      omega)
    obtain ⟨m, h1, h2, h3⟩ := min_ex (p := stB f 0) (k := key f) (nF f) ⟨i, hi, hq⟩
    refine ⟨m, h1, of_decide_eq_true h2, ?_⟩
    rcases Nat.eq_zero_or_pos (rkN f m) with hz | hz
    · exact hz
    · obtain ⟨a, ha, hb, -⟩ := cB_ex (p := fun _ => false) (q := aB f m) (n := nF f) (by
        have : cB (fun _ => false) (nF f) = 0 := by
          generalize nF f = n
          induction n with
          | zero => rfl
          | succ n ih => show cB _ n + _ = 0; rw [ih, if_neg Bool.false_ne_true]
        unfold rkN at hz
        omega)
      have hb := of_decide_eq_true hb
      have := h3 a ha (decide_eq_true hb.1)
      omega
  | succ k ih =>
    intro hk
    obtain ⟨j, hj, h0, hr⟩ := ih (by omega)
    have h1 : cB (fun i => aB f j i || decide (i = j)) (nF f) = rkN f j + 1 := cB_add hj (fun z => by have := (of_decide_eq_true z).2; omega) (by simp) (fun i _ hne => by simp [hne])
    obtain ⟨i, hi, hq, hp⟩ := cB_ex (p := fun i => aB f j i || decide (i = j)) (q := stB f 0) (n := nF f) (by omega)
    have hgt : ∀ i, i < nF f → oF f i 3 = 0 → ¬ (aB f j i || decide (i = j)) = true → key f j < key f i := fun i hi h0i hp => by
      have n1 : ¬ key f i < key f j := fun z => hp (Bool.or_eq_true_iff.mpr (Or.inl (decide_eq_true ⟨h0i, z⟩)))
      have n2 : ¬ i = j := fun z => hp (Bool.or_eq_true_iff.mpr (Or.inr (decide_eq_true z)))
      have n3 : ¬ key f i = key f j := fun z => n2 (key_inj hm hi hj z)
      omega
    obtain ⟨m, m1, m2, m3⟩ := min_ex (p := fun i => decide (oF f i 3 = 0 ∧ key f j < key f i)) (k := key f) (nF f) ⟨i, hi, decide_eq_true ⟨of_decide_eq_true hq, hgt i hi (of_decide_eq_true hq) hp⟩⟩
    have m2 := of_decide_eq_true m2
    refine ⟨m, m1, m2.1, ?_⟩
    have : rkN f m = rkN f j + 1 := by
      rw [← h1]
      unfold rkN
      refine Nat.le_antisymm (cB_le (fun a ha z => ?_)) (cB_le (fun a ha z => ?_))
      · have z := of_decide_eq_true z
        refine Classical.byContradiction fun w => ?_
        have := m3 a ha (decide_eq_true ⟨z.1, hgt a ha z.1 w⟩)
        omega
      · rcases Bool.or_eq_true_iff.mp z with z | z
        · have z := of_decide_eq_true z
          exact decide_eq_true ⟨z.1, by omega⟩
        · have z := of_decide_eq_true z
          subst z
          exact decide_eq_true ⟨h0, m2.2⟩
    omega
theorem q_at {f : FS} {k : Nat} (hm : mInv f) (hk : k < cB (stB f 0) (nF f)) : ∃ j, j < nF f ∧ gX6_queue f (nI k) = nI j ∧ oF f j 3 = 0 ∧ rkN f j = k := by
  have hn := n_le hm
  have hc := cB_n (p := stB f 0) (nF f)
  unfold gX6_queue
  rw [if_pos (show (0 : Int32) ≤ nI k by rw [x_ile, i_0, nI_toInt (by omega)]; omega)]
  rcases rk_cases (a := nI k) hm with ⟨-, r2⟩ | ⟨j, hj, r1, r2, -⟩
  · obtain ⟨j, hj, h0, hr⟩ := rk_ex hm k hk
    exact absurd ⟨h0, by rw [rank_N hm hj, hr]⟩ (r2 j hj)
  · refine ⟨j, hj, r1, r2.1, ?_⟩
    have h2 := r2.2
    have h16 := rk_le16 (j := j) hm
    rw [rank_N hm hj, i_eq, nI_toInt (by omega), nI_toInt (by omega)] at h2
    omega
theorem q_end {f : FS} (hm : mInv f) : gX6_queue f (nI (cB (stB f 0) (nF f))) = -5 := by
  have hn := n_le hm
  have hc := cB_n (p := stB f 0) (nF f)
  unfold gX6_queue
  rw [if_pos (show (0 : Int32) ≤ nI (cB (stB f 0) (nF f)) by rw [x_ile, i_0, nI_toInt (by omega)]; omega)]
  rcases rk_cases (a := nI (cB (stB f 0) (nF f))) hm with ⟨r1, -⟩ | ⟨j, hj, r1, r2, -⟩
  · exact r1
  · have h2 := r2.2
    have h16 := rk_le16 (j := j) hm
    have hl := rk_lt hj r2.1
    rw [rank_N hm hj, i_eq, nI_toInt (by omega), nI_toInt (by omega)] at h2
    omega
theorem key_1 {f : FS} {a j : Nat} (hm : mInv f) (ha : a < nF f) (hj : j < nF f) (h1 : f 1 = 1) (h : key f a < key f j) : gX6_needs f a < gX6_needs f j ∨ (gX6_needs f a = gX6_needs f j ∧ a < j) := by
  have hn := n_le hm
  unfold key at h
  rw [if_pos h1, if_pos h1] at h
  rw [x_ilt, i_eq]
  omega
theorem key_0 {f : FS} {a j : Nat} (h1 : ¬ f 1 = 1) (h : key f a < key f j) : a < j := by
  unfold key at h
  rw [if_neg h1, if_neg h1] at h
  omega
theorem isJ {f : FS} {j : Nat} (hm : mInv f) (hj : j < nF f) : ¬ gX6_isJoin f (nI j) = 0 ∧ (nI j).toNatClampNeg = j := by
  have hn := n_le hm
  exact ⟨(ij_iff hm).mpr (by rw [nI_toInt (by omega)]; omega), nI_clamp (by omega)⟩
theorem why_q {f : FS} {j : Nat} (hm : mInv f) (hj : j < nF f) (h0 : oF f j 3 = 0) : gX6_why f (nI j) = if f 0 < gX6_needs f j then 1 else if rkN f j = 0 then 3 else 2 := by
  obtain ⟨e1, e2⟩ := isJ hm hj
  have h16 := rk_le16 (j := j) hm
  unfold gX6_why
  rw [if_neg e1, e2, if_neg (fun z => is_ne.mp z h0), rank_N hm hj]
  by_cases c : f 0 < gX6_needs f j
  · rw [if_pos c, if_neg (by rw [x_ile]; rw [x_ilt] at c; omega)]
  · rw [if_neg c, if_pos (by rw [x_ile]; rw [x_ilt] at c; omega)]
    by_cases d : rkN f j = 0
    · rw [if_pos d, d, if_pos (by decide)]
    · rw [if_neg d, if_neg (by rw [x_ile, i_0, nI_toInt (by omega)]; omega)]
theorem why_n {f : FS} {j : Nat} (hm : mInv f) (hj : j < nF f) (h0 : ¬ oF f j 3 = 0) : gX6_why f (nI j) = 0 := by
  obtain ⟨e1, e2⟩ := isJ hm hj
  unfold gX6_why
  rw [if_neg e1, e2, if_pos (is_ne.mpr h0)]
theorem rk0_at {f : FS} {j : Nat} (hm : mInv f) (hj : j < nF f) (h0 : oF f j 3 = 0) (h : rkN f j = 0) : atR f 0 j := ⟨h0, by rw [rank_N hm hj, h]; rfl⟩
