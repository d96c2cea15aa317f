/-! ===== the pool's reads and the reference's ===== -/
theorem set_0 {P : PS} : gX4_setting P 0 = P.1 0 := rfl
theorem set_1 {P : PS} : gX4_setting P 1 = P.1 1 := rfl
theorem set_2 {P : PS} : gX4_setting P 2 = P.1 2 := rfl
theorem set_3 {P : PS} : gX4_setting P 3 = P.1 3 := rfl
theorem cgr_L {P : PS} : ∀ fu i, gX4_granted_L13 P fu i (sS (fun j => P.2.2 j 1) i) = sS (fun j => P.2.2 j 1) (i + fu) := by
  intro fu
  induction fu with
  | zero => intro i; rfl
  | succ fu ih =>
    intro i
    have h := ih (i + 1)
    rw [show i + (fu + 1) = i + 1 + fu by omega]
    exact h
theorem cgr_eq {P : PS} : gX4_granted P = sS (fun j => P.2.2 j 1) 16 := cgr_L (P := P) 16 0
theorem csu_L {P : PS} : ∀ fu i, gX4_surplus_L13 P fu i (sS (fun j => gX1_surplus (nI j) (P.2.2 j)) i) = sS (fun j => gX1_surplus (nI j) (P.2.2 j)) (i + fu) := by
  intro fu
  induction fu with
  | zero => intro i; rfl
  | succ fu ih =>
    intro i
    have h := ih (i + 1)
    rw [show i + (fu + 1) = i + 1 + fu by omega]
    exact h
theorem csu_eq {P : PS} : gX4_surplus P = sS (fun j => gX1_surplus (nI j) (P.2.2 j)) 16 := csu_L (P := P) 16 0
theorem csp_L {P : PS} : ∀ fu i, gX4_spilling_L13 P fu i (sS (fun j => b01 (gX1_spills (nI j) (P.2.2 j))) i) = sS (fun j => b01 (gX1_spills (nI j) (P.2.2 j))) (i + fu) := by
  intro fu
  induction fu with
  | zero => intro i; rfl
  | succ fu ih =>
    intro i
    have h := ih (i + 1)
    rw [show i + (fu + 1) = i + 1 + fu by omega, gX4_spilling_L13, ← h]
    show _ = gX4_spilling_L13 P fu (i + 1) (sS _ i + (if gX1_spills (nI i) (P.2.2 i) = 0 then 0 else 1))
    split <;> rfl
theorem csp_eq {P : PS} : gX4_spilling P = sS (fun j => b01 (gX1_spills (nI j) (P.2.2 j))) 16 := csp_L (P := P) 16 0
theorem cji_L {P : PS} {a : Int32} : ∀ fu i, gX4_joinsIn_L14 P a fu i (sS (fun j => b01 (gX1_isIn (nI j) (P.2.2 j) a)) i) = sS (fun j => b01 (gX1_isIn (nI j) (P.2.2 j) a)) (i + fu) := by
  intro fu
  induction fu with
  | zero => intro i; rfl
  | succ fu ih =>
    intro i
    have h := ih (i + 1)
    rw [show i + (fu + 1) = i + 1 + fu by omega, gX4_joinsIn_L14, ← h]
    show _ = gX4_joinsIn_L14 P a fu (i + 1) (sS _ i + (if gX1_isIn (nI i) (P.2.2 i) a = 0 then 0 else 1))
    split <;> rfl
theorem cji_eq {P : PS} {a : Int32} : gX4_joinsIn P a = sS (fun j => b01 (gX1_isIn (nI j) (P.2.2 j) a)) 16 := cji_L (P := P) 16 0
/-- one that waits and is ahead of a -/
def cAh (P : PS) (a i : Nat) : Int32 := if gX1_isIn (nI i) (P.2.2 i) 0 = 0 then 0 else if gX4_isAhead P i a = 0 then 0 else 1
theorem cro_L {P : PS} {a : Nat} : ∀ fu i, gX4_rankOf_L14 P a fu i (sS (cAh P a) i) = sS (cAh P a) (i + fu) := by
  intro fu
  induction fu with
  | zero => intro i; rfl
  | succ fu ih =>
    intro i
    have h := ih (i + 1)
    rw [show i + (fu + 1) = i + 1 + fu by omega, gX4_rankOf_L14, ← h]
    show _ = gX4_rankOf_L14 P a fu (i + 1) (sS (cAh P a) i + cAh P a i)
    unfold cAh
    split
    · rw [Int32.add_zero]
    · split
      · rw [Int32.add_zero]
      · rfl
theorem cro_eq {P : PS} {a : Nat} : gX4_rankOf P a = sS (cAh P a) 16 := cro_L (P := P) 16 0
theorem eq_granted {f : FS} {P : PS} (h : RP f P) (hm : mInv f) : gX4_granted P = gX6_granted f := by
  rw [cgr_eq, granted_eq]
  exact sS_16 (n_le hm) (fun j hj => (h.2.1 j hj).2.1) (fun j h1 h2 => (h.2.2 j h1 h2).2.1)
theorem eq_surp {f : FS} {P : PS} (h : RP f P) (hm : mInv f) : gX4_surplus P = gX6_spares f := by
  rw [csu_eq, spares_eq]
  exact sS_16 (n_le hm) (fun j hj => eq_surplus (h.2.1 j hj)) (fun j h1 h2 => nin_surplus (h.2.2 j h1 h2))
theorem eq_spilling {f : FS} {P : PS} (h : RP f P) (hm : mInv f) : gX4_spilling P = gX6_spilling f := by
  rw [csp_eq, spilling_eq]
  exact sS_16 (n_le hm) (fun j hj => by rw [eq_spills (h.2.1 j hj)]) (fun j h1 h2 => by rw [nin_spills (h.2.2 j h1 h2)]; rfl)
theorem eq_many {f : FS} {P : PS} {a : Int32} (h : RP f P) (hm : mInv f) (ha : 0 ≤ a.toInt) : gX4_joinsIn P a = gX6_manyWith f a := by
  rw [cji_eq, manyWith_eq]
  exact sS_16 (n_le hm) (fun j hj => by rw [eq_isIn (h.2.1 j hj)]) (fun j h1 h2 => by rw [nin_isIn (h.2.2 j h1 h2) ha]; rfl)
theorem eq_free {f : FS} {P : PS} (h : RP f P) (hm : mInv f) : gX4_free P = gX6_free f := by
  have e : gX4_setting P 0 = f 0 := h.1.1.1
  unfold gX4_free gX6_free
  rw [e, eq_granted h hm]
  by_cases c : 0 < f 0 - gX6_granted f
  · rw [if_pos c, if_pos (Int32.le_of_lt c)]
  · rw [if_neg c]
    by_cases d : 0 ≤ f 0 - gX6_granted f
    · rw [if_pos d]
      rw [x_ilt, i_0] at c
      rw [x_ile, i_0] at d
      rw [i_eq, i_0]
      omega
    · rw [if_neg d]
/-! the order of the queue -/
/-- a number that is less for those ahead -/
def key (f : FS) (j : Nat) : Int := if f 1 = 1 then (gX6_needs f j).toInt * 16 + j else j
theorem key_inj {f : FS} {i j : Nat} (hm : mInv f) (hi : i < nF f) (hj : j < nF f) (h : key f i = key f j) : i = j := by
  have hn := n_le hm
  unfold key at h
  split at h <;> omega
theorem ahead_iff {f : FS} {i j : Nat} (hm : mInv f) (hi : i < nF f) (hj : j < nF f) : ¬ gX6_isAhead f i j = 0 ↔ key f i < key f j := by
  have hn := n_le hm
  have ni := mJ_n (hm.2 i hi)
  have nj := mJ_n (hm.2 j hj)
  have hs : (gX6_needs f i - gX6_needs f j).toInt = (gX6_needs f i).toInt - (gX6_needs f j).toInt := isb (by omega) (by omega)
  have ti := nI_toInt (n := i) (by omega)
  have tj := nI_toInt (n := j) (by omega)
  unfold gX6_isAhead key
  by_cases h1 : f 1 = 1
  · rw [if_pos h1, if_pos h1, if_pos h1]
    by_cases c : gX6_needs f i - gX6_needs f j < 0
    · rw [if_pos c]
      rw [x_ilt, hs, i_0] at c
      exact ⟨fun _ => by omega, fun _ => by decide⟩
    · rw [if_neg c]
      rw [x_ilt, hs, i_0] at c
      by_cases d : gX6_needs f i - gX6_needs f j = 0
      · rw [if_pos d]
        rw [i_eq, hs, i_0] at d
        by_cases e : nI j ≤ nI i
        · rw [if_pos e]
          rw [x_ile, ti, tj] at e
          exact ⟨fun z => absurd rfl z, fun z => by omega⟩
        · rw [if_neg e]
          rw [x_ile, ti, tj] at e
          exact ⟨fun _ => by omega, fun _ => by decide⟩
      · rw [if_neg d]
        rw [i_eq, hs, i_0] at d
        exact ⟨fun z => absurd rfl z, fun z => by omega⟩
  · rw [if_neg h1, if_neg h1, if_neg h1]
    by_cases e : nI j ≤ nI i
    · rw [if_pos e]
      rw [x_ile, ti, tj] at e
      exact ⟨fun z => absurd rfl z, fun z => by omega⟩
    · rw [if_neg e]
      rw [x_ile, ti, tj] at e
      exact ⟨fun _ => by omega, fun _ => by decide⟩
theorem eq_ahead {f : FS} {P : PS} {i j : Nat} (h : RP f P) (hm : mInv f) (hi : i < nF f) (hj : j < nF f) : gX4_isAhead P i j = gX6_isAhead f i j := by
  have ni := mJ_n (hm.2 i hi)
  have nj := mJ_n (hm.2 j hj)
  have hs : (gX6_needs f i - gX6_needs f j).toInt = (gX6_needs f i).toInt - (gX6_needs f j).toInt := isb (by omega) (by omega)
  have e1 : gX4_setting P 1 = f 1 := h.1.1.2.1
  have ei : gX1_need (nI i) (P.2.2 i) = gX6_needs f i := (h.2.1 i hi).2.2.2.2.2.2.2.2.2.1
  have ej : gX1_need (nI j) (P.2.2 j) = gX6_needs f j := (h.2.1 j hj).2.2.2.2.2.2.2.2.2.1
  unfold gX4_isAhead gX6_isAhead gX1_number
  rw [e1, ei, ej]
  by_cases h1 : f 1 = 1
  · rw [if_pos h1, if_pos h1]
    by_cases c : gX6_needs f i = gX6_needs f j
    · have c1 : ¬ gX6_needs f i - gX6_needs f j < 0 := by rw [x_ilt, hs, i_0, c]; omega
      have c2 : gX6_needs f i - gX6_needs f j = 0 := by rw [i_eq, hs, i_0, c]; omega
      rw [if_pos c, if_neg c1, if_pos c2]
    · rw [if_neg c]
      rw [i_eq] at c
      by_cases d : gX6_needs f j ≤ gX6_needs f i
      · rw [if_pos d]
        rw [x_ile] at d
        have c1 : ¬ gX6_needs f i - gX6_needs f j < 0 := by rw [x_ilt, hs, i_0]; omega
        have c2 : ¬ gX6_needs f i - gX6_needs f j = 0 := by rw [i_eq, hs, i_0]; omega
        rw [if_neg c1, if_neg c2]
      · rw [if_neg d]
        rw [x_ile] at d
        have c1 : gX6_needs f i - gX6_needs f j < 0 := by rw [x_ilt, hs, i_0]; omega
        rw [if_pos c1]
  · rw [if_neg h1, if_neg h1]
theorem eq_cAh {f : FS} {P : PS} {a : Nat} (h : RP f P) (hm : mInv f) (ha : a < nF f) : gX4_rankOf P a = gX6_rankOf f a := by
  rw [cro_eq, rankOf_eq]
  refine sS_16 (n_le hm) (fun j hj => ?_) (fun j h1 h2 => ?_)
  · unfold cAh bAh
    rw [eq_isIn (h.2.1 j hj), eq_ahead h hm hj ha]
  · unfold cAh
    rw [nin_isIn (h.2.2 j h1 h2) (by decide), if_pos rfl]
/-- a search beyond the joins that are -/
theorem atR_L {f : FS} {P : PS} {a : Int32} (h : RP f P) (hm : mInv f) : ∀ (m n i : Nat), i + m = nF f → i + m + n = 16 →
    (gX6_ranked_L2 f a m i = -5 ∧ gX4_atRank_L11 P a (m + n) i = none) ∨ ∃ j, j < nF f ∧ gX6_ranked_L2 f a m i = nI j ∧ gX4_atRank_L11 P a (m + n) i = some j := by
  intro m
  induction m with
  | zero =>
    intro n
    induction n with
    | zero => intro i h1 h2; exact Or.inl ⟨rfl, rfl⟩
    | succ n ih =>
      intro i h1 h2
      refine Or.inl ⟨rfl, ?_⟩
      rw [Nat.zero_add, gX4_atRank_L11, if_pos (nin_isIn (h.2.2 i (by omega) (by omega)) (by decide))]
      have key : ∀ (n i : Nat), nF f ≤ i → i + n = 16 → gX4_atRank_L11 P a n i = none := by
        intro n
        induction n with
        | zero => intro i _ _; rfl
        | succ n ih => intro i h3 h4; rw [gX4_atRank_L11, if_pos (nin_isIn (h.2.2 i (by omega) (by omega)) (by decide))]; exact ih (i + 1) (by omega) (by omega)
      exact key n (i + 1) (by omega) (by omega)
  | succ m ih =>
    intro n i h1 h2
    rw [show m + 1 + n = (m + n) + 1 by omega, gX6_ranked_L2, gX4_atRank_L11, eq_isIn (h.2.1 i (by omega)), eq_cAh h hm (by omega)]
    by_cases c : gX6_is f i 0 = 0
    · rw [if_pos c, if_pos c]; exact ih n (i + 1) (by omega) (by omega)
    · rw [if_neg c, if_neg c]
      by_cases d : gX6_rankOf f i = a
      · rw [if_pos d, if_pos d]; exact Or.inr ⟨i, by omega, rfl, rfl⟩
      · rw [if_neg d, if_neg d]; exact ih n (i + 1) (by omega) (by omega)
theorem eq_atR {f : FS} {P : PS} {a : Int32} (h : RP f P) (hm : mInv f) : (gX6_ranked f a = -5 ∧ gX4_atRank P a = none) ∨ ∃ j, j < nF f ∧ gX6_ranked f a = nI j ∧ gX4_atRank P a = some j := by
  have hn := n_le hm
  have := atR_L (a := a) h hm (nF f) (16 - nF f) 0 (by omega) (by omega)
  rw [show nF f + (16 - nF f) = 16 by omega] at this
  exact this
/-! the first in the queue -/
/-- the best of those below i that wait -/
def bst (f : FS) (i : Nat) (o : Option Nat) : Prop := (o = none ∧ ∀ j, j < i → ¬ oF f j 3 = 0) ∨ ∃ k, o = some k ∧ k < i ∧ oF f k 3 = 0 ∧ ∀ j, j < i → oF f j 3 = 0 → ¬ key f j < key f k
theorem fiq_L {f : FS} {P : PS} (h : RP f P) (hm : mInv f) : ∀ (m n i : Nat) (o : Option Nat), i + m = nF f → i + m + n = 16 → bst f i o → bst f (nF f) (gX4_firstInQueue_L13 P (m + n) i o) := by
  have out : ∀ (n i : Nat) (o : Option Nat), nF f ≤ i → i + n = 16 → gX4_firstInQueue_L13 P n i o = o := by
    intro n
    induction n with
    | zero =>
      intro i o _ _
      rw [gX4_firstInQueue_L13]
      cases o with
      | none => rfl
      | some k => rfl
    | succ n ih =>
      intro i o h1 h2
      rw [gX4_firstInQueue_L13]
      have hz := nin_isIn (n := nI i) (h.2.2 i h1 (by omega)) (a := 0) (by decide)
      cases o with
      | none => rw [if_pos rfl, if_pos hz]; exact ih (i + 1) none (by omega) (by omega)
      | some k => rw [if_neg (by simp), if_pos hz]; exact ih (i + 1) (some k) (by omega) (by omega)
  intro m
  induction m with
  | zero =>
    intro n i o h1 h2 hb
    rw [Nat.zero_add, out n i o (by omega) (by omega), ← h1]
    exact hb
  | succ m ih =>
    intro n i o h1 h2 hb
    have hi : i < nF f := by omega
    rw [show m + 1 + n = (m + n) + 1 by omega, gX4_firstInQueue_L13, eq_isIn (h.2.1 i hi)]
    rcases hb with ⟨rfl, hb⟩ | ⟨k, rfl, hk, hk0, hb⟩
    · rw [if_pos rfl]
      by_cases c : gX6_is f i 0 = 0
      · rw [if_pos c]
        refine ih n (i + 1) _ (by omega) (by omega) (Or.inl ⟨rfl, fun j hj => ?_⟩)
        by_cases hji : j = i
        · subst hji; exact is_ne.mp c
        · exact hb j (by omega)
      · rw [if_neg c]
        have c3 : oF f i 3 = 0 := Decidable.not_not.mp (fun z => c (is_ne.mpr z))
        refine ih n (i + 1) _ (by omega) (by omega) (Or.inr ⟨i, rfl, by omega, c3, fun j hj hj0 => ?_⟩)
        by_cases hji : j = i
        · subst hji; omega
        · exact absurd hj0 (hb j (by omega))
    · rw [if_neg (show ¬ some k = none by simp)]
      show bst f (nF f) (if gX6_is f i 0 = 0 then gX4_firstInQueue_L13 P (m + n) (i + 1) (some k) else if gX4_isAhead P i k = 0 then gX4_firstInQueue_L13 P (m + n) (i + 1) (some k) else gX4_firstInQueue_L13 P (m + n) (i + 1) (some i))
      rw [eq_ahead h hm hi (by omega)]
      by_cases c : gX6_is f i 0 = 0
      · rw [if_pos c]
        refine ih n (i + 1) _ (by omega) (by omega) (Or.inr ⟨k, rfl, by omega, hk0, fun j hj hj0 => ?_⟩)
        by_cases hji : j = i
        · subst hji; exact absurd hj0 (is_ne.mp c)
        · exact hb j (by omega) hj0
      · rw [if_neg c]
        have c3 : oF f i 3 = 0 := Decidable.not_not.mp (fun z => c (is_ne.mpr z))
        by_cases d : gX6_isAhead f i k = 0
        · rw [if_pos d]
          refine ih n (i + 1) _ (by omega) (by omega) (Or.inr ⟨k, rfl, by omega, hk0, fun j hj hj0 => ?_⟩)
          by_cases hji : j = i
          · subst hji; exact fun z => (ahead_iff hm hi (by omega)).mpr z d
          · exact hb j (by omega) hj0
        · rw [if_neg d]
          have dk := (ahead_iff hm hi (by omega)).mp d
          refine ih n (i + 1) _ (by omega) (by omega) (Or.inr ⟨i, rfl, by omega, c3, fun j hj hj0 => ?_⟩)
          by_cases hji : j = i
          · subst hji; omega
          · have := hb j (by omega) hj0
            omega
/-- none that waits is ahead of the first one -/
theorem rank0 {f : FS} {j : Nat} (hm : mInv f) (hj : j < nF f) : gX6_rankOf f j = 0 ↔ ∀ i, i < nF f → oF f i 3 = 0 → ¬ key f i < key f j := by
  have hn := n_le hm
  have hb : ∀ i, i < nF f → 0 ≤ (bAh f j i).toInt ∧ (bAh f j i).toInt ≤ 1000 := fun i _ => by
    unfold bAh
    (repeat' split) <;> decide
  have h1 : ∀ i, i < nF f → (0 < (bAh f j i).toInt ↔ oF f i 3 = 0 ∧ key f i < key f j) := fun i hi => by
    unfold bAh
    by_cases c : gX6_is f i 0 = 0
    · rw [if_pos c]
      exact ⟨fun z => absurd z (by decide), fun z => absurd z.1 (is_ne.mp c)⟩
    · rw [if_neg c]
      have c3 : oF f i 3 = 0 := Decidable.not_not.mp (fun z => c (is_ne.mpr z))
      by_cases d : gX6_isAhead f i j = 0
      · rw [if_pos d]
        exact ⟨fun z => absurd z (by decide), fun z => absurd d ((ahead_iff hm hi hj).mpr z.2)⟩
      · rw [if_neg d]
        exact ⟨fun _ => ⟨c3, (ahead_iff hm hi hj).mp d⟩, fun _ => by decide⟩
  rw [rankOf_eq, i_eq, i_0, sS_Z hn hb]
  constructor
  · intro h i hi h0 hk
    have := sZ_ge (g := fun i => (bAh f j i).toInt) hi (fun i hi => (hb i hi).1)
    have h2 := (h1 i hi).mpr ⟨h0, hk⟩
    have this : (bAh f j i).toInt ≤ sZ (fun i => (bAh f j i).toInt) (nF f) := this
    have h : sZ (fun i => (bAh f j i).toInt) (nF f) = 0 := h
    omega
  · intro h
    rcases Int.lt_or_le 0 (sZ (fun i => (bAh f j i).toInt) (nF f)) with h2 | h2
    · obtain ⟨i, hi, h3⟩ := sZ_pos h2
      have h4 := (h1 i hi).mp h3
      exact absurd h4.2 (h i hi h4.1)
    · have h3 := sZ_bd (g := fun i => (bAh f j i).toInt) (n := nF f) hb
      have h3 : 0 ≤ sZ (fun i => (bAh f j i).toInt) (nF f) := h3.1
      show sZ (fun i => (bAh f j i).toInt) (nF f) = 0
      omega
theorem eq_first {f : FS} {P : PS} (h : RP f P) (hm : mInv f) : (gX6_ranked f 0 = -5 ∧ gX4_firstInQueue P = none) ∨ ∃ j, j < nF f ∧ gX6_ranked f 0 = nI j ∧ gX4_firstInQueue P = some j ∧ oF f j 3 = 0 := by
  have hn := n_le hm
  have hb := fiq_L h hm (nF f) (16 - nF f) 0 none (by omega) (by omega) (Or.inl ⟨rfl, fun j hj => by omega⟩)
  rw [show nF f + (16 - nF f) = 16 by omega] at hb
  have hb : bst f (nF f) (gX4_firstInQueue P) := hb
  rcases rk_cases (a := 0) hm with ⟨r1, r2⟩ | ⟨j, hj, r1, r2, -⟩
  · rcases hb with ⟨b1, b2⟩ | ⟨k, b1, b2, b3, b4⟩
    · exact Or.inl ⟨r1, b1⟩
    · exact absurd ⟨b3, (rank0 hm b2).mpr b4⟩ (r2 k b2)
  · rcases hb with ⟨b1, b2⟩ | ⟨k, b1, b2, b3, b4⟩
    · exact absurd r2.1 (b2 j hj)
    · have h5 := (rank0 hm hj).mp r2.2 k b2 b3
      have h6 := b4 j hj r2.1
      have h7 : j = k := key_inj hm hj b2 (by omega)
      subst h7
      exact Or.inr ⟨j, hj, r1, b1, b3⟩
