/-! ===== copies, the history, and what is the same between two calls ===== -/
def E153 (f g : FS) : Prop := ∀ i, i < 153 → g i = f i
theorem E153.oF {f g : FS} (h : E153 f g) {j m : Nat} (hj : j < 16) (hm : m < 9) : oF g j m = oF f j m := h _ (by omega)
theorem E153.n {f g : FS} (h : E153 f g) : nF g = nF f := by unfold nF; rw [h 4 (by decide)]
theorem mInv_153 {f g : FS} (h : E153 f g) (hm : mInv f) : mInv g := by
  have hn := n_le hm
  refine ⟨mB_ext (fun i hi => h i (by omega)) (fun j _ hj16 m hm => h.oF hj16 hm) hm.1, fun j hj => ?_⟩
  rw [show (g 4).toNatClampNeg = nF f from h.n] at hj
  exact mJ_ext (fun m hm6 => h.oF (by omega) (by omega)) (hm.2 j hj)
theorem RP_153 {f g : FS} {P : PS} (h : E153 f g) (hm : mInv f) (hR : RP f P) : RP g P := by
  have hn := n_le hm
  obtain ⟨⟨⟨a0, a1, a2, a3⟩, b0, b1, b2, b3, b4⟩, hj, hr⟩ := hR
  refine ⟨⟨⟨a0.trans (h 0 (by decide)).symm, a1.trans (h 1 (by decide)).symm, a2.trans (h 2 (by decide)).symm, a3.trans (h 3 (by decide)).symm⟩, b0.trans (h 4 (by decide)).symm, b1.trans (h 5 (by decide)).symm, b2.trans (h 6 (by decide)).symm, b3.trans (h 7 (by decide)).symm, b4.trans (h 8 (by decide)).symm⟩, fun j hj2 => ?_, fun j hj2 hj16 => ?_⟩
  · rw [h.n] at hj2
    exact RJ_ext (fun m hm => h.oF (by omega) hm) (hj j hj2)
  · rw [h.n] at hj2
    exact hr j hj2 hj16
theorem copy_L {a b : FS} : ∀ (fu i : Nat) (f1 : FS) (q : Nat), gX6_copy_L2 a b fu i f1 q = if i ≤ q ∧ q < i + fu then a q else f1 q := by
  intro fu
  induction fu with
  | zero => intro i f1 q; rw [gX6_copy_L2, if_neg (by omega)]
  | succ fu ih =>
    intro i f1 q
    rw [gX6_copy_L2, ih, f_upd]
    by_cases h : q = i
    · subst h
      rw [if_neg (show ¬ (q + 1 ≤ q ∧ q < q + 1 + fu) by omega), if_pos rfl, if_pos (show q ≤ q ∧ q < q + (fu + 1) by omega)]
    · by_cases h2 : i + 1 ≤ q ∧ q < i + 1 + fu
      · rw [if_pos h2, if_pos (show i ≤ q ∧ q < i + (fu + 1) by omega)]
      · rw [if_neg h2, if_neg h, if_neg (show ¬ (i ≤ q ∧ q < i + (fu + 1)) by omega)]
theorem copy_E {a b : FS} : E153 a (gX6_copy a b) := fun i hi => by
  unfold gX6_copy
  rw [copy_L, if_pos (by omega)]
/-! the class' copies -/
theorem jcopy {v w : Nat → Int32} : ∀ k, k < 11 → gX1_copyFrom v w k = w k := by
  intro k hk
  match k, hk with
  | 0, _ => rfl
  | 1, _ => rfl
  | 2, _ => rfl
  | 3, _ => rfl
  | 4, _ => rfl
  | 5, _ => rfl
  | 6, _ => rfl
  | 7, _ => rfl
  | 8, _ => rfl
  | 9, _ => rfl
  | 10, _ => rfl
theorem RJ_pt {f : FS} {j : Nat} {v w : Nat → Int32} (h : ∀ k, k < 11 → w k = v k) (hv : RJ f j v) : RJ f j w := by
  unfold RJ at hv ⊢
  rw [h 0 (by decide), h 1 (by decide), h 2 (by decide), h 3 (by decide), h 4 (by decide), h 5 (by decide), h 6 (by decide), h 7 (by decide), h 8 (by decide), h 9 (by decide), h 10 (by decide)]
  exact hv
theorem RN_pt {v w : Nat → Int32} (h : ∀ k, k < 11 → w k = v k) (hv : RN v) : RN w := by
  unfold RN at hv ⊢
  rw [h 0 (by decide), h 1 (by decide), h 2 (by decide), h 3 (by decide), h 4 (by decide), h 5 (by decide)]
  exact hv
theorem pc_L40 {P O : PS} : ∀ (fu i : Nat) (P1 : PS), (∀ m, m < 4 → (gX4_copyFrom_L40 P O fu i P1).1 m = P1.1 m) ∧ (∀ m, m < 5 → (gX4_copyFrom_L40 P O fu i P1).2.1 m = O.2.1 m) ∧ ∀ j, (gX4_copyFrom_L40 P O fu i P1).2.2 j = if i ≤ j ∧ j < i + fu then gX1_copyFrom (P1.2.2 j) (O.2.2 j) else P1.2.2 j := by
  intro fu
  induction fu with
  | zero =>
    intro i P1
    refine ⟨fun _ _ => rfl, fun m hm => ?_, fun j => by rw [if_neg (by omega)]; rfl⟩
    match m, hm with
    | 0, _ => rfl
    | 1, _ => rfl
    | 2, _ => rfl
    | 3, _ => rfl
    | 4, _ => rfl
  | succ fu ih =>
    intro i P1
    rw [gX4_copyFrom_L40]
    obtain ⟨h1, h2, h3⟩ := ih (i + 1) (P1.1, P1.2.1, va_up P1.2.2 i (gX1_copyFrom (P1.2.2 i) (O.2.2 i)))
    refine ⟨h1, h2, fun j => ?_⟩
    rw [h3 j]
    show (if i + 1 ≤ j ∧ j < i + 1 + fu then gX1_copyFrom (va_up P1.2.2 i (gX1_copyFrom (P1.2.2 i) (O.2.2 i)) j) (O.2.2 j) else va_up P1.2.2 i (gX1_copyFrom (P1.2.2 i) (O.2.2 i)) j) = _
    by_cases h : j = i
    · subst h
      rw [if_neg (show ¬ (j + 1 ≤ j ∧ j < j + 1 + fu) by omega), if_pos (show j ≤ j ∧ j < j + (fu + 1) by omega), va_here]
    · have e : va_up P1.2.2 i (gX1_copyFrom (P1.2.2 i) (O.2.2 i)) j = P1.2.2 j := if_neg h
      rw [e]
      by_cases h2 : i + 1 ≤ j ∧ j < i + 1 + fu
      · rw [if_pos h2, if_pos (show i ≤ j ∧ j < i + (fu + 1) by omega)]
      · rw [if_neg h2, if_neg (show ¬ (i ≤ j ∧ j < i + (fu + 1)) by omega)]
theorem pc_L2 {P O : PS} : ∀ (fu i : Nat) (P1 : PS), i + fu = 4 → (∀ m, m < i → P1.1 m = O.1 m) → (∀ m, m < 4 → (gX4_copyFrom_L2 P O fu i P1).1 m = O.1 m) ∧ (∀ m, m < 5 → (gX4_copyFrom_L2 P O fu i P1).2.1 m = O.2.1 m) ∧ ∀ j, j < 16 → ∀ k, k < 11 → (gX4_copyFrom_L2 P O fu i P1).2.2 j k = O.2.2 j k := by
  intro fu
  induction fu with
  | zero =>
    intro i P1 hi h
    rw [gX4_copyFrom_L2]
    obtain ⟨h1, h2, h3⟩ := pc_L40 (P := P) (O := O) 16 0 P1
    refine ⟨fun m hm => (h1 m hm).trans (h m (by omega)), h2, fun j hj k hk => ?_⟩
    rw [h3 j, if_pos (by omega)]
    exact jcopy k hk
  | succ fu ih =>
    intro i P1 hi h
    rw [gX4_copyFrom_L2]
    refine ih (i + 1) _ (by omega) (fun m hm => ?_)
    show upd P1.1 i (O.1 i) m = _
    rw [f_upd]
    split
    · rename_i e; rw [e]
    · exact h m (by omega)
theorem eq_copy {f : FS} {P O : PS} (h : RP f O) (hm : mInv f) : RP f (gX4_copyFrom P O) := by
  have hn := n_le hm
  obtain ⟨h1, h2, h3⟩ := pc_L2 (P := P) (O := O) 4 0 P (by decide) (fun m hm => by omega)
  obtain ⟨⟨⟨a0, a1, a2, a3⟩, b0, b1, b2, b3, b4⟩, hj, hr⟩ := h
  exact ⟨⟨⟨(h1 0 (by decide)).trans a0, (h1 1 (by decide)).trans a1, (h1 2 (by decide)).trans a2, (h1 3 (by decide)).trans a3⟩, (h2 0 (by decide)).trans b0, (h2 1 (by decide)).trans b1, (h2 2 (by decide)).trans b2, (h2 3 (by decide)).trans b3, (h2 4 (by decide)).trans b4⟩, fun j hj2 => RJ_pt (h3 j (by omega)) (hj j hj2), fun j hj2 hj16 => RN_pt (h3 j hj16) (hr j hj2 hj16)⟩
/-! what comes into the reference's history -/
def hrow (H : FS) (k : Nat) : FS := fun i => H (153 * k + i)
theorem ac_L51 {Z : MS} {a : Int32} : ∀ (fu i : Nat) (Z1 : MS), ∃ H', gX6_acted_L51 Z a fu i Z1 = (a, (upd Z1.1 0 (Z1.1 0 + 1), Z1.2.1, Z1.2.2.1, Z1.2.2.2.1, H', Z1.2.2.2.2.2)) ∧ ∀ q, H' q = if 153 * (Z1.1 0).toNatClampNeg + i ≤ q ∧ q < 153 * (Z1.1 0).toNatClampNeg + i + fu then Z1.2.2.1 (q - 153 * (Z1.1 0).toNatClampNeg) else Z1.2.2.2.2.1 q := by
  intro fu
  induction fu with
  | zero => intro i Z1; exact ⟨Z1.2.2.2.2.1, rfl, fun q => by rw [if_neg (by omega)]⟩
  | succ fu ih =>
    intro i Z1
    rw [gX6_acted_L51]
    obtain ⟨H', e, h⟩ := ih (i + 1) (Z1.1, Z1.2.1, Z1.2.2.1, Z1.2.2.2.1, upd Z1.2.2.2.2.1 (153 * (Z1.1 0).toNatClampNeg + i) (Z1.2.2.1 i), Z1.2.2.2.2.2.1, Z1.2.2.2.2.2.2.1, Z1.2.2.2.2.2.2.2)
    refine ⟨H', e, fun q => ?_⟩
    rw [h q]
    show (if 153 * (Z1.1 0).toNatClampNeg + (i + 1) ≤ q ∧ q < 153 * (Z1.1 0).toNatClampNeg + (i + 1) + fu then Z1.2.2.1 (q - 153 * (Z1.1 0).toNatClampNeg) else upd Z1.2.2.2.2.1 (153 * (Z1.1 0).toNatClampNeg + i) (Z1.2.2.1 i) q) = _
    rw [f_upd]
    generalize 153 * (Z1.1 0).toNatClampNeg = b
    by_cases h1 : b + (i + 1) ≤ q ∧ q < b + (i + 1) + fu
    · rw [if_pos h1, if_pos (show b + i ≤ q ∧ q < b + i + (fu + 1) by omega)]
    · rw [if_neg h1]
      by_cases h2 : q = b + i
      · rw [if_pos h2, if_pos (show b + i ≤ q ∧ q < b + i + (fu + 1) by omega)]
        rw [h2, Nat.add_sub_cancel_left]
      · rw [if_neg h2, if_neg (show ¬ (b + i ≤ q ∧ q < b + i + (fu + 1)) by omega)]
theorem ac_L10 {Z : MS} {a : Int32} : ∀ (fu i : Nat) (Z1 : MS), ∃ H1, gX6_acted_L10 Z a fu i Z1 = gX6_acted_L51 Z a 153 0 (upd Z1.1 0 (Z1.1 0 - 1), Z1.2.1, Z1.2.2.1, Z1.2.2.2.1, H1, Z1.2.2.2.2.2) ∧ (∀ q, i ≤ q → q < i + fu → H1 q = Z1.2.2.2.2.1 (q + 153)) ∧ ∀ q, q < i → H1 q = Z1.2.2.2.2.1 q := by
  intro fu
  induction fu with
  | zero => intro i Z1; exact ⟨Z1.2.2.2.2.1, rfl, fun q h1 h2 => by omega, fun _ _ => rfl⟩
  | succ fu ih =>
    intro i Z1
    rw [gX6_acted_L10]
    obtain ⟨H1, e, h1, h2⟩ := ih (i + 1) (Z1.1, Z1.2.1, Z1.2.2.1, Z1.2.2.2.1, upd Z1.2.2.2.2.1 i (Z1.2.2.2.2.1 (i + 153)), Z1.2.2.2.2.2.1, Z1.2.2.2.2.2.2.1, Z1.2.2.2.2.2.2.2)
    refine ⟨H1, e, fun q h3 h4 => ?_, fun q h3 => ?_⟩
    · by_cases h : q = i
      · subst h
        rw [h2 q (by omega)]
        show upd Z1.2.2.2.2.1 q (Z1.2.2.2.2.1 (q + 153)) q = _
        rw [f_upd, if_pos rfl]
      · rw [h1 q (by omega) (by omega)]
        show upd Z1.2.2.2.2.1 i (Z1.2.2.2.2.1 (i + 153)) (q + 153) = _
        rw [f_upd, if_neg (by omega)]
    · rw [h2 q (by omega)]
      show upd Z1.2.2.2.2.1 i (Z1.2.2.2.2.1 (i + 153)) q = _
      rw [f_upd, if_neg (by omega)]
theorem acted_eq {Z : MS} {r : Int32} (hh : hx4 (Z.1 0)) : ∃ (M' H' : FS), gX6_acted Z r = (r, (M', Z.2.1, Z.2.2.1, Z.2.2.2.1, H', Z.2.2.2.2.2)) ∧ (∀ k, k ≠ 0 → M' k = Z.1 k) ∧
    ((¬ Z.1 0 = 4 ∧ M' 0 = Z.1 0 + 1 ∧ ∀ k i, i < 153 → H' (153 * k + i) = if k = (Z.1 0).toNatClampNeg then Z.2.2.1 i else Z.2.2.2.2.1 (153 * k + i)) ∨
     (Z.1 0 = 4 ∧ M' 0 = 4 ∧ ∀ k i, k < 4 → i < 153 → H' (153 * k + i) = if k = 3 then Z.2.2.1 i else Z.2.2.2.2.1 (153 * (k + 1) + i))) := by
  unfold gX6_acted
  by_cases c : Z.1 0 = 4
  · rw [if_pos c]
    obtain ⟨H1, e1, h1, h2⟩ := ac_L10 (Z := Z) (a := r) 459 0 Z
    obtain ⟨H2, e2, h3⟩ := ac_L51 (Z := Z) (a := r) 153 0 (upd Z.1 0 (Z.1 0 - 1), Z.2.1, Z.2.2.1, Z.2.2.2.1, H1, Z.2.2.2.2.2)
    rw [e1, e2]
    refine ⟨_, _, rfl, fun k hk => ?_, Or.inr ⟨c, ?_, fun k i hk hi => ?_⟩⟩
    · show upd (upd Z.1 0 (Z.1 0 - 1)) 0 _ k = _
      rw [f_upd, if_neg hk, f_upd, if_neg hk]
    · show Z.1 0 - 1 + 1 = 4
      rw [c]
      rfl
    · have h3' : ((upd Z.1 0 (Z.1 0 - 1), Z.2.1, Z.2.2.1, Z.2.2.2.1, H1, Z.2.2.2.2.2) : MS).1 0 = 3 := by
        show Z.1 0 - 1 = 3
        rw [c]
        rfl
      have h5 := h3 (153 * k + i)
      rw [h3', show (3 : Int32).toNatClampNeg = 3 from rfl] at h5
      rw [h5]
      by_cases hk3 : k = 3
      · subst hk3
        rw [if_pos (by omega), if_pos rfl]
        show Z.2.2.1 (153 * 3 + i - 153 * 3) = _
        rw [Nat.add_sub_cancel_left]
      · rw [if_neg (show ¬ (153 * 3 + 0 ≤ 153 * k + i ∧ 153 * k + i < 153 * 3 + 0 + 153) by omega), if_neg hk3]
        show H1 (153 * k + i) = _
        rw [h1 _ (Nat.zero_le _) (by omega)]
        exact congrArg Z.2.2.2.2.1 (by omega)
  · rw [if_neg c]
    obtain ⟨H2, e2, h3⟩ := ac_L51 (Z := Z) (a := r) 153 0 Z
    rw [e2]
    refine ⟨_, _, rfl, fun k hk => ?_, Or.inl ⟨c, rfl, fun k i hi => ?_⟩⟩
    · show upd Z.1 0 _ k = _
      rw [f_upd, if_neg hk]
    · rw [h3 (153 * k + i)]
      generalize (Z.1 0).toNatClampNeg = h
      by_cases hk : k = h
      · subst hk
        rw [if_pos (by omega), if_pos rfl, Nat.add_sub_cancel_left]
      · rw [if_neg (show ¬ (153 * h + 0 ≤ 153 * k + i ∧ 153 * k + i < 153 * h + 0 + 153) by omega), if_neg hk]
/-! the same between two calls -/
def HR (z : Int32) (H : FS) (S : HS3) : Prop := z = S.1 ∧ hx4 z ∧ ∀ k, k < z.toNatClampNeg → mInv (hrow H k) ∧ RP (hrow H k) (S.2.2 k)
def TR (M tx : FS) (T : TS) : Prop := ∃ n : Nat, T.1 0 = nI n ∧ M 2 = nI n ∧ n ≤ 60 ∧ ∀ i, i < n → tx i = T.2.1 i
def SR (t : Int32) (sn : FS) (tk : Int32) (N : PS) : Prop := t = tk ∧ (¬ t = 0 → mInv sn ∧ RP sn N)
def RR (C : CS) (Z : MS) : Prop := (RP Z.2.1 C.1 ∧ mInv Z.2.1) ∧ HR (Z.1 0) Z.2.2.2.2.1 C.2.1 ∧ TR Z.1 Z.2.2.2.2.2.2.1 C.2.2.1 ∧ SR (Z.1 1) Z.2.2.2.2.2.1 C.2.2.2.2.1 C.2.2.2.1
theorem i4_cases {x : Int32} (h : hx4 x) : x = nI x.toNatClampNeg ∧ x.toNatClampNeg ≤ 4 := by
  obtain ⟨j, hj, e, ej⟩ := i_nI h.1
  have := h.2
  rw [e, nI_clamp hj]
  exact ⟨rfl, by omega⟩
theorem rec_HR {z : Int32} {H : FS} {S : HS3} {f0 kp : FS} {P0 : PS} {z' : Int32} {H' : FS} (h : HR z H S) (hm : mInv f0) (hR : RP f0 P0) (hk : E153 f0 kp)
    (ha : (¬ z = 4 ∧ z' = z + 1 ∧ ∀ k i, i < 153 → H' (153 * k + i) = if k = z.toNatClampNeg then kp i else H (153 * k + i)) ∨ (z = 4 ∧ z' = 4 ∧ ∀ k i, k < 4 → i < 153 → H' (153 * k + i) = if k = 3 then kp i else H (153 * (k + 1) + i))) :
    HR z' H' (gX0_record S P0) := by
  obtain ⟨h1, h2, h3⟩ := h
  obtain ⟨hz, hz4⟩ := i4_cases h2
  have hnew : ∀ g : FS, E153 kp g → mInv g ∧ ∀ Q : PS, RP g (gX4_copyFrom Q P0) := fun g hg => by
    have e : E153 f0 g := fun i hi => (hg i hi).trans (hk i hi)
    exact ⟨mInv_153 e hm, fun Q => RP_153 e hm (eq_copy hR hm)⟩
  rcases ha with ⟨c, e1, e2⟩ | ⟨c, e1, e2⟩
  · have hlt : z.toNatClampNeg < 4 := by
      refine Nat.lt_of_le_of_ne hz4 (fun e => c ?_)
      rw [hz, e]
      rfl
    have hS : S.1 < nI 4 := by rw [← h1, hz]; exact (nI_ltI (by omega) (by decide)).mpr hlt
    have ezz : z + 1 = nI (z.toNatClampNeg + 1) := by rw [← nI_1, ← hz]
    unfold gX0_record
    rw [if_pos hS, ← h1]
    refine ⟨e1, ?_, fun k hk2 => ?_⟩
    · rw [e1, ezz]
      exact ⟨by rw [nI_toInt (by omega)]; omega, by rw [nI_toInt (by omega)]; omega⟩
    · rw [e1, ezz, nI_clamp (by omega)] at hk2
      show mInv (hrow H' k) ∧ RP (hrow H' k) (va_up S.2.2 z.toNatClampNeg (gX4_copyFrom (S.2.2 z.toNatClampNeg) P0) k)
      by_cases hkz : k = z.toNatClampNeg
      · rw [hkz, va_here]
        have := hnew (hrow H' z.toNatClampNeg) (fun i hi => by show H' (153 * z.toNatClampNeg + i) = _; rw [e2 _ i hi, if_pos rfl])
        exact ⟨this.1, this.2 _⟩
      · rw [show va_up S.2.2 z.toNatClampNeg (gX4_copyFrom (S.2.2 z.toNatClampNeg) P0) k = S.2.2 k from if_neg hkz]
        have e : E153 (hrow H k) (hrow H' k) := fun i hi => by show H' (153 * k + i) = _; rw [e2 k i hi, if_neg hkz]; rfl
        have h4 := h3 k (by omega)
        exact ⟨mInv_153 e h4.1, RP_153 e h4.1 h4.2⟩
  · have hS : ¬ S.1 < nI 4 := by rw [← h1, c]; decide
    unfold gX0_record
    rw [if_neg hS]
    refine ⟨by rw [e1]; rfl, by rw [e1]; exact ⟨by decide, by decide⟩, fun k hk2 => ?_⟩
    rw [e1, show (4 : Int32).toNatClampNeg = 4 from rfl] at hk2
    show mInv (hrow H' k) ∧ RP (hrow H' k) (va_up (rotF S.2.2) 3 (gX4_copyFrom ((rotF S.2.2) 3) P0) k)
    by_cases hk3 : k = 3
    · subst hk3
      rw [va_here]
      have := hnew (hrow H' 3) (fun i hi => by show H' (153 * 3 + i) = _; rw [e2 3 i (by decide) hi, if_pos rfl])
      exact ⟨this.1, this.2 _⟩
    · rw [show va_up (rotF S.2.2) 3 (gX4_copyFrom ((rotF S.2.2) 3) P0) k = rotF S.2.2 k from if_neg hk3, show rotF S.2.2 k = S.2.2 (k + 1) from if_pos (by omega)]
      have e : E153 (hrow H (k + 1)) (hrow H' k) := fun i hi => by show H' (153 * k + i) = _; rw [e2 k i (by omega) hi, if_neg hk3]; rfl
      have h4 := h3 (k + 1) (by rw [c, show (4 : Int32).toNatClampNeg = 4 from rfl]; omega)
      exact ⟨mInv_153 e h4.1, RP_153 e h4.1 h4.2⟩
/-- an act: the row is another one, the state before it comes into the history -/
theorem act_RR {C : CS} {Z : MS} {f' : FS} {P' : PS} {r : Int32} (h : RR C Z) (hf : RP f' P') (hm : mInv f') :
    (gX6_acted (Z.1, f', gX6_copy Z.2.1 Z.2.2.1, Z.2.2.2.1, Z.2.2.2.2.1, Z.2.2.2.2.2.1, Z.2.2.2.2.2.2.1, Z.2.2.2.2.2.2.2) r).1 = r ∧
    RR (P', gX0_record C.2.1 C.1, C.2.2.1, C.2.2.2.1, C.2.2.2.2.1, C.2.2.2.2.2.1, C.2.2.2.2.2.2) (gX6_acted (Z.1, f', gX6_copy Z.2.1 Z.2.2.1, Z.2.2.2.1, Z.2.2.2.2.1, Z.2.2.2.2.2.1, Z.2.2.2.2.2.2.1, Z.2.2.2.2.2.2.2) r).2 := by
  obtain ⟨⟨h1, h2⟩, h3, h4, h5⟩ := h
  obtain ⟨M', H', e, k1, k2⟩ := acted_eq (Z := (Z.1, f', gX6_copy Z.2.1 Z.2.2.1, Z.2.2.2.1, Z.2.2.2.2.1, Z.2.2.2.2.2.1, Z.2.2.2.2.2.2.1, Z.2.2.2.2.2.2.2)) (r := r) h3.2.1
  rw [e]
  refine ⟨rfl, ⟨hf, hm⟩, rec_HR h3 h2 h1 (copy_E (b := Z.2.2.1)) k2, ?_, ?_⟩
  · obtain ⟨n, t1, t2, t3, t4⟩ := h4
    exact ⟨n, t1, (k1 2 (by decide)).trans t2, t3, t4⟩
  · show SR (M' 1) Z.2.2.2.2.2.1 C.2.2.2.2.1 C.2.2.2.1
    rw [k1 1 (by decide)]
    exact h5
