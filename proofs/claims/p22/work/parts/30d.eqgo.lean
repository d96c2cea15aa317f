/-! ===== asking back, starting, going through: the same ===== -/
theorem ric_L {f : FS} {P : PS} (h : RP f P) (hm : mInv f) : ∀ (m n i k : Nat), i + m = nF f → i + m + n = 16 → k < nF f → gX4_richest_L13 P (m + n) i (some k) = some (gX6_asksBack_L11 f m i k) := by
  have out : ∀ (n i k : Nat), nF f ≤ i → i + n = 16 → k < nF f → gX4_richest_L13 P n i (some k) = some k := by
    intro n
    induction n with
    | zero => intro i k _ _ _; rfl
    | succ n ih =>
      intro i k h1 h2 hk
      have hx := (mJ_x (hm.2 k hk)).2.2.1
      rw [gX4_richest_L13, if_neg (show ¬ some k = none by simp)]
      show (if gX1_surplus (nI i) (P.2.2 i) ≤ gX1_surplus (nI k) (P.2.2 k) then gX4_richest_L13 P n (i + 1) (some k) else gX4_richest_L13 P n (i + 1) (some i)) = some k
      rw [nin_surplus (h.2.2 i h1 (by omega)), eq_surplus (h.2.1 k hk)]
      have c : (0 : Int32) ≤ gX6_extra f k := by rw [x_ile, i_0]; exact hx
      rw [if_pos c]
      exact ih (i + 1) k (by omega) (by omega) hk
  intro m
  induction m with
  | zero =>
    intro n i k h1 h2 hk
    rw [Nat.zero_add, out n i k (by omega) (by omega) hk]
    rfl
  | succ m ih =>
    intro n i k h1 h2 hk
    rw [show m + 1 + n = (m + n) + 1 by omega, gX4_richest_L13, if_neg (show ¬ some k = none by simp), gX6_asksBack_L11]
    show (if gX1_surplus (nI i) (P.2.2 i) ≤ gX1_surplus (nI k) (P.2.2 k) then gX4_richest_L13 P (m + n) (i + 1) (some k) else gX4_richest_L13 P (m + n) (i + 1) (some i)) = _
    rw [eq_surplus (h.2.1 i (by omega)), eq_surplus (h.2.1 k hk)]
    by_cases c : gX6_extra f i ≤ gX6_extra f k
    · rw [if_pos c, if_pos c]
      exact ih n (i + 1) k (by omega) (by omega) hk
    · rw [if_neg c, if_neg c]
      exact ih n (i + 1) i (by omega) (by omega) (by omega)
theorem eq_rich {f : FS} {P : PS} (h : RP f P) (hm : mInv f) (h1 : 1 ≤ nF f) : gX4_richest P = some (mostOf f) := by
  have hn := n_le hm
  have := ric_L h hm (nF f - 1) (16 - nF f) 1 0 (by omega) (by omega) (by omega)
  rw [show nF f - 1 + (16 - nF f) = 15 by omega] at this
  have e : gX4_richest P = gX4_richest_L13 P 15 1 (some 0) := by
    unfold gX4_richest
    rw [gX4_richest_L13, if_pos rfl]
  rw [e]
  exact this
/-- how many have more than they need -/
def ecnt (f : FS) : Nat → Nat
  | 0 => 0
  | k + 1 => ecnt f k + (if gX6_extra f k = 0 then 0 else 1)
theorem ecnt_ext {f g : FS} {n : Nat} (h : ∀ i, i < n → gX6_extra g i = gX6_extra f i) : ecnt g n = ecnt f n := by
  induction n with
  | zero => rfl
  | succ n ih =>
    show ecnt g n + _ = ecnt f n + _
    rw [ih (fun i hi => h i (by omega)), h n (by omega)]
theorem ecnt_dn {f g : FS} {n j : Nat} (hj : j < n) (h0 : ¬ gX6_extra f j = 0) (h1 : gX6_extra g j = 0) (h : ∀ i, i < n → i ≠ j → gX6_extra g i = gX6_extra f i) : ecnt g n + 1 = ecnt f n := by
  induction n with
  | zero => omega
  | succ n ih =>
    show ecnt g n + _ + 1 = ecnt f n + _
    by_cases hn : j = n
    · subst hn
      rw [ecnt_ext (fun i hi => h i (by omega) (by omega)), h1, if_pos rfl, if_neg h0]
    · rw [← ih (by omega) (fun i hi hne => h i (by omega) hne), h n (by omega) (by omega)]
      omega
theorem ecnt_pos {f : FS} {n j : Nat} (hj : j < n) (h0 : ¬ gX6_extra f j = 0) : 0 < ecnt f n := by
  induction n with
  | zero => omega
  | succ n ih =>
    show 0 < ecnt f n + _
    by_cases hn : j = n
    · subst hn
      rw [if_neg h0]
      omega
    · have := ih (by omega)
      omega
theorem ecnt_len {f : FS} : ∀ n, ecnt f n ≤ n := by
  intro n
  induction n with
  | zero => exact Nat.le_refl _
  | succ n ih =>
    show ecnt f n + _ ≤ n + 1
    split <;> omega
theorem ab_0 {f : FS} {a x : Int32} {f1 : FS} {P P1 : PS} {a' : Int32} (hx : x ≤ 0) : ∀ cf rf i, gX6_asksBack_L2 f a rf x f1 = f1 ∧ gX4_askBack_L4 P a' cf i x P1 = P1 := by
  intro cf rf i
  constructor
  · cases rf with
    | zero => rfl
    | succ rf => rw [gX6_asksBack_L2, if_pos hx]
  · cases cf with
    | zero => rfl
    | succ cf => rw [gX4_askBack_L4, if_pos hx]
theorem ab_sim {f : FS} {P : PS} {a a' : Int32} : ∀ (cf rf i : Nat) (x : Int32) (f1 : FS) (P1 : PS), RP f1 P1 → mInv f1 → enough f1 x → x.toInt ≤ rf → ecnt f1 (nF f1) ≤ cf → RP (gX6_asksBack_L2 f a rf x f1) (gX4_askBack_L4 P a' cf i x P1) := by
  intro cf
  induction cf with
  | zero =>
    intro rf i x f1 P1 h hm he hr hc
    by_cases hx : x ≤ 0
    · obtain ⟨e1, e2⟩ := ab_0 (f := f) (a := a) (f1 := f1) (P := P) (P1 := P1) (a' := a') hx 0 rf i
      rw [e1, e2]; exact h
    · obtain ⟨h1, h2, -⟩ := most_pos hm he hx
      have := ecnt_pos h1 (fun z => by rw [z] at h2; exact absurd h2 (by decide))
      omega
  | succ cf ih =>
    intro rf i x f1 P1 h hm he hr hc
    by_cases hx : x ≤ 0
    · obtain ⟨e1, e2⟩ := ab_0 (f := f) (a := a) (f1 := f1) (P := P) (P1 := P1) (a' := a') hx (cf + 1) rf i
      rw [e1, e2]; exact h
    · obtain ⟨h1, h2, h3⟩ := most_pos hm he hx
      have hx0 := hx
      rw [x_ile, i_0] at hx0
      have hn := en_pos hm he hx
      cases rf with
      | zero => omega
      | succ rf =>
        rw [gX6_asksBack_L2, if_neg hx, gX4_askBack_L4, if_neg hx, if_neg (show ¬ gX4_richest P1 = none by rw [eq_rich h hm hn]; simp), eq_rich h hm hn]
        show RP (if x ≤ gX6_extra f1 (mostOf f1) then gX6_asksBack_L2 f a rf (x - x) (gX6_givesBack f1 (mostOf f1) x) else gX6_asksBack_L2 f a rf (x - gX6_extra f1 (mostOf f1)) (gX6_givesBack f1 (mostOf f1) (gX6_extra f1 (mostOf f1)))) (gX4_askBack_L4 P a' cf (i + 1) (x - (if gX1_surplus (nI (mostOf f1)) (P1.2.2 (mostOf f1)) < x then gX1_surplus (nI (mostOf f1)) (P1.2.2 (mostOf f1)) else x)) (P1.1, upd P1.2.1 4 (P1.2.1 4 + (if gX1_surplus (nI (mostOf f1)) (P1.2.2 (mostOf f1)) < x then gX1_surplus (nI (mostOf f1)) (P1.2.2 (mostOf f1)) else x)), va_up P1.2.2 (mostOf f1) (gX1_giveBack (nI (mostOf f1)) (P1.2.2 (mostOf f1)) (if gX1_surplus (nI (mostOf f1)) (P1.2.2 (mostOf f1)) < x then gX1_surplus (nI (mostOf f1)) (P1.2.2 (mostOf f1)) else x))))
        have hst : ∀ m : Int32, 1 ≤ m.toInt → m.toInt ≤ (gX6_extra f1 (mostOf f1)).toInt → RP (gX6_givesBack f1 (mostOf f1) m) (P1.1, upd P1.2.1 4 (P1.2.1 4 + m), va_up P1.2.2 (mostOf f1) (gX1_giveBack (nI (mostOf f1)) (P1.2.2 (mostOf f1)) m)) := fun m hm1 hm2 => by
          obtain ⟨⟨a0, a1, a2, a3⟩, b0, b1, b2, b3, b4⟩ := h.1
          refine RP_set h h1 ?_ (by rw [gb_f (by decide), if_neg (by decide)]) (fun j hj k hk => by rw [gb_oF hk, if_neg hj]) (RJ_gb (h.2.1 _ h1) (hm.2 _ h1) h3 hm1 hm2)
          unfold RS
          rw [gb_f (by decide), gb_f (by decide), gb_f (by decide), gb_f (by decide), gb_f (by decide), gb_f (by decide), gb_f (by decide), gb_f (by decide), gb_f (by decide)]
          exact ⟨⟨a0, a1, a2, a3⟩, b0, b1, b2, b3, congrArg (fun z => z + m) b4⟩
        rw [eq_surplus (h.2.1 _ h1)]
        generalize hk : mostOf f1 = k at *
        by_cases c : x ≤ gX6_extra f1 k
        · have c' : ¬ gX6_extra f1 k < x := by rw [x_ilt]; rw [x_ile] at c; omega
          rw [if_pos c, if_neg c']
          have hz : x - x ≤ 0 := by rw [Int32.sub_self]; decide
          rw [x_ile] at c
          obtain ⟨e1, e2⟩ := ab_0 (f := f) (a := a) (f1 := gX6_givesBack f1 k x) (P := P) (P1 := (P1.1, upd P1.2.1 4 (P1.2.1 4 + x), va_up P1.2.2 k (gX1_giveBack (nI k) (P1.2.2 k) x))) (a' := a') hz cf rf (i + 1)
          rw [e1, e2]
          exact hst x (by omega) c
        · have c' : gX6_extra f1 k < x := by rw [x_ilt]; rw [x_ile] at c; omega
          rw [if_neg c, if_pos c']
          have hs := ab_step hm he hx (m := gX6_extra f1 k) (Or.inl ⟨by rw [← hk], by rw [show gX6_asksBack_L11 f1 ((f1 4).toNatClampNeg - 1) 1 0 = k from hk]; exact c⟩)
          rw [show gX6_asksBack_L11 f1 ((f1 4).toNatClampNeg - 1) 1 0 = k from hk] at hs
          obtain ⟨-, -, -, hm2, he2, hlt⟩ := hs
          have hex : ∀ j, (gX6_extra (gX6_givesBack f1 k (gX6_extra f1 k)) j).toInt = if j = k then (gX6_extra f1 k).toInt - (gX6_extra f1 k).toInt else (gX6_extra f1 j).toInt := fun j => gb_extra hm h1 h3 (by omega) (Int.le_refl _)
          have hec : ecnt (gX6_givesBack f1 k (gX6_extra f1 k)) (nF f1) + 1 = ecnt f1 (nF f1) := by
            refine ecnt_dn h1 (fun z => by rw [z] at h2; exact absurd h2 (by decide)) ?_ (fun j hj hne => ?_)
            · rw [i_eq, hex k, if_pos rfl, i_0]; omega
            · rw [i_eq, hex j, if_neg hne]
          have hn2 : nF (gX6_givesBack f1 k (gX6_extra f1 k)) = nF f1 := by unfold nF; rw [gb_f (by decide), if_neg (by decide)]
          exact ih rf (i + 1) _ _ _ (hst _ (by omega) (Int.le_refl _)) hm2 he2 (by omega) (by rw [hn2]; omega)
theorem eq_ab {f : FS} {P : PS} {x : Int32} (h : RP f P) (hm : mInv f) (he : enough f x) : RP (gX6_asksBack f x) (gX4_askBack P x) := by
  have := n_le hm
  have := ecnt_len (f := f) (nF f)
  exact ab_sim 16 _ 0 x f P h hm he (by omega) (by omega)
/-- one is started with p pages -/
def goP (P : PS) (j : Nat) (p : Int32) : PS := (P.1, upd P.2.1 1 (if P.2.1 1 < gX4_granted (P.1, P.2.1, va_up P.2.2 j (gX1_start (nI j) (P.2.2 j) p)) then gX4_granted (P.1, P.2.1, va_up P.2.2 j (gX1_start (nI j) (P.2.2 j) p)) else P.2.1 1), va_up P.2.2 j (gX1_start (nI j) (P.2.2 j) p))
theorem cst_eq {P : PS} {j : Nat} : gX4_start P j = (if 0 < gX1_need (nI j) (P.2.2 j) - gX4_free P then (if gX4_canAskBack P (gX1_need (nI j) (P.2.2 j) - gX4_free P) = 0 then (0, P) else (1, goP (gX4_askBack P (gX1_need (nI j) (P.2.2 j) - gX4_free P)) j (gX1_need (nI j) (P.2.2 j)))) else (1, goP P j (if gX1_want (nI j) (P.2.2 j) < gX4_free P then gX1_want (nI j) (P.2.2 j) else gX4_free P))) := rfl
theorem go3_mInv {f : FS} {j : Nat} {p : Int32} (hm : mInv (goF f j p)) : mInv (go3 f j p) := by
  have e : upd (goF f j p) 5 (go3 f j p 5) = go3 f j p := by
    funext i
    rw [f_upd]
    split
    · rename_i h; subst h; rfl
    · rename_i h
      unfold goF
      rw [f_upd, if_neg h]
  rw [← e]
  exact mInv_upd hm (by decide) (by decide)
theorem RJ_go3 {f : FS} {j : Nat} {p : Int32} {v : Nat → Int32} (h : RJ (goF f j p) j v) : RJ (go3 f j p) j v := RJ_ext (f := goF f j p) (fun m hm => by rw [goF_oF hm, go3_oF hm]) h
theorem mxg {x y : Int32} : (if x < y then y else x) = (if y ≤ x then x else y) := by
  by_cases h : x < y
  · rw [if_pos h, if_neg (by rw [x_ile]; rw [x_ilt] at h; omega)]
  · rw [if_neg h, if_pos (by rw [x_ile]; rw [x_ilt] at h; omega)]
theorem eq_go {f : FS} {P : PS} {j : Nat} {p : Int32} (h : RP f P) (hm : mInv f) (hj : j < nF f) (hp : (gX6_needs f j).toInt ≤ p.toInt ∧ p.toInt ≤ 500) : RP (goF f j p) (goP P j p) := by
  have hn := mJ_n (hm.2 j hj)
  have hg := go_mInv hm hj hp
  have hv := RJ_start (n := nI j) (p := p) (h.2.1 j hj) (hm.2 j hj) (by omega)
  obtain ⟨⟨a0, a1, a2, a3⟩, b0, b1, b2, b3, b4⟩ := h.1
  have h3 : RP (go3 f j p) (P.1, P.2.1, va_up P.2.2 j (gX1_start (nI j) (P.2.2 j) p)) := by
    refine RP_set h hj ?_ (go3_f (by decide)) (fun i hi k hk => by rw [go3_oF hk, if_neg hi]) (RJ_go3 hv)
    unfold RS
    rw [go3_f (by decide), go3_f (by decide), go3_f (by decide), go3_f (by decide), go3_f (by decide), go3_f (by decide), go3_f (by decide), go3_f (by decide), go3_f (by decide)]
    exact ⟨⟨a0, a1, a2, a3⟩, b0, b1, b2, b3, b4⟩
  have eg := eq_granted h3 (go3_mInv hg)
  unfold goP
  rw [eg]
  refine RP_set h hj ?_ (goF_f (by decide) (by decide)) (fun i hi k hk => by rw [goF_oF hk, if_neg hi]) hv
  refine ⟨⟨a0.trans (goF_f (by decide) (by decide)).symm, a1.trans (goF_f (by decide) (by decide)).symm, a2.trans (goF_f (by decide) (by decide)).symm, a3.trans (goF_f (by decide) (by decide)).symm⟩, b0.trans (goF_f (by decide) (by decide)).symm, ?_, b2.trans (goF_f (by decide) (by decide)).symm, b3.trans (goF_f (by decide) (by decide)).symm, b4.trans (goF_f (by decide) (by decide)).symm⟩
  show (if P.2.1 1 < gX6_granted (go3 f j p) then gX6_granted (go3 f j p) else P.2.1 1) = (if gX6_granted (go3 f j p) ≤ go3 f j p 5 then go3 f j p 5 else gX6_granted (go3 f j p))
  rw [mxg, b1, go3_f (by decide)]
theorem RP_n {f : FS} {P : PS} (h : RP f P) : P.2.1 0 = f 4 := h.1.2.1
theorem eq_start {f : FS} {P : PS} {j : Nat} (h : RP f P) (hm : mInv f) (hj : j < nF f) : (gX4_start P j).1 = (gX6_starts f j).1 ∧ RP (gX6_starts f j).2 (gX4_start P j).2 := by
  have hJ := hm.2 j hj
  have hn := mJ_n hJ
  have hw := mJ_wt hJ
  have hf := free_Z hm
  have hs := (spares_Z hm).2
  have en : gX1_need (nI j) (P.2.2 j) = gX6_needs f j := (h.2.1 j hj).2.2.2.2.2.2.2.2.2.1
  have ew : gX1_want (nI j) (P.2.2 j) = gX6_wants f j := (h.2.1 j hj).2.2.2.2.2.2.2.2.2.2
  have e2 : gX4_setting P 2 = f 2 := h.1.1.2.2.1
  have e0 : gX4_setting P 0 = f 0 := h.1.1.1
  rw [cst_eq, starts_eq, en, ew, eq_free h hm]
  unfold gX4_canAskBack
  rw [e2, e0, eq_granted h hm, eq_surp h hm]
  have el : (gX6_needs f j - gX6_free f).toInt = (gX6_needs f j).toInt - (gX6_free f).toInt := isb (by omega) (by omega)
  have es : (gX6_free f + gX6_spares f).toInt = (gX6_free f).toInt + (gX6_spares f).toInt := ia (by omega) (by omega)
  by_cases c : gX6_free f < gX6_needs f j
  · have c' : 0 < gX6_needs f j - gX6_free f := by rw [x_ilt, el, i_0]; rw [x_ilt] at c; omega
    rw [if_pos c, if_pos c']
    by_cases d2 : f 2 = 1
    · rw [if_pos d2, if_pos d2]
      by_cases d0 : f 0 < gX6_granted f
      · rw [if_pos d0, if_pos d0, if_pos rfl]; exact ⟨rfl, h⟩
      · rw [if_neg d0, if_neg d0]
        by_cases d1 : gX6_free f + gX6_spares f < gX6_needs f j
        · have d1' : gX6_spares f < gX6_needs f j - gX6_free f := by rw [x_ilt, el]; rw [x_ilt, es] at d1; omega
          rw [if_pos d1, if_pos d1', if_pos rfl]; exact ⟨rfl, h⟩
        · have d1' : ¬ gX6_spares f < gX6_needs f j - gX6_free f := by rw [x_ilt, el]; rw [x_ilt, es] at d1; omega
          rw [if_neg d1, if_neg d1', if_neg (by decide)]
          have hn16 := n_le hm
          have he := st_enough hm (j := j) (by omega) c d1
          have hi := ab_inv hm he
          have ea := eq_ab h hm he
          have en' : gX6_needs (gX6_asksBack f (gX6_needs f j - gX6_free f)) j = gX6_needs f j := needs_ext (fun m hm => hi.2.2 j m (by omega) (by omega) (by omega) (by omega))
          have enn : nF (gX6_asksBack f (gX6_needs f j - gX6_free f)) = nF f := by unfold nF; rw [hi.2.1 4 (by decide)]
          exact ⟨rfl, eq_go ea hi.1 (by omega) (by rw [en']; omega)⟩
    · rw [if_neg d2, if_neg d2, if_pos rfl]; exact ⟨rfl, h⟩
  · have c' : ¬ 0 < gX6_needs f j - gX6_free f := by rw [x_ilt, el, i_0]; rw [x_ilt] at c; omega
    rw [if_neg c, if_neg c']
    rw [x_ilt] at c
    by_cases d : gX6_wants f j ≤ gX6_free f
    · rw [if_pos d]
      have e : (if gX6_wants f j < gX6_free f then gX6_wants f j else gX6_free f) = gX6_wants f j := by
        split
        · rfl
        · rename_i q; rw [x_ilt] at q; rw [x_ile] at d; rw [i_eq]; omega
      rw [e]
      exact ⟨rfl, eq_go h hm hj (by omega)⟩
    · rw [if_neg d]
      have d' : ¬ gX6_wants f j < gX6_free f := by rw [x_ilt]; rw [x_ile] at d; omega
      rw [if_neg d']
      exact ⟨rfl, eq_go h hm hj (by omega)⟩
theorem gt_sim {f : FS} {P : PS} : ∀ (fu i : Nat) (x : Int32) (f1 : FS) (P1 : PS), RP f1 P1 → mInv f1 → x = gX6_ranked f1 0 → RP (gX6_goesThrough_L6 f fu x f1) (gX4_goThroughQueue_L2 P fu i P1) := by
  intro fu
  induction fu with
  | zero => intro i x f1 P1 h _ _; exact h
  | succ fu ih =>
    intro i x f1 P1 h hm hx
    rw [gX6_goesThrough_L6, gX4_goThroughQueue_L2]
    rcases eq_first h hm with ⟨r1, r2⟩ | ⟨j, hj, r1, r2, r3⟩
    · rw [r2, if_pos rfl, if_pos (hx.trans r1)]
      exact h
    · have hn := n_le hm
      have hx5 : ¬ x = -5 := by rw [hx, r1]; exact nI_ne5 (by omega)
      have hxc : x.toNatClampNeg = j := by rw [hx, r1, nI_clamp (by omega)]
      rw [r2, if_neg hx5, if_neg (show ¬ some j = none by simp), hxc]
      show RP _ (if (gX4_start P1 j).1 = 0 then (gX4_start P1 j).2 else gX4_goThroughQueue_L2 P fu (i + 1) (gX4_start P1 j).2)
      have hs := eq_start h hm hj
      rw [hs.1]
      by_cases c : (gX6_starts f1 j).1 = 0
      · rw [if_pos c, if_pos c]; exact hs.2
      · rw [if_neg c, if_neg c]
        have hg := gt_step hm ⟨by rw [hxc, hx, r1], by omega, by rw [hxc]; exact hj, by rw [hxc]; exact r3⟩ (by rw [hxc]; exact c)
        rw [hxc] at hg
        exact ih (i + 1) _ _ _ hs.2 hg.1 rfl
theorem eq_gt {f : FS} {P : PS} (h : RP f P) (hm : mInv f) : RP (gX6_goesThrough f) (gX4_goThroughQueue P) := gt_sim 16 0 _ f P h hm rfl
