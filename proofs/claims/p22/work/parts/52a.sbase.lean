/-! ===== what the law's steps need ===== -/
theorem kt_L {T0 : TS} : ∀ (fu i : Nat) (T : TS), (gX2_read_L17 T0 fu i T).2.1 0 = T.1 0 ∧ (gX2_read_L17 T0 fu i T).2.2.1 = T.2.1 := by
  have he : ∀ T : TS, (endR T).2.1 0 = T.1 0 ∧ (endR T).2.2.1 = T.2.1 := fun T => by
    unfold endR
    have := kt_end (T := T)
    generalize gX2_endJoin T = e at *
    (repeat' split) <;> first | exact this | exact ⟨rfl, rfl⟩
  intro fu
  induction fu with
  | zero =>
    intro i T
    rw [gX2_read_L17]
    split <;> exact he T
  | succ fu ih =>
    intro i T
    rw [gX2_read_L17]
    split
    · exact he T
    · have ht := kt_takes (T := T) (c := T.2.1 i)
      split
      · exact ht
      · have := ih (i + 1) (gX2_takes T (T.2.1 i)).2
        exact ⟨this.1.trans ht.1, this.2.trans ht.2⟩
theorem kt_read {T : TS} : (gX2_read T).2.1 0 = T.1 0 ∧ (gX2_read T).2.2.1 = T.2.1 := kt_L 60 0 _
/-- the text's length is none below 0 -/
def TX (C : CS) : Prop := ¬ C.2.2.1.1 0 < 0
theorem TX_e {C E : CS} (h : TX C) (e : E.2.2.1 = C.2.2.1) : TX E := by
  unfold TX
  rw [e]
  exact h
theorem tx_cancel {C : CS} {a : Int32} : (gX5_cancel C a).2.2.2.1 = C.2.2.1 := by
  unfold gX5_cancel
  (repeat' split) <;> rfl
theorem tx_change {C : CS} {a b : Int32} : (gX5_change C a b).2.2.2.1 = C.2.2.1 := by
  unfold gX5_change
  (repeat' split) <;> rfl
theorem tx_set {C : CS} {a b : Int32} : (gX5_set C a b).2.2.2.1 = C.2.2.1 := by
  unfold gX5_set
  (repeat' split) <;> rfl
theorem tx_stepL {C : CS} {a : Int32} : ∀ (fu : Nat) (x : Int32) (C1 : CS), (gX5_step_L37 C a fu x C1).2.2.2.1 = C1.2.2.1 := by
  intro fu
  induction fu with
  | zero => intro x C1; rfl
  | succ fu ih =>
    intro x C1
    rw [gX5_step_L37]
    split
    · rfl
    · rw [ih]
theorem tx_step {C : CS} {a : Int32} : (gX5_step C a).2.2.2.1 = C.2.2.1 := by
  unfold gX5_step
  split
  · rfl
  · split
    · rw [tx_stepL]
    · rfl
theorem tx_doneL {C : CS} {a : Int32} : ∀ (fu : Nat) (x : Int32) (C1 : CS), (gX5_doneIn_L39 C a fu x C1).2.2.2.1 = C1.2.2.1 := by
  intro fu
  induction fu with
  | zero =>
    intro x C1
    rw [gX5_doneIn_L39]
    (repeat' split) <;> rfl
  | succ fu ih =>
    intro x C1
    rw [gX5_doneIn_L39]
    (repeat' split) <;> first | rfl | rw [ih]
theorem tx_done {C : CS} {a : Int32} : (gX5_doneIn C a).2.2.2.1 = C.2.2.1 := by
  unfold gX5_doneIn
  split
  · rfl
  · split
    · rw [tx_doneL]
    · rfl
theorem tx_aaL {C : CS} : ∀ (fu i : Nat) (x : Int32) (C1 : CS), (gX5_askAll_L53 C fu i x C1).2.2.2.1 = C1.2.2.1 := by
  intro fu
  induction fu with
  | zero => intro i x C1; rfl
  | succ fu ih => intro i x C1; rw [gX5_askAll_L53, ih]
theorem tx_aa {C : CS} : (gX5_askAll C).2.2.2.1.1 0 = C.2.2.1.1 0 := by
  have h : (gX5_askAll C).2.2.2.1 = (gX2_read C.2.2.1).2 := by
    unfold gX5_askAll
    split
    · split
      · rw [tx_aaL]
      · rfl
    · rfl
  rw [h]
  exact kt_read.1
theorem TX_aa {C : CS} {l : List Int32} (h : TLs C.2.2.1 l) (hl : l.length ≤ 60) : TX (gX5_askAll C).2 := by
  unfold TX
  rw [tx_aa]
  exact TLs_ht h hl
theorem LR_eq {C E : CS} {f : FS} (h : LR C f) (e1 : E.1 = C.1) (e2 : E.2.1 = C.2.1) : LR E f := by
  unfold LR
  rw [e1, e2]
  exact h
/-! letters -/
theorem wc_0 {w : Nat} (hw : w < 3) (h : nI w = 0) : 108 = wc w := by
  have : w = 0 := (nI_eq (b := 0) (by omega) (by decide)).mp h
  subst this
  rfl
theorem wc_1 {w : Nat} (hw : w < 3) (h : nI w = nI 1) : 98 = wc w := by
  have : w = 1 := (nI_eq (b := 1) (by omega) (by decide)).mp h
  subst this
  rfl
theorem wc_2 {w : Nat} (hw : w < 3) (h0 : ¬ nI w = 0) (h1 : ¬ nI w = nI 1) : 109 = wc w := by
  have e0 : ¬ w = 0 := fun z => h0 (by rw [z]; rfl)
  have e1 : ¬ w = 1 := fun z => h1 (by rw [z])
  obtain rfl : w = 2 := by omega
  rfl
theorem wc_nar {w : Nat} : vp_nar .char (wc w) = wc w := by
  unfold wc
  split
  · exact nar_nI (q := 108) (by decide)
  · split
    · exact nar_nI (q := 98) (by decide)
    · exact nar_nI (q := 109) (by decide)
/-! acts -/
theorem okJ_N {w a b : Nat} (hw : w < 3) (ha : 1 ≤ a ∧ a ≤ 200) (hb : 1 ≤ b ∧ b ≤ 200) : okJ (nI w) (nI a) (nI b) := ⟨i3_of (by rw [nI_toInt (by omega)]; omega), by rw [nI_toInt (by omega)]; omega, by rw [nI_toInt (by omega)]; omega⟩
theorem n_16 {f : FS} (h : f 4 = 16) : nF f = 16 := by unfold nF; rw [h]; rfl
theorem n_n16 {f : FS} (hm : mInv f) (h : ¬ f 4 = 16) : nF f < 16 := n16_of hm h
theorem cm_n {f : FS} {a b c : Int32} (hm : mInv f) (h16 : ¬ f 4 = 16) (hc : okJ a b c) : nF f < nF (gX6_comes f a b c) := by
  rw [(cm_ok hm h16 hc).2]
  omega
theorem cm_6 {f : FS} {a b c : Int32} (hm : mInv f) (h16 : ¬ f 4 = 16) (hc : okJ a b c) : oF (gX6_comes f a b c) (nF f) 6 = 0 := by
  have hi := com_inv hm h16 hc
  have hk := (gt_ok hi.1).2
  show oF (gX6_goesThrough (comF f a b c)) (nF f) 6 = 0
  rw [hk.2.1 (nF f) 6 (by decide) (by decide) (by decide) (by decide) (by decide), com_oF (by decide), if_pos rfl, if_neg (by decide), if_neg (by decide), if_neg (by decide)]
  exact hm.1.2.2.2.2.2 (nF f) (Nat.le_refl _) (n16_of hm h16) 6 (by decide)
theorem cm_3 {f : FS} {a b c : Int32} (hm : mInv f) (h16 : ¬ f 4 = 16) (hc : okJ a b c) : ¬ 2 ≤ oF (gX6_comes f a b c) (nF f) 3 := by
  have hi := com_inv hm h16 hc
  have hk := (gt_ok hi.1).2
  have e : oF (comF f a b c) (nF f) 3 = 0 := by
    rw [com_oF (by decide), if_pos rfl, if_neg (by decide), if_neg (by decide), if_neg (by decide)]
    exact hm.1.2.2.2.2.2 (nF f) (Nat.le_refl _) (n16_of hm h16) 3 (by decide)
  show ¬ 2 ≤ oF (gX6_goesThrough (comF f a b c)) (nF f) 3
  rcases hk.2.2 (nF f) with h | ⟨-, h⟩
  · rw [h, e]; decide
  · rw [h]; decide
theorem cm_g {f : FS} {a b c : Int32} (hm : mInv f) (hw : wx f) (h16 : ¬ f 4 = 16) (hc : okJ a b c) : ¬ gX6_granted (gX6_comes f a b c) < gX6_granted f := by
  have hi := com_inv hm h16 hc
  have hx := com_wx hm h16 hc hw
  have hg := (gt_all hi.1 hx.1).2.2
  rw [hx.2] at hg
  rw [x_ilt]
  show ¬ (gX6_granted (gX6_goesThrough (comF f a b c))).toInt < _
  omega
theorem gt_n {f : FS} (hm : mInv f) : nF (gX6_goesThrough f) = nF f := gtK_n (gt_ok hm).2
theorem cn_n {f : FS} {j : Nat} (hm : mInv f) (hj : j < nF f) : j < nF (gX6_goesThrough (gX6_ends f j 3)) := by
  rw [gt_n (en_ok hm hj (Or.inr rfl))]
  unfold nF
  rw [ends_f (by decide)]
  exact hj
theorem cn_3 {f : FS} {j : Nat} (hm : mInv f) (hj : j < nF f) : oF (gX6_goesThrough (gX6_ends f j 3)) j 3 = 3 := by
  have e : oF (gX6_ends f j 3) j 3 = 3 := by rw [ends_oF (by decide), if_pos rfl, if_pos rfl]
  rcases (gt_ok (en_ok hm hj (Or.inr rfl))).2.2.2 j with h | ⟨h, -⟩
  · rw [h, e]
  · rw [e] at h
    exact absurd h (by decide)
theorem in_way {v : Nat} (hv : v < 3) : ¬ gX6_in (nI v).toInt64 0 2 = 0 := by
  have i0 := in_ne (x := nI v) (a := 0) (b := 2)
  rw [show (0 : Int64).toInt = 0 from rfl, show (2 : Int64).toInt = 2 from rfl, nI_toInt (by omega)] at i0
  exact i0.mpr (by omega)
theorem set_ix {q : Nat} (hq : q < 4) : (0 + nI q).toNatClampNeg = q := by rw [Int32.zero_add, nI_clamp (by omega)]
theorem l_setN {C : CS} {f : FS} {q v : Nat} (h : LR C f) (hq : q < 4) (c : ¬ gX6_isSetting (nI q) (nI v) = 0) : (f q = nI v → gX5_set C (nI q) (nI v) = (-5, C)) ∧ (¬ f q = nI v → (gX5_set C (nI q) (nI v)).1 = f q ∧ LR (gX5_set C (nI q) (nI v)).2 (gX6_goesThrough (upd f q (nI v)))) := by
  have := l_set h c
  rw [set_ix hq] at this
  exact this
theorem se_WIN {f : FS} {N q v : Nat} (h : WI f N) (hq : q < 4) (c : ¬ gX6_isSetting (nI q) (nI v) = 0) : WI (gX6_goesThrough (upd f q (nI v))) N := by
  have := se_WI h c
  rw [set_ix hq] at this
  exact this
theorem se_q {f : FS} {q v : Nat} (hm : mInv f) (hq : q < 4) (c : ¬ gX6_isSetting (nI q) (nI v) = 0) : gX6_goesThrough (upd f q (nI v)) q = nI v := by
  have hk := set_ok hm c
  rw [set_ix hq] at hk
  rw [(gt_ok hk).2.1 q (by omega) (by omega), f_upd, if_pos rfl]
theorem cnt_set {C : CS} {f : FS} {q : Nat} (h : LR C f) (hq : q < 4) : gX5_count C (12 + nI q) = f q := by
  rcases (show q = 0 ∨ q = 1 ∨ q = 2 ∨ q = 3 by omega) with rfl | rfl | rfl | rfl
  · exact cnt_12 h
  · exact cnt_13 h
  · exact cnt_14 h
  · exact cnt_15 h
theorem in_N {v l u : Nat} {a b : Int64} (hv : v < 2 ^ 31) (ha : a.toInt = l) (hb : b.toInt = u) (h : l ≤ v ∧ v ≤ u) : ¬ gX6_in (nI v).toInt64 a b = 0 := by
  have i0 := in_ne (x := nI v) (a := a) (b := b)
  rw [ha, hb, nI_toInt hv] at i0
  exact i0.mpr (by omega)
theorem se_0 {v : Nat} (h : 20 ≤ v ∧ v ≤ 500) : ¬ gX6_isSetting (nI 0) (nI v) = 0 := by
  unfold gX6_isSetting
  rw [if_pos (show nI 0 = 0 from rfl)]
  exact in_N (l := 20) (u := 500) (by omega) rfl rfl h
theorem se_3 {v : Nat} (h : 1 ≤ v ∧ v ≤ 50) : ¬ gX6_isSetting (nI 3) (nI v) = 0 := by
  have e := in_N (v := v) (l := 1) (u := 50) (a := 1) (b := 50) (by omega) rfl rfl h
  unfold gX6_isSetting
  rw [if_neg (show ¬ nI 3 = 0 by decide), if_neg (show ¬ nI 3 = 1 by decide), if_neg (show ¬ nI 3 = 2 by decide), if_pos (show nI 3 = 3 from rfl), if_neg e]
  decide
theorem se_12 {q v : Nat} (hq : q = 1 ∨ q = 2) (h : v < 2) : ¬ gX6_isSetting (nI q) (nI v) = 0 := by
  have e := in_N (v := v) (l := 0) (u := 1) (a := 0) (b := 1) (by omega) rfl rfl (by omega)
  unfold gX6_isSetting
  rcases hq with rfl | rfl
  · rw [if_neg (show ¬ nI 1 = 0 by decide), if_pos (show nI 1 = 1 from rfl)]
    exact e
  · rw [if_neg (show ¬ nI 2 = 0 by decide), if_neg (show ¬ nI 2 = 1 by decide), if_pos (show nI 2 = 2 from rfl)]
    exact e
theorem q_ne0 {q : Nat} (hq : q < 4) (h : ¬ nI q = 0) : ¬ q = 0 := fun z => h (by rw [z]; rfl)
theorem q_eq0 {q : Nat} (hq : q < 4) (h : nI q = 0) : q = 0 := (nI_eq (b := 0) (by omega) (by decide)).mp h
