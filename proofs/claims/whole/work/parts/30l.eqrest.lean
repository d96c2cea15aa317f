/-! ===== the other calls ===== -/
theorem cstep_L {C : CS} {A : Nat} (hA : A ≤ 1000) : ∀ (fu t : Nat) (C1 : CS) (f1 : FS), RP f1 C1.1 → mInv f1 → t ≤ A → A ≤ t + fu → ∃ P', gX5_step_L37 C (nI A) fu (nI t) C1 = (gX4_joinsIn P' 2 - gX4_joinsIn C.1 2, (P', C1.2)) ∧ RP (stN f1 (A - t)) P' := by
  intro fu
  induction fu with
  | zero =>
    intro t C1 f1 h hm h1 h2
    refine ⟨C1.1, rfl, ?_⟩
    rw [show A - t = 0 by omega]
    exact h
  | succ fu ih =>
    intro t C1 f1 h hm h1 h2
    rw [gX5_step_L37]
    by_cases c : nI A ≤ nI t
    · rw [if_pos c]
      have := (nI_leI (by omega) (by omega)).mp c
      refine ⟨C1.1, rfl, ?_⟩
      rw [show A - t = 0 by omega]
      exact h
    · rw [if_neg c]
      have hlt : t < A := by
        rcases Nat.lt_or_ge t A with hl | hl
        · exact hl
        · exact absurd (nI_le hl (by omega)) c
      have es : nI A - nI t = nI (A - t) := pk_sub (by omega)
      have et : (nI (A - t)).toInt = ((A - t : Nat) : Int) := nI_toInt (by omega)
      obtain ⟨k, k1, k2, k3, k4, -⟩ := leap_sim (a := nI A - nI t) h hm (by rw [es, et]; omega)
      rw [es, et] at k2
      have ex : nI t + (if 1 < (gX4_leap C1.1 (nI A - nI t)).1 then (gX4_leap C1.1 (nI A - nI t)).1 else 1) = nI (t + k) := by
        rw [k3]
        split
        · rw [nI_add]
        · rename_i q
          rw [x_ilt, i_1, nI_toInt (by omega)] at q
          rw [show k = 1 by omega, nI_1]
      rw [ex]
      obtain ⟨P', p1, p2⟩ := ih (t + k) ((gX4_leap C1.1 (nI A - nI t)).2, C1.2.1, C1.2.2.1, C1.2.2.2.1, C1.2.2.2.2.1, C1.2.2.2.2.2.1, C1.2.2.2.2.2.2) (stN f1 k) k4 (stN_ok hm k).1 (by omega) (by omega)
      refine ⟨P', p1, ?_⟩
      rw [stN_add, show k + (A - (t + k)) = A - t by omega] at p2
      exact p2
theorem rstep_L {Z : MS} {a : Int32} : ∀ (fu i : Nat) (x : Int32) (Z1 : MS), gX6_step_L23 Z a fu i x Z1 = ((gX6_acted (Z1.1, stN Z1.2.1 fu, Z1.2.2.1, Z1.2.2.2.1, Z1.2.2.2.2.1, Z1.2.2.2.2.2.1, Z1.2.2.2.2.2.2.1, Z1.2.2.2.2.2.2.2) (x + cnN Z1.2.1 fu)).1, (gX6_acted (Z1.1, stN Z1.2.1 fu, Z1.2.2.1, Z1.2.2.2.1, Z1.2.2.2.2.1, Z1.2.2.2.2.2.1, Z1.2.2.2.2.2.2.1, Z1.2.2.2.2.2.2.2) (x + cnN Z1.2.1 fu)).2) := by
  intro fu
  induction fu with
  | zero => intro i x Z1; rw [gX6_step_L23, show cnN Z1.2.1 0 = 0 from rfl, Int32.add_zero]; rfl
  | succ fu ih =>
    intro i x Z1
    rw [gX6_step_L23, ih]
    show ((gX6_acted (Z1.1, stN (gX6_steps Z1.2.1).2 fu, Z1.2.2.1, Z1.2.2.2.1, Z1.2.2.2.2.1, Z1.2.2.2.2.2.1, Z1.2.2.2.2.2.2.1, Z1.2.2.2.2.2.2.2) (x + (gX6_steps Z1.2.1).1 + cnN (gX6_steps Z1.2.1).2 fu)).1, (gX6_acted (Z1.1, stN (gX6_steps Z1.2.1).2 fu, Z1.2.2.1, Z1.2.2.2.1, Z1.2.2.2.2.1, Z1.2.2.2.2.2.1, Z1.2.2.2.2.2.2.1, Z1.2.2.2.2.2.2.2) (x + (gX6_steps Z1.2.1).1 + cnN (gX6_steps Z1.2.1).2 fu)).2) = _
    rw [stN_s, Int32.add_assoc, cnN_s]
set_option maxRecDepth 100000 in
theorem eq_step {C : CS} {Z : MS} {a : Int32} (h : RR C Z) : EQ2 (gX5_step C a) (gX6_step Z a) := by
  obtain ⟨⟨h1, h2⟩, -⟩ := id h
  have hn := in_ne (x := a) (a := 1) (b := 1000)
  rw [show (1 : Int64).toInt = 1 from rfl, show (1000 : Int64).toInt = 1000 from rfl] at hn
  have e1000 : (1000 : Int32).toInt = 1000 := rfl
  unfold gX5_step gX6_step
  by_cases c : gX6_in a.toInt64 1 1000 = 0
  · rw [if_pos c]
    by_cases c1 : a < 1
    · rw [if_pos c1]; exact ⟨rfl, h⟩
    · rw [if_neg c1]
      by_cases c2 : a ≤ 1000
      · rw [x_ilt, i_1] at c1
        rw [x_ile, e1000] at c2
        exact absurd c (hn.mpr (by omega))
      · rw [if_neg c2]; exact ⟨rfl, h⟩
  · have hc := hn.mp c
    rw [if_neg c, if_neg (show ¬ a < 1 by rw [x_ilt, i_1]; omega), if_pos (show a ≤ 1000 by rw [x_ile, e1000]; omega)]
    obtain ⟨A, hA, rfl, eA⟩ := i_nI (x := a) (by omega)
    rw [eA] at hc
    rw [eA, nI_clamp hA, rstep_L, Int32.zero_add]
    obtain ⟨P', p1, p2⟩ := cstep_L (C := C) (A := A) (by omega) A 0 (C.1, gX0_record C.2.1 C.1, C.2.2.1, C.2.2.2.1, C.2.2.2.2.1, C.2.2.2.2.2.1, C.2.2.2.2.2.2) Z.2.1 h1 h2 (Nat.zero_le _) (by omega)
    rw [show ((A : Int)).toNat = A from rfl, show (0 : Int32) = nI 0 from rfl, p1]
    rw [Nat.sub_zero] at p2
    have hok := (stN_ok h2 A).1
    have hval : gX4_joinsIn P' 2 - gX4_joinsIn C.1 2 = cnN Z.2.1 A := by
      rw [eq_many p2 hok (by decide), eq_many h1 h2 (by decide), cnN_eq h2 A, Int32.add_comm, Int32.add_sub_cancel]
    have hE := act_EQ (C := C) (Z := Z) (f' := stN Z.2.1 A) (P' := P') (v := cnN Z.2.1 A) (v' := gX4_joinsIn P' 2 - gX4_joinsIn C.1 2) h p2 hok hval
    exact hE
/-! the joins of the text -/
theorem ways_eq {T : TS} {i : Nat} (h : i < 12) : gX2_wayOf T (nI i) = T.2.2.1 i ∧ gX2_leftOf T (nI i) = T.2.2.2.1 i ∧ gX2_rightOf T (nI i) = T.2.2.2.2 i := by
  have c1 : ¬ nI i < 0 := nI_pos (by omega)
  have c2 : ¬ nI 12 ≤ nI i := nI_ge h (by decide)
  unfold gX2_wayOf gX2_leftOf gX2_rightOf
  rw [if_neg c1, if_neg c2, if_neg c1, if_neg c2, if_neg c1, if_neg c2, nI_clamp (by omega)]
  exact ⟨rfl, rfl, rfl⟩
theorem aa_L {C : CS} {Z : MS} {T : TS} {M tx rd : FS} {m : Nat} (he : entR T (M, tx, rd) m) (hm12 : m ≤ 12) (hok : entP (M, tx, rd)) (x : Int32) : ∀ (fu i : Nat) (C1 : CS) (Z1 : MS), C1.2.2.1 = T → Z1.1 = M → Z1.2.2.2.2.2.2.2 = rd → RP Z1.2.1 C1.1 → mInv Z1.2.1 → i + fu = m → nF Z1.2.1 + fu ≤ 16 →
    ∃ f' P', gX5_askAll_L53 C fu i x C1 = (x, (P', C1.2)) ∧ gX6_askAll_L41 Z fu i Z1 = ((gX6_acted (Z1.1, f', Z1.2.2.1, Z1.2.2.2.1, Z1.2.2.2.2.1, Z1.2.2.2.2.2.1, Z1.2.2.2.2.2.2.1, Z1.2.2.2.2.2.2.2) (M 5)).1, (gX6_acted (Z1.1, f', Z1.2.2.1, Z1.2.2.2.1, Z1.2.2.2.2.1, Z1.2.2.2.2.2.1, Z1.2.2.2.2.2.2.1, Z1.2.2.2.2.2.2.2) (M 5)).2) ∧ RP f' P' ∧ mInv f' := by
  have hM5 : (M 5).toNatClampNeg = m := by rw [show M 5 = nI m from he.2.1, nI_clamp (by omega)]
  intro fu
  induction fu with
  | zero =>
    intro i C1 Z1 e1 e2 e3 h hm hi hn
    refine ⟨Z1.2.1, C1.1, rfl, ?_, h, hm⟩
    rw [gX6_askAll_L41, e2]
    subst e2
    rfl
  | succ fu ih =>
    intro i C1 Z1 e1 e2 e3 h hm hi hn
    obtain ⟨w1, w2, w3⟩ := ways_eq (T := T) (i := i) (by omega)
    have hr := he.2.2 i (by omega)
    have ho : okJ (rd (3 * i)) (rd (3 * i + 1)) (rd (3 * i + 2)) := hok i (show i < (M 5).toNatClampNeg by omega)
    have hr1 : rd (3 * i) = T.2.2.1 i := hr.1
    have hr2 : rd (3 * i + 1) = T.2.2.2.1 i := hr.2.1
    have hr3 : rd (3 * i + 2) = T.2.2.2.2 i := hr.2.2
    have h16 := aa_16 hm (show nF Z1.2.1 < 16 by omega)
    have v1 : gX2_wayOf C1.2.2.1 (nI i) = rd (3 * i) := by rw [e1, w1, hr1]
    have v2 : gX2_leftOf C1.2.2.1 (nI i) = rd (3 * i + 1) := by rw [e1, w2, hr2]
    have v3 : gX2_rightOf C1.2.2.1 (nI i) = rd (3 * i + 2) := by rw [e1, w3, hr3]
    have z1 : Z1.2.2.2.2.2.2.2 (3 * i) = rd (3 * i) := by rw [e3]
    have z2 : Z1.2.2.2.2.2.2.2 (3 * i + 1) = rd (3 * i + 1) := by rw [e3]
    have z3 : Z1.2.2.2.2.2.2.2 (3 * i + 2) = rd (3 * i + 2) := by rw [e3]
    rw [gX5_askAll_L53, gX6_askAll_L41, v1, v2, v3, z1, z2, z3]
    have ht := eq_take h hm h16 ho
    have hk := cm_ok hm h16 ho
    obtain ⟨f', P', p1, p2, p3, p4⟩ := ih (i + 1) ((gX4_take C1.1 (rd (3 * i)) (rd (3 * i + 1)) (rd (3 * i + 2))).2, C1.2.1, C1.2.2.1, C1.2.2.2.1, C1.2.2.2.2.1, C1.2.2.2.2.2.1, C1.2.2.2.2.2.2) (Z1.1, gX6_comes Z1.2.1 (rd (3 * i)) (rd (3 * i + 1)) (rd (3 * i + 2)), Z1.2.2.1, Z1.2.2.2.1, Z1.2.2.2.2.1, Z1.2.2.2.2.2.1, Z1.2.2.2.2.2.2.1, Z1.2.2.2.2.2.2.2) e1 e2 e3 ht.1 hk.1 (by omega) (by show nF (gX6_comes Z1.2.1 (rd (3 * i)) (rd (3 * i + 1)) (rd (3 * i + 2))) + fu ≤ 16; rw [hk.2]; omega)
    exact ⟨f', P', p1, p2, p3, p4⟩
theorem RR_txt {C : CS} {Z : MS} {T' : TS} {M' tx rd : FS} (h : RR C Z) (k0 : M' 0 = Z.1 0) (k1 : M' 1 = Z.1 1) (hT : TR M' tx T') : RR (C.1, C.2.1, T', C.2.2.2.1, C.2.2.2.2.1, C.2.2.2.2.2.1, C.2.2.2.2.2.2) (M', Z.2.1, Z.2.2.1, Z.2.2.2.1, Z.2.2.2.2.1, Z.2.2.2.2.2.1, tx, rd) := by
  obtain ⟨h1, h2, h3, h4⟩ := h
  refine ⟨h1, ?_, hT, ?_⟩
  · show HR (M' 0) Z.2.2.2.2.1 C.2.1
    rw [k0]; exact h2
  · show SR (M' 1) Z.2.2.2.2.2.1 C.2.2.2.2.1 C.2.2.2.1
    rw [k1]; exact h4
set_option maxRecDepth 100000 in
theorem eq_askAll {C : CS} {Z : MS} (h : RR C Z) : EQ2 (gX5_askAll C) (gX6_askAll Z) := by
  obtain ⟨⟨h1, h2⟩, -, ⟨n, t1, t2, t3, t4⟩, -⟩ := id h
  have hr := eq_read (T := C.2.2.1) (Y := (Z.1, Z.2.2.2.2.2.2.1, Z.2.2.2.2.2.2.2)) (n := n) ⟨t1, t2, t3, t4⟩
  have hk := kt_read (T := C.2.2.1)
  have hL : 0 ≤ (Z.1 2).toInt ∧ (Z.1 2).toInt ≤ 60 := by rw [t2, nI_toInt (by omega)]; omega
  have hfa := fa_ok (Y := (Z.1, Z.2.2.2.2.2.2.1, Z.2.2.2.2.2.2.2)) hL
  unfold gX5_askAll gX6_askAll
  generalize gX2_read C.2.2.1 = q at *
  generalize gX6_fault (Z.1, Z.2.2.2.2.2.2.1, Z.2.2.2.2.2.2.2) = r at *
  obtain ⟨f1, f2, f3, f4⟩ := hfa
  have hTR : TR r.2.1 r.2.2.1 q.2 := ⟨n, hk.1.trans t1, (f1 2 (by decide) (by decide) (by decide)).trans t2, t3, fun i hi => by
    have e1 : r.2.2.1 = Z.2.2.2.2.2.2.1 := f2
    rw [e1, hk.2]
    exact t4 i hi⟩
  have hRR := RR_txt (rd := r.2.2.2) h (f1 0 (by decide) (by decide) (by decide)) (f1 1 (by decide) (by decide) (by decide)) hTR
  rcases hr with ⟨r1, q1, m, hm12, he⟩ | ⟨i, hi, r1, q1⟩
  · rw [if_pos r1, if_pos q1]
    have hj : gX2_joins q.2 = nI m := he.1
    have hm5 : r.2.1 5 = nI m := he.2.1
    have hroom := room_iff (k := m) h1 h2 (by omega)
    have hn := n_le h2
    have h4 : Z.2.1 4 = nI (nF Z.2.1) := n4_of h2
    have hsum : Z.2.1 4 + r.2.1 5 ≤ 16 ↔ nF Z.2.1 + m ≤ 16 := by
      rw [h4, hm5, nI_add, show (16 : Int32) = nI 16 from rfl, nI_leI (by omega) (by decide)]
    rw [hj, hm5, nI_clamp (by omega)]
    rw [hm5] at hsum
    by_cases c : nF Z.2.1 + m ≤ 16
    · rw [if_pos (hroom.mpr c), if_pos (hsum.mpr c)]
      obtain ⟨f', P', p1, p2, p3, p4⟩ := aa_L (C := C) (Z := Z) (T := q.2) (M := r.2.1) (tx := r.2.2.1) (rd := r.2.2.2) (m := m) he hm12 f4 (nI m) m 0 (C.1, gX0_record C.2.1 C.1, q.2, C.2.2.2.1, C.2.2.2.2.1, C.2.2.2.2.2.1, C.2.2.2.2.2.2) (r.2.1, Z.2.1, gX6_copy Z.2.1 Z.2.2.1, Z.2.2.2.1, Z.2.2.2.2.1, Z.2.2.2.2.2.1, r.2.2.1, r.2.2.2) rfl rfl rfl h1 h2 (by omega) c
      rw [p1, p2]
      have hE := act_EQ (C := (C.1, C.2.1, q.2, C.2.2.2.1, C.2.2.2.2.1, C.2.2.2.2.2.1, C.2.2.2.2.2.2)) (Z := (r.2.1, Z.2.1, Z.2.2.1, Z.2.2.2.1, Z.2.2.2.2.1, Z.2.2.2.2.2.1, r.2.2.1, r.2.2.2)) (f' := f') (P' := P') (v := r.2.1 5) (v' := nI m) hRR p3 p4 hm5.symm
      exact hE
    · rw [if_neg (fun z => c (hroom.mp z)), if_neg (fun z => c (hsum.mp z))]
      exact ⟨rfl, hRR⟩
  · rw [if_neg (show ¬ r.1 = -5 by rw [r1]; exact nI_ne5 (by omega)), if_neg (show ¬ q.1 = -1 by rw [q1, i_eq, nI_toInt (by omega), show (-1 : Int32).toInt = -1 from rfl]; omega)]
    exact ⟨by show -100 - q.1 = -100 - r.1; rw [q1, r1], hRR⟩
/-! the text -/
theorem eq_type {C : CS} {Z : MS} {a : Int32} (h : RR C Z) (ha : vp_nar .char a = a) : (gX5_type C a).1 = (gX6_type (Z.1, Z.2.2.2.2.2.2.1, Z.2.2.2.2.2.2.2) a).1 ∧ RR (gX5_type C a).2 ((gX6_type (Z.1, Z.2.2.2.2.2.2.1, Z.2.2.2.2.2.2.2) a).2.1, Z.2.1, Z.2.2.1, Z.2.2.2.1, Z.2.2.2.2.1, Z.2.2.2.2.2.1, (gX6_type (Z.1, Z.2.2.2.2.2.2.1, Z.2.2.2.2.2.2.2) a).2.2.1, (gX6_type (Z.1, Z.2.2.2.2.2.2.1, Z.2.2.2.2.2.2.2) a).2.2.2) := by
  obtain ⟨-, -, ⟨n, t1, t2, t3, t4⟩, -⟩ := id h
  unfold gX5_type gX6_type gX2_append
  show _ = (if Z.1 2 = 60 then _ else _ : Int32 × YS).1 ∧ _
  rw [ha]
  by_cases c : Z.1 2 = 60
  · have c' : ¬ C.2.2.1.1 0 < nI 60 := by rw [t1, ← t2, c]; decide
    rw [if_pos c, if_neg c', if_pos (show (0 : Int32) = 0 from rfl)]
    exact ⟨rfl, h⟩
  · have hn60 : n < 60 := by
      refine Nat.lt_of_le_of_ne t3 (fun e => c ?_)
      rw [t2, e]; rfl
    have c' : C.2.2.1.1 0 < nI 60 := by rw [t1]; exact (nI_ltI (by omega) (by decide)).mpr hn60
    have hc1 : (C.2.2.1.1 0).toNatClampNeg = n := by rw [t1, nI_clamp (by omega)]
    have hc2 : (Z.1 2).toNatClampNeg = n := by rw [t2, nI_clamp (by omega)]
    rw [if_neg c, if_pos c', if_neg (show ¬ (1 : Int32) = 0 by decide)]
    refine ⟨?_, ?_⟩
    · show C.2.2.1.1 0 + 1 = Z.1 2 + 1
      rw [t1, t2]
    · refine RR_txt h ?_ ?_ ⟨n + 1, ?_, ?_, hn60, fun i hi => ?_⟩
      · show upd Z.1 2 (Z.1 2 + 1) 0 = _
        rw [f_upd, if_neg (by decide)]
      · show upd Z.1 2 (Z.1 2 + 1) 1 = _
        rw [f_upd, if_neg (by decide)]
      · show C.2.2.1.1 0 + 1 = _
        rw [t1, nI_1]
      · show Z.1 2 + 1 = _
        rw [t2, nI_1]
      · show upd Z.2.2.2.2.2.2.1 (Z.1 2).toNatClampNeg a i = upd C.2.2.1.2.1 (C.2.2.1.1 0).toNatClampNeg a i
        rw [hc1, hc2, f_upd, f_upd]
        by_cases hin : i = n
        · rw [if_pos hin, if_pos hin]
        · rw [if_neg hin, if_neg hin]
          exact t4 i (by omega)
theorem eq_clear {C : CS} {Z : MS} (h : RR C Z) : (gX5_clearText C).1 = (gX6_clearText (Z.1, Z.2.2.2.2.2.2.1, Z.2.2.2.2.2.2.2)).1 ∧ RR (gX5_clearText C).2 ((gX6_clearText (Z.1, Z.2.2.2.2.2.2.1, Z.2.2.2.2.2.2.2)).2.1, Z.2.1, Z.2.2.1, Z.2.2.2.1, Z.2.2.2.2.1, Z.2.2.2.2.2.1, (gX6_clearText (Z.1, Z.2.2.2.2.2.2.1, Z.2.2.2.2.2.2.2)).2.2.1, (gX6_clearText (Z.1, Z.2.2.2.2.2.2.1, Z.2.2.2.2.2.2.2)).2.2.2) := by
  obtain ⟨-, -, ⟨n, t1, t2, t3, t4⟩, -⟩ := id h
  refine ⟨t1.trans t2.symm, ?_⟩
  refine RR_txt h rfl rfl ⟨0, rfl, rfl, Nat.zero_le _, fun i hi => by omega⟩
/-! undoing, the snapshot -/
theorem un_L {Z : MS} : ∀ (fu i : Nat) (Z1 : MS), ∃ g : FS, gX6_undo_L22 Z fu i Z1 = (Z1.1 0, (Z1.1, g, Z1.2.2)) ∧ ∀ q, g q = if i ≤ q ∧ q < i + fu then Z1.2.2.2.2.1 (153 * (Z1.1 0).toNatClampNeg + q) else Z1.2.1 q := by
  intro fu
  induction fu with
  | zero => intro i Z1; exact ⟨Z1.2.1, rfl, fun q => by rw [if_neg (by omega)]⟩
  | succ fu ih =>
    intro i Z1
    rw [gX6_undo_L22]
    obtain ⟨g, e, hg⟩ := ih (i + 1) (Z1.1, upd Z1.2.1 i (Z1.2.2.2.2.1 (153 * (Z1.1 0).toNatClampNeg + i)), Z1.2.2.1, Z1.2.2.2.1, Z1.2.2.2.2.1, Z1.2.2.2.2.2.1, Z1.2.2.2.2.2.2.1, Z1.2.2.2.2.2.2.2)
    refine ⟨g, e, fun q => ?_⟩
    rw [hg q]
    show (if i + 1 ≤ q ∧ q < i + 1 + fu then Z1.2.2.2.2.1 (153 * (Z1.1 0).toNatClampNeg + q) else upd Z1.2.1 i (Z1.2.2.2.2.1 (153 * (Z1.1 0).toNatClampNeg + i)) q) = _
    rw [f_upd]
    by_cases h : q = i
    · subst h
      rw [if_neg (show ¬ (q + 1 ≤ q ∧ q < q + 1 + fu) by omega), if_pos rfl, if_pos (show q ≤ q ∧ q < q + (fu + 1) by omega)]
    · by_cases h2 : i + 1 ≤ q ∧ q < i + 1 + fu
      · rw [if_pos h2, if_pos (show i ≤ q ∧ q < i + (fu + 1) by omega)]
      · rw [if_neg h2, if_neg h, if_neg (show ¬ (i ≤ q ∧ q < i + (fu + 1)) by omega)]
theorem eq_undo {C : CS} {Z : MS} (h : RR C Z) : EQ2 (gX5_undo C) (gX6_undo Z) := by
  obtain ⟨h1, ⟨h2a, h2b, h2c⟩, h3, h4⟩ := id h
  obtain ⟨hz, hz4⟩ := i4_cases h2b
  unfold gX5_undo gX6_undo gX0_takeBack
  by_cases c : Z.1 0 = 0
  · have c' : C.2.1.1 < 1 := by rw [← h2a, c]; decide
    rw [if_pos c, if_pos c', if_pos (show (0 : Int32) = 0 from rfl)]
    exact ⟨rfl, h⟩
  · have hpos : 1 ≤ (Z.1 0).toNatClampNeg := by
      rcases Nat.eq_zero_or_pos (Z.1 0).toNatClampNeg with e | e
      · rw [e] at hz; exact absurd hz c
      · exact e
    have c' : ¬ C.2.1.1 < 1 := by rw [← h2a, hz, show (1 : Int32) = nI 1 from rfl]; exact nI_nlt hpos (by omega)
    have c2 : C.2.1.1 ≤ nI 4 := by rw [← h2a, hz]; exact nI_le hz4 (by decide)
    rw [if_neg c, if_neg c', if_pos c2, if_neg (show ¬ (1 : Int32) = 0 by decide)]
    obtain ⟨g, e, hg⟩ := un_L (Z := Z) 153 0 (upd Z.1 0 (Z.1 0 - 1), Z.2.1, Z.2.2.1, Z.2.2.2.1, Z.2.2.2.2.1, Z.2.2.2.2.2.1, Z.2.2.2.2.2.2.1, Z.2.2.2.2.2.2.2)
    rw [e]
    have ez : Z.1 0 - 1 = nI ((Z.1 0).toNatClampNeg - 1) := by
      have := pk_sub (a := (Z.1 0).toNatClampNeg) (b := 1) hpos
      rw [← hz] at this
      exact this
    have ecl : (Z.1 0 - 1).toNatClampNeg = (Z.1 0).toNatClampNeg - 1 := by rw [ez, nI_clamp (by omega)]
    have hk := h2c ((Z.1 0).toNatClampNeg - 1) (by omega)
    have hE : E153 (hrow Z.2.2.2.2.1 ((Z.1 0).toNatClampNeg - 1)) g := fun i hi => by
      rw [hg i, if_pos (by omega)]
      show Z.2.2.2.2.1 (153 * (Z.1 0 - 1).toNatClampNeg + i) = _
      rw [ecl]
      rfl
    refine ⟨?_, ⟨?_, mInv_153 hE hk.1⟩, ⟨?_, ?_, fun k hk2 => ?_⟩, ?_, ?_⟩
    · show C.2.1.1 - 1 = Z.1 0 - 1
      rw [h2a]
    · refine RP_153 hE hk.1 ?_
      show RP _ (gX4_copyFrom C.1 (C.2.1.2.2 ((C.2.1.1 - 1).toNatClampNeg)))
      rw [← h2a, ecl]
      exact eq_copy hk.2 hk.1
    · show Z.1 0 - 1 = C.2.1.1 - 1
      rw [h2a]
    · show hx4 (Z.1 0 - 1)
      rw [ez]
      exact ⟨by rw [nI_toInt (by omega)]; omega, by rw [nI_toInt (by omega)]; omega⟩
    · have hk2 : k < (Z.1 0 - 1).toNatClampNeg := hk2
      rw [ecl] at hk2
      exact h2c k (by omega)
    · obtain ⟨n, t1, t2, t3, t4⟩ := h3
      exact ⟨n, t1, t2, t3, t4⟩
    · exact h4
theorem eq_keep {C : CS} {Z : MS} (h : RR C Z) : EQ2 (gX5_keep C) (gX6_keep Z) := by
  obtain ⟨⟨h1, h2⟩, h3, h4, h5⟩ := id h
  refine ⟨h1.1.2.2.2.1, ⟨h1, h2⟩, h3, ?_, ?_⟩
  · obtain ⟨n, t1, t2, t3, t4⟩ := h4
    exact ⟨n, t1, t2, t3, t4⟩
  · refine ⟨rfl, fun _ => ⟨mInv_153 (copy_E (b := Z.2.2.2.2.2.1)) h2, RP_153 (copy_E (b := Z.2.2.2.2.2.1)) h2 (eq_copy h1 h2)⟩⟩
theorem eq_restore {C : CS} {Z : MS} (h : RR C Z) : EQ2 (gX5_restore C) (gX6_restore Z) := by
  obtain ⟨⟨h1, h2⟩, h3, h4, h5, h6⟩ := id h
  unfold gX5_restore gX6_restore
  by_cases c : Z.1 1 = 0
  · rw [if_pos c, if_pos (show C.2.2.2.2.1 = 0 by rw [← h5]; exact c)]
    exact ⟨rfl, h⟩
  · rw [if_neg c, if_neg (show ¬ C.2.2.2.2.1 = 0 by rw [← h5]; exact c)]
    have hs := h6 c
    have hE := copy_E (a := Z.2.2.2.2.2.1) (b := Z.2.1)
    have hR := RP_153 hE hs.1 (eq_copy (P := C.1) hs.2 hs.1)
    refine act_EQ h hR (mInv_153 hE hs.1) ?_
    exact hR.1.2.2.2.1
/-! what is told -/
theorem eq_why {C : CS} {Z : MS} {a : Int32} (h : RR C Z) : gX5_why C a = gX6_why Z.2.1 a := by
  obtain ⟨⟨h1, h2⟩, -⟩ := id h
  unfold gX5_why gX6_why
  rw [find_eq h1 h2]
  by_cases c1 : gX6_isJoin Z.2.1 a = 0
  · rw [if_pos c1, if_pos c1, if_pos rfl]
  · rw [if_neg c1, if_neg c1, if_neg (show ¬ some a.toNatClampNeg = none by simp)]
    obtain ⟨ea, hj⟩ := ij_of h2 c1
    show gX4_hindrance C.1 a.toNatClampNeg = _
    generalize a.toNatClampNeg = j at *
    unfold gX4_hindrance
    rw [eq_isIn (h1.2.1 j hj), show gX1_need (nI j) (C.1.2.2 j) = gX6_needs Z.2.1 j from (h1.2.1 j hj).2.2.2.2.2.2.2.2.2.1, eq_cAh h1 h2 hj, show gX4_setting C.1 0 = Z.2.1 0 from h1.1.1.1]
theorem eq_queue {C : CS} {Z : MS} {a : Int32} (h : RR C Z) : gX5_queue C a = gX6_queue Z.2.1 a := by
  obtain ⟨⟨h1, h2⟩, -⟩ := id h
  unfold gX5_queue gX6_queue
  by_cases c : 0 ≤ a
  · rw [if_pos c, if_pos c]
    rcases eq_atR (a := a) h1 h2 with ⟨e1, e2⟩ | ⟨j, hj, e1, e2⟩
    · rw [e2, if_pos rfl, e1]
    · rw [e2, if_neg (show ¬ some j = none by simp), e1]
      rfl
  · rw [if_neg c, if_neg c]
theorem eq_spare {C : CS} {Z : MS} (h : RR C Z) : gX5_spare C = gX6_spare Z.2.1 := eq_surp h.1.1 h.1.2
theorem RR_pl {C : CS} {Z : MS} {R' : PS} {p' : Nat → Int32} (h : RR C Z) : RR (C.1, C.2.1, C.2.2.1, C.2.2.2.1, C.2.2.2.2.1, R', p') Z := h
theorem eq_mkwork {p : Nat → Int32} {w a b d : Int32} (h : wOK w a b) (hd : 3 ≤ d.toInt ∧ d.toInt ≤ 1000) : gX3_make p w a b 3 = gX6_needsOf w a b ∧ gX3_workWith (gX3_make p w a b) d = gX6_workOf w a b d := by
  obtain ⟨m0, m1, m2, m3, m4⟩ := eq_make (p := p) h
  refine ⟨m3, ?_⟩
  rw [eq_work (p := gX3_make p w a b) (by rw [m0, m1, m2]; exact h) (by rw [m4, m0, m1, m2]) hd, m0, m1, m2]
theorem eq_workc {C : CS} {Z : MS} {w a b d : Int32} (h : RR C Z) : (gX5_work C w a b d).1 = gX6_work Z.2.1 w a b d ∧ RR (gX5_work C w a b d).2 Z := by
  unfold gX5_work gX6_work
  rw [fits_eq]
  by_cases c1 : gX6_in w.toInt64 0 2 = 0
  · rw [if_pos c1, if_pos c1, if_pos rfl]; exact ⟨rfl, h⟩
  · rw [if_neg c1, if_neg c1]
    by_cases c2 : gX6_isTable a = 0
    · rw [if_pos c2, if_pos c2, if_pos rfl]; exact ⟨rfl, h⟩
    · rw [if_neg c2, if_neg c2]
      by_cases c3 : gX6_isTable b = 0
      · rw [if_pos c3, if_pos c3, if_pos rfl]; exact ⟨rfl, h⟩
      · rw [if_neg c3, if_neg c3, if_neg (show ¬ (1 : Int32) = 0 by decide)]
        by_cases c4 : gX6_in d.toInt64 3 500 = 0
        · rw [if_pos c4, if_pos (isPag_iff.mpr c4)]; exact ⟨rfl, h⟩
        · rw [if_neg c4, if_neg (fun z => c4 (isPag_iff.mp z))]
          obtain ⟨e1, e2⟩ := eq_mkwork (p := C.2.2.2.2.2.2) (okJ_in c1 c2 c3) (pg_in c4)
          rw [e1, e2]
          by_cases c5 : gX6_needsOf w a b ≤ d
          · rw [if_pos c5, if_pos c5]; exact ⟨rfl, RR_pl h⟩
          · rw [if_neg c5, if_neg c5]; exact ⟨rfl, RR_pl h⟩
theorem bw_L {C : CS} {f : FS} {a b d : Int32} (ha : 1 ≤ a.toInt ∧ a.toInt ≤ 200) (hb : 1 ≤ b.toInt ∧ b.toInt ≤ 200) (hd : 3 ≤ d.toInt ∧ d.toInt ≤ 1000) : ∀ (fu i : Nat) (x y : Int32) (C1 : CS), 1 ≤ i → i + fu ≤ 3 → y = gX6_workOf x a b d →
    ∃ p', gX5_bestWay_L45 C a b d fu i x y C1 = (gX6_bestWay_L37 f a b d fu i x, (C1.1, C1.2.1, C1.2.2.1, C1.2.2.2.1, C1.2.2.2.2.1, C1.2.2.2.2.2.1, p')) := by
  intro fu
  induction fu with
  | zero => intro i x y C1 _ _ _; exact ⟨C1.2.2.2.2.2.2, rfl⟩
  | succ fu ih =>
    intro i x y C1 h1 h2 hy
    have hw : wOK (nI i) a b := ⟨i3_of (by rw [nI_toInt (by omega)]; omega), ha, hb⟩
    obtain ⟨e1, e2⟩ := eq_mkwork (p := C1.2.2.2.2.2.2) hw hd
    rw [gX5_bestWay_L45, gX6_bestWay_L37, e1, e2, hy]
    by_cases c1 : d < gX6_needsOf (nI i) a b
    · rw [if_pos c1, if_pos c1]
      exact ih (i + 1) x _ _ (by omega) (by omega) rfl
    · rw [if_neg c1, if_neg c1]
      by_cases c2 : gX6_workOf x a b d ≤ gX6_workOf (nI i) a b d
      · rw [if_pos c2, if_pos c2]
        exact ih (i + 1) x _ _ (by omega) (by omega) rfl
      · rw [if_neg c2, if_neg c2]
        exact ih (i + 1) (nI i) _ _ (by omega) (by omega) rfl
theorem eq_best {C : CS} {Z : MS} {a b d : Int32} (h : RR C Z) : (gX5_bestWay C a b d).1 = gX6_bestWay Z.2.1 a b d ∧ RR (gX5_bestWay C a b d).2 Z := by
  unfold gX5_bestWay gX6_bestWay
  rw [fits_eq, if_neg (show ¬ gX6_in (0 : Int32).toInt64 0 2 = 0 by decide)]
  by_cases c2 : gX6_isTable a = 0
  · rw [if_pos c2, if_pos c2, if_pos rfl]; exact ⟨rfl, h⟩
  · rw [if_neg c2, if_neg c2]
    by_cases c3 : gX6_isTable b = 0
    · rw [if_pos c3, if_pos c3, if_pos rfl]; exact ⟨rfl, h⟩
    · rw [if_neg c3, if_neg c3, if_neg (show ¬ (1 : Int32) = 0 by decide)]
      by_cases c4 : gX6_in d.toInt64 3 500 = 0
      · rw [if_pos c4, if_pos (isPag_iff.mpr c4)]; exact ⟨rfl, h⟩
      · rw [if_neg c4, if_neg (fun z => c4 (isPag_iff.mp z))]
        have ha := tab_ne.mp c2
        have hb := tab_ne.mp c3
        have hd := pg_in c4
        have e0 := (eq_mkwork (p := C.2.2.2.2.2.2) (w := 0) ⟨Or.inl rfl, ha, hb⟩ hd).2
        obtain ⟨p', e⟩ := bw_L (C := C) (f := Z.2.1) ha hb hd 2 1 0 (gX3_workWith (gX3_make C.2.2.2.2.2.2 0 a b) d) (C.1, C.2.1, C.2.2.1, C.2.2.2.1, C.2.2.2.2.1, C.2.2.2.2.2.1, gX3_make C.2.2.2.2.2.2 0 a b) (by decide) (by decide) e0
        rw [e]
        exact ⟨rfl, RR_pl h⟩
/-! in how many steps -/
def dAt (f : FS) (j s : Nat) : Prop := oF (stN f s) j 3 = 2
def dRes (f : FS) (j : Nat) (r : Int32) : Prop := (∃ T, T ≤ 20000 ∧ dAt f j T ∧ (∀ s, s < T → ¬ dAt f j s) ∧ r = nI T) ∨ ((∀ s, s ≤ 20000 → ¬ dAt f j s) ∧ r = -5)
theorem dRes_one {f : FS} {j : Nat} {r q : Int32} (h1 : dRes f j r) (h2 : dRes f j q) : r = q := by
  rcases h1 with ⟨T, a1, a2, a3, a4⟩ | ⟨a1, a2⟩ <;> rcases h2 with ⟨S, b1, b2, b3, b4⟩ | ⟨b1, b2⟩
  · have : T = S := by
      rcases Nat.lt_trichotomy T S with h | h | h
      · exact absurd a2 (b3 T h)
      · exact h
      · exact absurd b2 (a3 S h)
    rw [a4, b4, this]
  · exact absurd a2 (b1 T a1)
  · exact absurd b2 (a1 S b1)
  · rw [a2, b2]
theorem rdone_L {Z : MS} {a : Int32} {f : FS} {j : Nat} (hj : a.toNatClampNeg = j) : ∀ (fu i : Nat) (Z1 : MS), i + fu = 20001 → Z1.2.1 = stN f i → (∀ s, s < i → ¬ dAt f j s) →
    ∃ r g, gX6_doneIn_L35 Z a fu i Z1 = (r, (Z1.1, gX6_copy Z1.2.2.2.1 g, Z1.2.2)) ∧ dRes f j r := by
  intro fu
  induction fu with
  | zero =>
    intro i Z1 hi hz hs
    have c : ¬ nI i ≤ nI 20000 := nI_ge (by omega) (by omega)
    rw [gX6_doneIn_L35, if_neg c]
    have : (if gX6_is Z1.2.1 a.toNatClampNeg 2 = 0 then ((-5 : Int32), ((Z1.1, gX6_copy Z1.2.2.2.1 Z1.2.1, Z1.2.2.1, Z1.2.2.2.1, Z1.2.2.2.2.1, Z1.2.2.2.2.2.1, Z1.2.2.2.2.2.2.1, Z1.2.2.2.2.2.2.2) : MS)) else (-5, (Z1.1, gX6_copy Z1.2.2.2.1 Z1.2.1, Z1.2.2.1, Z1.2.2.2.1, Z1.2.2.2.2.1, Z1.2.2.2.2.2.1, Z1.2.2.2.2.2.2.1, Z1.2.2.2.2.2.2.2))) = (-5, (Z1.1, gX6_copy Z1.2.2.2.1 Z1.2.1, Z1.2.2)) := by split <;> rfl
    exact ⟨-5, Z1.2.1, this, Or.inr ⟨fun s hs2 => hs s (by omega), rfl⟩⟩
  | succ fu ih =>
    intro i Z1 hi hz hs
    rw [gX6_doneIn_L35, hj]
    by_cases c : gX6_is Z1.2.1 j 2 = 0
    · rw [if_pos c]
      rw [is_ne, hz] at c
      obtain ⟨r, g, e, hr⟩ := ih (i + 1) (Z1.1, (gX6_steps Z1.2.1).2, Z1.2.2.1, Z1.2.2.2.1, Z1.2.2.2.2.1, Z1.2.2.2.2.2.1, Z1.2.2.2.2.2.2.1, Z1.2.2.2.2.2.2.2) (by omega) (by show (gX6_steps Z1.2.1).2 = (gX6_steps (stN f i)).2; rw [hz]) (fun s hs2 => by
        by_cases h : s = i
        · subst h; exact c
        · exact hs s (by omega))
      exact ⟨r, g, e, hr⟩
    · have c2 : nI i ≤ nI 20000 := nI_le (by omega) (by omega)
      rw [if_neg c, if_pos c2]
      have c3 : oF Z1.2.1 j 3 = 2 := Decidable.not_not.mp (fun z => c (is_ne.mpr z))
      rw [hz] at c3
      exact ⟨nI i, Z1.2.1, rfl, Or.inl ⟨i, by omega, c3, hs, rfl⟩⟩
theorem cdone_L {C : CS} {a : Int32} {f : FS} {j : Nat} (hm : mInv f) (hjn : j < nF f) (hj : (gX4_find (gX4_copyFrom C.2.2.2.2.2.1 C.1) a).getD 0 = j) : ∀ (fu t : Nat) (C1 : CS), RP (stN f t) C1.2.2.2.2.2.1 → t ≤ 20000 → 20000 ≤ t + fu → (∀ s, s < t → ¬ dAt f j s) →
    ∃ r R', gX5_doneIn_L39 C a fu (nI t) C1 = (r, (C1.1, C1.2.1, C1.2.2.1, C1.2.2.2.1, C1.2.2.2.2.1, R', C1.2.2.2.2.2.2)) ∧ dRes f j r := by
  have hin : ∀ (t : Nat) (R : PS), RP (stN f t) R → gX1_isIn (nI j) (R.2.2 j) 2 = gX6_is (stN f t) j 2 := fun t R h => eq_isIn (h.2.1 j (by rw [(stN_ok hm t).2]; exact hjn))
  have hdone : ∀ (t : Nat), ¬ gX6_is (stN f t) j 2 = 0 → dAt f j t := fun t c => (show oF (stN f t) j 3 = 2 from Decidable.not_not.mp (fun z => c (is_ne.mpr z)))
  intro fu
  induction fu with
  | zero =>
    intro t C1 h h1 h2 hs
    have et : t = 20000 := by omega
    rw [gX5_doneIn_L39, hj, hin t _ h]
    by_cases c : gX6_is (stN f t) j 2 = 0
    · rw [if_pos c, if_pos c]
      refine ⟨-5, C1.2.2.2.2.2.1, rfl, Or.inr ⟨fun s hs2 => ?_, rfl⟩⟩
      by_cases hst : s = t
      · subst hst; exact is_ne.mp c
      · exact hs s (by omega)
    · rw [if_neg c, if_neg c]
      exact ⟨nI t, C1.2.2.2.2.2.1, rfl, Or.inl ⟨t, h1, hdone t c, hs, rfl⟩⟩
  | succ fu ih =>
    intro t C1 h h1 h2 hs
    rw [gX5_doneIn_L39, hj, hin t _ h]
    by_cases c : gX6_is (stN f t) j 2 = 0
    · rw [if_pos c]
      by_cases c2 : (20000 : Int32) ≤ nI t
      · rw [if_pos c2, if_pos c]
        have c2 : nI 20000 ≤ nI t := c2
        have := (nI_leI (by decide) (by omega)).mp c2
        refine ⟨-5, C1.2.2.2.2.2.1, rfl, Or.inr ⟨fun s hs2 => ?_, rfl⟩⟩
        by_cases hst : s = t
        · subst hst; exact is_ne.mp c
        · exact hs s (by omega)
      · rw [if_neg c2]
        have hlt : t < 20000 := by
          rcases Nat.lt_or_ge t 20000 with hl | hl
          · exact hl
          · exact absurd (show nI 20000 ≤ nI t from nI_le hl (by omega)) c2
        have es : (20000 : Int32) - nI t = nI (20000 - t) := pk_sub (a := 20000) (b := t) (by omega)
        have et : (nI (20000 - t)).toInt = ((20000 - t : Nat) : Int) := nI_toInt (by omega)
        obtain ⟨k, k1, k2, k3, k4, k5⟩ := leap_sim (a := 20000 - nI t) h (stN_ok hm t).1 (by rw [es, et]; omega)
        rw [es, et] at k2
        have ex : nI t + (if 1 < (gX4_leap C1.2.2.2.2.2.1 (20000 - nI t)).1 then (gX4_leap C1.2.2.2.2.2.1 (20000 - nI t)).1 else 1) = nI (t + k) := by
          rw [k3]
          split
          · rw [nI_add]
          · rename_i q
            rw [x_ilt, i_1, nI_toInt (by omega)] at q
            rw [show k = 1 by omega, nI_1]
        rw [ex]
        rw [stN_add] at k4
        have hn := n_le hm
        obtain ⟨r, R', e, hr⟩ := ih (t + k) (C1.1, C1.2.1, C1.2.2.1, C1.2.2.2.1, C1.2.2.2.2.1, (gX4_leap C1.2.2.2.2.2.1 (20000 - nI t)).2, C1.2.2.2.2.2.2) k4 (by omega) (by omega) (fun s hs2 => by
          rcases Nat.lt_or_ge s t with hl | hl
          · exact hs s hl
          · have := k5 (s - t) (by omega) j (by omega)
            rw [stN_add, show t + (s - t) = s by omega] at this
            unfold dAt
            rw [this]
            exact is_ne.mp c)
        exact ⟨r, R', e, hr⟩
    · rw [if_neg c, if_neg c]
      exact ⟨nI t, C1.2.2.2.2.2.1, rfl, Or.inl ⟨t, h1, hdone t c, hs, rfl⟩⟩
theorem RR_all {C : CS} {Z : MS} {R' : PS} {g kp tr : FS} (h : RR C Z) (hE : E153 Z.2.1 g) : RR (C.1, C.2.1, C.2.2.1, C.2.2.2.1, C.2.2.2.2.1, R', C.2.2.2.2.2.2) (Z.1, g, kp, tr, Z.2.2.2.2) := by
  obtain ⟨⟨h1, h2⟩, h3, h4, h5⟩ := h
  exact ⟨⟨RP_153 hE h2 h1, mInv_153 hE h2⟩, h3, h4, h5⟩
theorem eq_doneIn {C : CS} {Z : MS} {a : Int32} (h : RR C Z) : EQ2 (gX5_doneIn C a) (gX6_doneIn Z a) := by
  obtain ⟨⟨h1, h2⟩, -⟩ := id h
  have hcp : RP Z.2.1 (gX4_copyFrom C.2.2.2.2.2.1 C.1) := eq_copy h1 h2
  have hf := find_eq (a := a) hcp h2
  unfold gX5_doneIn gX6_doneIn
  by_cases c1 : gX6_isJoin Z.2.1 a = 0
  · rw [if_pos c1] at hf
    rw [if_pos c1, if_pos hf]
    exact ⟨rfl, RR_pl h⟩
  · rw [if_neg c1] at hf
    rw [if_neg c1, if_neg (show ¬ gX4_find (gX4_copyFrom C.2.2.2.2.2.1 C.1) a = none by rw [hf]; simp)]
    obtain ⟨ea, hjn⟩ := ij_of h2 c1
    have hg : (gX4_find (gX4_copyFrom C.2.2.2.2.2.1 C.1) a).getD 0 = a.toNatClampNeg := by rw [hf]; rfl
    rw [hg, eq_isIn (hcp.2.1 _ hjn)]
    by_cases c2 : gX6_is Z.2.1 a.toNatClampNeg 3 = 0
    · rw [if_pos c2, if_pos c2]
      obtain ⟨r, g, e1, d1⟩ := rdone_L (Z := Z) (a := a) (f := Z.2.1) rfl 20001 0 (Z.1, Z.2.1, Z.2.2.1, gX6_copy Z.2.1 Z.2.2.2.1, Z.2.2.2.2.1, Z.2.2.2.2.2.1, Z.2.2.2.2.2.2.1, Z.2.2.2.2.2.2.2) (by decide) rfl (fun s hs => by omega)
      obtain ⟨q, R', e2, d2⟩ := cdone_L (C := C) (a := a) h2 hjn hg 20000 0 (C.1, C.2.1, C.2.2.1, C.2.2.2.1, C.2.2.2.2.1, gX4_copyFrom C.2.2.2.2.2.1 C.1, C.2.2.2.2.2.2) hcp (Nat.zero_le _) (by decide) (fun s hs => by omega)
      have e2 : gX5_doneIn_L39 C a 20000 0 (C.1, C.2.1, C.2.2.1, C.2.2.2.1, C.2.2.2.2.1, gX4_copyFrom C.2.2.2.2.2.1 C.1, C.2.2.2.2.2.2) = _ := e2
      rw [e1, e2]
      refine ⟨dRes_one d2 d1, RR_all h (fun i hi => ?_)⟩
      exact (copy_E i hi).trans (copy_E (b := Z.2.2.2.1) i hi)
    · rw [if_neg c2, if_neg c2]
      exact ⟨rfl, RR_pl h⟩
/-! join and count -/
theorem eq_join {C : CS} {Z : MS} {a b : Int32} (h : RR C Z) : gX5_join C a b = gX6_join Z.2.1 a b := by
  obtain ⟨⟨h1, h2⟩, -⟩ := id h
  unfold gX5_join gX6_join
  rw [find_eq h1 h2]
  by_cases c1 : gX6_isJoin Z.2.1 a = 0
  · rw [if_pos c1, if_pos c1, if_pos rfl]
  · rw [if_neg c1, if_neg c1, if_neg (show ¬ some a.toNatClampNeg = none by simp)]
    obtain ⟨ea, hj⟩ := ij_of h2 c1
    show (if gX1_canTell b = 0 then (-2) else gX1_tell (nI a.toNatClampNeg) (C.1.2.2 a.toNatClampNeg) b) = _
    generalize a.toNatClampNeg = j at *
    obtain ⟨h0, h1', h2', h3, h4, h5, h6, h7, h8, h9, h10⟩ := h1.2.1 j hj
    have hsp := eq_spills (n := nI j) (h1.2.1 j hj)
    unfold gX1_canTell gX1_tell
    by_cases k0 : b = 0
    · subst k0
      rw [if_neg (show ¬ (0 : Int32) < 0 by decide), if_neg (show ¬ (11 : Int32) < 0 by decide), if_neg (show ¬ (1 : Int32) = 0 by decide)]
      rw [if_pos (show (0 : Int32) = 0 from rfl), if_pos (show (0 : Int32) = 0 from rfl), h6]
      rfl
    · by_cases k1 : b = 1
      · subst k1
        rw [if_neg (show ¬ (1 : Int32) < 0 by decide), if_neg (show ¬ (11 : Int32) < 1 by decide), if_neg (show ¬ (1 : Int32) = 0 by decide)]
        rw [if_neg (show ¬ (1 : Int32) = 0 by decide), if_pos (show (1 : Int32) = 1 from rfl), if_neg (show ¬ (1 : Int32) = 0 by decide), if_pos (show (1 : Int32) = 1 from rfl), h7]
        rfl
      · by_cases k2 : b = 2
        · subst k2
          rw [if_neg (show ¬ (2 : Int32) < 0 by decide), if_neg (show ¬ (11 : Int32) < 2 by decide), if_neg (show ¬ (1 : Int32) = 0 by decide)]
          rw [if_neg (show ¬ (2 : Int32) = 0 by decide), if_neg (show ¬ (2 : Int32) = 1 by decide), if_pos (show (2 : Int32) = 2 from rfl), if_neg (show ¬ (2 : Int32) = 0 by decide), if_neg (show ¬ (2 : Int32) = 1 by decide), if_pos (show (2 : Int32) = 2 from rfl), h8]
          rfl
        · by_cases k3 : b = 3
          · subst k3
            rw [if_neg (show ¬ (3 : Int32) < 0 by decide), if_neg (show ¬ (11 : Int32) < 3 by decide), if_neg (show ¬ (1 : Int32) = 0 by decide)]
            rw [if_neg (show ¬ (3 : Int32) = 0 by decide), if_neg (show ¬ (3 : Int32) = 1 by decide), if_neg (show ¬ (3 : Int32) = 2 by decide), if_pos (show (3 : Int32) = 3 from rfl), if_neg (show ¬ (3 : Int32) = 0 by decide), if_neg (show ¬ (3 : Int32) = 1 by decide), if_neg (show ¬ (3 : Int32) = 2 by decide), if_pos (show (3 : Int32) = 3 from rfl), h0]
            rfl
          · by_cases k4 : b = 4
            · subst k4
              rw [if_neg (show ¬ (4 : Int32) < 0 by decide), if_neg (show ¬ (11 : Int32) < 4 by decide), if_neg (show ¬ (1 : Int32) = 0 by decide)]
              rw [if_neg (show ¬ (4 : Int32) = 0 by decide), if_neg (show ¬ (4 : Int32) = 1 by decide), if_neg (show ¬ (4 : Int32) = 2 by decide), if_neg (show ¬ (4 : Int32) = 3 by decide), if_pos (show (4 : Int32) = 4 from rfl), if_neg (show ¬ (4 : Int32) = 0 by decide), if_neg (show ¬ (4 : Int32) = 1 by decide), if_neg (show ¬ (4 : Int32) = 2 by decide), if_neg (show ¬ (4 : Int32) = 3 by decide), if_pos (show (4 : Int32) = 4 from rfl), h9]
            · by_cases k5 : b = 5
              · subst k5
                rw [if_neg (show ¬ (5 : Int32) < 0 by decide), if_neg (show ¬ (11 : Int32) < 5 by decide), if_neg (show ¬ (1 : Int32) = 0 by decide)]
                rw [if_neg (show ¬ (5 : Int32) = 0 by decide), if_neg (show ¬ (5 : Int32) = 1 by decide), if_neg (show ¬ (5 : Int32) = 2 by decide), if_neg (show ¬ (5 : Int32) = 3 by decide), if_neg (show ¬ (5 : Int32) = 4 by decide), if_pos (show (5 : Int32) = 5 from rfl), if_neg (show ¬ (5 : Int32) = 0 by decide), if_neg (show ¬ (5 : Int32) = 1 by decide), if_neg (show ¬ (5 : Int32) = 2 by decide), if_neg (show ¬ (5 : Int32) = 3 by decide), if_neg (show ¬ (5 : Int32) = 4 by decide), if_pos (show (5 : Int32) = 5 from rfl), h10]
              · by_cases k6 : b = 6
                · subst k6
                  rw [if_neg (show ¬ (6 : Int32) < 0 by decide), if_neg (show ¬ (11 : Int32) < 6 by decide), if_neg (show ¬ (1 : Int32) = 0 by decide)]
                  rw [if_neg (show ¬ (6 : Int32) = 0 by decide), if_neg (show ¬ (6 : Int32) = 1 by decide), if_neg (show ¬ (6 : Int32) = 2 by decide), if_neg (show ¬ (6 : Int32) = 3 by decide), if_neg (show ¬ (6 : Int32) = 4 by decide), if_neg (show ¬ (6 : Int32) = 5 by decide), if_pos (show (6 : Int32) = 6 from rfl), if_neg (show ¬ (6 : Int32) = 0 by decide), if_neg (show ¬ (6 : Int32) = 1 by decide), if_neg (show ¬ (6 : Int32) = 2 by decide), if_neg (show ¬ (6 : Int32) = 3 by decide), if_neg (show ¬ (6 : Int32) = 4 by decide), if_neg (show ¬ (6 : Int32) = 5 by decide), if_pos (show (6 : Int32) = 6 from rfl), h1']
                  rfl
                · by_cases k7 : b = 7
                  · subst k7
                    rw [if_neg (show ¬ (7 : Int32) < 0 by decide), if_neg (show ¬ (11 : Int32) < 7 by decide), if_neg (show ¬ (1 : Int32) = 0 by decide)]
                    rw [if_neg (show ¬ (7 : Int32) = 0 by decide), if_neg (show ¬ (7 : Int32) = 1 by decide), if_neg (show ¬ (7 : Int32) = 2 by decide), if_neg (show ¬ (7 : Int32) = 3 by decide), if_neg (show ¬ (7 : Int32) = 4 by decide), if_neg (show ¬ (7 : Int32) = 5 by decide), if_neg (show ¬ (7 : Int32) = 6 by decide), if_pos (show (7 : Int32) = 7 from rfl), if_neg (show ¬ (7 : Int32) = 0 by decide), if_neg (show ¬ (7 : Int32) = 1 by decide), if_neg (show ¬ (7 : Int32) = 2 by decide), if_neg (show ¬ (7 : Int32) = 3 by decide), if_neg (show ¬ (7 : Int32) = 4 by decide), if_neg (show ¬ (7 : Int32) = 5 by decide), if_neg (show ¬ (7 : Int32) = 6 by decide), if_pos (show (7 : Int32) = 7 from rfl), h2']
                    rfl
                  · by_cases k8 : b = 8
                    · subst k8
                      rw [if_neg (show ¬ (8 : Int32) < 0 by decide), if_neg (show ¬ (11 : Int32) < 8 by decide), if_neg (show ¬ (1 : Int32) = 0 by decide)]
                      rw [if_neg (show ¬ (8 : Int32) = 0 by decide), if_neg (show ¬ (8 : Int32) = 1 by decide), if_neg (show ¬ (8 : Int32) = 2 by decide), if_neg (show ¬ (8 : Int32) = 3 by decide), if_neg (show ¬ (8 : Int32) = 4 by decide), if_neg (show ¬ (8 : Int32) = 5 by decide), if_neg (show ¬ (8 : Int32) = 6 by decide), if_neg (show ¬ (8 : Int32) = 7 by decide), if_pos (show (8 : Int32) = 8 from rfl), if_neg (show ¬ (8 : Int32) = 0 by decide), if_neg (show ¬ (8 : Int32) = 1 by decide), if_neg (show ¬ (8 : Int32) = 2 by decide), if_neg (show ¬ (8 : Int32) = 3 by decide), if_neg (show ¬ (8 : Int32) = 4 by decide), if_neg (show ¬ (8 : Int32) = 5 by decide), if_neg (show ¬ (8 : Int32) = 6 by decide), if_neg (show ¬ (8 : Int32) = 7 by decide), if_pos (show (8 : Int32) = 8 from rfl), h3]
                      rfl
                    · by_cases k9 : b = 9
                      · subst k9
                        rw [if_neg (show ¬ (9 : Int32) < 0 by decide), if_neg (show ¬ (11 : Int32) < 9 by decide), if_neg (show ¬ (1 : Int32) = 0 by decide)]
                        rw [if_neg (show ¬ (9 : Int32) = 0 by decide), if_neg (show ¬ (9 : Int32) = 1 by decide), if_neg (show ¬ (9 : Int32) = 2 by decide), if_neg (show ¬ (9 : Int32) = 3 by decide), if_neg (show ¬ (9 : Int32) = 4 by decide), if_neg (show ¬ (9 : Int32) = 5 by decide), if_neg (show ¬ (9 : Int32) = 6 by decide), if_neg (show ¬ (9 : Int32) = 7 by decide), if_neg (show ¬ (9 : Int32) = 8 by decide), if_pos (show (9 : Int32) = 9 from rfl), if_neg (show ¬ (9 : Int32) = 0 by decide), if_neg (show ¬ (9 : Int32) = 1 by decide), if_neg (show ¬ (9 : Int32) = 2 by decide), if_neg (show ¬ (9 : Int32) = 3 by decide), if_neg (show ¬ (9 : Int32) = 4 by decide), if_neg (show ¬ (9 : Int32) = 5 by decide), if_neg (show ¬ (9 : Int32) = 6 by decide), if_neg (show ¬ (9 : Int32) = 7 by decide), if_neg (show ¬ (9 : Int32) = 8 by decide), if_pos (show (9 : Int32) = 9 from rfl), h4]
                        rfl
                      · by_cases k10 : b = 10
                        · subst k10
                          rw [if_neg (show ¬ (10 : Int32) < 0 by decide), if_neg (show ¬ (11 : Int32) < 10 by decide), if_neg (show ¬ (1 : Int32) = 0 by decide)]
                          rw [if_neg (show ¬ (10 : Int32) = 0 by decide), if_neg (show ¬ (10 : Int32) = 1 by decide), if_neg (show ¬ (10 : Int32) = 2 by decide), if_neg (show ¬ (10 : Int32) = 3 by decide), if_neg (show ¬ (10 : Int32) = 4 by decide), if_neg (show ¬ (10 : Int32) = 5 by decide), if_neg (show ¬ (10 : Int32) = 6 by decide), if_neg (show ¬ (10 : Int32) = 7 by decide), if_neg (show ¬ (10 : Int32) = 8 by decide), if_neg (show ¬ (10 : Int32) = 9 by decide), if_pos (show (10 : Int32) = 10 from rfl), if_neg (show ¬ (10 : Int32) = 0 by decide), if_neg (show ¬ (10 : Int32) = 1 by decide), if_neg (show ¬ (10 : Int32) = 2 by decide), if_neg (show ¬ (10 : Int32) = 3 by decide), if_neg (show ¬ (10 : Int32) = 4 by decide), if_neg (show ¬ (10 : Int32) = 5 by decide), if_neg (show ¬ (10 : Int32) = 6 by decide), if_neg (show ¬ (10 : Int32) = 7 by decide), if_neg (show ¬ (10 : Int32) = 8 by decide), if_neg (show ¬ (10 : Int32) = 9 by decide), if_pos (show (10 : Int32) = 10 from rfl), h5]
                          rfl
                        · by_cases k11 : b = 11
                          · subst k11
                            rw [if_neg (show ¬ (11 : Int32) < 0 by decide), if_neg (show ¬ (11 : Int32) < 11 by decide), if_neg (show ¬ (1 : Int32) = 0 by decide)]
                            rw [if_neg (show ¬ (11 : Int32) = 0 by decide), if_neg (show ¬ (11 : Int32) = 1 by decide), if_neg (show ¬ (11 : Int32) = 2 by decide), if_neg (show ¬ (11 : Int32) = 3 by decide), if_neg (show ¬ (11 : Int32) = 4 by decide), if_neg (show ¬ (11 : Int32) = 5 by decide), if_neg (show ¬ (11 : Int32) = 6 by decide), if_neg (show ¬ (11 : Int32) = 7 by decide), if_neg (show ¬ (11 : Int32) = 8 by decide), if_neg (show ¬ (11 : Int32) = 9 by decide), if_neg (show ¬ (11 : Int32) = 10 by decide), if_neg (show ¬ (11 : Int32) = 0 by decide), if_neg (show ¬ (11 : Int32) = 1 by decide), if_neg (show ¬ (11 : Int32) = 2 by decide), if_neg (show ¬ (11 : Int32) = 3 by decide), if_neg (show ¬ (11 : Int32) = 4 by decide), if_neg (show ¬ (11 : Int32) = 5 by decide), if_neg (show ¬ (11 : Int32) = 6 by decide), if_neg (show ¬ (11 : Int32) = 7 by decide), if_neg (show ¬ (11 : Int32) = 8 by decide), if_neg (show ¬ (11 : Int32) = 9 by decide), if_neg (show ¬ (11 : Int32) = 10 by decide), if_pos (show (11 : Int32) = 11 from rfl), hsp]
                          · have hb : ¬ (0 ≤ b.toInt ∧ b.toInt ≤ 11) := by
                              rw [i_eq, i_0] at k0
                              rw [i_eq, show (1 : Int32).toInt = 1 from rfl] at k1
                              rw [i_eq, show (2 : Int32).toInt = 2 from rfl] at k2
                              rw [i_eq, show (3 : Int32).toInt = 3 from rfl] at k3
                              rw [i_eq, show (4 : Int32).toInt = 4 from rfl] at k4
                              rw [i_eq, show (5 : Int32).toInt = 5 from rfl] at k5
                              rw [i_eq, show (6 : Int32).toInt = 6 from rfl] at k6
                              rw [i_eq, show (7 : Int32).toInt = 7 from rfl] at k7
                              rw [i_eq, show (8 : Int32).toInt = 8 from rfl] at k8
                              rw [i_eq, show (9 : Int32).toInt = 9 from rfl] at k9
                              rw [i_eq, show (10 : Int32).toInt = 10 from rfl] at k10
                              rw [i_eq, show (11 : Int32).toInt = 11 from rfl] at k11
                              omega
                            rw [if_neg k0, if_neg k1, if_neg k2, if_neg k3, if_neg k4, if_neg k5, if_neg k6, if_neg k7, if_neg k8, if_neg k9, if_neg k10]
                            rw [if_neg k0, if_neg k1, if_neg k2, if_neg k3, if_neg k4, if_neg k5, if_neg k6, if_neg k7, if_neg k8, if_neg k9, if_neg k10, if_neg k11]
                            by_cases d1 : b < 0
                            · rw [if_pos d1, if_pos (show (0 : Int32) = 0 from rfl)]
                            · rw [if_neg d1]
                              by_cases d2 : 11 < b
                              · rw [if_pos d2, if_pos (show (0 : Int32) = 0 from rfl)]
                              · rw [x_ilt, i_0] at d1
                                rw [x_ilt, show (11 : Int32).toInt = 11 from rfl] at d2
                                omega
theorem eq_count {C : CS} {Z : MS} {a : Int32} (h : RR C Z) : gX5_count C a = gX6_count Z.1 Z.2.1 a := by
  obtain ⟨⟨h1, h2⟩, hh, ht, -⟩ := id h
  obtain ⟨n, t1, t2, t3, t4⟩ := ht
  obtain ⟨⟨a0, a1, a2, a3⟩, b0, b1, b2, b3, b4⟩ := h1.1
  unfold gX5_count gX6_count gX4_canTell gX4_tell
  by_cases k0 : a = 0
  · subst k0
    rw [if_neg (show ¬ (0 : Int32) = 16 by decide), if_neg (show ¬ (0 : Int32) = 17 by decide), if_neg (show ¬ (0 : Int32) < 0 by decide), if_neg (show ¬ (15 : Int32) < 0 by decide), if_neg (show ¬ (1 : Int32) = 0 by decide), if_pos (show (0 : Int32) = 0 from rfl)]
    rw [if_pos (show gX6_in (0 : Int32).toInt64 1 4 = 0 by decide), if_pos (show gX6_in (0 : Int32).toInt64 7 10 = 0 by decide), if_pos (show gX6_in (0 : Int32).toInt64 12 15 = 0 by decide), if_pos (show (0 : Int32) = 0 from rfl)]
    exact b0
  · by_cases k1 : a = 1
    · subst k1
      rw [if_neg (show ¬ (1 : Int32) = 16 by decide), if_neg (show ¬ (1 : Int32) = 17 by decide), if_neg (show ¬ (1 : Int32) < 0 by decide), if_neg (show ¬ (15 : Int32) < 1 by decide), if_neg (show ¬ (1 : Int32) = 0 by decide), if_neg (show ¬ (1 : Int32) = 0 by decide), if_pos (show (1 : Int32) = 1 from rfl)]
      rw [if_neg (show ¬ gX6_in (1 : Int32).toInt64 1 4 = 0 by decide)]
      exact eq_many h1 h2 (by decide)
    · by_cases k2 : a = 2
      · subst k2
        rw [if_neg (show ¬ (2 : Int32) = 16 by decide), if_neg (show ¬ (2 : Int32) = 17 by decide), if_neg (show ¬ (2 : Int32) < 0 by decide), if_neg (show ¬ (15 : Int32) < 2 by decide), if_neg (show ¬ (1 : Int32) = 0 by decide), if_neg (show ¬ (2 : Int32) = 0 by decide), if_neg (show ¬ (2 : Int32) = 1 by decide), if_pos (show (2 : Int32) = 2 from rfl)]
        rw [if_neg (show ¬ gX6_in (2 : Int32).toInt64 1 4 = 0 by decide)]
        exact eq_many h1 h2 (by decide)
      · by_cases k3 : a = 3
        · subst k3
          rw [if_neg (show ¬ (3 : Int32) = 16 by decide), if_neg (show ¬ (3 : Int32) = 17 by decide), if_neg (show ¬ (3 : Int32) < 0 by decide), if_neg (show ¬ (15 : Int32) < 3 by decide), if_neg (show ¬ (1 : Int32) = 0 by decide), if_neg (show ¬ (3 : Int32) = 0 by decide), if_neg (show ¬ (3 : Int32) = 1 by decide), if_neg (show ¬ (3 : Int32) = 2 by decide), if_pos (show (3 : Int32) = 3 from rfl)]
          rw [if_neg (show ¬ gX6_in (3 : Int32).toInt64 1 4 = 0 by decide)]
          exact eq_many h1 h2 (by decide)
        · by_cases k4 : a = 4
          · subst k4
            rw [if_neg (show ¬ (4 : Int32) = 16 by decide), if_neg (show ¬ (4 : Int32) = 17 by decide), if_neg (show ¬ (4 : Int32) < 0 by decide), if_neg (show ¬ (15 : Int32) < 4 by decide), if_neg (show ¬ (1 : Int32) = 0 by decide), if_neg (show ¬ (4 : Int32) = 0 by decide), if_neg (show ¬ (4 : Int32) = 1 by decide), if_neg (show ¬ (4 : Int32) = 2 by decide), if_neg (show ¬ (4 : Int32) = 3 by decide), if_pos (show (4 : Int32) = 4 from rfl)]
            rw [if_neg (show ¬ gX6_in (4 : Int32).toInt64 1 4 = 0 by decide)]
            exact eq_many h1 h2 (by decide)
          · by_cases k5 : a = 5
            · subst k5
              rw [if_neg (show ¬ (5 : Int32) = 16 by decide), if_neg (show ¬ (5 : Int32) = 17 by decide), if_neg (show ¬ (5 : Int32) < 0 by decide), if_neg (show ¬ (15 : Int32) < 5 by decide), if_neg (show ¬ (1 : Int32) = 0 by decide), if_neg (show ¬ (5 : Int32) = 0 by decide), if_neg (show ¬ (5 : Int32) = 1 by decide), if_neg (show ¬ (5 : Int32) = 2 by decide), if_neg (show ¬ (5 : Int32) = 3 by decide), if_neg (show ¬ (5 : Int32) = 4 by decide), if_pos (show (5 : Int32) = 5 from rfl)]
              rw [if_pos (show gX6_in (5 : Int32).toInt64 1 4 = 0 by decide), if_pos (show gX6_in (5 : Int32).toInt64 7 10 = 0 by decide), if_pos (show gX6_in (5 : Int32).toInt64 12 15 = 0 by decide), if_neg (show ¬ (5 : Int32) = 0 by decide), if_neg (show ¬ (5 : Int32) = 1 by decide), if_neg (show ¬ (5 : Int32) = 2 by decide), if_neg (show ¬ (5 : Int32) = 3 by decide), if_neg (show ¬ (5 : Int32) = 4 by decide), if_pos (show (5 : Int32) = 5 from rfl)]
              exact eq_granted h1 h2
            · by_cases k6 : a = 6
              · subst k6
                rw [if_neg (show ¬ (6 : Int32) = 16 by decide), if_neg (show ¬ (6 : Int32) = 17 by decide), if_neg (show ¬ (6 : Int32) < 0 by decide), if_neg (show ¬ (15 : Int32) < 6 by decide), if_neg (show ¬ (1 : Int32) = 0 by decide), if_neg (show ¬ (6 : Int32) = 0 by decide), if_neg (show ¬ (6 : Int32) = 1 by decide), if_neg (show ¬ (6 : Int32) = 2 by decide), if_neg (show ¬ (6 : Int32) = 3 by decide), if_neg (show ¬ (6 : Int32) = 4 by decide), if_neg (show ¬ (6 : Int32) = 5 by decide), if_pos (show (6 : Int32) = 6 from rfl)]
                rw [if_pos (show gX6_in (6 : Int32).toInt64 1 4 = 0 by decide), if_pos (show gX6_in (6 : Int32).toInt64 7 10 = 0 by decide), if_pos (show gX6_in (6 : Int32).toInt64 12 15 = 0 by decide), if_neg (show ¬ (6 : Int32) = 0 by decide), if_neg (show ¬ (6 : Int32) = 1 by decide), if_neg (show ¬ (6 : Int32) = 2 by decide), if_neg (show ¬ (6 : Int32) = 3 by decide), if_neg (show ¬ (6 : Int32) = 4 by decide), if_neg (show ¬ (6 : Int32) = 5 by decide), if_pos (show (6 : Int32) = 6 from rfl)]
                exact eq_free h1 h2
              · by_cases k7 : a = 7
                · subst k7
                  rw [if_neg (show ¬ (7 : Int32) = 16 by decide), if_neg (show ¬ (7 : Int32) = 17 by decide), if_neg (show ¬ (7 : Int32) < 0 by decide), if_neg (show ¬ (15 : Int32) < 7 by decide), if_neg (show ¬ (1 : Int32) = 0 by decide), if_neg (show ¬ (7 : Int32) = 0 by decide), if_neg (show ¬ (7 : Int32) = 1 by decide), if_neg (show ¬ (7 : Int32) = 2 by decide), if_neg (show ¬ (7 : Int32) = 3 by decide), if_neg (show ¬ (7 : Int32) = 4 by decide), if_neg (show ¬ (7 : Int32) = 5 by decide), if_neg (show ¬ (7 : Int32) = 6 by decide), if_pos (show (7 : Int32) = 7 from rfl)]
                  rw [if_pos (show gX6_in (7 : Int32).toInt64 1 4 = 0 by decide), if_neg (show ¬ gX6_in (7 : Int32).toInt64 7 10 = 0 by decide)]
                  exact b1
                · by_cases k8 : a = 8
                  · subst k8
                    rw [if_neg (show ¬ (8 : Int32) = 16 by decide), if_neg (show ¬ (8 : Int32) = 17 by decide), if_neg (show ¬ (8 : Int32) < 0 by decide), if_neg (show ¬ (15 : Int32) < 8 by decide), if_neg (show ¬ (1 : Int32) = 0 by decide), if_neg (show ¬ (8 : Int32) = 0 by decide), if_neg (show ¬ (8 : Int32) = 1 by decide), if_neg (show ¬ (8 : Int32) = 2 by decide), if_neg (show ¬ (8 : Int32) = 3 by decide), if_neg (show ¬ (8 : Int32) = 4 by decide), if_neg (show ¬ (8 : Int32) = 5 by decide), if_neg (show ¬ (8 : Int32) = 6 by decide), if_neg (show ¬ (8 : Int32) = 7 by decide), if_pos (show (8 : Int32) = 8 from rfl)]
                    rw [if_pos (show gX6_in (8 : Int32).toInt64 1 4 = 0 by decide), if_neg (show ¬ gX6_in (8 : Int32).toInt64 7 10 = 0 by decide)]
                    exact b2
                  · by_cases k9 : a = 9
                    · subst k9
                      rw [if_neg (show ¬ (9 : Int32) = 16 by decide), if_neg (show ¬ (9 : Int32) = 17 by decide), if_neg (show ¬ (9 : Int32) < 0 by decide), if_neg (show ¬ (15 : Int32) < 9 by decide), if_neg (show ¬ (1 : Int32) = 0 by decide), if_neg (show ¬ (9 : Int32) = 0 by decide), if_neg (show ¬ (9 : Int32) = 1 by decide), if_neg (show ¬ (9 : Int32) = 2 by decide), if_neg (show ¬ (9 : Int32) = 3 by decide), if_neg (show ¬ (9 : Int32) = 4 by decide), if_neg (show ¬ (9 : Int32) = 5 by decide), if_neg (show ¬ (9 : Int32) = 6 by decide), if_neg (show ¬ (9 : Int32) = 7 by decide), if_neg (show ¬ (9 : Int32) = 8 by decide), if_pos (show (9 : Int32) = 9 from rfl)]
                      rw [if_pos (show gX6_in (9 : Int32).toInt64 1 4 = 0 by decide), if_neg (show ¬ gX6_in (9 : Int32).toInt64 7 10 = 0 by decide)]
                      exact b3
                    · by_cases k10 : a = 10
                      · subst k10
                        rw [if_neg (show ¬ (10 : Int32) = 16 by decide), if_neg (show ¬ (10 : Int32) = 17 by decide), if_neg (show ¬ (10 : Int32) < 0 by decide), if_neg (show ¬ (15 : Int32) < 10 by decide), if_neg (show ¬ (1 : Int32) = 0 by decide), if_neg (show ¬ (10 : Int32) = 0 by decide), if_neg (show ¬ (10 : Int32) = 1 by decide), if_neg (show ¬ (10 : Int32) = 2 by decide), if_neg (show ¬ (10 : Int32) = 3 by decide), if_neg (show ¬ (10 : Int32) = 4 by decide), if_neg (show ¬ (10 : Int32) = 5 by decide), if_neg (show ¬ (10 : Int32) = 6 by decide), if_neg (show ¬ (10 : Int32) = 7 by decide), if_neg (show ¬ (10 : Int32) = 8 by decide), if_neg (show ¬ (10 : Int32) = 9 by decide), if_pos (show (10 : Int32) = 10 from rfl)]
                        rw [if_pos (show gX6_in (10 : Int32).toInt64 1 4 = 0 by decide), if_neg (show ¬ gX6_in (10 : Int32).toInt64 7 10 = 0 by decide)]
                        exact b4
                      · by_cases k11 : a = 11
                        · subst k11
                          rw [if_neg (show ¬ (11 : Int32) = 16 by decide), if_neg (show ¬ (11 : Int32) = 17 by decide), if_neg (show ¬ (11 : Int32) < 0 by decide), if_neg (show ¬ (15 : Int32) < 11 by decide), if_neg (show ¬ (1 : Int32) = 0 by decide), if_neg (show ¬ (11 : Int32) = 0 by decide), if_neg (show ¬ (11 : Int32) = 1 by decide), if_neg (show ¬ (11 : Int32) = 2 by decide), if_neg (show ¬ (11 : Int32) = 3 by decide), if_neg (show ¬ (11 : Int32) = 4 by decide), if_neg (show ¬ (11 : Int32) = 5 by decide), if_neg (show ¬ (11 : Int32) = 6 by decide), if_neg (show ¬ (11 : Int32) = 7 by decide), if_neg (show ¬ (11 : Int32) = 8 by decide), if_neg (show ¬ (11 : Int32) = 9 by decide), if_neg (show ¬ (11 : Int32) = 10 by decide), if_pos (show (11 : Int32) = 11 from rfl)]
                          rw [if_pos (show gX6_in (11 : Int32).toInt64 1 4 = 0 by decide), if_pos (show gX6_in (11 : Int32).toInt64 7 10 = 0 by decide), if_pos (show gX6_in (11 : Int32).toInt64 12 15 = 0 by decide), if_neg (show ¬ (11 : Int32) = 0 by decide), if_neg (show ¬ (11 : Int32) = 1 by decide), if_neg (show ¬ (11 : Int32) = 2 by decide), if_neg (show ¬ (11 : Int32) = 3 by decide), if_neg (show ¬ (11 : Int32) = 4 by decide), if_neg (show ¬ (11 : Int32) = 5 by decide), if_neg (show ¬ (11 : Int32) = 6 by decide), if_neg (show ¬ (11 : Int32) = 7 by decide), if_neg (show ¬ (11 : Int32) = 8 by decide), if_neg (show ¬ (11 : Int32) = 9 by decide), if_neg (show ¬ (11 : Int32) = 10 by decide), if_pos (show (11 : Int32) = 11 from rfl)]
                          exact eq_spilling h1 h2
                        · by_cases k12 : a = 12
                          · subst k12
                            rw [if_neg (show ¬ (12 : Int32) = 16 by decide), if_neg (show ¬ (12 : Int32) = 17 by decide), if_neg (show ¬ (12 : Int32) < 0 by decide), if_neg (show ¬ (15 : Int32) < 12 by decide), if_neg (show ¬ (1 : Int32) = 0 by decide), if_neg (show ¬ (12 : Int32) = 0 by decide), if_neg (show ¬ (12 : Int32) = 1 by decide), if_neg (show ¬ (12 : Int32) = 2 by decide), if_neg (show ¬ (12 : Int32) = 3 by decide), if_neg (show ¬ (12 : Int32) = 4 by decide), if_neg (show ¬ (12 : Int32) = 5 by decide), if_neg (show ¬ (12 : Int32) = 6 by decide), if_neg (show ¬ (12 : Int32) = 7 by decide), if_neg (show ¬ (12 : Int32) = 8 by decide), if_neg (show ¬ (12 : Int32) = 9 by decide), if_neg (show ¬ (12 : Int32) = 10 by decide), if_neg (show ¬ (12 : Int32) = 11 by decide)]
                            rw [if_pos (show gX6_in (12 : Int32).toInt64 1 4 = 0 by decide), if_pos (show gX6_in (12 : Int32).toInt64 7 10 = 0 by decide), if_neg (show ¬ gX6_in (12 : Int32).toInt64 12 15 = 0 by decide)]
                            exact a0
                          · by_cases k13 : a = 13
                            · subst k13
                              rw [if_neg (show ¬ (13 : Int32) = 16 by decide), if_neg (show ¬ (13 : Int32) = 17 by decide), if_neg (show ¬ (13 : Int32) < 0 by decide), if_neg (show ¬ (15 : Int32) < 13 by decide), if_neg (show ¬ (1 : Int32) = 0 by decide), if_neg (show ¬ (13 : Int32) = 0 by decide), if_neg (show ¬ (13 : Int32) = 1 by decide), if_neg (show ¬ (13 : Int32) = 2 by decide), if_neg (show ¬ (13 : Int32) = 3 by decide), if_neg (show ¬ (13 : Int32) = 4 by decide), if_neg (show ¬ (13 : Int32) = 5 by decide), if_neg (show ¬ (13 : Int32) = 6 by decide), if_neg (show ¬ (13 : Int32) = 7 by decide), if_neg (show ¬ (13 : Int32) = 8 by decide), if_neg (show ¬ (13 : Int32) = 9 by decide), if_neg (show ¬ (13 : Int32) = 10 by decide), if_neg (show ¬ (13 : Int32) = 11 by decide)]
                              rw [if_pos (show gX6_in (13 : Int32).toInt64 1 4 = 0 by decide), if_pos (show gX6_in (13 : Int32).toInt64 7 10 = 0 by decide), if_neg (show ¬ gX6_in (13 : Int32).toInt64 12 15 = 0 by decide)]
                              exact a1
                            · by_cases k14 : a = 14
                              · subst k14
                                rw [if_neg (show ¬ (14 : Int32) = 16 by decide), if_neg (show ¬ (14 : Int32) = 17 by decide), if_neg (show ¬ (14 : Int32) < 0 by decide), if_neg (show ¬ (15 : Int32) < 14 by decide), if_neg (show ¬ (1 : Int32) = 0 by decide), if_neg (show ¬ (14 : Int32) = 0 by decide), if_neg (show ¬ (14 : Int32) = 1 by decide), if_neg (show ¬ (14 : Int32) = 2 by decide), if_neg (show ¬ (14 : Int32) = 3 by decide), if_neg (show ¬ (14 : Int32) = 4 by decide), if_neg (show ¬ (14 : Int32) = 5 by decide), if_neg (show ¬ (14 : Int32) = 6 by decide), if_neg (show ¬ (14 : Int32) = 7 by decide), if_neg (show ¬ (14 : Int32) = 8 by decide), if_neg (show ¬ (14 : Int32) = 9 by decide), if_neg (show ¬ (14 : Int32) = 10 by decide), if_neg (show ¬ (14 : Int32) = 11 by decide)]
                                rw [if_pos (show gX6_in (14 : Int32).toInt64 1 4 = 0 by decide), if_pos (show gX6_in (14 : Int32).toInt64 7 10 = 0 by decide), if_neg (show ¬ gX6_in (14 : Int32).toInt64 12 15 = 0 by decide)]
                                exact a2
                              · by_cases k15 : a = 15
                                · subst k15
                                  rw [if_neg (show ¬ (15 : Int32) = 16 by decide), if_neg (show ¬ (15 : Int32) = 17 by decide), if_neg (show ¬ (15 : Int32) < 0 by decide), if_neg (show ¬ (15 : Int32) < 15 by decide), if_neg (show ¬ (1 : Int32) = 0 by decide), if_neg (show ¬ (15 : Int32) = 0 by decide), if_neg (show ¬ (15 : Int32) = 1 by decide), if_neg (show ¬ (15 : Int32) = 2 by decide), if_neg (show ¬ (15 : Int32) = 3 by decide), if_neg (show ¬ (15 : Int32) = 4 by decide), if_neg (show ¬ (15 : Int32) = 5 by decide), if_neg (show ¬ (15 : Int32) = 6 by decide), if_neg (show ¬ (15 : Int32) = 7 by decide), if_neg (show ¬ (15 : Int32) = 8 by decide), if_neg (show ¬ (15 : Int32) = 9 by decide), if_neg (show ¬ (15 : Int32) = 10 by decide), if_neg (show ¬ (15 : Int32) = 11 by decide)]
                                  rw [if_pos (show gX6_in (15 : Int32).toInt64 1 4 = 0 by decide), if_pos (show gX6_in (15 : Int32).toInt64 7 10 = 0 by decide), if_neg (show ¬ gX6_in (15 : Int32).toInt64 12 15 = 0 by decide)]
                                  exact a3
                                · by_cases k16 : a = 16
                                  · subst k16
                                    rw [if_pos (show (16 : Int32) = 16 from rfl)]
                                    rw [if_pos (show gX6_in (16 : Int32).toInt64 1 4 = 0 by decide), if_pos (show gX6_in (16 : Int32).toInt64 7 10 = 0 by decide), if_pos (show gX6_in (16 : Int32).toInt64 12 15 = 0 by decide), if_neg (show ¬ (16 : Int32) = 0 by decide), if_neg (show ¬ (16 : Int32) = 1 by decide), if_neg (show ¬ (16 : Int32) = 2 by decide), if_neg (show ¬ (16 : Int32) = 3 by decide), if_neg (show ¬ (16 : Int32) = 4 by decide), if_neg (show ¬ (16 : Int32) = 5 by decide), if_neg (show ¬ (16 : Int32) = 6 by decide), if_neg (show ¬ (16 : Int32) = 7 by decide), if_neg (show ¬ (16 : Int32) = 8 by decide), if_neg (show ¬ (16 : Int32) = 9 by decide), if_neg (show ¬ (16 : Int32) = 10 by decide), if_neg (show ¬ (16 : Int32) = 11 by decide), if_neg (show ¬ (16 : Int32) = 12 by decide), if_neg (show ¬ (16 : Int32) = 13 by decide), if_neg (show ¬ (16 : Int32) = 14 by decide), if_neg (show ¬ (16 : Int32) = 15 by decide), if_pos (show (16 : Int32) = 16 from rfl)]
                                    exact hh.1.symm
                                  · by_cases k17 : a = 17
                                    · subst k17
                                      rw [if_neg (show ¬ (17 : Int32) = 16 by decide), if_pos (show (17 : Int32) = 17 from rfl)]
                                      rw [if_pos (show gX6_in (17 : Int32).toInt64 1 4 = 0 by decide), if_pos (show gX6_in (17 : Int32).toInt64 7 10 = 0 by decide), if_pos (show gX6_in (17 : Int32).toInt64 12 15 = 0 by decide), if_neg (show ¬ (17 : Int32) = 0 by decide), if_neg (show ¬ (17 : Int32) = 1 by decide), if_neg (show ¬ (17 : Int32) = 2 by decide), if_neg (show ¬ (17 : Int32) = 3 by decide), if_neg (show ¬ (17 : Int32) = 4 by decide), if_neg (show ¬ (17 : Int32) = 5 by decide), if_neg (show ¬ (17 : Int32) = 6 by decide), if_neg (show ¬ (17 : Int32) = 7 by decide), if_neg (show ¬ (17 : Int32) = 8 by decide), if_neg (show ¬ (17 : Int32) = 9 by decide), if_neg (show ¬ (17 : Int32) = 10 by decide), if_neg (show ¬ (17 : Int32) = 11 by decide), if_neg (show ¬ (17 : Int32) = 12 by decide), if_neg (show ¬ (17 : Int32) = 13 by decide), if_neg (show ¬ (17 : Int32) = 14 by decide), if_neg (show ¬ (17 : Int32) = 15 by decide), if_neg (show ¬ (17 : Int32) = 16 by decide), if_pos (show (17 : Int32) = 17 from rfl)]
                                      exact t1.trans t2.symm
                                    · have hb : ¬ (0 ≤ a.toInt ∧ a.toInt ≤ 17) := by
                                        rw [i_eq, i_0] at k0
                                        rw [i_eq, show (1 : Int32).toInt = 1 from rfl] at k1
                                        rw [i_eq, show (2 : Int32).toInt = 2 from rfl] at k2
                                        rw [i_eq, show (3 : Int32).toInt = 3 from rfl] at k3
                                        rw [i_eq, show (4 : Int32).toInt = 4 from rfl] at k4
                                        rw [i_eq, show (5 : Int32).toInt = 5 from rfl] at k5
                                        rw [i_eq, show (6 : Int32).toInt = 6 from rfl] at k6
                                        rw [i_eq, show (7 : Int32).toInt = 7 from rfl] at k7
                                        rw [i_eq, show (8 : Int32).toInt = 8 from rfl] at k8
                                        rw [i_eq, show (9 : Int32).toInt = 9 from rfl] at k9
                                        rw [i_eq, show (10 : Int32).toInt = 10 from rfl] at k10
                                        rw [i_eq, show (11 : Int32).toInt = 11 from rfl] at k11
                                        rw [i_eq, show (12 : Int32).toInt = 12 from rfl] at k12
                                        rw [i_eq, show (13 : Int32).toInt = 13 from rfl] at k13
                                        rw [i_eq, show (14 : Int32).toInt = 14 from rfl] at k14
                                        rw [i_eq, show (15 : Int32).toInt = 15 from rfl] at k15
                                        rw [i_eq, show (16 : Int32).toInt = 16 from rfl] at k16
                                        rw [i_eq, show (17 : Int32).toInt = 17 from rfl] at k17
                                        omega
                                      have n1 : gX6_in a.toInt64 1 4 = 0 := Decidable.not_not.mp (fun z => by have := in_ne.mp z; rw [show (1 : Int64).toInt = 1 from rfl, show (4 : Int64).toInt = 4 from rfl] at this; omega)
                                      have n7 : gX6_in a.toInt64 7 10 = 0 := Decidable.not_not.mp (fun z => by have := in_ne.mp z; rw [show (7 : Int64).toInt = 7 from rfl, show (10 : Int64).toInt = 10 from rfl] at this; omega)
                                      have n12 : gX6_in a.toInt64 12 15 = 0 := Decidable.not_not.mp (fun z => by have := in_ne.mp z; rw [show (12 : Int64).toInt = 12 from rfl, show (15 : Int64).toInt = 15 from rfl] at this; omega)
                                      rw [if_neg k16, if_neg k17, if_pos n1, if_pos n7, if_pos n12]
                                      rw [if_neg k0, if_neg k1, if_neg k2, if_neg k3, if_neg k4, if_neg k5, if_neg k6, if_neg k7, if_neg k8, if_neg k9, if_neg k10, if_neg k11]
                                      rw [if_neg k0, if_neg k1, if_neg k2, if_neg k3, if_neg k4, if_neg k5, if_neg k6, if_neg k7, if_neg k8, if_neg k9, if_neg k10, if_neg k11, if_neg k12, if_neg k13, if_neg k14, if_neg k15, if_neg k16, if_neg k17]
                                      by_cases d1 : a < 0
                                      · rw [if_pos d1, if_pos (show (0 : Int32) = 0 from rfl)]
                                      · rw [if_neg d1]
                                        by_cases d2 : 15 < a
                                        · rw [if_pos d2, if_pos (show (0 : Int32) = 0 from rfl)]
                                        · rw [x_ilt, i_0] at d1
                                          rw [x_ilt, show (15 : Int32).toInt = 15 from rfl] at d2
                                          omega
