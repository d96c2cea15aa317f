/-! ===== joins, and the whole text ===== -/
theorem tkY_no {Y : YS} {c : Int32} (h : gX6_isHere Y c c = 0) : gX6_takes Y c = (0, Y) := by
  have e : upd Y.1 3 (Y.1 3 + 0) = Y.1 := by
    funext i
    rw [f_upd]
    split
    · rename_i e; rw [e, Int32.add_zero]
    · rfl
  unfold gX6_takes
  rw [if_pos h, h, e]
theorem tkY_yes {Y : YS} {c : Int32} (h : ¬ gX6_isHere Y c c = 0) : gX6_takes Y c = (1, upd Y.1 3 (Y.1 3 + 1), Y.2.1, Y.2.2) := by
  have h1 : gX6_isHere Y c c = 1 := (z_X6_isHere (Y := Y) (a1 := c) (a2 := c)).resolve_left h
  unfold gX6_takes
  rw [if_neg h, h1]
theorem here_eq {T : TS} {Y : YS} {n i : Nat} {a : Int32} (hx : TXR T Y n) (hi : Y.1 3 = nI i) (hin : i ≤ n) : ¬ gX6_isHere Y a a = 0 ↔ i < n ∧ T.2.1 i = a := by
  rw [here_iff hx hi hin, i_eq]
  omega
/-- a character that ends a number without being wanted -/
theorem stop_no {T0 T : TS} {n i : Nat} {v : Int32} (h0 : T.1 0 = nI n) (h60 : n ≤ 60) (hp : T.1 2 = 1 ∨ T.1 2 = 2) (hv : numP v) (hs : STOP T n i v) (hl : i < n) (hx : T.1 2 = 1 → ¬ T.2.1 i = 120) (hc : T.1 2 = 2 → ¬ T.2.1 i = 44) : (gX2_read_L17 T0 (60 - i) i (setnum T v)).1 = nI i := by
  have hp0 : ¬ (setnum T v).1 2 = 0 := by rcases hp with h | h <;> (show ¬ T.1 2 = 0; rw [h]; decide)
  have h5 : (setnum T v).1 5 = v := rfl
  have hv0 : ¬ v = 0 := by rw [i_eq, i_0]; have := hv.1; omega
  have ht : (gX2_takes (setnum T v) (T.2.1 i)).1 = 0 := by
    rcases hs with h | ⟨-, h | ⟨h, h'⟩⟩
    · omega
    · rw [tk_non hp0 h, h5, if_neg hv0]
      show (if T.1 2 = 1 then _ else _ : Int32 × TS).1 = 0
      rcases hp with e | e
      · rw [if_pos e, if_neg (hx e)]
        show (if T.1 2 = 2 then _ else _ : Int32 × TS).1 = 0
        rw [if_neg (show ¬ T.1 2 = 2 by rw [e]; decide)]
      · rw [if_neg (show ¬ T.1 2 = 1 by rw [e]; decide)]
        show (if T.1 2 = 2 then _ else _ : Int32 × TS).1 = 0
        rw [if_pos e, if_neg (hc e)]
    · have h1 : ¬ T.2.1 i < 48 := fun z => h (Or.inl z)
      have h2 : ¬ 57 < T.2.1 i := fun z => h (Or.inr z)
      have hd : 48 ≤ (T.2.1 i).toInt ∧ (T.2.1 i).toInt ≤ 57 := by
        rw [x_ilt, show (48 : Int32).toInt = 48 from rfl] at h1
        rw [x_ilt, show (57 : Int32).toInt = 57 from rfl] at h2
        omega
      obtain ⟨e1, e2⟩ := num_nx hv hd
      rw [x_ilt, e2, show (200 : Int32).toInt = 200 from rfl] at h'
      rw [tk_dig hp0 h1 h2]
      unfold gX2_takesDigit
      rw [h5, ← e1, if_neg (show ¬ 10 * v + T.2.1 i - 48 = 0 by rw [i_eq, i_0, e2]; omega), if_neg (show ¬ 10 * v + T.2.1 i - 48 ≤ 200 by rw [x_ile, e2, show (200 : Int32).toInt = 200 from rfl]; omega)]
  rw [show 60 - i = (60 - (i + 1)) + 1 by omega, run_go (T1 := setnum T v) h0 h60 hl]
  show (if (gX2_takes (setnum T v) (T.2.1 i)).1 = 0 then _ else _ : Int32 × TS).1 = nI i
  rw [if_pos ht]
/-- what a join's reading gives on both sides -/
def jrP (T0 T : TS) (Y : YS) (n i m : Nat) (w : Int32) (r : Int32 × YS) (j0 : Nat) : Prop :=
  (r.1 = 0 ∧ ∃ i', i' ≤ n ∧ r.2.1 3 = nI i' ∧ (gX2_read_L17 T0 (60 - i) i T).1 = nI i') ∨
  (¬ r.1 = 0 ∧ ∃ (i' : Nat) (T' : TS) (a b : Int32), i + j0 ≤ i' ∧ i' ≤ n ∧ r.2.1 3 = nI i' ∧ gX2_read_L17 T0 (60 - i) i T = gX2_read_L17 T0 (60 - i') i' (setnum T' b) ∧ T'.1 2 = 2 ∧ T'.1 3 = w ∧ T'.1 4 = a ∧ T'.1 1 = T.1 1 ∧ T'.1 0 = T.1 0 ∧ T'.2 = T.2 ∧ STOP T' n i' b ∧ numP b ∧ r.2.1 5 = Y.1 5 + 1 ∧ r.2.1 2 = Y.1 2 ∧ r.2.2.1 = Y.2.1 ∧ r.2.2.2 = upd (upd (upd Y.2.2 (3 * (Y.1 5).toNatClampNeg) w) (3 * (Y.1 5).toNatClampNeg + 1) a) (3 * (Y.1 5).toNatClampNeg + 2) b)
theorem rjN_sim {T0 T : TS} {Y : YS} {n i m : Nat} {w : Int32} (hx : TXR T Y n) (h2 : T.1 2 = 1) (h3 : T.1 3 = w) (h5 : T.1 5 = 0) (hi : Y.1 3 = nI i) (hin : i ≤ n) : jrP T0 T Y n i m w (rjN w Y) 3 := by
  have h60 := hx.2.2.1
  have k1 := kp_rn (Y := Y)
  rcases num_R (T0 := T0) hx (Or.inl h2) h5 hi hin with ⟨r0, rY, rr⟩ | ⟨r0, i1, a1, a2, a3, a4, a5, a6⟩
  · unfold rjN
    rw [if_pos r0, rY]
    exact Or.inl ⟨rfl, i, hin, hi, rr⟩
  · have hx1 : TXR (setnum T ((gX6_readsNumber Y).2.1 4)) (gX6_readsNumber Y).2 n := ⟨hx.1, by rw [k1.1.1 2 (by decide) (by decide)]; exact hx.2.1, h60, fun j hj => by rw [show (gX6_readsNumber Y).2.2.1 = Y.2.1 from congrArg Prod.fst k1.1.2]; exact hx.2.2.2 j hj⟩
    have hh := here_eq (a := 120) hx1 a3 a2
    unfold rjN
    rw [if_neg r0]
    by_cases c : gX6_isHere (gX6_readsNumber Y).2 120 120 = 0
    · rw [tkY_no c, if_pos (show (0 : Int32) = 0 from rfl)]
      refine Or.inl ⟨rfl, i1, a2, a3, ?_⟩
      rw [a5]
      rcases Nat.lt_or_ge i1 n with hl | hl
      · exact stop_no hx.1 h60 (Or.inl h2) a4 a6 hl (fun _ z => hh.mpr ⟨hl, z⟩ c) (fun z => absurd (h2.symm.trans z) (by decide))
      · have e : n = i1 := by omega
        subst e
        rw [run_end hx1.1 h60]
        unfold endR
        rw [if_neg (show ¬ (setnum T ((gX6_readsNumber Y).2.1 4)).1 2 = 2 by show ¬ T.1 2 = 2; rw [h2]; decide)]
        exact hx1.1
    · obtain ⟨hl, hc⟩ := hh.mp c
      have hc : T.2.1 i1 = 120 := hc
      rw [tkY_yes c, if_neg (show ¬ (1 : Int32) = 0 by decide)]
      generalize hv : (gX6_readsNumber Y).2.1 4 = v at *
      have hc : T.2.1 i1 = 120 := hc
      have hv0 : ¬ v = 0 := by rw [i_eq, i_0]; have := a4.1; omega
      have hT : gX2_read_L17 T0 (60 - i) i T = gX2_read_L17 T0 (60 - (i1 + 1)) (i1 + 1) (upd (upd (upd (setnum T v).1 4 v) 5 0) 2 2, T.2) := by
        rw [a5, show 60 - i1 = (60 - (i1 + 1)) + 1 by omega, run_go (T1 := setnum T v) hx.1 h60 hl]
        have ht : gX2_takes (setnum T v) (T.2.1 i1) = (1, (upd (upd (upd (setnum T v).1 4 v) 5 0) 2 2, T.2)) := by
          rw [tk_non (show ¬ (setnum T v).1 2 = 0 by show ¬ T.1 2 = 0; rw [h2]; decide) (by rw [hc]; exact Or.inr (by decide))]
          rw [if_neg (show ¬ (setnum T v).1 5 = 0 from hv0), if_pos (show (setnum T v).1 2 = 1 from h2), if_pos hc]
          rfl
        rw [show gX2_takes (setnum T v) ((setnum T v).2.1 i1) = _ from ht, if_neg (show ¬ (1 : Int32) = 0 by decide)]
      generalize hT2 : ((upd (upd (upd (setnum T v).1 4 v) 5 0) 2 2, T.2) : TS) = T2 at hT
      generalize hY2 : ((upd (gX6_readsNumber Y).2.1 3 ((gX6_readsNumber Y).2.1 3 + 1), (gX6_readsNumber Y).2.2.1, (gX6_readsNumber Y).2.2.2) : YS) = Y2
      have t0 : T2.1 0 = T.1 0 := by rw [← hT2]; rfl
      have t1 : T2.1 1 = T.1 1 := by rw [← hT2]; rfl
      have t2 : T2.1 2 = 2 := by rw [← hT2]; rfl
      have t3 : T2.1 3 = w := by rw [← hT2]; exact h3
      have t4 : T2.1 4 = v := by rw [← hT2]; rfl
      have t5 : T2.1 5 = 0 := by rw [← hT2]; rfl
      have tr : T2.2 = T.2 := by rw [← hT2]
      have y3 : Y2.1 3 = nI (i1 + 1) := by rw [← hY2]; show (gX6_readsNumber Y).2.1 3 + 1 = _; rw [a3, nI_1]
      have yk : ∀ k, k ≠ 3 → k ≠ 4 → Y2.1 k = Y.1 k := fun k h3 h4 => by rw [← hY2]; show upd (gX6_readsNumber Y).2.1 3 _ k = _; rw [f_upd, if_neg h3]; exact k1.1.1 k h3 h4
      have yr : Y2.2 = Y.2 := by rw [← hY2]; exact k1.1.2
      have hx2 : TXR T2 Y2 n := ⟨t0.trans hx.1, (yk 2 (by decide) (by decide)).trans hx.2.1, h60, fun j hj => by rw [tr, show Y2.2.1 = Y.2.1 from congrArg Prod.fst yr]; exact hx.2.2.2 j hj⟩
      have k3 := kp_rn (Y := Y2)
      rcases num_R (T0 := T0) hx2 (Or.inr t2) t5 y3 (by omega) with ⟨q0, qY, qq⟩ | ⟨q0, i2, b1, b2, b3, b4, b5, b6⟩
      · rw [if_pos q0, qY]
        exact Or.inl ⟨rfl, i1 + 1, by omega, y3, by rw [hT]; exact qq⟩
      · rw [if_neg q0]
        have e5 : (gX6_readsNumber Y2).2.1 5 = Y.1 5 := (k3.1.1 5 (by decide) (by decide)).trans (yk 5 (by decide) (by decide))
        have er : (gX6_readsNumber Y2).2.2.2 = Y.2.2 := (congrArg Prod.snd k3.1.2).trans (congrArg Prod.snd yr)
        refine Or.inr ⟨(show ¬ (1 : Int32) = 0 by decide), i2, T2, v, (gX6_readsNumber Y2).2.1 4, by omega, b2, b3, by rw [hT]; exact b5, t2, t3, t4, t1, t0, tr, b6, b4, ?_, ?_, ?_, ?_⟩
        · show (gX6_readsNumber Y2).2.1 5 + 1 = _
          rw [e5]
        · show (gX6_readsNumber Y2).2.1 2 = _
          exact (k3.1.1 2 (by decide) (by decide)).trans (yk 2 (by decide) (by decide))
        · show (gX6_readsNumber Y2).2.2.1 = _
          exact (congrArg Prod.fst k3.1.2).trans (congrArg Prod.fst yr)
        · show upd (upd (upd (gX6_readsNumber Y2).2.2.2 (3 * ((gX6_readsNumber Y2).2.1 5).toNatClampNeg) w) (3 * ((gX6_readsNumber Y2).2.1 5).toNatClampNeg + 1) v) (3 * ((gX6_readsNumber Y2).2.1 5).toNatClampNeg + 2) ((gX6_readsNumber Y2).2.1 4) = _
          rw [e5, er]
theorem rj_sim {T0 T : TS} {Y : YS} {n i m : Nat} (hx : TXR T Y n) (h2 : T.1 2 = 0) (h5 : T.1 5 = 0) (hi : Y.1 3 = nI i) (hin : i ≤ n) : ∃ w, (w = 0 ∨ w = 1 ∨ w = 2) ∧ jrP T0 T Y n i m w (gX6_readsJoin Y) 4 := by
  have h60 := hx.2.2.1
  rw [rj_eq]
  have go : ∀ (c w : Int32), i < n → T.2.1 i = c → gX2_takesWay T c = (1, (upd (upd T.1 3 w) 2 1, T.2)) → jrP T0 T Y n i m w (rjN w (upd Y.1 3 (Y.1 3 + 1), Y.2.1, Y.2.2)) 4 := by
    intro c w hl hc hw
    have hT : gX2_read_L17 T0 (60 - i) i T = gX2_read_L17 T0 (60 - (i + 1)) (i + 1) (upd (upd T.1 3 w) 2 1, T.2) := by
      rw [show 60 - i = (60 - (i + 1)) + 1 by omega, run_go hx.1 h60 hl, tk_way h2, hc, hw, if_neg (show ¬ (1 : Int32) = 0 by decide)]
    have := rjN_sim (T0 := T0) (T := (upd (upd T.1 3 w) 2 1, T.2)) (Y := (upd Y.1 3 (Y.1 3 + 1), Y.2.1, Y.2.2)) (n := n) (i := i + 1) (m := m) (w := w) ⟨hx.1, hx.2.1, h60, hx.2.2.2⟩ rfl rfl h5 (by show Y.1 3 + 1 = _; rw [hi, nI_1]) (by omega)
    rcases this with ⟨q1, i', q2, q3, q4⟩ | ⟨q1, i', T', a, b, p1, p2, p3, p4, p5, p6, p7, p8, p9, p10, p11, p12, p13, p14, p15, p16⟩
    · exact Or.inl ⟨q1, i', q2, q3, by rw [hT]; exact q4⟩
    · exact Or.inr ⟨q1, i', T', a, b, by omega, p2, p3, by rw [hT]; exact p4, p5, p6, p7, p8, p9, p10, p11, p12, p13, p14, p15, p16⟩
  have n10 : ¬ (98 : Int32) = 108 := by decide
  have n20 : ¬ (109 : Int32) = 108 := by decide
  have n21 : ¬ (109 : Int32) = 98 := by decide
  by_cases c1 : gX6_isHere Y 108 108 = 0
  · rw [tkY_no c1, if_pos (show (0 : Int32) = 0 from rfl)]
    by_cases c2 : gX6_isHere Y 98 98 = 0
    · rw [tkY_no c2, if_pos (show (0 : Int32) = 0 from rfl)]
      by_cases c3 : gX6_isHere Y 109 109 = 0
      · rw [tkY_no c3, if_pos (show (0 : Int32) = 0 from rfl)]
        refine ⟨0, Or.inl rfl, Or.inl ⟨rfl, i, hin, hi, ?_⟩⟩
        rcases Nat.lt_or_ge i n with hl | hl
        · have e1 : ¬ T.2.1 i = 108 := fun z => (here_eq hx hi hin).mpr ⟨hl, z⟩ c1
          have e2 : ¬ T.2.1 i = 98 := fun z => (here_eq hx hi hin).mpr ⟨hl, z⟩ c2
          have e3 : ¬ T.2.1 i = 109 := fun z => (here_eq hx hi hin).mpr ⟨hl, z⟩ c3
          have ht : gX2_takesWay T (T.2.1 i) = (0, T) := by unfold gX2_takesWay; rw [if_neg e1, if_neg e2, if_neg e3]
          rw [show 60 - i = (60 - (i + 1)) + 1 by omega, run_go hx.1 h60 hl, tk_way h2, ht, if_pos (show (0 : Int32) = 0 from rfl)]
        · have e : n = i := by omega
          subst e
          rw [run_end hx.1 h60]
          unfold endR
          rw [if_neg (show ¬ T.1 2 = 2 by rw [h2]; decide)]
          exact hx.1
      · obtain ⟨hl, hc⟩ := (here_eq hx hi hin).mp c3
        rw [tkY_yes c3, if_neg (show ¬ (1 : Int32) = 0 by decide)]
        exact ⟨2, Or.inr (Or.inr rfl), go 109 2 hl hc (by unfold gX2_takesWay; rw [if_neg n20, if_neg n21, if_pos rfl])⟩
    · obtain ⟨hl, hc⟩ := (here_eq hx hi hin).mp c2
      rw [tkY_yes c2, if_neg (show ¬ (1 : Int32) = 0 by decide)]
      exact ⟨1, Or.inr (Or.inl rfl), go 98 1 hl hc (by unfold gX2_takesWay; rw [if_neg n10, if_pos rfl])⟩
  · obtain ⟨hl, hc⟩ := (here_eq hx hi hin).mp c1
    rw [tkY_yes c1, if_neg (show ¬ (1 : Int32) = 0 by decide)]
    exact ⟨0, Or.inl rfl, go 108 0 hl hc (by unfold gX2_takesWay; rw [if_pos rfl])⟩
/-- the joins that were read, on both sides -/
def entR (T : TS) (Y : YS) (m : Nat) : Prop := T.1 1 = nI m ∧ Y.1 5 = nI m ∧ ∀ k, k < m → Y.2.2 (3 * k) = T.2.2.1 k ∧ Y.2.2 (3 * k + 1) = T.2.2.2.1 k ∧ Y.2.2 (3 * k + 2) = T.2.2.2.2 k
theorem end_ent {T : TS} {Y Y' : YS} {m : Nat} {w a b : Int32} (h : entR T Y m) (hm : m < 12) (h3 : T.1 3 = w) (h4 : T.1 4 = a) (h5 : T.1 5 = b) (y5 : Y'.1 5 = Y.1 5 + 1) (yr : Y'.2.2 = upd (upd (upd Y.2.2 (3 * (Y.1 5).toNatClampNeg) w) (3 * (Y.1 5).toNatClampNeg + 1) a) (3 * (Y.1 5).toNatClampNeg + 2) b) :
    entR (gX2_endJoin T) Y' (m + 1) ∧ (gX2_endJoin T).1 2 = 0 ∧ (gX2_endJoin T).1 5 = 0 ∧ (gX2_endJoin T).1 0 = T.1 0 ∧ (gX2_endJoin T).2.1 = T.2.1 := by
  obtain ⟨e1, e2, e3⟩ := h
  have c : ¬ nI 12 ≤ T.1 1 := by rw [e1, x_ile, nI_toInt (by decide), nI_toInt (by omega)]; omega
  have hc1 : (T.1 1).toNatClampNeg = m := by rw [e1, nI_clamp (by omega)]
  have hc2 : (Y.1 5).toNatClampNeg = m := by rw [e2, nI_clamp (by omega)]
  have he : gX2_endJoin T = (upd (upd (upd T.1 1 ((T.1 1) + 1)) 5 0) 2 0, T.2.1, upd T.2.2.1 ((T.1 1).toNatClampNeg) (T.1 3), upd T.2.2.2.1 ((T.1 1).toNatClampNeg) (T.1 4), upd T.2.2.2.2 ((T.1 1).toNatClampNeg) (T.1 5)) := by
    unfold gX2_endJoin
    rw [if_neg c, if_neg c, if_neg c]
  rw [he, hc1]
  rw [hc2] at yr
  refine ⟨⟨?_, ?_, fun k hk => ?_⟩, rfl, rfl, rfl, rfl⟩
  · show T.1 1 + 1 = _
    rw [e1, nI_1]
  · rw [y5, e2, nI_1]
  · rw [yr]
    show _ = upd T.2.2.1 m (T.1 3) k ∧ _ = upd T.2.2.2.1 m (T.1 4) k ∧ _ = upd T.2.2.2.2 m (T.1 5) k
    by_cases h : k = m
    · subst h
      rw [f_upd, f_upd, f_upd, f_upd, f_upd, f_upd, f_upd, f_upd, f_upd, f_upd, f_upd, f_upd, if_pos rfl, if_pos rfl, if_pos rfl]
      have d1 : ¬ 3 * k = 3 * k + 2 := by omega
      have d2 : ¬ 3 * k = 3 * k + 1 := by omega
      have d3 : ¬ 3 * k + 1 = 3 * k + 2 := by omega
      rw [if_neg d1, if_neg d2, if_neg d3, h3, h4, h5]
      simp
    · have u : ∀ j, j < 3 → upd (upd (upd Y.2.2 (3 * m) w) (3 * m + 1) a) (3 * m + 2) b (3 * k + j) = Y.2.2 (3 * k + j) := fun j hj => by
        rw [f_upd, if_neg (by omega), f_upd, if_neg (by omega), f_upd, if_neg (by omega)]
      have hk2 := e3 k (by omega)
      have u0 : upd (upd (upd Y.2.2 (3 * m) w) (3 * m + 1) a) (3 * m + 2) b (3 * k) = Y.2.2 (3 * k) := u 0 (by decide)
      rw [u0, u 1 (by decide), u 2 (by decide), f_upd, f_upd, f_upd, if_neg h, if_neg h, if_neg h]
      exact hk2
/-- the outcome on both sides -/
def rdR (q : Int32 × TS) (r : Int32 × YS) : Prop := (r.1 = -5 ∧ q.1 = -1 ∧ ∃ m, m ≤ 12 ∧ entR q.2 r.2 m) ∨ ∃ i, i ≤ 60 ∧ r.1 = nI i ∧ q.1 = nI i
theorem fault_sim {T0 : TS} {Yq : YS} {n : Nat} : ∀ (fu i m : Nat) (x : Int32) (T : TS) (Y : YS), ¬ x = 0 → TXR T Y n → T.1 2 = 0 → T.1 5 = 0 → Y.1 3 = nI i → i ≤ n → 5 * m ≤ i → entR T Y m → 61 ≤ i + fu → rdR (gX2_read_L17 T0 (60 - i) i T) (gX6_fault_L12 Yq fu x Y) := by
  intro fu
  induction fu with
  | zero => intro i m x T Y _ hx _ _ _ hin _ _ hf; have := hx.2.2.1; omega
  | succ fu ih =>
    intro i m x T Y hx0 hx h2 h5 hi hin hm he hf
    have h60 := hx.2.2.1
    rw [gX6_fault_L12, if_neg hx0]
    obtain ⟨w, hw, hj⟩ := rj_sim (T0 := T0) (m := m) hx h2 h5 hi hin
    rcases hj with ⟨q1, i', q2, q3, q4⟩ | ⟨q1, i', T', a, b, p1, p2, p3, p4, p5, p6, p7, p8, p9, p10, p11, p12, p13, p14, p15, p16⟩
    · rw [if_pos q1]
      exact Or.inr ⟨i', by omega, q3, q4⟩
    · rw [if_neg q1, p4]
      have hb0 : ¬ b = 0 := by rw [i_eq, i_0]; have := p12.1; omega
      have he' : entR (setnum T' b) Y m := ⟨p8.trans he.1, he.2.1, fun k hk => by show _ = T'.2.2.1 k ∧ _ = T'.2.2.2.1 k ∧ _ = T'.2.2.2.2 k; rw [p10]; exact he.2.2 k hk⟩
      obtain ⟨n1, n2, n3, n4, n5⟩ := end_ent (Y' := (gX6_readsJoin Y).2) he' (by omega) p6 p7 rfl p13 p16
      have hx1 : TXR (setnum T' b) (gX6_readsJoin Y).2 n := ⟨p9.trans hx.1, p14.trans hx.2.1, h60, fun j hj => by rw [p15]; show _ = T'.2.1 j; rw [p10]; exact hx.2.2.2 j hj⟩
      have hh := here_eq (a := 44) hx1 p3 p2
      by_cases c : gX6_isHere (gX6_readsJoin Y).2 44 44 = 0
      · rw [tkY_no c]
        show rdR _ (gX6_fault_L12 Yq fu 0 (gX6_readsJoin Y).2)
        have hfu : ∃ fu', fu = fu' + 1 := ⟨fu - 1, by omega⟩
        obtain ⟨fu', rfl⟩ := hfu
        rw [gX6_fault_L12, if_pos (show (0 : Int32) = 0 from rfl), p3, p14, hx.2.1]
        rcases Nat.lt_or_ge i' n with hl | hl
        · have hne : ¬ nI i' = nI n := by rw [nI_eq (by omega) (by omega)]; omega
          rw [if_neg hne]
          exact Or.inr ⟨i', by omega, rfl, stop_no (p9.trans hx.1) h60 (Or.inr p5) p12 p11 hl (fun z => absurd (p5.symm.trans z) (by decide)) (fun _ z => hh.mpr ⟨hl, z⟩ c)⟩
        · have e : n = i' := by omega
          subst e
          rw [if_pos rfl]
          rw [run_end (T1 := setnum T' b) hx1.1 h60]
          unfold endR
          rw [if_pos (show (setnum T' b).1 2 = 2 from p5), if_neg (show ¬ (setnum T' b).1 5 = 0 from hb0)]
          exact Or.inl ⟨rfl, rfl, m + 1, by omega, n1⟩
      · obtain ⟨hl, hc⟩ := hh.mp c
        have hc : T'.2.1 i' = 44 := hc
        rw [tkY_yes c]
        have ht : gX2_takes (setnum T' b) (T'.2.1 i') = (1, gX2_endJoin (setnum T' b)) := by
          have hp0 : ¬ (setnum T' b).1 2 = 0 := by show ¬ T'.1 2 = 0; rw [p5]; decide
          have hp1 : ¬ (setnum T' b).1 2 = 1 := by show ¬ T'.1 2 = 1; rw [p5]; decide
          rw [tk_non hp0 (by rw [hc]; exact Or.inl (by decide)), if_neg (show ¬ (setnum T' b).1 5 = 0 from hb0), if_neg hp1, if_pos (show (setnum T' b).1 2 = 2 from p5), if_pos hc]
        have hrun : gX2_read_L17 T0 (60 - i') i' (setnum T' b) = gX2_read_L17 T0 (60 - (i' + 1)) (i' + 1) (gX2_endJoin (setnum T' b)) := by
          rw [show 60 - i' = (60 - (i' + 1)) + 1 by omega, run_go (T1 := setnum T' b) hx1.1 h60 hl]
          rw [show gX2_takes (setnum T' b) ((setnum T' b).2.1 i') = _ from ht, if_neg (show ¬ (1 : Int32) = 0 by decide)]
        rw [hrun]
        refine ih (i' + 1) (m + 1) 1 (gX2_endJoin (setnum T' b)) _ (by decide) ⟨n4.trans hx1.1, hx1.2.1, h60, fun j hj => by rw [n5]; exact hx1.2.2.2 j hj⟩ n2 n3 (by show (gX6_readsJoin Y).2.1 3 + 1 = _; rw [p3, nI_1]) (by omega) (by omega) ⟨n1.1, n1.2.1, n1.2.2⟩ (by omega)
theorem eq_read {T : TS} {Y : YS} {n : Nat} (hx : TXR T Y n) : rdR (gX2_read T) (gX6_fault Y) := by
  have h := fault_sim (T0 := T) (Yq := Y) (n := n) 61 0 0 1 (upd (upd (upd T.1 1 0) 2 0) 5 0, T.2.1, T.2.2.1, T.2.2.2.1, T.2.2.2.2) (upd (upd Y.1 3 0) 5 0, Y.2.1, Y.2.2) (by decide) ⟨hx.1, hx.2.1, hx.2.2.1, hx.2.2.2⟩ rfl rfl rfl (Nat.zero_le _) (by decide) ⟨rfl, rfl, fun k hk => by omega⟩ (by decide)
  exact h
/-! the text stays -/
theorem kt_end {T : TS} : (gX2_endJoin T).1 0 = T.1 0 ∧ (gX2_endJoin T).2.1 = T.2.1 := by
  unfold gX2_endJoin
  (repeat' split) <;> exact ⟨rfl, rfl⟩
theorem kt_takes {T : TS} {c : Int32} : (gX2_takes T c).2.1 0 = T.1 0 ∧ (gX2_takes T c).2.2.1 = T.2.1 := by
  have h1 : (gX2_takesWay T c).2.1 0 = T.1 0 ∧ (gX2_takesWay T c).2.2.1 = T.2.1 := by
    unfold gX2_takesWay
    (repeat' split) <;> exact ⟨rfl, rfl⟩
  have h2 : (gX2_takesDigit T (c - 48)).2.1 0 = T.1 0 ∧ (gX2_takesDigit T (c - 48)).2.2.1 = T.2.1 := by
    unfold gX2_takesDigit
    (repeat' split) <;> exact ⟨rfl, rfl⟩
  have h3 := kt_end (T := T)
  unfold gX2_takes
  generalize gX2_takesWay T c = w at *
  generalize gX2_takesDigit T (c - 48) = d at *
  generalize gX2_endJoin T = e at *
  (repeat' split) <;> first | exact h1 | exact h2 | exact h3 | exact ⟨rfl, rfl⟩
theorem kt_L {T0 : TS} : ∀ (fu i : Nat) (T : TS), (gX2_read_L17 T0 fu i T).2.1 0 = T.1 0 ∧ (gX2_read_L17 T0 fu i T).2.2.1 = T.2.1 := by
  have he : ∀ T : TS, (endR T).2.1 0 = T.1 0 ∧ (endR T).2.2.1 = T.2.1 := fun T => by
    unfold endR
    have := kt_end (T := T)
    generalize gX2_endJoin T = e at *
    (repeat' split) <;> first | exact this | exact ⟨rfl, rfl⟩
  intro fu
  induction fu with
  | zero =>
    intro i T
    rw [gX2_read_L17]
    split <;> exact he T
  | succ fu ih =>
    intro i T
    rw [gX2_read_L17]
    split
    · exact he T
    · have ht := kt_takes (T := T) (c := T.2.1 i)
      split
      · exact ht
      · have := ih (i + 1) (gX2_takes T (T.2.1 i)).2
        exact ⟨this.1.trans ht.1, this.2.trans ht.2⟩
theorem kt_read {T : TS} : (gX2_read T).2.1 0 = T.1 0 ∧ (gX2_read T).2.2.1 = T.2.1 := kt_L 60 0 _
