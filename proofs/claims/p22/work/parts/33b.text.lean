/-! ===== a text of one join, typed and read ===== -/
/-- the text's end, as the class sees it -/
def endR (T1 : TS) : Int32 × TS := if T1.1 2 = 2 then (if T1.1 5 = 0 then (T1.1 0, T1) else (-1, gX2_endJoin T1)) else (T1.1 0, T1)
theorem run_end {T0 T1 : TS} {fu i : Nat} (h : T1.1 0 = nI i) (hi : i ≤ 60) : gX2_read_L17 T0 fu i T1 = endR T1 := by
  have hle : T1.1 0 ≤ nI i := by rw [h, x_ile]; exact Int.le_refl _
  cases fu with
  | zero => rw [gX2_read_L17, if_pos hle]; rfl
  | succ fu => rw [gX2_read_L17, if_pos hle]; rfl
theorem run_go {T0 T1 : TS} {fu i n : Nat} (h : T1.1 0 = nI n) (hn : n ≤ 60) (hi : i < n) : gX2_read_L17 T0 (fu + 1) i T1 = if (gX2_takes T1 (T1.2.1 i)).1 = 0 then (nI i, (gX2_takes T1 (T1.2.1 i)).2) else gX2_read_L17 T0 fu (i + 1) (gX2_takes T1 (T1.2.1 i)).2 := by
  have hle : ¬ T1.1 0 ≤ nI i := by rw [h, x_ile, nI_toInt (by omega), nI_toInt (by omega)]; omega
  rw [gX2_read_L17, if_neg hle]
theorem tk_way {T : TS} {c : Int32} (h : T.1 2 = 0) : gX2_takes T c = gX2_takesWay T c := by
  unfold gX2_takes
  rw [if_pos h]
theorem tk_dig {T : TS} {c : Int32} (h : ¬ T.1 2 = 0) (h1 : ¬ c < 48) (h2 : ¬ 57 < c) : gX2_takes T c = gX2_takesDigit T (c - 48) := by
  unfold gX2_takes
  rw [if_neg h, if_neg h1, if_neg h2]
/-- neither a digit -/
def nDig (c : Int32) : Prop := c < 48 ∨ 57 < c
theorem tk_non {T : TS} {c : Int32} (h : ¬ T.1 2 = 0) (hd : nDig c) : gX2_takes T c = (if T.1 5 = 0 then (0, T) else (if T.1 2 = 1 then (if c = 120 then (1, (upd (upd (upd T.1 4 (T.1 5)) 5 0) 2 2, T.2.1, T.2.2.1, T.2.2.2.1, T.2.2.2.2)) else (if T.1 2 = 2 then (if c = 44 then (1, gX2_endJoin T) else (0, T)) else (0, T))) else (if T.1 2 = 2 then (if c = 44 then (1, gX2_endJoin T) else (0, T)) else (0, T)))) := by
  unfold gX2_takes
  rw [if_neg h]
  by_cases h1 : c < 48
  · rw [if_pos h1]
  · rw [if_neg h1, if_pos (hd.resolve_left h1)]
def setnum (T : TS) (v : Int32) : TS := (upd T.1 5 v, T.2)
theorem setnum2 {T : TS} {a b : Int32} : setnum (setnum T a) b = setnum T b := by
  have : upd (upd T.1 5 a) 5 b = upd T.1 5 b := by
    funext i
    rw [f_upd, f_upd, f_upd]
    split <;> rfl
  show (upd (upd T.1 5 a) 5 b, T.2) = (upd T.1 5 b, T.2)
  rw [this]
theorem dig_of {c : Int32} (h : 48 ≤ c.toInt ∧ c.toInt ≤ 57) : ¬ c < 48 ∧ ¬ 57 < c := by
  rw [x_ilt, x_ilt, show (48 : Int32).toInt = 48 from rfl, show (57 : Int32).toInt = 57 from rfl]
  omega
theorem kt_end {T : TS} : (gX2_endJoin T).1 0 = T.1 0 ∧ (gX2_endJoin T).2.1 = T.2.1 := by
  unfold gX2_endJoin
  (repeat' split) <;> exact ⟨rfl, rfl⟩
theorem kt_takes {T : TS} {c : Int32} : (gX2_takes T c).2.1 0 = T.1 0 ∧ (gX2_takes T c).2.2.1 = T.2.1 := by
  have h1 : (gX2_takesWay T c).2.1 0 = T.1 0 ∧ (gX2_takesWay T c).2.2.1 = T.2.1 := by
    unfold gX2_takesWay
    (repeat' split) <;> exact ⟨rfl, rfl⟩
  have h2 : (gX2_takesDigit T (c - 48)).2.1 0 = T.1 0 ∧ (gX2_takesDigit T (c - 48)).2.2.1 = T.2.1 := by
    unfold gX2_takesDigit
    (repeat' split) <;> exact ⟨rfl, rfl⟩
  have h3 := kt_end (T := T)
  unfold gX2_takes
  generalize gX2_takesWay T c = w at *
  generalize gX2_takesDigit T (c - 48) = d at *
  generalize gX2_endJoin T = e at *
  (repeat' split) <;> first | exact h1 | exact h2 | exact h3 | exact ⟨rfl, rfl⟩
/-- the text's characters -/
def TLs (T : TS) (l : List Int32) : Prop := T.1 0 = nI l.length ∧ ∀ i c, l[i]? = some c → T.2.1 i = c
theorem nar_nI {q : Nat} (hq : q < 65536) : vp_nar .char (nI q) = nI q := by
  unfold vp_nar
  rw [(pk_charN hq).1]
theorem TLs_nil {T : TS} : TLs (gX2_clear T) [] := ⟨rfl, fun i c h => by simp at h⟩
theorem TLs_ht {T : TS} {l : List Int32} (h : TLs T l) (hl : l.length ≤ 60) : ¬ T.1 0 < 0 := by
  rw [h.1]
  exact nI_pos (by omega)
theorem ty_TL {C : CS} {l : List Int32} {c : Int32} (h : TLs C.2.2.1 l) (hl : l.length < 60) (hc : vp_nar .char c = c) : (gX5_type C c).1 = nI (l.length + 1) ∧ TLs (gX5_type C c).2.2.2.1 (l ++ [c]) ∧ (gX5_type C c).2.1 = C.1 ∧ (gX5_type C c).2.2.1 = C.2.1 := by
  obtain ⟨h0, h1⟩ := h
  have hlt : C.2.2.1.1 0 < nI 60 := by rw [h0]; exact nI_lt hl (by decide)
  have ha : gX2_append C.2.2.1 c = (1, (upd C.2.2.1.1 0 (nI (l.length + 1)), upd C.2.2.1.2.1 l.length c, C.2.2.1.2.2.1, C.2.2.1.2.2.2.1, C.2.2.1.2.2.2.2)) := by
    unfold gX2_append
    rw [if_pos hlt, h0, nI_1, nI_clamp (by omega), hc]
  unfold gX5_type gX2_length
  rw [ha, if_neg (show ¬ (1 : Int32) = 0 by decide)]
  refine ⟨rfl, ⟨?_, fun i d hd => ?_⟩, rfl, rfl⟩
  · show nI (l.length + 1) = _
    rw [List.length_append]
    rfl
  · show upd C.2.2.1.2.1 l.length c i = d
    rw [f_upd]
    by_cases hi : i = l.length
    · subst hi
      rw [if_pos rfl]
      simpa using hd
    · rw [if_neg hi]
      have hil : i < l.length := by
        have := (List.getElem?_eq_some_iff.mp hd).1
        rw [List.length_append] at this
        have e1 : [c].length = 1 := rfl
        omega
      refine h1 i d ?_
      rw [← hd, List.getElem?_append_left hil]
/-- characters taken, one after the other -/
def tkAll : TS → List Int32 → Option TS
  | T, [] => some T
  | T, c :: r => if (gX2_takes T c).1 = 0 then none else tkAll (gX2_takes T c).2 r
theorem run_list {T0 : TS} {n : Nat} (hn : n ≤ 60) : ∀ (r : List Int32) (i fu : Nat) (T1 T2 : TS), T1.1 0 = nI n → i + r.length = n → r.length ≤ fu → (∀ k c, r[k]? = some c → T1.2.1 (i + k) = c) → tkAll T1 r = some T2 → gX2_read_L17 T0 fu i T1 = endR T2 := by
  intro r
  induction r with
  | nil =>
    intro i fu T1 T2 h0 hi _ _ ht
    have e : T1 = T2 := Option.some.inj ht
    subst e
    have hi : i = n := hi
    subst hi
    exact run_end h0 hn
  | cons c r ih =>
    intro i fu T1 T2 h0 hi hf hc ht
    have hl : (c :: r).length = r.length + 1 := rfl
    obtain ⟨fu, rfl⟩ : ∃ k, fu = k + 1 := ⟨fu - 1, by omega⟩
    have e0 : T1.2.1 i = c := hc 0 c rfl
    rw [run_go h0 hn (by omega), e0]
    have ht : (if (gX2_takes T1 c).1 = 0 then none else tkAll (gX2_takes T1 c).2 r) = some T2 := ht
    by_cases cc : (gX2_takes T1 c).1 = 0
    · rw [if_pos cc] at ht
      cases ht
    · rw [if_neg cc] at ht ⊢
      exact ih (i + 1) fu _ T2 (kt_takes.1.trans h0) (by omega) (by omega) (fun k d hd => by
        rw [kt_takes.2]
        have := hc (k + 1) d hd
        rw [show i + 1 + k = i + (k + 1) by omega]
        exact this) ht
theorem rd_list {T T2 : TS} {l : List Int32} (h : TLs T l) (hl : l.length ≤ 60) (ht : tkAll (upd (upd (upd T.1 1 0) 2 0) 5 0, T.2) l = some T2) : gX2_read T = endR T2 :=
  run_list hl l 0 60 _ T2 h.1 (Nat.zero_add _) hl (fun k c hc => by rw [Nat.zero_add]; exact h.2 k c hc) ht
/-! digits -/
def dg (v b : Nat) : Int32 := nI (48 + v / b % 10)
def dgs (v : Nat) : List Int32 := if 99 < v then [dg v 100, dg v 10, dg v 1] else if 9 < v then [dg v 10, dg v 1] else [dg v 1]
theorem dgs_len {v : Nat} : (dgs v).length ≤ 3 := by
  unfold dgs
  (repeat' split) <;> simp
theorem tk_d {T : TS} {a d : Nat} (h2 : ¬ T.1 2 = 0) (h5 : T.1 5 = nI a) (hd : d ≤ 9) (h1 : 1 ≤ 10 * a + d) (h200 : 10 * a + d ≤ 200) : gX2_takes T (nI (48 + d)) = (1, setnum T (nI (10 * a + d))) := by
  have e48 : (nI (48 + d)).toInt = ((48 + d : Nat) : Int) := nI_toInt (by omega)
  obtain ⟨k1, k2⟩ := dig_of (c := nI (48 + d)) (by rw [e48]; omega)
  rw [tk_dig h2 k1 k2]
  have e : T.1 5 * 10 + (nI (48 + d) - 48) = nI (10 * a + d) := by
    rw [h5, show (10 : Int32) = nI 10 from rfl, show (48 : Int32) = nI 48 from rfl, pk_mul, pk_sub (by omega), nI_add, Nat.mul_comm, Nat.add_sub_cancel_left]
  unfold gX2_takesDigit
  rw [e, if_neg (nI_ne0 (by omega) (by omega)), if_pos (show nI (10 * a + d) ≤ 200 from nI_le (by omega) (by decide))]
  rfl
theorem tk_ds {T : TS} {v : Nat} {r : List Int32} (h2 : ¬ T.1 2 = 0) (h5 : T.1 5 = 0) (h1 : 1 ≤ v) (h200 : v ≤ 200) : tkAll T (dgs v ++ r) = tkAll (setnum T (nI v)) r := by
  have one : ∀ (T : TS) (a d : Nat) (r : List Int32), ¬ T.1 2 = 0 → T.1 5 = nI a → d ≤ 9 → 1 ≤ 10 * a + d → 10 * a + d ≤ 200 → tkAll T (nI (48 + d) :: r) = tkAll (setnum T (nI (10 * a + d))) r := by
    intro T a d r h2 h5 hd h1 h200
    rw [tkAll, tk_d h2 h5 hd h1 h200, if_neg (show ¬ (1 : Int32) = 0 by decide)]
  have k2 : ∀ (T : TS) (x : Int32), ¬ T.1 2 = 0 → ¬ (setnum T x).1 2 = 0 := fun T x h => h
  have k5 : ∀ (T : TS) (x : Int32), (setnum T x).1 5 = x := fun T x => rfl
  unfold dgs dg
  by_cases c1 : 99 < v
  · rw [if_pos c1]
    show tkAll T (nI (48 + v / 100 % 10) :: (nI (48 + v / 10 % 10) :: (nI (48 + v / 1 % 10) :: r))) = _
    rw [one T 0 (v / 100 % 10) _ h2 h5 (by omega) (by omega) (by omega), one _ (10 * 0 + v / 100 % 10) (v / 10 % 10) _ (k2 _ _ h2) (k5 _ _) (by omega) (by omega) (by omega), one _ (10 * (10 * 0 + v / 100 % 10) + v / 10 % 10) (v / 1 % 10) _ (k2 _ _ (k2 _ _ h2)) (k5 _ _) (by omega) (by omega) (by omega), setnum2, setnum2, show 10 * (10 * (10 * 0 + v / 100 % 10) + v / 10 % 10) + v / 1 % 10 = v by omega]
  · rw [if_neg c1]
    by_cases c2 : 9 < v
    · rw [if_pos c2]
      show tkAll T (nI (48 + v / 10 % 10) :: (nI (48 + v / 1 % 10) :: r)) = _
      rw [one T 0 (v / 10 % 10) _ h2 h5 (by omega) (by omega) (by omega), one _ (10 * 0 + v / 10 % 10) (v / 1 % 10) _ (k2 _ _ h2) (k5 _ _) (by omega) (by omega) (by omega), setnum2, show 10 * (10 * 0 + v / 10 % 10) + v / 1 % 10 = v by omega]
    · rw [if_neg c2]
      show tkAll T (nI (48 + v / 1 % 10) :: r) = _
      rw [one T 0 (v / 1 % 10) _ h2 h5 (by omega) (by omega) (by omega), show 10 * 0 + v / 1 % 10 = v by omega]
/-- the letter of a way -/
def wc (w : Nat) : Int32 := if w = 0 then 108 else if w = 1 then 98 else 109
def jtx (w a b : Nat) : List Int32 := wc w :: (dgs a ++ (120 :: (dgs b ++ [])))
theorem jtx_len {w a b : Nat} : (jtx w a b).length ≤ 60 := by
  have h1 := dgs_len (v := a)
  have h2 := dgs_len (v := b)
  unfold jtx
  rw [List.length_cons, List.length_append, List.length_cons, List.append_nil]
  omega
theorem rd_join {T : TS} {w a b : Nat} (hw : w < 3) (ha : 1 ≤ a ∧ a ≤ 200) (hb : 1 ≤ b ∧ b ≤ 200) (h : TLs T (jtx w a b)) : ∃ T', gX2_read T = (-1, T') ∧ gX2_joins T' = 1 ∧ gX2_wayOf T' (nI 0) = nI w ∧ gX2_leftOf T' (nI 0) = nI a ∧ gX2_rightOf T' (nI 0) = nI b := by
  generalize hT0 : ((upd (upd (upd T.1 1 0) 2 0) 5 0, T.2) : TS) = T0
  have z1 : T0.1 1 = 0 := by rw [← hT0]; rfl
  have z2 : T0.1 2 = 0 := by rw [← hT0]; rfl
  have z5 : T0.1 5 = 0 := by rw [← hT0]; rfl
  have t1 : gX2_takes T0 (wc w) = (1, (upd (upd T0.1 3 (nI w)) 2 1, T0.2)) := by
    rw [tk_way z2]
    unfold gX2_takesWay wc
    rcases (show w = 0 ∨ w = 1 ∨ w = 2 by omega) with rfl | rfl | rfl
    · rfl
    · rfl
    · rfl
  generalize hT1 : ((upd (upd T0.1 3 (nI w)) 2 1, T0.2) : TS) = T1 at t1
  have a1 : T1.1 1 = 0 := by rw [← hT1]; exact z1
  have a2 : T1.1 2 = 1 := by rw [← hT1]; rfl
  have a3 : T1.1 3 = nI w := by rw [← hT1]; rfl
  have a5 : T1.1 5 = 0 := by rw [← hT1]; exact z5
  have t2 : gX2_takes (setnum T1 (nI a)) 120 = (1, (upd (upd (upd (setnum T1 (nI a)).1 4 (nI a)) 5 0) 2 2, T1.2)) := by
    rw [tk_non (show ¬ (setnum T1 (nI a)).1 2 = 0 by show ¬ T1.1 2 = 0; rw [a2]; decide) (Or.inr (by decide)), if_neg (show ¬ (setnum T1 (nI a)).1 5 = 0 from nI_ne0 (n := a) (by omega) (by omega)), if_pos (show (setnum T1 (nI a)).1 2 = 1 from a2), if_pos (show (120 : Int32) = 120 from rfl)]
    rfl
  generalize hT2 : ((upd (upd (upd (setnum T1 (nI a)).1 4 (nI a)) 5 0) 2 2, T1.2) : TS) = T2 at t2
  have b1 : T2.1 1 = 0 := by rw [← hT2]; exact a1
  have b2 : T2.1 2 = 2 := by rw [← hT2]; rfl
  have b3 : T2.1 3 = nI w := by rw [← hT2]; exact a3
  have b4 : T2.1 4 = nI a := by rw [← hT2]; rfl
  have b5 : T2.1 5 = 0 := by rw [← hT2]; rfl
  have ht : tkAll T0 (jtx w a b) = some (setnum T2 (nI b)) := by
    unfold jtx
    rw [tkAll, t1, if_neg (show ¬ (1 : Int32) = 0 by decide), tk_ds (show ¬ T1.1 2 = 0 by rw [a2]; decide) a5 ha.1 ha.2, tkAll, t2, if_neg (show ¬ (1 : Int32) = 0 by decide), tk_ds (show ¬ T2.1 2 = 0 by rw [b2]; decide) b5 hb.1 hb.2]
    rfl
  rw [← hT0] at ht
  have hr := rd_list h jtx_len ht
  have he : endR (setnum T2 (nI b)) = (-1, gX2_endJoin (setnum T2 (nI b))) := by
    unfold endR
    rw [if_pos (show (setnum T2 (nI b)).1 2 = 2 from b2), if_neg (show ¬ (setnum T2 (nI b)).1 5 = 0 from nI_ne0 (n := b) (by omega) (by omega))]
  have c12 : ¬ nI 12 ≤ (setnum T2 (nI b)).1 1 := by
    rw [show (setnum T2 (nI b)).1 1 = 0 from b1]
    decide
  have hej : gX2_endJoin (setnum T2 (nI b)) = (upd (upd (upd (setnum T2 (nI b)).1 1 1) 5 0) 2 0, T2.2.1, upd T2.2.2.1 0 (nI w), upd T2.2.2.2.1 0 (nI a), upd T2.2.2.2.2 0 (nI b)) := by
    unfold gX2_endJoin
    rw [if_neg c12, if_neg c12, if_neg c12, show (setnum T2 (nI b)).1 1 = 0 from b1, show (setnum T2 (nI b)).1 3 = nI w from b3, show (setnum T2 (nI b)).1 4 = nI a from b4]
    rfl
  refine ⟨_, hr.trans he, ?_⟩
  rw [hej]
  obtain ⟨w1, w2, w3⟩ := ways_eq (T := (upd (upd (upd (setnum T2 (nI b)).1 1 1) 5 0) 2 0, T2.2.1, upd T2.2.2.1 0 (nI w), upd T2.2.2.2.1 0 (nI a), upd T2.2.2.2.2 0 (nI b))) (i := 0) (by decide)
  exact ⟨rfl, w1, w2, w3⟩
theorem l_askAll {C : CS} {f : FS} {w a b : Nat} (h : LR C f) (hw : w < 3) (ha : 1 ≤ a ∧ a ≤ 200) (hb : 1 ≤ b ∧ b ≤ 200) (ht : TLs C.2.2.1 (jtx w a b)) : (f 4 = 16 → (gX5_askAll C).1 = -3 ∧ LR (gX5_askAll C).2 f) ∧ (¬ f 4 = 16 → (gX5_askAll C).1 = 1 ∧ LR (gX5_askAll C).2 (gX6_comes f (nI w) (nI a) (nI b))) := by
  obtain ⟨⟨h1, h2⟩, hh⟩ := id h
  obtain ⟨T', e, j1, r1, r2, r3⟩ := rd_join hw ha hb ht
  have hr := room_iff (k := 1) h1 h2 (by decide)
  have hr : 1 ≤ gX4_room C.1 ↔ nF f + 1 ≤ 16 := hr
  have hc : okJ (nI w) (nI a) (nI b) := ⟨i3_of (by rw [nI_toInt (by omega)]; omega), by rw [nI_toInt (by omega)]; omega, by rw [nI_toInt (by omega)]; omega⟩
  have hu : gX5_askAll C = if 1 ≤ gX4_room C.1 then gX5_askAll_L53 C 1 0 1 (C.1, gX0_record C.2.1 C.1, T', C.2.2.2.1, C.2.2.2.2.1, C.2.2.2.2.2.1, C.2.2.2.2.2.2) else (-3, (C.1, C.2.1, T', C.2.2.2.1, C.2.2.2.2.1, C.2.2.2.2.2.1, C.2.2.2.2.2.2)) := by
    unfold gX5_askAll
    rw [e]
    show (if (-1 : Int32) = -1 then (if gX2_joins T' ≤ gX4_room C.1 then gX5_askAll_L53 C (gX2_joins T').toNatClampNeg 0 (gX2_joins T') (C.1, gX0_record C.2.1 C.1, T', C.2.2.2.1, C.2.2.2.2.1, C.2.2.2.2.2.1, C.2.2.2.2.2.2) else (-3, (C.1, C.2.1, T', C.2.2.2.1, C.2.2.2.2.1, C.2.2.2.2.2.1, C.2.2.2.2.2.2))) else (-100 - -1, (C.1, C.2.1, T', C.2.2.2.1, C.2.2.2.2.1, C.2.2.2.2.2.1, C.2.2.2.2.2.2))) = _
    rw [if_pos rfl, j1]
    rfl
  rw [hu]
  constructor
  · intro c4
    have hn : nF f = 16 := by unfold nF; rw [c4]; rfl
    rw [if_neg (fun z => by have := hr.mp z; omega)]
    exact ⟨rfl, h⟩
  · intro c4
    have hn : nF f < 16 := n16_of h2 c4
    have ht := eq_take (a := nI w) (b := nI a) (c := nI b) h1 h2 c4 hc
    have hk := cm_ok h2 c4 hc
    rw [if_pos (hr.mpr (by omega))]
    have el : gX5_askAll_L53 C 1 0 1 (C.1, gX0_record C.2.1 C.1, T', C.2.2.2.1, C.2.2.2.2.1, C.2.2.2.2.2.1, C.2.2.2.2.2.2) = (1, ((gX4_take C.1 (gX2_wayOf T' (nI 0)) (gX2_leftOf T' (nI 0)) (gX2_rightOf T' (nI 0))).2, gX0_record C.2.1 C.1, T', C.2.2.2.1, C.2.2.2.2.1, C.2.2.2.2.2.1, C.2.2.2.2.2.2)) := rfl
    rw [r1, r2, r3] at el
    show (gX5_askAll_L53 C 1 0 1 (C.1, gX0_record C.2.1 C.1, T', C.2.2.2.1, C.2.2.2.2.1, C.2.2.2.2.2.1, C.2.2.2.2.2.2)).1 = 1 ∧ LR (gX5_askAll_L53 C 1 0 1 (C.1, gX0_record C.2.1 C.1, T', C.2.2.2.1, C.2.2.2.2.1, C.2.2.2.2.2.1, C.2.2.2.2.2.2)).2 _
    rw [el]
    exact ⟨rfl, ⟨⟨ht.1, hk.1⟩, rec_hx4 hh⟩⟩
