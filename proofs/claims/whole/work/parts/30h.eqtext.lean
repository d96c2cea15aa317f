/-! ===== the text: two ways of reading it ===== -/
/-- the same text of n characters -/
def TXR (T : TS) (Y : YS) (n : Nat) : Prop := T.1 0 = nI n ∧ Y.1 2 = nI n ∧ n ≤ 60 ∧ ∀ i, i < n → Y.2.1 i = T.2.1 i
/-- the text's end, as the class sees it -/
def endR (T1 : TS) : Int32 × TS := if T1.1 2 = 2 then (if T1.1 5 = 0 then (T1.1 0, T1) else (-1, gX2_endJoin T1)) else (T1.1 0, T1)
theorem run_end {T0 T1 : TS} {fu i : Nat} (h : T1.1 0 = nI i) (hi : i ≤ 60) : gX2_read_L17 T0 fu i T1 = endR T1 := by
  have hle : T1.1 0 ≤ nI i := by rw [h, x_ile]; exact Int.le_refl _
  cases fu with
  | zero => rw [gX2_read_L17, if_pos hle]; rfl
  | succ fu => rw [gX2_read_L17, if_pos hle]; rfl
theorem run_go {T0 T1 : TS} {fu i n : Nat} (h : T1.1 0 = nI n) (hn : n ≤ 60) (hi : i < n) : gX2_read_L17 T0 (fu + 1) i T1 = if (gX2_takes T1 (T1.2.1 i)).1 = 0 then (nI i, (gX2_takes T1 (T1.2.1 i)).2) else gX2_read_L17 T0 fu (i + 1) (gX2_takes T1 (T1.2.1 i)).2 := by
  have hle : ¬ T1.1 0 ≤ nI i := by rw [h, x_ile, nI_toInt (by omega), nI_toInt (by omega)]; omega
  rw [gX2_read_L17, if_neg hle]
theorem tk_way {T : TS} {c : Int32} (h : T.1 2 = 0) : gX2_takes T c = gX2_takesWay T c := by
  unfold gX2_takes
  rw [if_pos h]
theorem tk_dig {T : TS} {c : Int32} (h : ¬ T.1 2 = 0) (h1 : ¬ c < 48) (h2 : ¬ 57 < c) : gX2_takes T c = gX2_takesDigit T (c - 48) := by
  unfold gX2_takes
  rw [if_neg h, if_neg h1, if_neg h2]
/-- neither a digit -/
def nDig (c : Int32) : Prop := c < 48 ∨ 57 < c
theorem tk_non {T : TS} {c : Int32} (h : ¬ T.1 2 = 0) (hd : nDig c) : gX2_takes T c = (if T.1 5 = 0 then (0, T) else (if T.1 2 = 1 then (if c = 120 then (1, (upd (upd (upd T.1 4 (T.1 5)) 5 0) 2 2, T.2.1, T.2.2.1, T.2.2.2.1, T.2.2.2.2)) else (if T.1 2 = 2 then (if c = 44 then (1, gX2_endJoin T) else (0, T)) else (0, T))) else (if T.1 2 = 2 then (if c = 44 then (1, gX2_endJoin T) else (0, T)) else (0, T)))) := by
  unfold gX2_takes
  rw [if_neg h]
  by_cases h1 : c < 48
  · rw [if_pos h1]
  · rw [if_neg h1, if_pos (hd.resolve_left h1)]
def setnum (T : TS) (v : Int32) : TS := (upd T.1 5 v, T.2)
theorem setnum2 {T : TS} {a b : Int32} : setnum (setnum T a) b = setnum T b := by
  have : upd (upd T.1 5 a) 5 b = upd T.1 5 b := by
    funext i
    rw [f_upd, f_upd, f_upd]
    split <;> rfl
  show (upd (upd T.1 5 a) 5 b, T.2) = (upd T.1 5 b, T.2)
  rw [this]
theorem here_iff {T : TS} {Y : YS} {n i : Nat} {a b : Int32} (hx : TXR T Y n) (hi : Y.1 3 = nI i) (hin : i ≤ n) : ¬ gX6_isHere Y a b = 0 ↔ i < n ∧ a.toInt ≤ (T.2.1 i).toInt ∧ (T.2.1 i).toInt ≤ b.toInt := by
  obtain ⟨h1, h2, h3, h4⟩ := hx
  have hci : (Y.1 3).toNatClampNeg = i := by rw [hi, nI_clamp (by omega)]
  unfold gX6_isHere
  rw [h2, hci, hi]
  by_cases c : nI n ≤ nI i
  · rw [if_pos c]
    rw [x_ile, nI_toInt (by omega), nI_toInt (by omega)] at c
    exact ⟨fun z => absurd rfl z, fun z => by omega⟩
  · rw [if_neg c]
    rw [x_ile, nI_toInt (by omega), nI_toInt (by omega)] at c
    have hin2 : i < n := by omega
    have e := in_ne (x := Y.2.1 i) (a := a.toInt64) (b := b.toInt64)
    rw [Int32.toInt_toInt64, Int32.toInt_toInt64, h4 i hin2] at e
    rw [h4 i hin2]
    by_cases d : gX6_in (T.2.1 i).toInt64 a.toInt64 b.toInt64 = 0
    · rw [if_pos d]
      exact ⟨fun z => absurd rfl z, fun z => absurd d (e.mpr z.2)⟩
    · rw [if_neg d]
      exact ⟨fun _ => ⟨hin2, e.mp d⟩, fun _ => by decide⟩
/-- where a number ends -/
def STOP (T : TS) (n i : Nat) (v : Int32) : Prop := i = n ∨ (i < n ∧ (nDig (T.2.1 i) ∨ (¬ nDig (T.2.1 i) ∧ 200 < 10 * v + T.2.1 i - 48)))
theorem dig_of {c : Int32} (h : 48 ≤ c.toInt ∧ c.toInt ≤ 57) : ¬ c < 48 ∧ ¬ 57 < c := by
  rw [x_ilt, x_ilt, show (48 : Int32).toInt = 48 from rfl, show (57 : Int32).toInt = 57 from rfl]
  omega
theorem ndig_of {c : Int32} (h : ¬ (48 ≤ c.toInt ∧ c.toInt ≤ 57)) : nDig c := by
  unfold nDig
  rw [x_ilt, x_ilt, show (48 : Int32).toInt = 48 from rfl, show (57 : Int32).toInt = 57 from rfl]
  omega
theorem num_nx {v c : Int32} (hv : numP v) (hc : 48 ≤ c.toInt ∧ c.toInt ≤ 57) : 10 * v + c - 48 = v * 10 + (c - 48) ∧ (10 * v + c - 48).toInt = 10 * v.toInt + c.toInt - 48 := by
  obtain ⟨v1, v2⟩ := hv
  have e48 : (48 : Int32).toInt = 48 := rfl
  have e10 : (10 : Int32).toInt = 10 := rfl
  have em : (10 * v).toInt = 10 * v.toInt := by rw [im (by rw [e10]; omega) (by rw [e10]; omega), e10]
  have ea : (10 * v + c).toInt = 10 * v.toInt + c.toInt := by rw [ia (by omega) (by omega), em]
  have es : (10 * v + c - 48).toInt = 10 * v.toInt + c.toInt - 48 := by rw [isb (by omega) (by omega), ea, e48]
  have em2 : (v * 10).toInt = v.toInt * 10 := by rw [im (by rw [e10]; omega) (by rw [e10]; omega), e10]
  have es2 : (c - 48).toInt = c.toInt - 48 := by rw [isb (by omega) (by omega), e48]
  refine ⟨?_, es⟩
  rw [i_eq, es, ia (by omega) (by omega), em2, es2]
  omega
theorem num_L {T0 : TS} {Yq : YS} {n : Nat} : ∀ (fu2 i : Nat) (T : TS) (Y : YS), TXR T Y n → ¬ T.1 2 = 0 → T.1 5 = Y.1 4 → numP (Y.1 4) → Y.1 3 = nI i → i ≤ n → 60 ≤ i + fu2 →
    ∃ i', i ≤ i' ∧ i' ≤ n ∧ (gX6_readsNumber_L39 Yq fu2 Y).2.1 3 = nI i' ∧ numP ((gX6_readsNumber_L39 Yq fu2 Y).2.1 4) ∧ gX2_read_L17 T0 (60 - i) i T = gX2_read_L17 T0 (60 - i') i' (setnum T ((gX6_readsNumber_L39 Yq fu2 Y).2.1 4)) ∧ STOP T n i' ((gX6_readsNumber_L39 Yq fu2 Y).2.1 4) := by
  have same : ∀ (T : TS) (v : Int32), T.1 5 = v → setnum T v = T := fun T v h => by
    have : upd T.1 5 v = T.1 := by
      funext i
      rw [f_upd]
      split
      · rename_i e; rw [e, h]
      · rfl
    show (upd T.1 5 v, T.2) = T
    rw [this]
  intro fu2
  induction fu2 with
  | zero =>
    intro i T Y hx hp h5 hn hi hin hf
    have h60 := hx.2.2.1
    refine ⟨i, Nat.le_refl _, hin, hi, hn, ?_, Or.inl (by omega)⟩
    show _ = gX2_read_L17 T0 (60 - i) i (setnum T (Y.1 4))
    rw [same T _ h5]
  | succ fu2 ih =>
    intro i T Y hx hp h5 hn hi hin hf
    have h60 := hx.2.2.1
    have hci : (Y.1 3).toNatClampNeg = i := by rw [hi, nI_clamp (by omega)]
    have hh := here_iff (a := 48) (b := 57) hx hi hin
    rw [show (48 : Int32).toInt = 48 from rfl, show (57 : Int32).toInt = 57 from rfl] at hh
    rw [gX6_readsNumber_L39]
    by_cases c : gX6_isHere Y 48 57 = 0
    · rw [if_pos c]
      refine ⟨i, Nat.le_refl _, hin, hi, hn, by rw [same T _ h5], ?_⟩
      rcases Nat.lt_or_ge i n with hl | hl
      · exact Or.inr ⟨hl, Or.inl (ndig_of (fun z => hh.mpr ⟨hl, z⟩ c))⟩
      · exact Or.inl (by omega)
    · rw [if_neg c]
      obtain ⟨hl, hd⟩ := hh.mp c
      have hYi : Y.2.1 (Y.1 3).toNatClampNeg = T.2.1 i := by rw [hci]; exact hx.2.2.2 i hl
      rw [hYi]
      obtain ⟨e1, e2⟩ := num_nx hn hd
      have hdg := dig_of hd
      by_cases d : 200 < 10 * Y.1 4 + T.2.1 i - 48
      · rw [if_pos d]
        exact ⟨i, Nat.le_refl _, hin, hi, hn, by rw [same T _ h5], Or.inr ⟨hl, Or.inr ⟨fun z => z.elim hdg.1 hdg.2, d⟩⟩⟩
      · rw [if_neg d]
        rw [x_ilt, e2, show (200 : Int32).toInt = 200 from rfl] at d
        have hv : numP (10 * Y.1 4 + T.2.1 i - 48) := ⟨by rw [e2]; have := hn.1; omega, by rw [e2]; omega⟩
        have ht : gX2_takes T (T.2.1 i) = (1, setnum T (10 * Y.1 4 + T.2.1 i - 48)) := by
          rw [tk_dig hp hdg.1 hdg.2]
          unfold gX2_takesDigit
          rw [h5, ← e1, if_neg (show ¬ 10 * Y.1 4 + T.2.1 i - 48 = 0 by rw [i_eq, i_0]; have := hv.1; omega), if_pos (show 10 * Y.1 4 + T.2.1 i - 48 ≤ 200 by rw [x_ile, e2, show (200 : Int32).toInt = 200 from rfl]; omega)]
          rfl
        have hrun : gX2_read_L17 T0 (60 - i) i T = gX2_read_L17 T0 (60 - (i + 1)) (i + 1) (setnum T (10 * Y.1 4 + T.2.1 i - 48)) := by
          rw [show 60 - i = (60 - (i + 1)) + 1 by omega, run_go hx.1 h60 hl, ht, if_neg (show ¬ (1 : Int32) = 0 by decide)]
        have hx2 : TXR (setnum T (10 * Y.1 4 + T.2.1 i - 48)) (upd (upd Y.1 4 (10 * Y.1 4 + T.2.1 i - 48)) 3 (Y.1 3 + 1), Y.2.1, Y.2.2) n := ⟨hx.1, hx.2.1, h60, hx.2.2.2⟩
        obtain ⟨i', a1, a2, a3, a4, a5, a6⟩ := ih (i + 1) (setnum T (10 * Y.1 4 + T.2.1 i - 48)) (upd (upd Y.1 4 (10 * Y.1 4 + T.2.1 i - 48)) 3 (Y.1 3 + 1), Y.2.1, Y.2.2) hx2 hp rfl hv (by show Y.1 3 + 1 = _; rw [hi, nI_1]) (by omega) (by omega)
        refine ⟨i', by omega, a2, a3, a4, ?_, a6⟩
        rw [hrun, a5, setnum2]
/-- a number, from its first digit on -/
theorem num_R {T0 T : TS} {Y : YS} {n i : Nat} (hx : TXR T Y n) (hp : T.1 2 = 1 ∨ T.1 2 = 2) (h5 : T.1 5 = 0) (hi : Y.1 3 = nI i) (hin : i ≤ n) :
    ((gX6_readsNumber Y).1 = 0 ∧ (gX6_readsNumber Y).2 = Y ∧ (gX2_read_L17 T0 (60 - i) i T).1 = nI i) ∨
    (¬ (gX6_readsNumber Y).1 = 0 ∧ ∃ i', i + 1 ≤ i' ∧ i' ≤ n ∧ (gX6_readsNumber Y).2.1 3 = nI i' ∧ numP ((gX6_readsNumber Y).2.1 4) ∧ gX2_read_L17 T0 (60 - i) i T = gX2_read_L17 T0 (60 - i') i' (setnum T ((gX6_readsNumber Y).2.1 4)) ∧ STOP T n i' ((gX6_readsNumber Y).2.1 4)) := by
  have h60 := hx.2.2.1
  have hp0 : ¬ T.1 2 = 0 := by rcases hp with h | h <;> rw [h] <;> decide
  have hci : (Y.1 3).toNatClampNeg = i := by rw [hi, nI_clamp (by omega)]
  have hh := here_iff (a := 49) (b := 57) hx hi hin
  rw [show (49 : Int32).toInt = 49 from rfl, show (57 : Int32).toInt = 57 from rfl] at hh
  unfold gX6_readsNumber
  by_cases c : gX6_isHere Y 49 57 = 0
  · rw [if_pos c]
    refine Or.inl ⟨rfl, rfl, ?_⟩
    rcases Nat.lt_or_ge i n with hl | hl
    · rw [show 60 - i = (60 - (i + 1)) + 1 by omega, run_go hx.1 h60 hl]
      have ht : (gX2_takes T (T.2.1 i)).1 = 0 := by
        by_cases hd : 48 ≤ (T.2.1 i).toInt ∧ (T.2.1 i).toInt ≤ 57
        · have hdg := dig_of hd
          have e0 : T.2.1 i = 48 := by
            rw [i_eq, show (48 : Int32).toInt = 48 from rfl]
            have : ¬ (49 ≤ (T.2.1 i).toInt ∧ (T.2.1 i).toInt ≤ 57) := fun z => hh.mpr ⟨hl, z⟩ c
            omega
          rw [tk_dig hp0 hdg.1 hdg.2]
          unfold gX2_takesDigit
          rw [h5, e0, if_pos (show (0 : Int32) * 10 + (48 - 48) = 0 by decide)]
        · rw [tk_non hp0 (ndig_of hd), if_pos h5]
      rw [if_pos ht]
    · have e : n = i := by omega
      subst e
      rw [run_end hx.1 h60]
      unfold endR
      rw [h5, if_pos rfl]
      split <;> exact hx.1
  · rw [if_neg c]
    obtain ⟨hl, hd⟩ := hh.mp c
    have hYi : Y.2.1 (Y.1 3).toNatClampNeg = T.2.1 i := by rw [hci]; exact hx.2.2.2 i hl
    rw [hYi]
    have hdg := dig_of (c := T.2.1 i) (by omega)
    have e48 : (48 : Int32).toInt = 48 := rfl
    have es2 : (T.2.1 i - 48).toInt = (T.2.1 i).toInt - 48 := by rw [isb (by omega) (by omega), e48]
    have hv : numP (T.2.1 i - 48) := ⟨by omega, by omega⟩
    have ht : gX2_takes T (T.2.1 i) = (1, setnum T (T.2.1 i - 48)) := by
      rw [tk_dig hp0 hdg.1 hdg.2]
      unfold gX2_takesDigit
      rw [h5, show (0 : Int32) * 10 = 0 from rfl, Int32.zero_add, if_neg (show ¬ T.2.1 i - 48 = 0 by rw [i_eq, i_0]; omega), if_pos (show T.2.1 i - 48 ≤ 200 by rw [x_ile, show (200 : Int32).toInt = 200 from rfl]; omega)]
      rfl
    have hrun : gX2_read_L17 T0 (60 - i) i T = gX2_read_L17 T0 (60 - (i + 1)) (i + 1) (setnum T (T.2.1 i - 48)) := by
      rw [show 60 - i = (60 - (i + 1)) + 1 by omega, run_go hx.1 h60 hl, ht, if_neg (show ¬ (1 : Int32) = 0 by decide)]
    obtain ⟨i', a1, a2, a3, a4, a5, a6⟩ := num_L (T0 := T0) (Yq := Y) 60 (i + 1) (setnum T (T.2.1 i - 48)) (upd (upd Y.1 4 (T.2.1 i - 48)) 3 (Y.1 3 + 1), Y.2.1, Y.2.2) (n := n) ⟨hx.1, hx.2.1, h60, hx.2.2.2⟩ hp0 rfl hv (by show Y.1 3 + 1 = _; rw [hi, nI_1]) (by omega) (by omega)
    refine Or.inr ⟨?_, i', a1, a2, a3, a4, ?_, a6⟩
    · rw [(kp_rnL (Y := Y) 60 _).2.2]
      decide
    · rw [hrun, a5, setnum2]
