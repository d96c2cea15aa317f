/-! ===== a leap of the class is so many steps of the reference ===== -/
theorem mJ_wk {f : FS} {j : Nat} (h : mJ f j) (h1 : oF f j 3 = 1) : 1 ≤ (oF f j 5).toInt ∧ (oF f j 5).toInt ≤ 200400000 := by
  have hn := mJ_n h
  have hw := mJ_w h
  obtain ⟨p1, p2, p3, p4⟩ := h.2.2.2.2.1 h1
  have w := works_bd hw (d := oF f j 4) (by omega)
  change 1 ≤ (gX6_works f j (oF f j 4)).toInt ∧ (gX6_works f j (oF f j 4)).toInt ≤ 400000 at w
  have hb := imul_bd (x := 501 - (oF f j 4).toInt) (y := (gX6_works f j (oF f j 4)).toInt) (A := 501) (B := 400000) (by omega) (by omega) (by omega) (by omega)
  omega
/-- the work that i steps take off -/
def tkO (f : FS) (j : Nat) (i : Int32) : Int32 := if gX6_is f j 1 = 0 then 0 else if i * f 3 < oF f j 5 then i * f 3 else oF f j 5
def AdvJ (f g : FS) (i : Int32) (j : Nat) : Prop := oF g j 5 = oF f j 5 - tkO f j i ∧ oF g j 6 = oF f j 6 + (if gX6_is f j 0 = 0 then 0 else i) ∧ oF g j 7 = oF f j 7 + (if gX6_is f j 1 = 0 then 0 else i) ∧ ∀ m, m < 9 → m ≠ 5 → m ≠ 6 → m ≠ 7 → oF g j m = oF f j m
/-- i steps in which none is done -/
def Adv (f g : FS) (i : Int32) : Prop := (∀ m, m < 9 → m ≠ 7 → m ≠ 6 → g m = f m) ∧ g 7 = f 7 + sS (fun j => tkO f j i) (nF f) ∧ (∀ j, j < nF f → AdvJ f g i j) ∧ ∀ j, nF f ≤ j → j < 16 → ∀ m, m < 9 → oF g j m = oF f j m
theorem sS_add {a b : Nat → Int32} : ∀ n, sS (fun j => a j + b j) n = sS a n + sS b n := by
  intro n
  induction n with
  | zero => rfl
  | succ n ih =>
    show sS (fun j => a j + b j) n + (a n + b n) = (sS a n + a n) + (sS b n + b n)
    rw [ih, Int32.add_assoc, Int32.add_assoc, ← Int32.add_assoc (sS b n), Int32.add_comm (sS b n), Int32.add_assoc (a n)]
theorem Adv_0 {f : FS} (hm : mInv f) : Adv f f 0 := by
  have ht : ∀ j, j < nF f → tkO f j 0 = 0 := fun j hj => by
    unfold tkO
    split
    · rfl
    · rename_i h
      have h1 : oF f j 3 = 1 := Decidable.not_not.mp (fun z => h (is_ne.mpr z))
      have := mJ_wk (hm.2 j hj) h1
      rw [Int32.zero_mul, if_pos (by rw [x_ilt, i_0]; omega)]
  refine ⟨fun _ _ _ _ => rfl, ?_, fun j hj => ⟨?_, ?_, ?_, fun _ _ _ _ _ => rfl⟩, fun _ _ _ _ _ => rfl⟩
  · have : sS (fun j => tkO f j 0) (nF f) = sS (fun _ => 0) (nF f) := sS_ext (fun j hj => ht j hj)
    have z : ∀ n, sS (fun _ => (0 : Int32)) n = 0 := by
      intro n
      induction n with
      | zero => rfl
      | succ n ih => show sS _ n + 0 = 0; rw [ih]; rfl
    rw [this, z, Int32.add_zero]
  · rw [ht j hj, Int32.sub_zero]
  · split <;> rw [Int32.add_zero]
  · split <;> rw [Int32.add_zero]
/-! the first loop of a step -/
def passF : Nat → Nat → FS → FS
  | 0, _, f1 => f1
  | fu + 1, i, f1 => passF fu (i + 1) (stp1 f1 i)
theorem L4_pass {f : FS} : ∀ (fu i : Nat) (f1 : FS), gX6_steps_L4 f fu i f1 = gX6_steps_L149 f (f 4).toNatClampNeg 0 0 (passF fu i f1) := by
  intro fu
  induction fu with
  | zero => intro i f1; rfl
  | succ fu ih =>
    intro i f1
    rw [L4_eq, ih]
    rfl
def PI (f0 : FS) (i : Nat) (f1 : FS) : Prop := (∀ m, m < 9 → m ≠ 7 → f1 m = f0 m) ∧ f1 7 = f0 7 + sS (offO f0) i ∧ ∀ j m, m < 9 → oF f1 j m = if j < i then oF (stp1 f0 j) j m else oF f0 j m
theorem is_ext {f g : FS} {j : Nat} {a : Int32} (e : oF g j 3 = oF f j 3) : gX6_is g j a = gX6_is f j a := by
  show (if oF g j 3 = a then (1 : Int32) else 0) = (if oF f j 3 = a then (1 : Int32) else 0)
  rw [e]
theorem offO_ext {f g : FS} {j : Nat} (e3 : g 3 = f 3) (e : ∀ m, m < 9 → oF g j m = oF f j m) : offO g j = offO f j := by
  unfold offO
  rw [is_ext (e 3 (by decide)), e3, e 5 (by decide)]
theorem stp1_oF {f : FS} {i j k : Nat} (hk : k < 9) : oF (stp1 f i) j k = if j = i then (if k = 5 then oF f i 5 - offO f i else if k = 7 then oF f i 7 + b01 (gX6_is f i 1) else if k = 6 then oF f i 6 + b01 (gX6_is f i 0) else oF f i k) else oF f j k := stp_oF hk
theorem PI_step {f0 f1 : FS} {i : Nat} (h : PI f0 i f1) : PI f0 (i + 1) (stp1 f1 i) := by
  obtain ⟨h1, h2, h3⟩ := h
  have e3 : f1 3 = f0 3 := h1 3 (by decide) (by decide)
  have ei : ∀ m, m < 9 → oF f1 i m = oF f0 i m := fun m hm => by rw [h3 i m hm, if_neg (by omega)]
  have eo := offO_ext e3 ei
  have es : ∀ a, gX6_is f1 i a = gX6_is f0 i a := fun a => is_ext (ei 3 (by decide))
  refine ⟨fun m hm h7 => (stp_f hm h7).trans (h1 m hm h7), ?_, fun j m hm => ?_⟩
  · show f1 7 + offO f1 i = f0 7 + (sS (offO f0) i + offO f0 i)
    rw [h2, eo, Int32.add_assoc]
  · rw [stp1_oF hm, eo, es, es, ei 5 (by decide), ei 6 (by decide), ei 7 (by decide), ei m hm]
    by_cases hj : j = i
    · subst hj
      rw [if_pos rfl, if_pos (show j < j + 1 by omega), stp1_oF hm, if_pos rfl]
    · rw [if_neg hj, h3 j m hm]
      by_cases hl : j < i
      · rw [if_pos hl, if_pos (show j < i + 1 by omega)]
      · rw [if_neg hl, if_neg (show ¬ j < i + 1 by omega)]
theorem PI_pass {f0 : FS} : ∀ (fu i : Nat) (f1 : FS), PI f0 i f1 → PI f0 (i + fu) (passF fu i f1) := by
  intro fu
  induction fu with
  | zero => intro i f1 h; exact h
  | succ fu ih =>
    intro i f1 h
    have := ih (i + 1) _ (PI_step h)
    rw [show i + 1 + fu = i + (fu + 1) by omega] at this
    exact this
/-- the row behind the first loop -/
def pass1 (f : FS) : FS := passF (nF f) 0 f
theorem pass1_PI {f : FS} : PI f (nF f) (pass1 f) := by
  have := PI_pass (f0 := f) (nF f) 0 f ⟨fun _ _ _ => rfl, (Int32.add_zero _).symm, fun _ _ _ => by rw [if_neg (by omega)]⟩
  rw [Nat.zero_add] at this
  exact this
theorem steps_eq {f : FS} : gX6_steps f = gX6_steps_L149 f (f 4).toNatClampNeg 0 0 (pass1 f) := L4_pass _ _ _
/-- a step more in which work is taken off -/
theorem tk_step {w sp i : Int32} (hw : 1 ≤ w.toInt ∧ w.toInt ≤ 200400000) (hs : 1 ≤ sp.toInt ∧ sp.toInt ≤ 50) (hi : 0 ≤ i.toInt ∧ i.toInt ≤ 20000) :
    (if (i + 1) * sp < w then (i + 1) * sp else w) = (if i * sp < w then i * sp else w) + (if sp ≤ w - (if i * sp < w then i * sp else w) then sp else w - (if i * sp < w then i * sp else w)) := by
  have hb : 0 ≤ i.toInt * sp.toInt ∧ i.toInt * sp.toInt ≤ 20000 * 50 := ⟨Int.mul_nonneg (by omega) (by omega), Int.mul_le_mul (by omega) (by omega) (by omega) (by omega)⟩
  have e1 : (i * sp).toInt = i.toInt * sp.toInt := im (by omega) (by omega)
  have e2 : (i + 1).toInt = i.toInt + 1 := by rw [ia (by rw [i_1]; omega) (by rw [i_1]; omega), i_1]
  have e4 : (i.toInt + 1) * sp.toInt = i.toInt * sp.toInt + sp.toInt := by rw [Int.add_mul, Int.one_mul]
  have e3 : ((i + 1) * sp).toInt = i.toInt * sp.toInt + sp.toInt := by
    rw [im (by rw [e2, e4]; omega) (by rw [e2, e4]; omega), e2, e4]
  generalize i.toInt * sp.toInt = A at *
  generalize (i + 1) * sp = y at *
  generalize i * sp = x at *
  by_cases c1 : x < w
  · rw [if_pos c1]
    rw [x_ilt] at c1
    have ew : (w - x).toInt = w.toInt - x.toInt := isb (by omega) (by omega)
    by_cases c2 : sp ≤ w - x
    · rw [if_pos c2]
      rw [x_ile, ew] at c2
      have ea : (x + sp).toInt = x.toInt + sp.toInt := ia (by omega) (by omega)
      by_cases c3 : y < w
      · rw [if_pos c3, i_eq, ea]; omega
      · rw [if_neg c3, i_eq, ea]; rw [x_ilt] at c3; omega
    · rw [if_neg c2]
      rw [x_ile, ew] at c2
      have ea : (x + (w - x)).toInt = w.toInt := by rw [ia (by omega) (by omega), ew]; omega
      have c3 : ¬ y < w := by rw [x_ilt]; omega
      rw [if_neg c3, i_eq, ea]
  · rw [if_neg c1, Int32.sub_self]
    rw [x_ilt] at c1
    have c2 : ¬ sp ≤ 0 := by rw [x_ile, i_0]; omega
    have c3 : ¬ y < w := by rw [x_ilt]; omega
    rw [if_neg c2, if_neg c3, Int32.add_zero]
theorem Adv_s {f g : FS} {i : Int32} (hm : mInv f) (h : Adv f g i) (hi : 0 ≤ i.toInt ∧ i.toInt ≤ 20000) : Adv f (pass1 g) (i + 1) := by
  obtain ⟨h1, h2, h3, h4⟩ := h
  have en : nF g = nF f := by unfold nF; rw [h1 4 (by decide) (by decide) (by decide)]
  obtain ⟨p1, p2, p3⟩ := pass1_PI (f := g)
  rw [en] at p2 p3
  have e3 : g 3 = f 3 := h1 3 (by decide) (by decide) (by decide)
  have hsp := hm.1.2.2.2.2.1
  have hoff : ∀ j, j < nF f → tkO f j (i + 1) = tkO f j i + offO g j := fun j hj => by
    obtain ⟨a5, -, -, ao⟩ := h3 j hj
    have e : oF g j 3 = oF f j 3 := ao 3 (by decide) (by decide) (by decide) (by decide)
    unfold offO
    rw [is_ext e, a5, e3]
    by_cases c : gX6_is f j 1 = 0
    · unfold tkO
      rw [if_pos c, if_pos c, if_pos c, Int32.add_zero]
    · have hj1 : oF f j 3 = 1 := Decidable.not_not.mp (fun z => c (is_ne.mpr z))
      have hw := mJ_wk (hm.2 j hj) hj1
      unfold tkO
      rw [if_neg c, if_neg c, if_neg c]
      exact tk_step hw hsp hi
  refine ⟨fun m hm h7 h6 => (p1 m hm h7).trans (h1 m hm h7 h6), ?_, fun j hj => ?_, fun j hj hj16 m hm => ?_⟩
  · rw [p2, h2, Int32.add_assoc, ← sS_add]
    exact congrArg (fun z => f 7 + z) (sS_ext (fun j hj => (hoff j hj).symm))
  · obtain ⟨a5, a6, a7, ao⟩ := h3 j hj
    have e : oF g j 3 = oF f j 3 := ao 3 (by decide) (by decide) (by decide) (by decide)
    refine ⟨?_, ?_, ?_, fun m hm h5 h6 h7 => ?_⟩
    · rw [p3 j 5 (by decide), if_pos hj, stp1_oF (by decide), if_pos rfl, if_pos rfl, a5, hoff j hj]
      have : ∀ x y z : Int32, x - y - z = x - (y + z) := fun x y z => by rw [Int32.sub_eq_add_neg, Int32.sub_eq_add_neg, Int32.sub_eq_add_neg, Int32.neg_add, Int32.sub_eq_add_neg, Int32.add_assoc]
      exact this _ _ _
    · rw [p3 j 6 (by decide), if_pos hj, stp1_oF (by decide), if_pos rfl, if_neg (by decide), if_neg (by decide), if_pos rfl, a6, is_ext e]
      by_cases c : gX6_is f j 0 = 0
      · rw [if_pos c, if_pos c]; unfold b01; rw [if_pos c, Int32.add_zero, Int32.add_zero]
      · rw [if_neg c, if_neg c]; unfold b01; rw [if_neg c, Int32.add_assoc]
    · rw [p3 j 7 (by decide), if_pos hj, stp1_oF (by decide), if_pos rfl, if_neg (by decide), if_pos rfl, a7, is_ext e]
      by_cases c : gX6_is f j 1 = 0
      · rw [if_pos c, if_pos c]; unfold b01; rw [if_pos c, Int32.add_zero, Int32.add_zero]
      · rw [if_neg c, if_neg c]; unfold b01; rw [if_neg c, Int32.add_assoc]
    · rw [p3 j m hm, if_pos hj, stp1_oF hm, if_pos rfl, if_neg h5, if_neg h7, if_neg h6]
      exact ao m hm h5 h6 h7
  · rw [p3 j m hm, if_neg (by omega)]
    exact h4 j hj hj16 m hm
