/-! ===== what a state is: rows of numbers, and the cells that hold them ===== -/
/-- a plan: way, left, right, need, want -/
def pW (q : Nat) (p : Nat → Int32) : va_W := [(q, .inr (3, [.int (p 0), .int (p 1), .int (p 2), .int (p 3), .int (p 4)]))]
/-- a join's own row: state, pages, workLeft, stepsWaited, stepsWorked, givenBack; its plan's follows -/
def jH (h q : Nat) (n : Int32) (v : Nat → Int32) : Nat × va_E := (h, .inr (1, [.int n, .ref q, .int (v 0), .int (v 1), .int (v 2), .int (v 3), .int (v 4), .int (v 5)]))
abbrev tl6 (v : Nat → Int32) : Nat → Int32 := fun k => v (6 + k)
abbrev hd6 (v p : Nat → Int32) : Nat → Int32 := fun k => if k < 6 then v k else p (k - 6)
def jW (h q : Nat) (n : Int32) (v : Nat → Int32) : va_W := [jH h q n v, (q, .inr (3, [.int (v 6), .int (v 7), .int (v 8), .int (v 9), .int (v 10)]))]
theorem pm_jp {h q : Nat} {n : Int32} {v : Nat → Int32} : (jW h q n v).Perm (pW q (tl6 v) ++ [jH h q n v]) := pm_2nd
theorem pm_jp' {h q : Nat} {n : Int32} {v p : Nat → Int32} : (pW q p ++ [jH h q n v]).Perm (jW h q n (hd6 v p)) := pm_2nd'
/-- a pool: settings; joinsSoFar, mostGranted, steps, workDone, askedBack; the joins' rows -/
abbrev PS : Type := (Nat → Int32) × (Nat → Int32) × (Nat → Nat → Int32)
def jA (pa : Nat → Nat) (j : Nat) : Nat := pa (2 * j + 3)
def qA (pa : Nat → Nat) (j : Nat) : Nat := pa (2 * j + 4)
def hdW (ck : Nat → ClassId) (pa : Nat → Nat) (P : PS) : va_W := [(pa 0, .inr (4, [.ref (pa 1), .ref (pa 2), .int (P.2.1 0), .int (P.2.1 1), .int (P.2.1 2), .int (P.2.1 3), .int (P.2.1 4)])), (pa 1, .inl (ck 0, 4, .inl P.1)), (pa 2, .inl (ck 2, 16, .inr (.inr (.inr (.inr (fun i => some (jA pa i)))))))]
def jsW (pa : Nat → Nat) (J : Nat → Nat → Int32) (j : Nat) : va_W := jW (jA pa j) (qA pa j) (nI j) (J j)
def poolW (ck : Nat → ClassId) (pa : Nat → Nat) (P : PS) : va_W := hdW ck pa P ++ famW 16 (jsW pa P.2.2)
theorem pm_pj {ck : Nat → ClassId} {pa : Nat → Nat} {P : PS} {j : Nat} (hj : j < 16) : (poolW ck pa P).Perm (jW (jA pa j) (qA pa j) (nI j) (P.2.2 j) ++ (hdW ck pa P ++ famX 16 (jsW pa P.2.2) j)) := fam_out (g := jsW pa P.2.2) hj
theorem pm_pj' {ck : Nat → ClassId} {pa : Nat → Nat} {P : PS} {j : Nat} {v : Nat → Int32} (hj : j < 16) : (jW (jA pa j) (qA pa j) (nI j) v ++ (hdW ck pa P ++ famX 16 (jsW pa P.2.2) j)).Perm (poolW ck pa (P.1, P.2.1, va_up P.2.2 j v)) := by
  have h := fam_in (n := 16) (j := j) (g := jsW pa P.2.2) (g' := jsW pa (va_up P.2.2 j v)) (hd := hdW ck pa P) hj (fun i _ hi => by unfold jsW va_up; rw [if_neg hi])
  have e : jsW pa (va_up P.2.2 j v) j = jW (jA pa j) (qA pa j) (nI j) v := by unfold jsW va_up; rw [if_pos rfl]
  rw [e] at h
  exact h
/-! pure facts for guards -/
theorem x_d2 {x : Int32} (h : (3 : Int32) ≤ x) : ¬ (x - 2) = 0 := by
  intro e
  have : x = 2 := by have := congrArg (· + (2 : Int32)) e; simpa using this
  subst this
  exact absurd h (by decide)
theorem x_d1 {x : Int32} (h : (3 : Int32) ≤ x) : ¬ (x - 1) = 0 := by
  intro e
  have : x = 1 := by have := congrArg (· + (1 : Int32)) e; simpa using this
  subst this
  exact absurd h (by decide)
theorem x_d0 {x : Int32} (h : (3 : Int32) ≤ x) : ¬ x = 0 := by
  intro e
  subst e
  exact absurd h (by decide)
theorem x_clt {x : Int32} : x.toNatClampNeg < 2 ^ 31 := by
  have h1 := x.toInt_lt
  have h2 : x.toNatClampNeg = x.toInt.toNat := rfl
  omega
theorem cl_le {x : Int32} {m : Nat} (h : x.toNatClampNeg ≤ m) (hm : m < 2 ^ 31) : x ≤ nI m := by
  rw [Int32.le_iff_toInt_le, nI_toInt hm]
  have h2 : x.toNatClampNeg = x.toInt.toNat := rfl
  omega
theorem cl_lt {x : Int32} {m : Nat} (h : m < x.toNatClampNeg) : ¬ x ≤ nI m := by
  have hm := Nat.lt_trans h (x_clt (x := x))
  rw [Int32.le_iff_toInt_le, nI_toInt hm]
  have h2 : x.toNatClampNeg = x.toInt.toNat := rfl
  omega
theorem x_lpos {x : Int64} (h : ¬ lg_cmp x 0 ≤ 0) : ¬ x = 0 := by
  intro e
  subst e
  exact absurd ((lg_cmp_le 0 0).mpr (by decide)) h
theorem x_p1 {x : Int32} (h : (1 : Int32) ≤ x) : ¬ x = 0 := by
  intro e
  subst e
  exact absurd h (by decide)
theorem pm_jjp {h q h2 q2 : Nat} {n n2 : Int32} {v v2 : Nat → Int32} : (jW h q n v ++ jW h2 q2 n2 v2).Perm ((pW q (tl6 v) ++ pW q2 (tl6 v2)) ++ [jH h q n v, jH h2 q2 n2 v2]) := by
  refine (show ([jH h q n v, (q, _), jH h2 q2 n2 v2, (q2, _)] : va_W).Perm [(q, _), (q2, _), jH h q n v, jH h2 q2 n2 v2] from ?_)
  refine (List.Perm.swap _ _ _).trans (List.Perm.cons _ ?_)
  refine (List.Perm.cons _ (List.Perm.swap _ _ _)).trans ?_
  exact List.Perm.swap _ _ _
theorem pm_jjp' {h q h2 q2 : Nat} {n n2 : Int32} {v v2 p : Nat → Int32} : ((pW q p ++ pW q2 (tl6 v2)) ++ [jH h q n v, jH h2 q2 n2 v2]).Perm (jW h q n (hd6 v p) ++ jW h2 q2 n2 v2) := by
  refine (show ([(q, _), (q2, _), jH h q n v, jH h2 q2 n2 v2] : va_W).Perm [jH h q n v, (q, _), jH h2 q2 n2 v2, (q2, _)] from ?_)
  refine ((List.Perm.cons _ (List.Perm.swap _ _ _)).trans ?_).trans (List.Perm.swap _ _ _)
  refine List.Perm.cons _ ?_
  exact List.Perm.cons _ (List.Perm.swap _ _ _)
