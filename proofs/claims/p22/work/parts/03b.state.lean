/-! ===== what a state is: rows of numbers, and the cells that hold them ===== -/
/-- a plan: way, left, right, need, want -/
def pW (q : Nat) (p : Nat → Int32) : va_W := [(q, .inr (3, [.int (p 0), .int (p 1), .int (p 2), .int (p 3), .int (p 4)]))]
/-- a join's own row: state, pages, workLeft, stepsWaited, stepsWorked, givenBack; its plan's follows -/
def jH (h q : Nat) (n : Int32) (v : Nat → Int32) : Nat × va_E := (h, .inr (1, [.int n, .ref q, .int (v 0), .int (v 1), .int (v 2), .int (v 3), .int (v 4), .int (v 5)]))
abbrev tl6 (v : Nat → Int32) : Nat → Int32 := fun k => v (6 + k)
abbrev hd6 (v p : Nat → Int32) : Nat → Int32 := fun k => if k < 6 then v k else p (k - 6)
def jW (h q : Nat) (n : Int32) (v : Nat → Int32) : va_W := [jH h q n v, (q, .inr (3, [.int (v 6), .int (v 7), .int (v 8), .int (v 9), .int (v 10)]))]
theorem pm_jp {h q : Nat} {n : Int32} {v : Nat → Int32} : (jW h q n v).Perm (pW q (tl6 v) ++ [jH h q n v]) := pm_2nd
theorem pm_jp' {h q : Nat} {n : Int32} {v p : Nat → Int32} : (pW q p ++ [jH h q n v]).Perm (jW h q n (hd6 v p)) := pm_2nd'
/-- a pool: settings; joinsSoFar, mostGranted, steps, workDone, askedBack; the joins' rows -/
abbrev PS : Type := (Nat → Int32) × (Nat → Int32) × (Nat → Nat → Int32)
def jA (pa : Nat → Nat) (j : Nat) : Nat := pa (2 * j + 3)
def qA (pa : Nat → Nat) (j : Nat) : Nat := pa (2 * j + 4)
def hdW (ck : Nat → ClassId) (pa : Nat → Nat) (P : PS) : va_W := [(pa 0, .inr (4, [.ref (pa 1), .ref (pa 2), .int (P.2.1 0), .int (P.2.1 1), .int (P.2.1 2), .int (P.2.1 3), .int (P.2.1 4)])), (pa 1, .inl (ck 0, 4, .inl P.1)), (pa 2, .inl (ck 2, 16, .inr (.inr (.inr (.inr (fun i => some (jA pa i)))))))]
def jsW (pa : Nat → Nat) (J : Nat → Nat → Int32) (j : Nat) : va_W := jW (jA pa j) (qA pa j) (nI j) (J j)
def poolW (ck : Nat → ClassId) (pa : Nat → Nat) (P : PS) : va_W := hdW ck pa P ++ famW 16 (jsW pa P.2.2)
theorem pm_pj {ck : Nat → ClassId} {pa : Nat → Nat} {P : PS} {j : Nat} (hj : j < 16) : (poolW ck pa P).Perm (jW (jA pa j) (qA pa j) (nI j) (P.2.2 j) ++ (hdW ck pa P ++ famX 16 (jsW pa P.2.2) j)) := fam_out (g := jsW pa P.2.2) hj
theorem pm_pj' {ck : Nat → ClassId} {pa : Nat → Nat} {P : PS} {j : Nat} {v : Nat → Int32} (hj : j < 16) : (jW (jA pa j) (qA pa j) (nI j) v ++ (hdW ck pa P ++ famX 16 (jsW pa P.2.2) j)).Perm (poolW ck pa (P.1, P.2.1, va_up P.2.2 j v)) := by
  have h := fam_in (n := 16) (j := j) (g := jsW pa P.2.2) (g' := jsW pa (va_up P.2.2 j v)) (hd := hdW ck pa P) hj (fun i _ hi => by unfold jsW va_up; rw [if_neg hi])
  have e : jsW pa (va_up P.2.2 j v) j = jW (jA pa j) (qA pa j) (nI j) v := by unfold jsW va_up; rw [if_pos rfl]
  rw [e] at h
  exact h
/-! pure facts for guards -/
theorem x_d2 {x : Int32} (h : (3 : Int32) ≤ x) : ¬ (x - 2) = 0 := by
  intro e
  have : x = 2 := by have := congrArg (· + (2 : Int32)) e; simpa using this
  subst this
  exact absurd h (by decide)
theorem x_d1 {x : Int32} (h : (3 : Int32) ≤ x) : ¬ (x - 1) = 0 := by
  intro e
  have : x = 1 := by have := congrArg (· + (1 : Int32)) e; simpa using this
  subst this
  exact absurd h (by decide)
theorem x_d0 {x : Int32} (h : (3 : Int32) ≤ x) : ¬ x = 0 := by
  intro e
  subst e
  exact absurd h (by decide)
theorem x_clt {x : Int32} : x.toNatClampNeg < 2 ^ 31 := by
  have h1 := x.toInt_lt
  have h2 : x.toNatClampNeg = x.toInt.toNat := rfl
  omega
theorem cl_le {x : Int32} {m : Nat} (h : x.toNatClampNeg ≤ m) (hm : m < 2 ^ 31) : x ≤ nI m := by
  rw [Int32.le_iff_toInt_le, nI_toInt hm]
  have h2 : x.toNatClampNeg = x.toInt.toNat := rfl
  omega
theorem cl_lt {x : Int32} {m : Nat} (h : m < x.toNatClampNeg) : ¬ x ≤ nI m := by
  have hm := Nat.lt_trans h (x_clt (x := x))
  rw [Int32.le_iff_toInt_le, nI_toInt hm]
  have h2 : x.toNatClampNeg = x.toInt.toNat := rfl
  omega
theorem x_lpos {x : Int64} (h : ¬ lg_cmp x 0 ≤ 0) : ¬ x = 0 := by
  intro e
  subst e
  exact absurd ((lg_cmp_le 0 0).mpr (by decide)) h
theorem x_p1 {x : Int32} (h : (1 : Int32) ≤ x) : ¬ x = 0 := by
  intro e
  subst e
  exact absurd h (by decide)
theorem pm_jjp {h q h2 q2 : Nat} {n n2 : Int32} {v v2 : Nat → Int32} : (jW h q n v ++ jW h2 q2 n2 v2).Perm ((pW q (tl6 v) ++ pW q2 (tl6 v2)) ++ [jH h q n v, jH h2 q2 n2 v2]) := by
  refine (show ([jH h q n v, (q, _), jH h2 q2 n2 v2, (q2, _)] : va_W).Perm [(q, _), (q2, _), jH h q n v, jH h2 q2 n2 v2] from ?_)
  refine (List.Perm.swap _ _ _).trans (List.Perm.cons _ ?_)
  refine (List.Perm.cons _ (List.Perm.swap _ _ _)).trans ?_
  exact List.Perm.swap _ _ _
theorem pm_jjp' {h q h2 q2 : Nat} {n n2 : Int32} {v v2 p : Nat → Int32} : ((pW q p ++ pW q2 (tl6 v2)) ++ [jH h q n v, jH h2 q2 n2 v2]).Perm (jW h q n (hd6 v p) ++ jW h2 q2 n2 v2) := by
  refine (show ([(q, _), (q2, _), jH h q n v, jH h2 q2 n2 v2] : va_W).Perm [jH h q n v, (q, _), jH h2 q2 n2 v2, (q2, _)] from ?_)
  refine ((List.Perm.cons _ (List.Perm.swap _ _ _)).trans ?_).trans (List.Perm.swap _ _ _)
  refine List.Perm.cons _ ?_
  exact List.Perm.cons _ (List.Perm.swap _ _ _)
section XL
variable {p : Program} {l : Launch} {e : Env} {R : Room} {s : State} {m : MethodId} {args : Array Value} {below : List Frame} {meth : Method} {c : Code} {H : Heap} {locs : List Loc} {cells slots : Nat} {Q : State → Prop}
variable {cc : ByteArray} {pc : Nat} {ls : Array Slot} {rest : List Value} {D : va_G} {cl : List vw_C} {A : Nat → Prop} {a : Nat} {tys : List (ClassId × FieldType)} {ws : va_W} {H0 : Heap}
theorem xiald {i : Int32} {j : Nat} (hij : i.toNatClampNeg = j) (hx : p.tables.exec = Jvm.exec) (hb : c.code = cc) (hK : va_K D cl tys s) (hP : va_P D cl ws H) (q0 t0 : Nat) {cA : ClassId} {n : Nat} {f : Nat → Int32} (ha : ws[q0]? = some (a, .inl (cA, n, .inl f))) (ht : tys[t0]? = some (cA, .int)) (hin : vp_in i n) (hdg : decode cc pc = .ok (.iaload, 1))
    (kk : W p l e R s m args below meth c H locs cells slots Q (F0 m (pc + 1) ls (.int (f j) :: rest))) : W p l e R s m args below meth c H locs cells slots Q (F0 m pc ls (.int i :: .ref a :: rest)) := by
  subst hij
  exact va_iald hx hb hK hP q0 t0 ha ht hin hdg kk
theorem xcald {i : Int32} {j : Nat} (hij : i.toNatClampNeg = j) (hx : p.tables.exec = Jvm.exec) (hb : c.code = cc) (hK : va_K D cl tys s) (hP : va_P D cl ws H) (q0 t0 : Nat) {cA : ClassId} {n : Nat} {f : Nat → Int32} (ha : ws[q0]? = some (a, .inl (cA, n, .inl f))) (ht : tys[t0]? = some (cA, .char)) (hin : vp_in i n) (hdg : decode cc pc = .ok (.caload, 1))
    (kk : W p l e R s m args below meth c H locs cells slots Q (F0 m (pc + 1) ls (.int (f j) :: rest))) : W p l e R s m args below meth c H locs cells slots Q (F0 m pc ls (.int i :: .ref a :: rest)) := by
  subst hij
  exact va_cald hx hb hK hP q0 t0 ha ht hin hdg kk
theorem xiast {i : Int32} {j : Nat} (hij : i.toNatClampNeg = j) (hx : p.tables.exec = Jvm.exec) (hb : c.code = cc) (hK : va_K D cl tys s) (hP : va_P D cl ws H) (hD : va_D A ws) (hS : va_S A H0 H locs) (q0 t0 : Nat) {cA : ClassId} {n : Nat} {f : Nat → Int32} (ha : ws[q0]? = some (a, .inl (cA, n, .inl f))) (ht : tys[t0]? = some (cA, .int)) {x : Int32} (hin : vp_in i n) (hdg : decode cc pc = .ok (.iastore, 1))
    (kk : ∀ (H1 : Heap) (locs1 : List Loc), va_P D cl (ws.set q0 (a, .inl (cA, n, .inl (upd f j x)))) H1 → va_D A (ws.set q0 (a, .inl (cA, n, .inl (upd f j x)))) → va_S A H0 H1 locs1 → W p l e R s m args below meth c H1 locs1 cells slots Q (F0 m (pc + 1) ls rest)) : W p l e R s m args below meth c H locs cells slots Q (F0 m pc ls (.int x :: .int i :: .ref a :: rest)) := by
  subst hij
  exact va_iast hx hb hK hP hD hS q0 t0 ha ht hin hdg kk
theorem xcast {i : Int32} {j : Nat} (hij : i.toNatClampNeg = j) (hx : p.tables.exec = Jvm.exec) (hb : c.code = cc) (hK : va_K D cl tys s) (hP : va_P D cl ws H) (hD : va_D A ws) (hS : va_S A H0 H locs) (q0 t0 : Nat) {cA : ClassId} {n : Nat} {f : Nat → Int32} (ha : ws[q0]? = some (a, .inl (cA, n, .inl f))) (ht : tys[t0]? = some (cA, .char)) {x : Int32} (hin : vp_in i n) (hdg : decode cc pc = .ok (.castore, 1))
    (kk : ∀ (H1 : Heap) (locs1 : List Loc), va_P D cl (ws.set q0 (a, .inl (cA, n, .inl (upd f j (vp_nar .char x))))) H1 → va_D A (ws.set q0 (a, .inl (cA, n, .inl (upd f j (vp_nar .char x))))) → va_S A H0 H1 locs1 → W p l e R s m args below meth c H1 locs1 cells slots Q (F0 m (pc + 1) ls rest)) : W p l e R s m args below meth c H locs cells slots Q (F0 m pc ls (.int x :: .int i :: .ref a :: rest)) := by
  subst hij
  exact va_cast hx hb hK hP hD hS q0 t0 ha ht hin hdg kk
theorem xaldq {i : Int32} {j b : Nat} (hij : i.toNatClampNeg = j) (hx : p.tables.exec = Jvm.exec) (hb : c.code = cc) (hK : va_K D cl tys s) (hP : va_P D cl ws H) (q0 t0 : Nat) {cA : ClassId} {C : String} {n : Nat} {f : Nat → Option Nat} (ha : ws[q0]? = some (a, .inl (cA, n, .inr (.inr (.inr (.inr f)))))) (ht : tys[t0]? = some (cA, .object C)) (hin : vp_in i n) (hf : f j = some b) (hdg : decode cc pc = .ok (.aaload, 1))
    (kk : W p l e R s m args below meth c H locs cells slots Q (F0 m (pc + 1) ls (.ref b :: rest))) : W p l e R s m args below meth c H locs cells slots Q (F0 m pc ls (.int i :: .ref a :: rest)) := by
  subst hij
  refine va_aldq hx hb hK hP q0 t0 ha ht hin hdg ?_
  rw [hf]
  exact kk
end XL
theorem xrf_none {o : Option Nat} {ad : Nat → Nat} (h : o = none) : va_rf (Option.map ad o) = .null := by subst h; rfl
theorem xrf_some {o : Option Nat} {ad : Nat → Nat} (h : ¬ o = none) : va_rf (Option.map ad o) = .ref (ad (o.getD 0)) := by
  cases o with
  | none => exact absurd rfl h
  | some j => rfl
theorem xgetD {o : Option Nat} {n : Nat} (h : ∀ j, o = some j → j < n) (hn : ¬ o = none) : o.getD 0 < n := by
  cases o with
  | none => exact absurd rfl hn
  | some j => exact h j rfl
theorem xin_g {x : Int32} {n : Nat} (hn : n < 2 ^ 31) (h0 : ¬ x < 0) (h1 : ¬ nI n ≤ x) : vp_in x n := by
  obtain ⟨j, hj, rfl⟩ := nI_of h0
  exact vp_in_nI (Nat.lt_of_not_le fun h => h1 (nI_le h hj)) hn
theorem xin_lt {x : Int32} {n : Nat} (h : vp_in x n) : x.toNatClampNeg < n := Nat.lt_of_not_le fun q => h (Or.inr q)
theorem xin_g' {x : Int32} {n : Nat} (hn : n < 2 ^ 31) (h0 : ¬ x < 0) (h1 : x < nI n) : vp_in x n := by
  obtain ⟨j, hj, rfl⟩ := nI_of h0
  exact vp_in_nI ((nI_ltI hj hn).mp h1) hn
/-- two pools side by side, the heads first -/
def twoW (ck : Nat → ClassId) (pa pb : Nat → Nat) (P O : PS) : va_W := hdW ck pa P ++ (hdW ck pb O ++ (famW 16 (jsW pa P.2.2) ++ famW 16 (jsW pb O.2.2)))
theorem pm_4 {a b c d : va_W} : (a ++ (b ++ (c ++ d))).Perm ((a ++ c) ++ (b ++ d)) := by
  refine (List.Perm.append_left a ?_).trans (by rw [List.append_assoc])
  rw [← List.append_assoc, ← List.append_assoc]
  exact List.Perm.append_right d List.perm_append_comm
theorem pm_5 {a b c d : va_W} : ((a ++ b) ++ (c ++ d)).Perm ((a ++ c) ++ (b ++ d)) := by
  rw [List.append_assoc]
  exact pm_4
theorem pm_two {ck : Nat → ClassId} {pa pb : Nat → Nat} {P O : PS} : (twoW ck pa pb P O).Perm (poolW ck pa P ++ poolW ck pb O) := pm_4
theorem pm_twoj {ck : Nat → ClassId} {pa pb : Nat → Nat} {P O : PS} {j : Nat} (hj : j < 16) : (twoW ck pa pb P O).Perm ((jW (jA pa j) (qA pa j) (nI j) (P.2.2 j) ++ jW (jA pb j) (qA pb j) (nI j) (O.2.2 j)) ++ ((hdW ck pa P ++ famX 16 (jsW pa P.2.2) j) ++ (hdW ck pb O ++ famX 16 (jsW pb O.2.2) j))) := by
  refine pm_two.trans ((List.Perm.append (pm_pj hj) (pm_pj hj)).trans ?_)
  rw [List.append_assoc]
  exact pm_4
theorem pm_twoj' {ck : Nat → ClassId} {pa pb : Nat → Nat} {P O : PS} {j : Nat} {v : Nat → Int32} (hj : j < 16) : ((jW (jA pa j) (qA pa j) (nI j) v ++ jW (jA pb j) (qA pb j) (nI j) (O.2.2 j)) ++ ((hdW ck pa P ++ famX 16 (jsW pa P.2.2) j) ++ (hdW ck pb O ++ famX 16 (jsW pb O.2.2) j))).Perm (twoW ck pa pb (P.1, P.2.1, va_up P.2.2 j v) O) := by
  exact pm_5.trans ((List.Perm.append (pm_pj' hj) (pm_pj hj).symm).trans pm_two.symm)
