/-! ===== the class: its cells, the blocks of its world; what is known of the static rows ===== -/
abbrev CS : Type := PS × HS3 × TS × PS × Int32 × PS × (Nat → Int32)
def clO (ca : Nat → Nat → Nat) (z : Int32) : va_W := [(ca 0 0, .inr (5, [.ref (ca 1 0), .ref (ca 2 0), .ref (ca 3 0), .ref (ca 4 0), .int z, .ref (ca 5 0), .ref (ca 6 0)]))]
def clB (ck : Nat → ClassId) (ca : Nat → Nat → Nat) (C : CS) : List va_W := [clO ca C.2.2.2.2.1, poolW ck (ca 1) C.1, histW ck (ca 2) C.2.1, textW ck (ca 3) C.2.2.1, poolW ck (ca 4) C.2.2.2.1, poolW ck (ca 5) C.2.2.2.2.2.1, pW (ca 6 0) C.2.2.2.2.2.2]
def clW (ck : Nat → ClassId) (ca : Nat → Nat → Nat) (C : CS) : va_W := (clB ck ca C).flatten
theorem pm_ixL {L : List va_W} (is : List Nat) (h : (List.range L.length).Perm is) : L.Perm (is.map (fun i => L.getD i [])) := by
  have e : L = (List.range L.length).map (fun i => L.getD i []) := by
    apply List.ext_getElem?
    intro i
    rw [List.getElem?_map]
    by_cases hi : i < L.length
    · rw [List.getElem?_range hi, List.getElem?_eq_getElem hi]
      simp [hi]
    · rw [List.getElem?_eq_none (by omega), List.getElem?_eq_none (by simp; omega)]
      rfl
  exact (by rw [← e] : L.Perm ((List.range L.length).map (fun i => L.getD i []))).trans (h.map _)
/-- the blocks in another order -/
def clR (ck : Nat → ClassId) (ca : Nat → Nat → Nat) (C : CS) (is : List Nat) : va_W := (is.map (fun i => (clB ck ca C).getD i [])).flatten
theorem pm_cl {ck : Nat → ClassId} {ca : Nat → Nat → Nat} (C : CS) (is : List Nat) (h : (List.range 7).Perm is) : (clW ck ca C).Perm (clR ck ca C is) := pm_flat (pm_ixL is h)
theorem pm_asc {a b c : va_W} : (a ++ (b ++ c)).Perm ((a ++ b) ++ c) := by rw [List.append_assoc]
section CL
variable {ck : Nat → ClassId} {ca : Nat → Nat → Nat}
theorem cm_P (C : CS) : (clW ck ca C).Perm (poolW ck (ca 1) C.1 ++ clR ck ca C [0, 2, 3, 4, 5, 6]) := pm_cl C [1, 0, 2, 3, 4, 5, 6] (by decide)
theorem cm_P' (C : CS) {q : PS} : (poolW ck (ca 1) q ++ clR ck ca C [0, 2, 3, 4, 5, 6]).Perm (clW ck ca (q, C.2)) := (cm_P (q, C.2)).symm
theorem cm_T (C : CS) : (clW ck ca C).Perm (textW ck (ca 3) C.2.2.1 ++ clR ck ca C [0, 1, 2, 4, 5, 6]) := pm_cl C [3, 0, 1, 2, 4, 5, 6] (by decide)
theorem cm_T' (C : CS) {q : TS} : (textW ck (ca 3) q ++ clR ck ca C [0, 1, 2, 4, 5, 6]).Perm (clW ck ca (C.1, C.2.1, q, C.2.2.2)) := (cm_T (C.1, C.2.1, q, C.2.2.2)).symm
theorem cm_R (C : CS) : (clW ck ca C).Perm (poolW ck (ca 5) C.2.2.2.2.2.1 ++ clR ck ca C [0, 1, 2, 3, 4, 6]) := pm_cl C [5, 0, 1, 2, 3, 4, 6] (by decide)
theorem cm_R' (C : CS) {q : PS} : (poolW ck (ca 5) q ++ clR ck ca C [0, 1, 2, 3, 4, 6]).Perm (clW ck ca (C.1, C.2.1, C.2.2.1, C.2.2.2.1, C.2.2.2.2.1, q, C.2.2.2.2.2.2)) := (cm_R (C.1, C.2.1, C.2.2.1, C.2.2.2.1, C.2.2.2.2.1, q, C.2.2.2.2.2.2)).symm
theorem cm_p (C : CS) : (clW ck ca C).Perm (pW (ca 6 0) C.2.2.2.2.2.2 ++ clR ck ca C [0, 1, 2, 3, 4, 5]) := pm_cl C [6, 0, 1, 2, 3, 4, 5] (by decide)
theorem cm_p' (C : CS) {q : Nat → Int32} : (pW (ca 6 0) q ++ clR ck ca C [0, 1, 2, 3, 4, 5]).Perm (clW ck ca (C.1, C.2.1, C.2.2.1, C.2.2.2.1, C.2.2.2.2.1, C.2.2.2.2.2.1, q)) := (cm_p (C.1, C.2.1, C.2.2.1, C.2.2.2.1, C.2.2.2.2.1, C.2.2.2.2.2.1, q)).symm
theorem cm_H (C : CS) : (clW ck ca C).Perm ((histW ck (ca 2) C.2.1 ++ poolW ck (ca 1) C.1) ++ clR ck ca C [0, 3, 4, 5, 6]) := (pm_cl C [2, 1, 0, 3, 4, 5, 6] (by decide)).trans pm_asc
theorem cm_H' (C : CS) {S : HS3} {q : PS} : ((histW ck (ca 2) S ++ poolW ck (ca 1) q) ++ clR ck ca C [0, 3, 4, 5, 6]).Perm (clW ck ca (q, S, C.2.2)) := (cm_H (q, S, C.2.2)).symm
theorem cm_NP (C : CS) : (clW ck ca C).Perm (twoW ck (ca 4) (ca 1) C.2.2.2.1 C.1 ++ clR ck ca C [0, 2, 3, 5, 6]) := (pm_cl C [4, 1, 0, 2, 3, 5, 6] (by decide)).trans (pm_asc.trans (List.Perm.append_right _ pm_two.symm))
theorem cm_NP' (C : CS) {q : PS} : (twoW ck (ca 4) (ca 1) q C.1 ++ clR ck ca C [0, 2, 3, 5, 6]).Perm (clW ck ca (C.1, C.2.1, C.2.2.1, q, C.2.2.2.2)) := (cm_NP (C.1, C.2.1, C.2.2.1, q, C.2.2.2.2)).symm
theorem cm_PN (C : CS) : (clW ck ca C).Perm (twoW ck (ca 1) (ca 4) C.1 C.2.2.2.1 ++ clR ck ca C [0, 2, 3, 5, 6]) := (pm_cl C [1, 4, 0, 2, 3, 5, 6] (by decide)).trans (pm_asc.trans (List.Perm.append_right _ pm_two.symm))
theorem cm_PN' (C : CS) {q : PS} : (twoW ck (ca 1) (ca 4) q C.2.2.2.1 ++ clR ck ca C [0, 2, 3, 5, 6]).Perm (clW ck ca (q, C.2)) := (cm_PN (q, C.2)).symm
theorem cm_RP (C : CS) : (clW ck ca C).Perm (twoW ck (ca 5) (ca 1) C.2.2.2.2.2.1 C.1 ++ clR ck ca C [0, 2, 3, 4, 6]) := (pm_cl C [5, 1, 0, 2, 3, 4, 6] (by decide)).trans (pm_asc.trans (List.Perm.append_right _ pm_two.symm))
theorem cm_RP' (C : CS) {q : PS} : (twoW ck (ca 5) (ca 1) q C.1 ++ clR ck ca C [0, 2, 3, 4, 6]).Perm (clW ck ca (C.1, C.2.1, C.2.2.1, C.2.2.2.1, C.2.2.2.2.1, q, C.2.2.2.2.2.2)) := (cm_RP (C.1, C.2.1, C.2.2.1, C.2.2.2.1, C.2.2.2.2.1, q, C.2.2.2.2.2.2)).symm
/-- one join out of the pool -/
theorem cm_J (C : CS) {j : Nat} (hj : j < 16) : (clW ck ca C).Perm (jW (jA (ca 1) j) (qA (ca 1) j) (nI j) (C.1.2.2 j) ++ ((hdW ck (ca 1) C.1 ++ famX 16 (jsW (ca 1) C.1.2.2) j) ++ clR ck ca C [0, 2, 3, 4, 5, 6])) :=
  (cm_P C).trans ((List.Perm.append_right _ (pm_pj hj)).trans (by rw [List.append_assoc]))
theorem cm_J' (C : CS) {j : Nat} {v : Nat → Int32} (hj : j < 16) : (jW (jA (ca 1) j) (qA (ca 1) j) (nI j) v ++ ((hdW ck (ca 1) C.1 ++ famX 16 (jsW (ca 1) C.1.2.2) j) ++ clR ck ca C [0, 2, 3, 4, 5, 6])).Perm (clW ck ca ((C.1.1, C.1.2.1, va_up C.1.2.2 j v), C.2)) := by
  refine pm_asc.trans ((List.Perm.append_right _ (pm_pj' hj)).trans ?_)
  exact cm_P' C
/-- one join out of the pool that is tried on -/
theorem cm_K (C : CS) {j : Nat} (hj : j < 16) : (clW ck ca C).Perm (jW (jA (ca 5) j) (qA (ca 5) j) (nI j) (C.2.2.2.2.2.1.2.2 j) ++ ((hdW ck (ca 5) C.2.2.2.2.2.1 ++ famX 16 (jsW (ca 5) C.2.2.2.2.2.1.2.2) j) ++ clR ck ca C [0, 1, 2, 3, 4, 6])) :=
  (cm_R C).trans ((List.Perm.append_right _ (pm_pj hj)).trans (by rw [List.append_assoc]))
end CL
/-! the static rows -/
def loF (j : Nat) : Int32 := if j = 0 then 20 else if j = 3 then 1 else 0
def hiF (j : Nat) : Int32 := if j = 0 then 500 else if j = 3 then 50 else 1
def fiF (j : Nat) : Int32 := if j = 0 then 100 else if j = 3 then 10 else 0
def xStat (tt : Nat → Nat) (A : Nat → Prop) (U : State) (H : Heap) : Prop :=
  (va_Z RX4 "LOWEST" "[I" (.ref (tt 0)) A U H ∧ va_T .int (tt 0) 4 (fun j => .int (loF j)) A U H) ∧
  (va_Z RX4 "HIGHEST" "[I" (.ref (tt 1)) A U H ∧ va_T .int (tt 1) 4 (fun j => .int (hiF j)) A U H) ∧
  (va_Z RX4 "FIRST" "[I" (.ref (tt 2)) A U H ∧ va_T .int (tt 2) 4 (fun j => .int (fiF j)) A U H)
theorem xStat.moved {tt : Nat → Nat} {A : Nat → Prop} {u U : State} {H : Heap} (hvm : u.vm.Alike U.vm) (h : xStat tt A u H) : xStat tt A U H :=
  ⟨⟨va_Z.moved hvm h.1.1, va_T.moved hvm h.1.2⟩, ⟨va_Z.moved hvm h.2.1.1, va_T.moved hvm h.2.1.2⟩, ⟨va_Z.moved hvm h.2.2.1, va_T.moved hvm h.2.2.2⟩⟩
theorem xStat.kept {tt : Nat → Nat} {A : Nat → Prop} {U : State} {H H1 : Heap} (h : xStat tt A U H) (hq : ∀ a : Nat, a < H.size → ¬ A a → H1[a]? = H[a]?) : xStat tt A U H1 :=
  ⟨⟨va_Z.kept h.1.1 hq, va_T.kept h.1.2 hq⟩, ⟨va_Z.kept h.2.1.1 hq, va_T.kept h.2.1.2 hq⟩, ⟨va_Z.kept h.2.2.1 hq, va_T.kept h.2.2.2 hq⟩⟩
theorem xStat.narrow {tt : Nat → Nat} {A B : Nat → Prop} {U : State} {H : Heap} (h : xStat tt A U H) (hAB : ∀ q, B q → A q) : xStat tt B U H :=
  ⟨⟨va_Z.narrow h.1.1 hAB, va_T.narrow h.1.2 hAB⟩, ⟨va_Z.narrow h.2.1.1 hAB, va_T.narrow h.2.1.2 hAB⟩, ⟨va_Z.narrow h.2.2.1 hAB, va_T.narrow h.2.2.2 hAB⟩⟩
def xPreZ (tt : Nat → Nat) (D : va_G) (k : Nat → ClassId) (w : va_W) (sz : Nat) (U : State) : Prop := xPre D k w sz U ∧ xStat tt (va_A w sz) U U.heap
abbrev xMiZ (tt : Nat → Nat) (l : Launch) (y : MethodName) (ws : List Cond) (rm : Room) (D : va_G) (k : Nat → ClassId) (vs : List Value) (w w' : va_W) (Rv : Int32) (mc ms : Nat) : Prop := ∀ sz, Met l y ws rm (va_Pc vs (xPreZ tt D k w sz)) (xQi D w w' Rv sz) mc ms (va_A w sz)
theorem xblindZ {tt : Nat → Nat} {D : va_G} {k : Nat → ClassId} {w : va_W} {sz : Nat} {vs : List Value} : FrameBlind (va_Pc vs (xPreZ tt D k w sz)) := by
  intro a U g mk q
  obtain ⟨q0, ⟨q1, q2, q3, q4, q5⟩, q6⟩ := q
  exact ⟨q0, ⟨q1, q2, va_K.moved (u := U) (U := U.calling g mk a) (Vm.Alike.refl U.vm) q3, q4, q5.calling g mk a⟩, xStat.moved (u := U) (U := U.calling g mk a) (Vm.Alike.refl U.vm) q6⟩
theorem xpreSZ {tt : Nat → Nat} {s : State} {H : Heap} {locs : List Loc} {D : va_G} {k : Nat → ClassId} {A0 : Nat → Prop} {ws wc wr : va_W} {As : List Value} (hZ : xStat tt A0 s s.heap) (hS : va_S A0 s.heap H locs) (hA : ∀ q, s.heap.size ≤ q → A0 q) (hN : xN s) (hK : va_K D vwCl (xT k) s) (hP : va_P D vwCl ws H) (hD : va_D A0 ws) (hp : ws.Perm (wc ++ wr)) : PreS s H (va_Pc As (xPreZ tt D k wc H.size)) As := by
  have hPc : va_P D vwCl wc H := xP_iff.mpr fun q hq => xP_iff.mp (xP_perm hp hP) q (List.mem_append_left _ hq)
  have hDc : va_D (fun _ => True) wc := xD_iff.mpr ⟨(List.pairwise_append.mp (xD_iff.mp (xD_perm hp hD)).1).1, fun _ _ => trivial⟩
  have hF := xfree hD hS hA hp
  have hZH : xStat tt (va_A wc H.size) s H := (hZ.kept hS.2.1).narrow hF
  exact ⟨xblindZ, fun U hU hW => ⟨rfl, ⟨by rw [hU], by rw [hU]; exact hPc, va_K.moved hW.alike hK, hDc, hN.warm hW⟩, by rw [hU]; exact hZH.moved hW.alike⟩⟩
theorem xpreVZ {tt : Nat → Nat} {s : State} {H : Heap} {locs : List Loc} {D : va_G} {k : Nat → ClassId} {A0 : Nat → Prop} {ws wc wr : va_W} {As : List Value} {C : String} {b ci : Nat} {fs : List Value} {q : vw_C} (hZ : xStat tt A0 s s.heap) (hS : va_S A0 s.heap H locs) (hA : ∀ q, s.heap.size ≤ q → A0 q) (hN : xN s) (hK : va_K D vwCl (xT k) s) (hP : va_P D vwCl ws H) (hD : va_D A0 ws) (hp : ws.Perm (wc ++ wr))
    (k0 : Nat) (he : wc[k0]? = some (b, .inr (ci, fs))) (hc : vwCl[ci]? = some q) (hq : q.1 = C) : PreV s H C b (va_Pc (.ref b :: As) (xPreZ tt D k wc H.size)) As := by
  have hPc : va_P D vwCl wc H := xP_iff.mpr fun q hq => xP_iff.mp (xP_perm hp hP) q (List.mem_append_left _ hq)
  have h := xpreSZ (As := .ref b :: As) hZ hS hA hN hK hP hD hp
  subst hq
  exact ⟨h.1, va_recv hK hPc hc he, h.2⟩
/-- a contract that reads the static rows, out of the walk of its body -/
theorem xMetZ {tt : Nat → Nat} {l : Launch} {y : MethodName} {ws ws0 : List Cond} {rm : Room} {cc : ByteArray} {maxL : Nat} {ret : Option FieldType} {D : va_G} {k : Nat → ClassId} {w : va_W} {mc ms : Nat} {vs : List Value} {Qc : Nat → Array Value → State → Outcome → State → Prop}
    (hy : plainName y.cls = true) (hw : ws = Cond.code y cc maxL ret :: ws0) (hvs : (lg_sl vs).length ≤ maxL)
    (body : ∀ (p : Program) (e : Env) (s : State) (m : MethodId) (below : List Frame) (meth : Method) (c : Code), p.tables.exec = Jvm.exec → c.code = cc → meth.sig.returnType = ret → c.maxLocals = maxL → s.vm.findClass y.cls = some m.cls → (∀ w ∈ ws, w.before vs.toArray s = true) → meth.locks = false → meth.name = y.name →
      xN s → va_K D vwCl (xT k) s → va_P D vwCl w s.heap → va_D (va_A w s.heap.size) w → xStat tt (va_A w s.heap.size) s s.heap → ∀ ls : Array Slot, lv_has ls maxL (lv_args 0 vs) →
      W p l e rm s m vs.toArray below meth c s.heap [] 0 0 (MQ below (Qc s.heap.size) vs.toArray s mc ms (va_A w s.heap.size)) (F0 m 0 ls [])) : ∀ sz, Met l y ws rm (va_Pc vs (xPreZ tt D k w sz)) (Qc sz) mc ms (va_A w sz) := by
  intro sz
  refine Met.ofW (cc := cc) (maxL := maxL) (ret := ret) hy hw ?_
  intro p e s m args below meth c s₁ B hml hv
  obtain ⟨rfl, ⟨hsz, hP, hK, hD0, hN⟩, hZ⟩ := hv
  subst hsz
  have hl := lv_entry vs (n := maxL) hvs
  rw [lg_entry_eq]
  exact body p e s m below meth c B.exec B.bytes B.returns hml (findClass_of_methodNamed B.named) (atoms_spec (ws := ws) B.pre) B.notSynchronized (name_of_methodNamed B.named B.method).1 hN hK hP hD0.self hZ _ hl
