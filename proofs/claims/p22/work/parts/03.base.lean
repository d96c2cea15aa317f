/-! ===== my own base: worlds up to their order, contracts in one form, calls in one row ===== -/
theorem xP_iff {D : va_G} {cl : List vw_C} {ws : va_W} {H : Heap} : va_P D cl ws H ↔ ∀ q ∈ ws, va_at D cl q H := by
  constructor
  · intro h q hq
    obtain ⟨i, hi⟩ := List.getElem?_of_mem hq
    exact h i q hi
  · intro h k q hk
    exact h q (List.mem_of_getElem? hk)
theorem xD_iff {A : Nat → Prop} {ws : va_W} : va_D A ws ↔ ws.Pairwise (fun p q => p.1 ≠ q.1) ∧ ∀ q ∈ ws, A q.1 := by
  constructor
  · intro h
    refine ⟨List.pairwise_iff_getElem.mpr ?_, ?_⟩
    · intro i j hi hj hij e
      have := h.1 i j ws[i] ws[j] (List.getElem?_eq_getElem hi) (List.getElem?_eq_getElem hj) e
      omega
    · intro q hq
      obtain ⟨i, hi⟩ := List.getElem?_of_mem hq
      exact h.2 i q hi
  · intro h
    have hp := List.pairwise_iff_getElem.mp h.1
    refine ⟨?_, fun k q hk => h.2 q (List.mem_of_getElem? hk)⟩
    intro i j p q hi hj e
    obtain ⟨li, rfl⟩ := List.getElem?_eq_some_iff.mp hi
    obtain ⟨lj, rfl⟩ := List.getElem?_eq_some_iff.mp hj
    rcases Nat.lt_trichotomy i j with h1 | h1 | h1
    · exact absurd e (hp i j li lj h1)
    · exact h1
    · exact absurd e.symm (hp j i lj li h1)
theorem xP_perm {D : va_G} {cl : List vw_C} {ws ws' : va_W} {H : Heap} (h : ws.Perm ws') (hP : va_P D cl ws H) : va_P D cl ws' H :=
  xP_iff.mpr fun q hq => xP_iff.mp hP q (h.mem_iff.mpr hq)
theorem xD_perm {A : Nat → Prop} {ws ws' : va_W} (h : ws.Perm ws') (hD : va_D A ws) : va_D A ws' := by
  have h1 := xD_iff.mp hD
  exact xD_iff.mpr ⟨(h.pairwise_iff (fun e z => e z.symm)).mp h1.1, fun q hq => h1.2 q (h.mem_iff.mpr hq)⟩
theorem xA_mem {ws : va_W} {sz q : Nat} : va_A ws sz q ↔ (∃ e, (q, e) ∈ ws) ∨ sz ≤ q := by
  constructor
  · rintro (⟨k, e, h⟩ | h)
    · exact Or.inl ⟨e, List.mem_of_getElem? h⟩
    · exact Or.inr h
  · rintro (⟨e, h⟩ | h)
    · obtain ⟨i, hi⟩ := List.getElem?_of_mem h
      exact Or.inl ⟨i, e, hi⟩
    · exact Or.inr h
/-- what a callee may change is the caller's to change -/
theorem xfree {A0 : Nat → Prop} {ws wc wr : va_W} {H0 H : Heap} {locs : List Loc} (hD : va_D A0 ws) (hS : va_S A0 H0 H locs) (hA : ∀ q, H0.size ≤ q → A0 q) (hp : ws.Perm (wc ++ wr)) : ∀ q, va_A wc H.size q → A0 q := by
  intro q h
  rcases xA_mem.mp h with ⟨e, h⟩ | h
  · exact (xD_iff.mp hD).2 (q, e) (hp.mem_iff.mpr (List.mem_append_left _ h))
  · exact hA q (Nat.le_trans hS.1 h)
/-- behind a call: the callee's cells as it left them, the caller's others as they were -/
theorem xjoin {A0 : Nat → Prop} {D : va_G} {cl : List vw_C} {ws wc wr w1 ws' : va_W} {H H1 : Heap} (hP : va_P D cl ws H) (hD : va_D A0 ws) (hp : ws.Perm (wc ++ wr))
    (hk : ∀ q : Nat, q < H.size → ¬ va_A wc H.size q → H1[q]? = H[q]?) (hF : ∀ q, va_A wc H.size q → A0 q) (hP1 : va_P D cl w1 H1) (hD1 : va_D (va_A wc H.size) w1) (hp' : (w1 ++ wr).Perm ws') : va_P D cl ws' H1 ∧ va_D A0 ws' := by
  have hP2 := xP_iff.mp (xP_perm hp hP)
  have hD2 := xD_iff.mp (xD_perm hp hD)
  have hpw := List.pairwise_append.mp hD2.1
  have hD1' := xD_iff.mp hD1
  have apart : ∀ q ∈ wr, q.1 < H.size ∧ ¬ va_A wc H.size q.1 := by
    intro q hq
    have hl := (hP2 q (List.mem_append_right _ hq)).lt
    refine ⟨hl, fun h => ?_⟩
    rcases xA_mem.mp h with ⟨e, h⟩ | h
    · exact hpw.2.2 (q.1, e) h q hq rfl
    · omega
  refine ⟨xP_perm hp' (xP_iff.mpr fun q hq => ?_), xD_perm hp' (xD_iff.mpr ⟨List.pairwise_append.mpr ⟨hD1'.1, hpw.2.1, fun a ha b hb e => ?_⟩, fun q hq => ?_⟩)⟩
  · rcases List.mem_append.mp hq with h | h
    · exact xP_iff.mp hP1 q h
    · obtain ⟨g1, g2⟩ := apart q h
      exact (hP2 q (List.mem_append_right _ h)).kept (hk q.1 g1 g2)
  · exact (apart b hb).2 (by rw [← e]; exact hD1'.2 a ha)
  · rcases List.mem_append.mp hq with h | h
    · exact hF _ (hD1'.2 q h)
    · exact hD2.2 q (List.mem_append_right _ h)
/-- the links between nest mates -/
def xN (U : State) : Prop := va_Nw (.methodLinkNest RX5 25 yX2_init RX5) U ∧ va_Nw (.methodLinkNest RX5 38 yX3_init RX5) U ∧ va_Nw (.methodLinkNest RX1 9 yX3_init RX5) U ∧
  (va_Nw (.fieldLinkNest RX1 56 RX3 "need" "I" RX5) U ∧ va_Nw (.fieldLinkNest RX1 63 RX3 "way" "I" RX5) U ∧ va_Nw (.fieldLinkNest RX1 66 RX3 "want" "I" RX5) U ∧ va_Nw (.fieldLinkNest RX1 69 RX3 "left" "I" RX5) U ∧ va_Nw (.fieldLinkNest RX1 72 RX3 "right" "I" RX5) U ∧ va_Nw (.fieldLinkNest RX5 177 RX3 "need" "I" RX5) U)
theorem xN.calling {U : State} (g : JFrame) (mk : MethodId) (a : Array Value) (h : xN U) : xN (U.calling g mk a) := by
  obtain ⟨a1, a2, a3, b1, b2, b3, b4, b5, b6⟩ := h
  exact ⟨va_Nw.same (u := U) rfl rfl a1, va_Nw.same (u := U) rfl rfl a2, va_Nw.same (u := U) rfl rfl a3, va_Nw.same (u := U) rfl rfl b1, va_Nw.same (u := U) rfl rfl b2, va_Nw.same (u := U) rfl rfl b3, va_Nw.same (u := U) rfl rfl b4, va_Nw.same (u := U) rfl rfl b5, va_Nw.same (u := U) rfl rfl b6⟩
theorem xN.warm {s U : State} (hW : s.WarmedH U.vm) (h : xN s) : xN U := by
  obtain ⟨a1, a2, a3, b1, b2, b3, b4, b5, b6⟩ := h
  exact ⟨va_Nw.warmM hW a1, va_Nw.warmM hW a2, va_Nw.warmM hW a3, va_Nw.warmF hW b1, va_Nw.warmF hW b2, va_Nw.warmF hW b3, va_Nw.warmF hW b4, va_Nw.warmF hW b5, va_Nw.warmF hW b6⟩
/-- the arrays' classes: int, char, Join, Pool -/
abbrev xT (k : Nat → ClassId) : List (ClassId × FieldType) := [(k 0, .int), (k 1, .char), (k 2, .object RX1), (k 3, .object RX4)]
/-- a contract's start and end: a world before, a world behind -/
def xPre (D : va_G) (k : Nat → ClassId) (w : va_W) (sz : Nat) (U : State) : Prop := U.heap.size = sz ∧ va_P D vwCl w U.heap ∧ va_K D vwCl (xT k) U ∧ va_D (fun _ => True) w ∧ xN U
def xPost (D : va_G) (w w' : va_W) (sz : Nat) (t : State) : Prop := va_P D vwCl w' t.heap ∧ va_D (va_A w sz) w'
abbrev xQi (D : va_G) (w w' : va_W) (Rv : Int32) (sz : Nat) : Array Value → State → Outcome → State → Prop := va_Qi (fun r (_ : Unit) => r = Rv) (fun _ t => xPost D w w' sz t) (va_A w sz)
abbrev xQv (D : va_G) (w w' : va_W) (sz : Nat) : Array Value → State → Outcome → State → Prop := va_Qv (fun (_ : Unit) => True) (fun _ t => xPost D w w' sz t) (va_A w sz)
abbrev xQq (D : va_G) (w w' : va_W) (Rv : Option Nat) (sz : Nat) : Array Value → State → Outcome → State → Prop := va_Qq (fun r (_ : Unit) => r = Rv) (fun _ t => xPost D w w' sz t) (va_A w sz)
abbrev xMi (l : Launch) (y : MethodName) (ws : List Cond) (rm : Room) (D : va_G) (k : Nat → ClassId) (vs : List Value) (w w' : va_W) (Rv : Int32) (mc ms : Nat) : Prop := ∀ sz, Met l y ws rm (va_Pc vs (xPre D k w sz)) (xQi D w w' Rv sz) mc ms (va_A w sz)
abbrev xMv (l : Launch) (y : MethodName) (ws : List Cond) (rm : Room) (D : va_G) (k : Nat → ClassId) (vs : List Value) (w w' : va_W) (mc ms : Nat) : Prop := ∀ sz, Met l y ws rm (va_Pc vs (xPre D k w sz)) (xQv D w w' sz) mc ms (va_A w sz)
abbrev xMq (l : Launch) (y : MethodName) (ws : List Cond) (rm : Room) (D : va_G) (k : Nat → ClassId) (vs : List Value) (w w' : va_W) (Rv : Option Nat) (mc ms : Nat) : Prop := ∀ sz, Met l y ws rm (va_Pc vs (xPre D k w sz)) (xQq D w w' Rv sz) mc ms (va_A w sz)
theorem xblind {D : va_G} {k : Nat → ClassId} {w : va_W} {sz : Nat} {vs : List Value} : FrameBlind (va_Pc vs (xPre D k w sz)) := by
  intro a U g mk q
  obtain ⟨q0, q1, q2, q3, q4, q5⟩ := q
  exact ⟨q0, q1, q2, va_K.moved (u := U) (U := U.calling g mk a) (Vm.Alike.refl U.vm) q3, q4, q5.calling g mk a⟩
theorem xpreS {s : State} {H : Heap} {D : va_G} {k : Nat → ClassId} {A0 : Nat → Prop} {ws wc wr : va_W} {As : List Value} (hN : xN s) (hK : va_K D vwCl (xT k) s) (hP : va_P D vwCl ws H) (hD : va_D A0 ws) (hp : ws.Perm (wc ++ wr)) : PreS s H (va_Pc As (xPre D k wc H.size)) As := by
  have hPc : va_P D vwCl wc H := xP_iff.mpr fun q hq => xP_iff.mp (xP_perm hp hP) q (List.mem_append_left _ hq)
  have hDc : va_D (fun _ => True) wc := xD_iff.mpr ⟨(List.pairwise_append.mp (xD_iff.mp (xD_perm hp hD)).1).1, fun _ _ => trivial⟩
  exact ⟨xblind, fun U hU hW => ⟨rfl, by rw [hU], by rw [hU]; exact hPc, va_K.moved hW.alike hK, hDc, hN.warm hW⟩⟩
theorem xpreV {s : State} {H : Heap} {D : va_G} {k : Nat → ClassId} {A0 : Nat → Prop} {ws wc wr : va_W} {As : List Value} {C : String} {b ci : Nat} {fs : List Value} {q : vw_C} (hN : xN s) (hK : va_K D vwCl (xT k) s) (hP : va_P D vwCl ws H) (hD : va_D A0 ws) (hp : ws.Perm (wc ++ wr))
    (k0 : Nat) (he : wc[k0]? = some (b, .inr (ci, fs))) (hc : vwCl[ci]? = some q) (hq : q.1 = C) : PreV s H C b (va_Pc (.ref b :: As) (xPre D k wc H.size)) As := by
  have hPc : va_P D vwCl wc H := xP_iff.mpr fun q hq => xP_iff.mp (xP_perm hp hP) q (List.mem_append_left _ hq)
  have h := xpreS (As := .ref b :: As) hN hK hP hD hp
  subst hq
  exact ⟨h.1, va_recv hK hPc hc he, h.2⟩
section XB
variable {p : Program} {l : Launch} {e : Env} {R : Room} {s : State} {m : MethodId} {args : Array Value} {below : List Frame} {meth : Method} {c : Code} {H : Heap} {locs : List Loc} {cells slots mc ms : Nat} {Q : State → Prop}
variable {cc : ByteArray} {pc : Nat} {ls : Array Slot} {st0 rest : List Value} {a : Array Value} {D : va_G} {A0 : Nat → Prop} {ws wc wr wc' ws' w w' : va_W}
theorem xreti {Rv : Int32} (hr : va_Run p l e R s m args below meth c H locs cells slots mc ms (F0 m pc ls st0) rest (xQi D wc wc' Rv H.size a) (va_A wc H.size)) (hP : va_P D vwCl ws H) (hD : va_D A0 ws) (hS : va_S A0 s.heap H locs) (hA : ∀ q, s.heap.size ≤ q → A0 q)
    (hp : ws.Perm (wc ++ wr)) (hp' : (wc' ++ wr).Perm ws') (kk : ∀ (H1 : Heap) (locs1 : List Loc), va_P D vwCl ws' H1 → va_D A0 ws' → va_S A0 s.heap H1 locs1 → W p l e R s m args below meth c H1 locs1 (cells + mc) (slots + ms) Q (F0 m (pc + 3) ls (.int Rv :: rest))) : W p l e R s m args below meth c H locs cells slots Q (F0 m pc ls st0) := by
  have hF := xfree hD hS hA hp
  refine va_calli hr hS (fun q _ h => hF q h) hF (fun r u t H1 locs1 ht _ hw hB _ hk1 hS1 => ?_)
  subst hw
  subst ht
  obtain ⟨h1, h2⟩ := xjoin hP hD hp hk1 hF hB.1 hB.2 hp'
  exact kk _ locs1 h1 h2 hS1
theorem xretv (hr : va_Run p l e R s m args below meth c H locs cells slots mc ms (F0 m pc ls st0) rest (xQv D wc wc' H.size a) (va_A wc H.size)) (hP : va_P D vwCl ws H) (hD : va_D A0 ws) (hS : va_S A0 s.heap H locs) (hA : ∀ q, s.heap.size ≤ q → A0 q)
    (hp : ws.Perm (wc ++ wr)) (hp' : (wc' ++ wr).Perm ws') (kk : ∀ (H1 : Heap) (locs1 : List Loc), va_P D vwCl ws' H1 → va_D A0 ws' → va_S A0 s.heap H1 locs1 → W p l e R s m args below meth c H1 locs1 (cells + mc) (slots + ms) Q (F0 m (pc + 3) ls rest)) : W p l e R s m args below meth c H locs cells slots Q (F0 m pc ls st0) := by
  have hF := xfree hD hS hA hp
  refine va_callv hr hS (fun q _ h => hF q h) hF (fun u t H1 locs1 ht _ hw hB _ hk1 hS1 => ?_)
  subst ht
  obtain ⟨h1, h2⟩ := xjoin hP hD hp hk1 hF hB.1 hB.2 hp'
  exact kk _ locs1 h1 h2 hS1
theorem xretq {Rv : Option Nat} (hr : va_Run p l e R s m args below meth c H locs cells slots mc ms (F0 m pc ls st0) rest (xQq D wc wc' Rv H.size a) (va_A wc H.size)) (hP : va_P D vwCl ws H) (hD : va_D A0 ws) (hS : va_S A0 s.heap H locs) (hA : ∀ q, s.heap.size ≤ q → A0 q)
    (hp : ws.Perm (wc ++ wr)) (hp' : (wc' ++ wr).Perm ws') (kk : ∀ (H1 : Heap) (locs1 : List Loc), va_P D vwCl ws' H1 → va_D A0 ws' → va_S A0 s.heap H1 locs1 → W p l e R s m args below meth c H1 locs1 (cells + mc) (slots + ms) Q (F0 m (pc + 3) ls (va_rf Rv :: rest))) : W p l e R s m args below meth c H locs cells slots Q (F0 m pc ls st0) := by
  have hF := xfree hD hS hA hp
  refine va_callq hr hS (fun q _ h => hF q h) hF (fun r u t H1 locs1 ht _ hw hB _ hk1 hS1 => ?_)
  subst hw
  subst ht
  obtain ⟨h1, h2⟩ := xjoin hP hD hp hk1 hF hB.1 hB.2 hp'
  exact kk _ locs1 h1 h2 hS1
theorem xiret {v Rv : Int32} (hx : p.tables.exec = Jvm.exec) (hb : c.code = cc) (hr : meth.sig.returnType = some .int) (hlocks : meth.locks = false) (hP : va_P D vwCl ws H) (hD : va_D (va_A w s.heap.size) ws) (hS : va_S (va_A w s.heap.size) s.heap H locs) (hv : v = Rv) (hw : ws = w')
    (hdg : decode cc pc = .ok (.ireturn, 1)) : W p l e R s m args below meth c H locs cells slots (MQ below (xQi D w w' Rv s.heap.size) args s cells slots (va_A w s.heap.size)) (F0 m pc ls [.int v]) := by
  subst hv; subst hw
  exact W.iret hx hb hr (fun t ht hW => ⟨⟨_, (), rfl, rfl, by rw [ht]; exact hP, hD⟩, hS.F ht⟩) hS.2.2 hdg hlocks
theorem xnarrow {v : Int32} (h : v = 0 ∨ v = 1) : narrow .boolean (.int v) = .int v := by
  rcases h with rfl | rfl <;> rfl
theorem xzret {v Rv : Int32} (hx : p.tables.exec = Jvm.exec) (hb : c.code = cc) (hr : meth.sig.returnType = some .boolean) (hlocks : meth.locks = false) (hP : va_P D vwCl ws H) (hD : va_D (va_A w s.heap.size) ws) (hS : va_S (va_A w s.heap.size) s.heap H locs) (h01 : v = 0 ∨ v = 1) (hv : v = Rv) (hw : ws = w')
    (hdg : decode cc pc = .ok (.ireturn, 1)) : W p l e R s m args below meth c H locs cells slots (MQ below (xQi D w w' Rv s.heap.size) args s cells slots (va_A w s.heap.size)) (F0 m pc ls [.int v]) := by
  subst hv; subst hw
  exact W.zret hx hb hr (xnarrow h01) (fun t ht hW => ⟨⟨_, (), rfl, rfl, by rw [ht]; exact hP, hD⟩, hS.F ht⟩) hS.2.2 hdg hlocks
theorem xvret (hx : p.tables.exec = Jvm.exec) (hb : c.code = cc) (hr : meth.sig.returnType = none) (hlocks : meth.locks = false) (hP : va_P D vwCl ws H) (hD : va_D (va_A w s.heap.size) ws) (hS : va_S (va_A w s.heap.size) s.heap H locs) (hw : ws = w')
    (hdg : decode cc pc = .ok (.return_, 1)) : W p l e R s m args below meth c H locs cells slots (MQ below (xQv D w w' s.heap.size) args s cells slots (va_A w s.heap.size)) (F0 m pc ls []) := by
  subst hw
  exact W.vret hx hb hr (fun t ht hW => ⟨⟨(), rfl, trivial, by rw [ht]; exact hP, hD⟩, hS.F ht⟩) hS.2.2 hdg hlocks
theorem xqret {v Rv : Option Nat} {n : String} (hx : p.tables.exec = Jvm.exec) (hb : c.code = cc) (hr : meth.sig.returnType = some (.object n)) (hlocks : meth.locks = false) (hP : va_P D vwCl ws H) (hD : va_D (va_A w s.heap.size) ws) (hS : va_S (va_A w s.heap.size) s.heap H locs) (hv : v = Rv) (hw : ws = w')
    (hdg : decode cc pc = .ok (.areturn, 1)) : W p l e R s m args below meth c H locs cells slots (MQ below (xQq D w w' Rv s.heap.size) args s cells slots (va_A w s.heap.size)) (F0 m pc ls [va_rf v]) := by
  subst hv; subst hw
  exact W.aret hx hb hr (Or.inl ⟨n, rfl⟩) (by cases v with | none => exact Or.inl rfl | some a => exact Or.inr ⟨a, rfl⟩) (fun t ht hW => ⟨⟨_, (), rfl, rfl, by rw [ht]; exact hP, hD⟩, hS.F ht⟩) hS.2.2 hdg hlocks
end XB
/-- a contract out of the walk of its body -/
theorem xMet {l : Launch} {y : MethodName} {ws ws0 : List Cond} {rm : Room} {cc : ByteArray} {maxL : Nat} {ret : Option FieldType} {D : va_G} {k : Nat → ClassId} {w : va_W} {mc ms : Nat} {vs : List Value} {Qc : Nat → Array Value → State → Outcome → State → Prop}
    (hy : plainName y.cls = true) (hw : ws = Cond.code y cc maxL ret :: ws0) (hvs : (lg_sl vs).length ≤ maxL)
    (body : ∀ (p : Program) (e : Env) (s : State) (m : MethodId) (below : List Frame) (meth : Method) (c : Code), p.tables.exec = Jvm.exec → c.code = cc → meth.sig.returnType = ret → c.maxLocals = maxL → s.vm.findClass y.cls = some m.cls → (∀ w ∈ ws, w.before vs.toArray s = true) → meth.locks = false → meth.name = y.name →
      xN s → va_K D vwCl (xT k) s → va_P D vwCl w s.heap → va_D (va_A w s.heap.size) w → ∀ ls : Array Slot, lv_has ls maxL (lv_args 0 vs) →
      W p l e rm s m vs.toArray below meth c s.heap [] 0 0 (MQ below (Qc s.heap.size) vs.toArray s mc ms (va_A w s.heap.size)) (F0 m 0 ls [])) : ∀ sz, Met l y ws rm (va_Pc vs (xPre D k w sz)) (Qc sz) mc ms (va_A w sz) := by
  intro sz
  refine Met.ofW (cc := cc) (maxL := maxL) (ret := ret) hy hw ?_
  intro p e s m args below meth c s₁ B hml hv
  obtain ⟨rfl, hsz, hP, hK, hD0, hN⟩ := hv
  subst hsz
  have hl := lv_entry vs (n := maxL) hvs
  rw [lg_entry_eq]
  exact body p e s m below meth c B.exec B.bytes B.returns hml (findClass_of_methodNamed B.named) (atoms_spec (ws := ws) B.pre) B.notSynchronized (name_of_methodNamed B.named B.method).1 hN hK hP hD0.self _ hl
/-! ===== families of blocks ===== -/
def famW (n : Nat) (g : Nat → va_W) : va_W := (List.range n).flatMap g
def famX (n : Nat) (g : Nat → va_W) (j : Nat) : va_W := ((List.range n).filter (fun i => decide (i ≠ j))).flatMap g
theorem fam_perm {n j : Nat} {g : Nat → va_W} (hj : j < n) : (famW n g).Perm (g j ++ famX n g j) := by
  have key : ∀ l : List Nat, l.Nodup → j ∈ l → (l.flatMap g).Perm (g j ++ (l.filter (fun i => decide (i ≠ j))).flatMap g) := by
    intro l
    induction l with
    | nil => intro _ h; cases h
    | cons a t ih =>
      intro hn hm
      have hn' := List.nodup_cons.mp hn
      by_cases ha : a = j
      · subst ha
        have hf : (t.filter (fun i => decide (i ≠ a))) = t := List.filter_eq_self.mpr fun x hx => by
          have : x ≠ a := fun e => hn'.1 (e ▸ hx)
          simpa using this
        rw [List.flatMap_cons, List.filter_cons_of_neg (by simp), hf]
      · have hm' : j ∈ t := (List.mem_cons.mp hm).resolve_left (fun e => ha e.symm)
        rw [List.flatMap_cons, List.filter_cons_of_pos (by simpa using ha), List.flatMap_cons]
        have h1 := ih hn'.2 hm'
        refine (List.Perm.append_left (g a) h1).trans ?_
        rw [← List.append_assoc, ← List.append_assoc]
        exact List.Perm.append_right _ List.perm_append_comm
  exact key _ List.nodup_range (List.mem_range.mpr hj)
theorem famX_congr {n j : Nat} {g g' : Nat → va_W} (h : ∀ i, i < n → i ≠ j → g i = g' i) : famX n g j = famX n g' j := by
  unfold famX
  have : ∀ l : List Nat, (∀ i ∈ l, i < n ∧ i ≠ j) → l.flatMap g = l.flatMap g' := by
    intro l
    induction l with
    | nil => intro _; rfl
    | cons a t ih =>
      intro hl
      rw [List.flatMap_cons, List.flatMap_cons, h a (hl a List.mem_cons_self).1 (hl a List.mem_cons_self).2, ih (fun i hi => hl i (List.mem_cons_of_mem _ hi))]
  refine this _ (fun i hi => ?_)
  have := List.mem_filter.mp hi
  exact ⟨List.mem_range.mp this.1, by simpa using this.2⟩
/-- one block taken out of a family behind a head, and put back changed -/
theorem fam_out {n j : Nat} {g : Nat → va_W} {hd : va_W} (hj : j < n) : (hd ++ famW n g).Perm (g j ++ (hd ++ famX n g j)) := by
  refine (List.Perm.append_left hd (fam_perm hj)).trans ?_
  rw [← List.append_assoc, ← List.append_assoc]
  exact List.Perm.append_right _ List.perm_append_comm
theorem fam_in {n j : Nat} {g g' : Nat → va_W} {hd : va_W} (hj : j < n) (h : ∀ i, i < n → i ≠ j → g i = g' i) : (g' j ++ (hd ++ famX n g j)).Perm (hd ++ famW n g') := by
  rw [famX_congr h]
  exact (fam_out hj).symm
theorem pm_all {ws : va_W} : ws.Perm (ws ++ []) := by rw [List.append_nil]
theorem pm_all' {ws : va_W} : (ws ++ []).Perm ws := by rw [List.append_nil]
theorem pm_none {ws : va_W} : ws.Perm ([] ++ ws) := List.Perm.refl _
theorem pm_2nd {x y : Nat × va_E} : [x, y].Perm ([y] ++ [x]) := List.Perm.swap y x []
theorem pm_2nd' {x y : Nat × va_E} : ([y] ++ [x]).Perm [x, y] := List.Perm.swap x y []
