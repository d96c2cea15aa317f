/-! ===== constructors: what they need ===== -/
/-- the row that a pool's settings are copied from -/
def xFst (t : Nat) (A : Nat → Prop) (U : State) (H : Heap) : Prop := ∃ cell : Cell, H[t]? = some cell ∧ ¬ A t ∧ (∀ k, cell.vm ≠ .statics k) ∧ cell.vm ≠ .unknown ∧ U.vm.findClass "[I" = some cell.cls ∧ cell.slots = (arrV cell.cls 4 (fun j => .int (fiF j))).slots
theorem xFst.moved {t : Nat} {A : Nat → Prop} {u U : State} {H : Heap} (hvm : u.vm.Alike U.vm) (h : xFst t A u H) : xFst t A U H := by
  obtain ⟨cell, h1, h2, h3, h4, h5, h6⟩ := h
  exact ⟨cell, h1, h2, h3, h4, by rw [hvm.findClass]; exact h5, h6⟩
theorem xFst.kept {t : Nat} {A : Nat → Prop} {U : State} {H H1 : Heap} (h : xFst t A U H) (hq : ∀ a : Nat, a < H.size → ¬ A a → H1[a]? = H[a]?) : xFst t A U H1 := by
  obtain ⟨cell, h1, h2, h3⟩ := h
  exact ⟨cell, by rw [hq t (Array.getElem?_eq_some_iff.mp h1).1 h2]; exact h1, h2, h3⟩
theorem xFst.narrow {t : Nat} {A B : Nat → Prop} {U : State} {H : Heap} (h : xFst t A U H) (hAB : ∀ q, B q → A q) : xFst t B U H := by
  obtain ⟨cell, h1, h2, h3⟩ := h
  exact ⟨cell, h1, fun z => h2 (hAB t z), h3⟩
def xSt3 (tt : Nat → Nat) (A : Nat → Prop) (U : State) (H : Heap) : Prop :=
  va_Z RX4 "FIRST" "[I" (.ref (tt 2)) A U H ∧ xFst (tt 2) A U H ∧ va_Nw (.castable "[I" "java/lang/Cloneable") U ∧ va_AO RX1 U ∧ va_AO RX4 U
theorem xSt3.kept {tt : Nat → Nat} {A : Nat → Prop} {U : State} {H H1 : Heap} (h : xSt3 tt A U H) (hq : ∀ a : Nat, a < H.size → ¬ A a → H1[a]? = H[a]?) : xSt3 tt A U H1 := ⟨va_Z.kept h.1 hq, h.2.1.kept hq, h.2.2⟩
theorem xSt3.narrow {tt : Nat → Nat} {A B : Nat → Prop} {U : State} {H : Heap} (h : xSt3 tt A U H) (hAB : ∀ q, B q → A q) : xSt3 tt B U H := ⟨va_Z.narrow h.1 hAB, h.2.1.narrow hAB, h.2.2⟩
theorem xSt3.warm {tt : Nat → Nat} {A : Nat → Prop} {s U : State} {H : Heap} (hW : s.WarmedH U.vm) (h : xSt3 tt A s H) : xSt3 tt A U H :=
  ⟨va_Z.moved hW.alike h.1, h.2.1.moved hW.alike, va_Nw.warmC hW h.2.2.1, va_AO.moved hW.alike h.2.2.2.1, va_AO.moved hW.alike h.2.2.2.2⟩
theorem xSt3.calling {tt : Nat → Nat} {A : Nat → Prop} {U : State} {H : Heap} (g : JFrame) (mk : MethodId) (a : Array Value) (h : xSt3 tt A U H) : xSt3 tt A (U.calling g mk a) H :=
  ⟨va_Z.moved (u := U) (Vm.Alike.refl U.vm) h.1, h.2.1.moved (u := U) (Vm.Alike.refl U.vm), va_Nw.same (u := U) rfl rfl h.2.2.1, va_AO.moved (u := U) (Vm.Alike.refl U.vm) h.2.2.2.1, va_AO.moved (u := U) (Vm.Alike.refl U.vm) h.2.2.2.2⟩
def xPreC (tt : Nat → Nat) (D : va_G) (k : Nat → ClassId) (w : va_W) (sz : Nat) (U : State) : Prop := xPre D k w sz U ∧ xSt3 tt (va_A w sz) U U.heap
abbrev xQn {α : Type} (D : va_G) (w : va_W) (w' : α → va_W) (sz : Nat) : Array Value → State → Outcome → State → Prop := va_Qv (fun (_ : α) => True) (fun u t => xPost D w (w' u) sz t) (va_A w sz)
abbrev xMn {α : Type} (l : Launch) (y : MethodName) (ws : List Cond) (rm : Room) (D : va_G) (k : Nat → ClassId) (vs : List Value) (w : va_W) (w' : α → va_W) (mc ms : Nat) : Prop := ∀ sz, Met l y ws rm (va_Pc vs (xPre D k w sz)) (xQn D w w' sz) mc ms (va_A w sz)
abbrev xMnC {α : Type} (tt : Nat → Nat) (l : Launch) (y : MethodName) (ws : List Cond) (rm : Room) (D : va_G) (k : Nat → ClassId) (vs : List Value) (w : va_W) (w' : α → va_W) (mc ms : Nat) : Prop := ∀ sz, Met l y ws rm (va_Pc vs (xPreC tt D k w sz)) (xQn D w w' sz) mc ms (va_A w sz)
theorem xblindC {tt : Nat → Nat} {D : va_G} {k : Nat → ClassId} {w : va_W} {sz : Nat} {vs : List Value} : FrameBlind (va_Pc vs (xPreC tt D k w sz)) := by
  intro a U g mk q
  obtain ⟨q0, ⟨q1, q2, q3, q4, q5⟩, q6⟩ := q
  exact ⟨q0, ⟨q1, q2, va_K.moved (u := U) (U := U.calling g mk a) (Vm.Alike.refl U.vm) q3, q4, q5.calling g mk a⟩, q6.calling g mk a⟩
theorem xpreSC {tt : Nat → Nat} {s : State} {H : Heap} {locs : List Loc} {D : va_G} {k : Nat → ClassId} {A0 : Nat → Prop} {ws wc wr : va_W} {As : List Value} (hC : xSt3 tt A0 s s.heap) (hS : va_S A0 s.heap H locs) (hA : ∀ q, s.heap.size ≤ q → A0 q) (hN : xN s) (hK : va_K D vwCl (xT k) s) (hP : va_P D vwCl ws H) (hD : va_D A0 ws) (hp : ws.Perm (wc ++ wr)) : PreS s H (va_Pc As (xPreC tt D k wc H.size)) As := by
  have hPc : va_P D vwCl wc H := xP_iff.mpr fun q hq => xP_iff.mp (xP_perm hp hP) q (List.mem_append_left _ hq)
  have hDc : va_D (fun _ => True) wc := xD_iff.mpr ⟨(List.pairwise_append.mp (xD_iff.mp (xD_perm hp hD)).1).1, fun _ _ => trivial⟩
  have hF := xfree hD hS hA hp
  have hCH : xSt3 tt (va_A wc H.size) s H := (hC.kept hS.2.1).narrow hF
  exact ⟨xblindC, fun U hU hW => ⟨rfl, ⟨by rw [hU], by rw [hU]; exact hPc, va_K.moved hW.alike hK, hDc, hN.warm hW⟩, by rw [hU]; exact hCH.warm hW⟩⟩
theorem xMetC {tt : Nat → Nat} {l : Launch} {y : MethodName} {ws ws0 : List Cond} {rm : Room} {cc : ByteArray} {maxL : Nat} {ret : Option FieldType} {D : va_G} {k : Nat → ClassId} {w : va_W} {mc ms : Nat} {vs : List Value} {Qc : Nat → Array Value → State → Outcome → State → Prop}
    (hy : plainName y.cls = true) (hw : ws = Cond.code y cc maxL ret :: ws0) (hvs : (lg_sl vs).length ≤ maxL)
    (body : ∀ (p : Program) (e : Env) (s : State) (m : MethodId) (below : List Frame) (meth : Method) (c : Code), p.tables.exec = Jvm.exec → c.code = cc → meth.sig.returnType = ret → c.maxLocals = maxL → s.vm.findClass y.cls = some m.cls → (∀ w ∈ ws, w.before vs.toArray s = true) → meth.locks = false → meth.name = y.name →
      xN s → va_K D vwCl (xT k) s → va_P D vwCl w s.heap → va_D (va_A w s.heap.size) w → xSt3 tt (va_A w s.heap.size) s s.heap → ∀ ls : Array Slot, lv_has ls maxL (lv_args 0 vs) →
      W p l e rm s m vs.toArray below meth c s.heap [] 0 0 (MQ below (Qc s.heap.size) vs.toArray s mc ms (va_A w s.heap.size)) (F0 m 0 ls [])) : ∀ sz, Met l y ws rm (va_Pc vs (xPreC tt D k w sz)) (Qc sz) mc ms (va_A w sz) := by
  intro sz
  refine Met.ofW (cc := cc) (maxL := maxL) (ret := ret) hy hw ?_
  intro p e s m args below meth c s₁ B hml hv
  obtain ⟨rfl, ⟨hsz, hP, hK, hD0, hN⟩, hC⟩ := hv
  subst hsz
  have hl := lv_entry vs (n := maxL) hvs
  rw [lg_entry_eq]
  exact body p e s m below meth c B.exec B.bytes B.returns hml (findClass_of_methodNamed B.named) (atoms_spec (ws := ws) B.pre) B.notSynchronized (name_of_methodNamed B.named B.method).1 hN hK hP hD0.self hC _ hl
section XC
variable {p : Program} {l : Launch} {e : Env} {R : Room} {s : State} {m : MethodId} {args : Array Value} {below : List Frame} {meth : Method} {c : Code} {H : Heap} {locs : List Loc} {cells slots mc ms : Nat} {Q : State → Prop}
variable {cc : ByteArray} {pc : Nat} {ls : Array Slot} {st0 rest : List Value} {a : Array Value} {D : va_G} {A0 : Nat → Prop} {ws wc wr wc' ws' w : va_W} {k : Nat → ClassId} {H0 : Heap}
theorem xretn {α : Type} {wu wsu : α → va_W} (hr : va_Run p l e R s m args below meth c H locs cells slots mc ms (F0 m pc ls st0) rest (xQn D wc wu H.size a) (va_A wc H.size)) (hP : va_P D vwCl ws H) (hD : va_D A0 ws) (hS : va_S A0 s.heap H locs) (hA : ∀ q, s.heap.size ≤ q → A0 q)
    (hp : ws.Perm (wc ++ wr)) (hp' : ∀ u, (wu u ++ wr).Perm (wsu u)) (kk : ∀ (u : α) (H1 : Heap) (locs1 : List Loc), va_P D vwCl (wsu u) H1 → va_D A0 (wsu u) → va_S A0 s.heap H1 locs1 → W p l e R s m args below meth c H1 locs1 (cells + mc) (slots + ms) Q (F0 m (pc + 3) ls rest)) : W p l e R s m args below meth c H locs cells slots Q (F0 m pc ls st0) := by
  have hF := xfree hD hS hA hp
  refine va_callv hr hS (fun q _ h => hF q h) hF (fun u t H1 locs1 ht _ hw hB _ hk1 hS1 => ?_)
  subst ht
  obtain ⟨h1, h2⟩ := xjoin hP hD hp hk1 hF hB.1 hB.2 (hp' u)
  exact kk u _ locs1 h1 h2 hS1
theorem xnret {α : Type} {wu : α → va_W} (u : α) (hx : p.tables.exec = Jvm.exec) (hb : c.code = cc) (hr : meth.sig.returnType = none) (hlocks : meth.locks = false) (hP : va_P D vwCl ws H) (hD : va_D (va_A w s.heap.size) ws) (hS : va_S (va_A w s.heap.size) s.heap H locs) (hw : ws = wu u)
    (hdg : decode cc pc = .ok (.return_, 1)) : W p l e R s m args below meth c H locs cells slots (MQ below (xQn D w wu s.heap.size) args s cells slots (va_A w s.heap.size)) (F0 m pc ls []) := by
  subst hw
  exact W.vret hx hb hr (fun t ht hW => ⟨⟨u, rfl, trivial, by rw [ht]; exact hP, hD⟩, hS.F ht⟩) hS.2.2 hdg hlocks
/-! the arrays' classes are the ones that the worlds name -/
theorem K_last {cl : List vw_C} {tys : List (ClassId × FieldType)} {cA : ClassId} {ty : FieldType} (h : va_K D cl (tys ++ [(cA, ty)]) s) : va_RA s cA ty := (h.2 tys.length (cA, ty) (by simp)).2
theorem K_int (hK : va_K D vwCl (xT k) s) {cA : ClassId} (h : va_K D vwCl (xT k ++ [(cA, .int)]) s) : cA = k 0 := Option.some.inj ((va_nm_int (K_last h)).symm.trans (va_nm_int (hK.2 0 _ rfl).2))
theorem K_char (hK : va_K D vwCl (xT k) s) {cA : ClassId} (h : va_K D vwCl (xT k ++ [(cA, .char)]) s) : cA = k 1 := Option.some.inj ((va_nm_char (K_last h)).symm.trans (va_nm_char (hK.2 1 _ rfl).2))
theorem K_q2 (hK : va_K D vwCl (xT k) s) {cA : ClassId} (h : va_K D vwCl (xT k ++ [(cA, .object RX1)]) s) : cA = k 2 := by
  obtain ⟨_, _, _, _, _, h4⟩ := K_last h
  obtain ⟨_, _, _, _, _, g4⟩ := (hK.2 2 _ rfl).2
  exact Option.some.inj (h4.symm.trans g4)
theorem K_q3 (hK : va_K D vwCl (xT k) s) {cA : ClassId} (h : va_K D vwCl (xT k ++ [(cA, .object RX4)]) s) : cA = k 3 := by
  obtain ⟨_, _, _, _, _, h4⟩ := K_last h
  obtain ⟨_, _, _, _, _, g4⟩ := (hK.2 3 _ rfl).2
  exact Option.some.inj (h4.symm.trans g4)
theorem xnewi {n : Int32} {N : Nat} (hx : p.tables.exec = Jvm.exec) (hb : c.code = cc) (harr : (Cond.arrayClass .int).before args s = true) (hK : va_K D vwCl (xT k) s) (hP : va_P D vwCl ws H) (hD : va_D A0 ws) (hS : va_S A0 H0 H locs) (hA : ∀ q, H0.size ≤ q → A0 q) (hn : ¬ n < 0) (hN : n.toNatClampNeg = N) (hby : N * 4 ≤ 536870912) (hc : cells + 1 ≤ R.cells) (hs : slots + N ≤ R.slots) (hdg : decode cc pc = .ok (.newarray .int, 2))
    (kk : ∀ (q : Nat) (H1 : Heap), va_P D vwCl (ws ++ [(q, .inl (k 0, N, .inl (fun _ => 0)))]) H1 → va_D A0 (ws ++ [(q, .inl (k 0, N, .inl (fun _ => 0)))]) → va_S A0 H0 H1 locs → W p l e R s m args below meth c H1 locs (cells + 1) (slots + N) Q (F0 m (pc + 2) ls (.ref q :: rest))) : W p l e R s m args below meth c H locs cells slots Q (F0 m pc ls (.int n :: rest)) := by
  refine va_newa (atype := .int) (ty := .int) (a0 := (N, .inl (fun _ => 0))) hx hb harr rfl hK hP hD hS hA (fun _ => rfl) hn hN hby hc hs hdg (fun q cA H1 hK1 hP1 hD1 hS1 => ?_)
  have e := K_int hK hK1
  subst e
  exact kk q H1 hP1 hD1 hS1
theorem xnewc {n : Int32} {N : Nat} (hx : p.tables.exec = Jvm.exec) (hb : c.code = cc) (harr : (Cond.arrayClass .char).before args s = true) (hK : va_K D vwCl (xT k) s) (hP : va_P D vwCl ws H) (hD : va_D A0 ws) (hS : va_S A0 H0 H locs) (hA : ∀ q, H0.size ≤ q → A0 q) (hn : ¬ n < 0) (hN : n.toNatClampNeg = N) (hby : N * 2 ≤ 536870912) (hc : cells + 1 ≤ R.cells) (hs : slots + N ≤ R.slots) (hdg : decode cc pc = .ok (.newarray .char, 2))
    (kk : ∀ (q : Nat) (H1 : Heap), va_P D vwCl (ws ++ [(q, .inl (k 1, N, .inl (fun _ => 0)))]) H1 → va_D A0 (ws ++ [(q, .inl (k 1, N, .inl (fun _ => 0)))]) → va_S A0 H0 H1 locs → W p l e R s m args below meth c H1 locs (cells + 1) (slots + N) Q (F0 m (pc + 2) ls (.ref q :: rest))) : W p l e R s m args below meth c H locs cells slots Q (F0 m pc ls (.int n :: rest)) := by
  refine va_newa (atype := .char) (ty := .char) (a0 := (N, .inl (fun _ => 0))) hx hb harr rfl hK hP hD hS hA (fun _ => rfl) hn hN hby hc hs hdg (fun q cA H1 hK1 hP1 hD1 hS1 => ?_)
  have e := K_char hK hK1
  subst e
  exact kk q H1 hP1 hD1 hS1
theorem xnewJ {n : Int32} {N index : Nat} {own : String} (hx : p.tables.exec = Jvm.exec) (hb : c.code = cc) (hown : s.vm.findClass own = some m.cls) (hcl : (Cond.classLink own index RX1).before args s = true) (hAO : va_AO RX1 s) (hK : va_K D vwCl (xT k) s) (hP : va_P D vwCl ws H) (hD : va_D A0 ws) (hS : va_S A0 H0 H locs) (hA : ∀ q, H0.size ≤ q → A0 q) (hn : ¬ n < 0) (hN : n.toNatClampNeg = N) (hby : N * 4 ≤ 536870912) (hc : cells + 1 ≤ R.cells) (hs : slots + N ≤ R.slots) (hdg : decode cc pc = .ok (.anewarray index, 3))
    (kk : ∀ (q : Nat) (H1 : Heap), va_P D vwCl (ws ++ [(q, .inl (k 2, N, .inr (.inr (.inr (.inr (fun _ => none))))))]) H1 → va_D A0 (ws ++ [(q, .inl (k 2, N, .inr (.inr (.inr (.inr (fun _ => none))))))]) → va_S A0 H0 H1 locs → W p l e R s m args below meth c H1 locs (cells + 1) (slots + N) Q (F0 m (pc + 3) ls (.ref q :: rest))) : W p l e R s m args below meth c H locs cells slots Q (F0 m pc ls (.int n :: rest)) := by
  refine va_newq hx hb hown hcl hAO hK hP hD hS hA hn hN hby hc hs hdg (fun q cA H1 hK1 hP1 hD1 hS1 => ?_)
  have e := K_q2 hK hK1
  subst e
  exact kk q H1 hP1 hD1 hS1
theorem xnewP {n : Int32} {N index : Nat} {own : String} (hx : p.tables.exec = Jvm.exec) (hb : c.code = cc) (hown : s.vm.findClass own = some m.cls) (hcl : (Cond.classLink own index RX4).before args s = true) (hAO : va_AO RX4 s) (hK : va_K D vwCl (xT k) s) (hP : va_P D vwCl ws H) (hD : va_D A0 ws) (hS : va_S A0 H0 H locs) (hA : ∀ q, H0.size ≤ q → A0 q) (hn : ¬ n < 0) (hN : n.toNatClampNeg = N) (hby : N * 4 ≤ 536870912) (hc : cells + 1 ≤ R.cells) (hs : slots + N ≤ R.slots) (hdg : decode cc pc = .ok (.anewarray index, 3))
    (kk : ∀ (q : Nat) (H1 : Heap), va_P D vwCl (ws ++ [(q, .inl (k 3, N, .inr (.inr (.inr (.inr (fun _ => none))))))]) H1 → va_D A0 (ws ++ [(q, .inl (k 3, N, .inr (.inr (.inr (.inr (fun _ => none))))))]) → va_S A0 H0 H1 locs → W p l e R s m args below meth c H1 locs (cells + 1) (slots + N) Q (F0 m (pc + 3) ls (.ref q :: rest))) : W p l e R s m args below meth c H locs cells slots Q (F0 m pc ls (.int n :: rest)) := by
  refine va_newq hx hb hown hcl hAO hK hP hD hS hA hn hN hby hc hs hdg (fun q cA H1 hK1 hP1 hD1 hS1 => ?_)
  have e := K_q3 hK hK1
  subst e
  exact kk q H1 hP1 hD1 hS1
/-- the clone of the static row -/
theorem xclone {t index : Nat} {own : String} (hx : p.tables.exec = Jvm.exec) (hb : c.code = cc) (hml : c.maxLocals = ls.size) (hown : s.vm.findClass own = some m.cls)
    (hlink : (Cond.methodLink own index ⟨"[I", "clone", "()Ljava/lang/Object;"⟩).before args s = true) (hsame : (Cond.sameMethod "[I" "java/lang/Object" "clone" "()Ljava/lang/Object;").before args s = true)
    (hnat : (Cond.native ⟨"java/lang/Object", "clone", "()Ljava/lang/Object;"⟩).before args s = true) (hinst : (Cond.instanceMethod ⟨"java/lang/Object", "clone", "()Ljava/lang/Object;"⟩).before args s = true)
    (hsel : (Cond.selects "[I" ⟨"[I", "clone", "()Ljava/lang/Object;"⟩ ⟨"java/lang/Object", "clone", "()Ljava/lang/Object;"⟩).before args s = true) (hcl : va_Nw (.castable "[I" "java/lang/Cloneable") s)
    (hF : xFst t A0 s s.heap) (hK : va_K D vwCl (xT k) s) (hP : va_P D vwCl ws H) (hD : va_D A0 ws) (hS : va_S A0 s.heap H locs) (hA : ∀ q, s.heap.size ≤ q → A0 q) (hframes : 1 ≤ R.frames) (hlocals : (rest.map fun v => v.category).sum + 14 ≤ R.locals) (hcells : cells + 1 ≤ R.cells) (hslots : slots + 4 ≤ R.slots) (hdg : decode cc pc = .ok (.invokevirtual index, 3))
    (kk : ∀ (q : Nat) (H1 : Heap), va_P D vwCl (ws ++ [(q, .inl (k 0, 4, .inl fiF))]) H1 → va_D A0 (ws ++ [(q, .inl (k 0, 4, .inl fiF))]) → va_S A0 s.heap H1 locs →
      W p l e R s m args below meth c H1 locs (cells + 1) (slots + 4) Q (F0 m (pc + 3) ls (.ref q :: rest))) : W p l e R s m args below meth c H locs cells slots Q (F0 m pc ls (.ref t :: rest)) := by
  obtain ⟨cell, h1, h2, h3, h4, h5, h6⟩ := hF
  have hK0 := hK.2 0 _ rfl
  have hcls : cell.cls = k 0 := Option.some.inj (h5.symm.trans (va_nm_int hK0.2))
  have hsz : cell.slots.size = 4 := by rw [h6]; exact arrV_size _ _ _
  have hcellE : ({ cls := cell.cls, slots := cell.slots } : Cell) = vp_cell (k 0) (4, .inl fiF) := by
    rw [h6, hcls]
    rfl
  have hcellH : H[t]? = some cell := by rw [hS.2.1 t (Array.getElem?_eq_some_iff.mp h1).1 h2]; exact h1
  obtain ⟨c0, t0', f1, f2, f3⟩ := Cond.castable_spec (va_Nw.use (A := args) rfl hcl)
  have hc0 : cell.cls = c0 := Option.some.inj (h5.symm.trans f1)
  intro T hT X
  have hcellT : T.heap[t]? = some cell := by rw [hT]; exact hcellH
  obtain ⟨-, kA, hkA, comp, hkind⟩ := State.isArrayOf_alike X.warmed.alike (hK0.1 0 (fun _ => .null))
  obtain ⟨-, kS, hkS, compS, hkindS⟩ := hK0.1 0 (fun _ => .null)
  obtain ⟨vm', X', st⟩ := X.cloneArray hx hown hlink hsame hnat hinst hsel (a := t) (cell := cell) hcellT h3 h4 h5 f2 (by rw [hc0]; exact f3)
    (fun i v hv => by
      rw [h6] at hv
      have hfv := va_fit (ty := .int) (fun i _ => rfl) i v hv
      rw [hcls]
      have hk' : T.vm.classes[k 0]? = some kA := hkA
      simpa [State.fitsSlot, State.slotType?, hk', hkind] using hfv)
    (g := F0 m pc ls (.ref t :: rest)) rfl (by rw [hml]) rfl (by rw [hb]; exact hdg) hframes (by show 2 * 0 + _ + 14 ≤ _; omega) hcells (by rw [hsz]; exact hslots) (hloader := by rw [hcls]; exact Vm.clonesLoader_of_array hkS hkindS)
  rw [hcellE, hsz] at X'
  generalize hH1 : H.push (vp_cell (k 0) (4, .inl fiF)) = H1
  have e1 : H1[H.size]? = some (vp_cell (k 0) (4, .inl fiF)) := by rw [← hH1, Array.getElem?_push_size]
  have z1 : H1.size = H.size + 1 := by rw [← hH1, Array.size_push]
  have o1 : ∀ q : Nat, q < H.size → H1[q]? = H[q]? := fun q hq => by rw [← hH1, Array.getElem?_push, if_neg (Nat.ne_of_lt hq)]
  have hk : ∀ (j : Nat) (y : Nat × va_E), ws[j]? = some y → H1[y.1]? = H[y.1]? := fun j y hy => o1 y.1 ((hP j y hy).lt)
  obtain ⟨t', b1, b2⟩ := kk H.size H1 ((hP.kept hk).app (fun j y hy => by
      have hz : j < 1 := (List.getElem?_eq_some_iff.mp hy).1
      rw [show j = 0 by omega] at hy
      cases hy
      exact e1)) (hD.push hP rfl (hA _ hS.1)) ⟨Nat.le_trans hS.1 (by omega), fun y h1 h2 => (o1 y (Nat.lt_of_lt_of_le h1 hS.1)).trans (hS.2.1 y h1 h2), hS.2.2⟩
    ((T.setVm vm').pushCell (vp_cell (k 0) (4, .inl fiF))) (by rw [← hH1, ← hT]; rfl) X'
  refine ⟨t', st t' ?_, b2⟩
  rw [hcellE, hT]
  exact b1
end XC
/-! cells of arrays, told by what they hold -/
theorem va_D_adr {A : Nat → Prop} {ws ws' : va_W} (h : ws.map Prod.fst = ws'.map Prod.fst) (hD : va_D A ws) : va_D A ws' := by
  have h1 := xD_iff.mp hD
  refine xD_iff.mpr ⟨?_, fun q hq => ?_⟩
  · have a : (ws.map Prod.fst).Pairwise (· ≠ ·) := List.pairwise_map.mpr h1.1
    rw [h] at a
    exact List.pairwise_map.mp a
  · have : q.1 ∈ ws'.map Prod.fst := List.mem_map_of_mem hq
    rw [← h] at this
    obtain ⟨q', hq', e⟩ := List.mem_map.mp this
    rw [← e]
    exact h1.2 q' hq'
theorem arr_ext {cA : ClassId} {n : Nat} {f g : Nat → Option Nat} (h : ∀ j, j < n → f j = g j) : vp_cell cA (n, .inr (.inr (.inr (.inr f)))) = vp_cell cA (n, .inr (.inr (.inr (.inr g)))) := by
  rw [vp_cell_q, vp_cell_q]
  unfold arrV
  have : (fun j : Fin n => va_rf (f j.val)) = fun j : Fin n => va_rf (g j.val) := funext fun j => by rw [h j.val j.isLt]
  rw [this]
theorem xP_arr {D : va_G} {cl : List vw_C} {H : Heap} {w1 w2 : va_W} {a n : Nat} {cA : ClassId} {f g : Nat → Option Nat} (h : ∀ j, j < n → f j = g j) (hP : va_P D cl (w1 ++ (a, .inl (cA, n, .inr (.inr (.inr (.inr f))))) :: w2) H) : va_P D cl (w1 ++ (a, .inl (cA, n, .inr (.inr (.inr (.inr g))))) :: w2) H := by
  have hq := xP_iff.mp hP
  refine xP_iff.mpr fun q hm => ?_
  rcases List.mem_append.mp hm with hm | hm
  · exact hq q (List.mem_append_left _ hm)
  · rcases List.mem_cons.mp hm with rfl | hm
    · have := hq _ (List.mem_append_right _ List.mem_cons_self)
      show H[a]? = some (vp_cell cA (n, .inr (.inr (.inr (.inr g)))))
      rw [← arr_ext h]
      exact this
    · exact hq q (List.mem_append_right _ (List.mem_cons_of_mem _ hm))
theorem xD_arr {A : Nat → Prop} {w1 w2 : va_W} {a : Nat} {x y : va_E} (hD : va_D A (w1 ++ (a, x) :: w2)) : va_D A (w1 ++ (a, y) :: w2) := va_D_adr (by simp) hD
theorem famW_s {i : Nat} {g : Nat → va_W} : famW (i + 1) g = famW i g ++ g i := by
  unfold famW
  rw [List.range_succ, List.flatMap_append]
  simp
theorem famW_c {n : Nat} {g g' : Nat → va_W} (h : ∀ i, i < n → g i = g' i) : famW n g = famW n g' := by
  induction n with
  | zero => rfl
  | succ n ih => rw [famW_s, famW_s, ih (fun i hi => h i (by omega)), h n (by omega)]
