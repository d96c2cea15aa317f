/-! ===== what the law starts from: classes, statics ===== -/
theorem lw_len {args : Array Value} {s : State} {t : Term} {a : Nat} {cell : Cell} {v : Value} (h : (Term.length t).eval args s none [] s = some v) (ht : t.eval args s none [] s = some (.ref a)) (hat : s.arrayAt? a = some cell) : cell.slots.size < 2147483648 := by
  by_cases hn : cell.slots.size < 2147483648
  · exact hn
  · exfalso
    simp [Term.eval, ht, hat, hn] at h
theorem lw_four {args : Array Value} {s : State} {tm : Term} {g : Nat → Int32} {A : Nat → Prop} (harr : (Cond.arrayOf tm .int).before args s = true) (hlen : (Cond.eq (.length tm) (.int 4)).before args s = true) (h0 : (Cond.eq (.elem tm (.int 0)) (.int (g 0))).before args s = true) (h1 : (Cond.eq (.elem tm (.int 1)) (.int (g 1))).before args s = true) (h2 : (Cond.eq (.elem tm (.int 2)) (.int (g 2))).before args s = true) (h3 : (Cond.eq (.elem tm (.int 3)) (.int (g 3))).before args s = true) (hA : ∀ a : Nat, a < s.heap.size → ¬ A a) :
    ∃ t : Nat, tm.eval args s none [] s = some (.ref t) ∧ va_T .int t 4 (fun j => .int (g j)) A s s.heap :=
  va_Tof (N := 4) (by decide) harr (va_eqt hlen) (fun j hj => by
    rcases (show j = 0 ∨ j = 1 ∨ j = 2 ∨ j = 3 by omega) with rfl | rfl | rfl | rfl
    · exact va_eqt h0
    · exact va_eqt h1
    · exact va_eqt h2
    · exact va_eqt h3) hA
theorem lw_fst {args : Array Value} {s : State} {tm : Term} {A : Nat → Prop} {t : Nat} (ht : tm.eval args s none [] s = some (.ref t)) (hT : va_T .int t 4 (fun j => .int (fiF j)) A s s.heap) (hex : (Cond.exactly tm "[I").before args s = true) (hlen : (Cond.eq (.length tm) (.int 4)).before args s = true) : xFst t A s s.heap := by
  obtain ⟨cell, h1, h2, h3, h4, h5, h6, h7⟩ := hT
  obtain ⟨a, cA, cell2, kA, e1, e2, e3, e4, e5, e6, -⟩ := Cond.exactly_spec hex
  cases ht.symm.trans e1
  cases h1.symm.trans e3
  obtain ⟨a3, cell3, f1, f2, f3⟩ := Term.length_spec (va_eqt hlen)
  cases ht.symm.trans f1
  obtain ⟨g1, -⟩ := State.arrayAt?_spec f2
  cases h1.symm.trans g1
  have hlt := lw_len (va_eqt hlen) ht f2
  have hsz : cell.slots.size = 4 := by
    have e : (Int32.ofNat cell.slots.size).toNatClampNeg = (Int32.ofNat 4).toNatClampNeg := congrArg Int32.toNatClampNeg h5
    rw [Int32.toNatClampNeg_ofNat_of_lt hlt, Int32.toNatClampNeg_ofNat_of_lt (by decide)] at e
    exact e
  refine ⟨cell, h1, h7, fun k e => (by rw [e] at e5; cases e5), h3, (by rw [e6]; exact e2), ?_⟩
  apply Array.ext_getElem?
  intro i
  by_cases hi : i < 4
  · rw [h6 i hi, arrV_read _ _ hi]
  · rw [Array.getElem?_eq_none (by omega), Array.getElem?_eq_none (by rw [arrV_size]; omega)]
/-- what holds all through the law -/
def LX (p : Program) (s : State) (m : MethodId) (meth : Method) (c : Code) (b L : Nat) (xs : Nat → Int32) (D : va_G) (ck : Nat → ClassId) (tt : Nat → Nat) : Prop :=
  p.tables.exec = Jvm.exec ∧ c.code = cL_law ∧ meth.sig.returnType = ret ∧ c.maxLocals = 5 ∧ s.vm.findClass RL = some m.cls ∧ (∀ w ∈ wsL_law, w.before #[Value.ref b] s = true) ∧ va_X b L xs s s.heap ∧ b < s.heap.size ∧ meth.locks = false ∧ xN s ∧ va_K D vwCl (xT ck) s ∧ xSt3 tt (fun q => s.heap.size ≤ q) s s.heap ∧ xStat tt (fun q => s.heap.size ≤ q) s s.heap
theorem lw_vm {cA : ClassId} {n : Nat} {z : Nat → Value} (k : ClassId) : (arrV cA n z).vm ≠ VmData.statics k := by
  show VmData.none ≠ VmData.statics k
  exact nofun
theorem lw_ao {C : String} {args : Array Value} {s : State} (h : (Cond.arrayOver (.object C)).before args s = true) : ∃ cA, ArrOfT s cA (.object C) ∧ va_RA s cA (.object C) := by
  obtain ⟨comp, cA, kA, h1, h2, h3, h4, h5⟩ := Cond.arrayOver_spec h
  exact ⟨cA, fun n z => ⟨lw_vm, kA, h3, comp, h4⟩, kA, comp, h3, h4, h1, h5⟩
theorem lw_ai {args : Array Value} {s : State} (h : (Cond.arrayClass .int).before args s = true) : ∃ cA, ArrOfT s cA .int ∧ va_RA s cA .int := by
  obtain ⟨cA, kA, comp, h1, h2, h3⟩ := Cond.arrayClass_spec h
  exact ⟨cA, fun n z => ⟨lw_vm, kA, h2, comp, h3⟩, h1⟩
theorem lw_ac {args : Array Value} {s : State} (h : (Cond.arrayClass .char).before args s = true) : ∃ cA, ArrOfT s cA .char ∧ va_RA s cA .char := by
  obtain ⟨cA, kA, comp, h1, h2, h3⟩ := Cond.arrayClass_spec h
  exact ⟨cA, fun n z => ⟨lw_vm, kA, h2, comp, h3⟩, h1⟩
theorem lw_K {args : Array Value} {s : State} (hts : ∀ w ∈ lw_tbl, w.before args s = true) : ∃ (D : va_G) (ck : Nat → ClassId), va_K D vwCl (xT ck) s := by
  obtain ⟨c0, i0, k0⟩ := u_known (C := RX0) (T := TX0) (N := 2) (n := 2) hts inX0 (hts (.instantiable RX0 2) (by decide +kernel))
  obtain ⟨c1, i1, k1⟩ := u_known (C := RX1) (T := TX1) (N := 8) (n := 8) hts inX1 (hts (.instantiable RX1 8) (by decide +kernel))
  obtain ⟨c2, i2, k2⟩ := u_known (C := RX2) (T := TX2) (N := 10) (n := 10) hts inX2 (hts (.instantiable RX2 10) (by decide +kernel))
  obtain ⟨c3, i3, k3⟩ := u_known (C := RX3) (T := TX3) (N := 5) (n := 5) hts inX3 (hts (.instantiable RX3 5) (by decide +kernel))
  obtain ⟨c4, i4, k4⟩ := u_known (C := RX4) (T := TX4) (N := 7) (n := 7) hts inX4 (hts (.instantiable RX4 7) (by decide +kernel))
  obtain ⟨c5, i5, k5⟩ := u_known (C := RX5) (T := TX5) (N := 7) (n := 7) hts inX5 (hts (.instantiable RX5 7) (by decide +kernel))
  obtain ⟨a0, x0⟩ := lw_ai (hts (.arrayClass .int) (by decide +kernel))
  obtain ⟨a1, x1⟩ := lw_ac (hts (.arrayClass .char) (by decide +kernel))
  obtain ⟨a2, x2⟩ := lw_ao (hts (.arrayOver (.object RX1)) (by decide +kernel))
  obtain ⟨a3, x3⟩ := lw_ao (hts (.arrayOver (.object RX4)) (by decide +kernel))
  refine ⟨(fun k => match k with | 0 => c0 | 1 => c1 | 2 => c2 | 3 => c3 | 4 => c4 | _ => c5, fun k => match k with | 0 => i0 | 1 => i1 | 2 => i2 | 3 => i3 | 4 => i4 | _ => i5), fun k => match k with | 0 => a0 | 1 => a1 | 2 => a2 | _ => a3, ?_, ?_⟩
  · intro k q hq
    match k, hq with
    | 0, hq => cases hq; exact k0
    | 1, hq => cases hq; exact k1
    | 2, hq => cases hq; exact k2
    | 3, hq => cases hq; exact k3
    | 4, hq => cases hq; exact k4
    | 5, hq => cases hq; exact k5
    | k + 6, hq => simp [vwCl] at hq
  · intro k q hq
    match k, hq with
    | 0, hq => cases hq; exact x0
    | 1, hq => cases hq; exact x1
    | 2, hq => cases hq; exact x2
    | 3, hq => cases hq; exact x3
    | k + 4, hq => simp [xT] at hq
theorem lw_N {args : Array Value} {s : State} (hts : ∀ w ∈ lw_tbl, w.before args s = true) : xN s :=
  ⟨va_Nw.of rfl (hts _ (by decide +kernel)), va_Nw.of rfl (hts _ (by decide +kernel)), va_Nw.of rfl (hts _ (by decide +kernel)), va_Nw.of rfl (hts _ (by decide +kernel)), va_Nw.of rfl (hts _ (by decide +kernel)), va_Nw.of rfl (hts _ (by decide +kernel)), va_Nw.of rfl (hts _ (by decide +kernel)), va_Nw.of rfl (hts _ (by decide +kernel)), va_Nw.of rfl (hts _ (by decide +kernel))⟩
def R_law : String := "JoinGrantsLaw"
def lw_P (b : Addr) (xs : List Int32) (args : Array Value) (s : State) : Prop := args = #[.ref b] ∧ s.IntsAt b xs ∧ xs.length ≤ 260 ∧ (Jvm.Cond.and given_1 narrow_1).before args s = true
def lw_Q (_ : Array Value) (s : State) (o : Outcome) (t : State) : Prop := o = .returned (some (.int 1)) ∧ Framed s o t [] 600000 7302250
def lw_Z (below : List Frame) (a : Array Value) (s : State) : State → Prop := fun t => ∃ o, t.status = .running ∧ Ended t below o ∧ lw_Q a s o t
/-- the law's own end, with 1 on the stack, nothing written that was there before, its room as the claim has it -/
theorem lw_ret {p : Program} {l : Launch} {e : Env} {s : State} {m : MethodId} {below : List Frame} {meth : Method} {c : Code} {b : Nat} (hx : p.tables.exec = Jvm.exec) (hb : c.code = code) (hr : meth.sig.returnType = ret) (hlocks : meth.locks = false) {pc : Nat} {H : Heap} {ls : Array Slot} (hdg : decode code pc = .ok (.ireturn, 1)) : W p l e room_1 s m #[Value.ref b] below meth c H [] 600000 7302250 (lw_Z below #[Value.ref b] s) (F0 m pc ls [.int 1]) := by
  intro T hT X
  obtain ⟨fs, hret, hrun, hended, hW, hframe⟩ := X.leave (v := some (.int 1)) (hlocks := hlocks) (fun h => by rw [hr] at h; cases h)
  have hmeth' : T.vm.method? m = some meth := X.method'
  refine ⟨T.setFrames fs, ?_, .returned (some (.int 1)), hrun, hended, rfl, ⟨_, rfl⟩, hW, hframe⟩
  jvm_step X.here [X.here.top, hx, hb, hdg, hmeth', hr, ret, narrow_b1]
  (try refine ⟨rfl, ?_⟩); (try refine ⟨rfl, ?_⟩)
  first | (intro acts; rw [hret _ acts rfl rfl rfl]) | rw [hret _ _ rfl rfl rfl]
  exact Steps.refl _
/-- what holds at the law's entry: the machine, the code, the tables' words (any of lw_tbl by 'hts w (by decide +kernel)'), the script of L ints xs at the cell b, what the Statement gives of the start (any of its parts by flat_of_before) -/
def lw_At (p : Program) (s : State) (m : MethodId) (meth : Method) (c : Code) (b L : Nat) (xs : Nat → Int32) : Prop :=
  p.tables.exec = Jvm.exec ∧ c.code = code ∧ meth.sig.returnType = ret ∧ c.maxLocals = 5 ∧ s.vm.findClass R_law = some m.cls ∧ (∀ w ∈ lw_tbl, w.before #[Value.ref b] s = true) ∧ va_X b L xs s s.heap ∧ b < s.heap.size ∧ meth.locks = false ∧ (Jvm.Cond.and given_1 narrow_1).before #[Value.ref b] s = true
theorem lw_LX {p : Program} {s : State} {m : MethodId} {meth : Method} {c : Code} {b L : Nat} {xs : Nat → Int32} (C0 : lw_At p s m meth c b L xs) : ∃ (D : va_G) (ck : Nat → ClassId) (tt : Nat → Nat), LX p s m meth c b L xs D ck tt := by
  obtain ⟨hx, hb, hr, hml, hown, hts, hX, hbl, hlocks, hgv⟩ := C0
  obtain ⟨D, ck, hK⟩ := lw_K hts
  have hs := flat_of_before _ hgv
  have hA : ∀ a : Nat, a < s.heap.size → ¬ (fun q => s.heap.size ≤ q) a := fun a h => Nat.not_le.mpr h
  obtain ⟨t0, l1, l2⟩ := lw_four (tm := .static RX4 "LOWEST" "[I") (g := loF) (A := fun q => s.heap.size ≤ q) (hs _ (by decide +kernel)) (hs _ (by decide +kernel)) (hs _ (by decide +kernel)) (hs _ (by decide +kernel)) (hs _ (by decide +kernel)) (hs _ (by decide +kernel)) hA
  obtain ⟨t1, m1, m2⟩ := lw_four (tm := .static RX4 "HIGHEST" "[I") (g := hiF) (A := fun q => s.heap.size ≤ q) (hs _ (by decide +kernel)) (hs _ (by decide +kernel)) (hs _ (by decide +kernel)) (hs _ (by decide +kernel)) (hs _ (by decide +kernel)) (hs _ (by decide +kernel)) hA
  obtain ⟨t2, n1, n2⟩ := lw_four (tm := .static RX4 "FIRST" "[I") (g := fiF) (A := fun q => s.heap.size ≤ q) (hs _ (by decide +kernel)) (hs _ (by decide +kernel)) (hs _ (by decide +kernel)) (hs _ (by decide +kernel)) (hs _ (by decide +kernel)) (hs _ (by decide +kernel)) hA
  have hini := hts (.initialized RX4) (by decide +kernel)
  have z0 := va_Zof (hts (.laysStatic RX4 "LOWEST" "[I") (by decide +kernel)) hini l1 hA
  have z1 := va_Zof (hts (.laysStatic RX4 "HIGHEST" "[I") (by decide +kernel)) hini m1 hA
  have z2 := va_Zof (hts (.laysStatic RX4 "FIRST" "[I") (by decide +kernel)) hini n1 hA
  have hf := lw_fst n1 n2 (hs _ (by decide +kernel)) (hs _ (by decide +kernel))
  exact ⟨D, ck, fun k => match k with | 0 => t0 | 1 => t1 | _ => t2, hx, hb, hr, hml, hown, fun w hw => hts w (wsL_law_in w hw), hX, hbl, hlocks, lw_N hts, hK, ⟨z2, hf, va_Nw.of rfl (hts _ (by decide +kernel)), va_AO.of (hts _ (by decide +kernel)), va_AO.of (hts _ (by decide +kernel))⟩, ⟨z0, l2⟩, ⟨z1, m2⟩, z2, n2⟩
