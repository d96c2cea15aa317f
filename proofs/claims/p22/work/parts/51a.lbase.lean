/-! ===== contracts whose answer and world hang on something that is only known to be there ===== -/
abbrev xQe (D : va_G) {α : Type} (w : va_W) (w' : α → va_W) (Ok : α → Prop) (rv : α → Int32) (sz : Nat) : Array Value → State → Outcome → State → Prop := va_Qi (fun r (u : α) => r = rv u ∧ Ok u) (fun u t => xPost D w (w' u) sz t) (va_A w sz)
abbrev xMe (l : Launch) (y : MethodName) (ws : List Cond) (rm : Room) (D : va_G) (k : Nat → ClassId) (vs : List Value) {α : Type} (w : va_W) (w' : α → va_W) (Ok : α → Prop) (rv : α → Int32) (mc ms : Nat) : Prop := ∀ sz, Met l y ws rm (va_Pc vs (xPre D k w sz)) (xQe D w w' Ok rv sz) mc ms (va_A w sz)
abbrev xMeZ (tt : Nat → Nat) (l : Launch) (y : MethodName) (ws : List Cond) (rm : Room) (D : va_G) (k : Nat → ClassId) (vs : List Value) {α : Type} (w : va_W) (w' : α → va_W) (Ok : α → Prop) (rv : α → Int32) (mc ms : Nat) : Prop := ∀ sz, Met l y ws rm (va_Pc vs (xPreZ tt D k w sz)) (xQe D w w' Ok rv sz) mc ms (va_A w sz)
/-- a start that reads the law's script -/
def xPreX (b L : Nat) (xs : Nat → Int32) (D : va_G) (k : Nat → ClassId) (w : va_W) (sz : Nat) (U : State) : Prop := xPre D k w sz U ∧ va_X b L xs U U.heap ∧ b < U.heap.size ∧ ¬ va_A w sz b
theorem xblindX {b L : Nat} {xs : Nat → Int32} {D : va_G} {k : Nat → ClassId} {w : va_W} {sz : Nat} {vs : List Value} : FrameBlind (va_Pc vs (xPreX b L xs D k w sz)) := by
  intro a U g mk q
  obtain ⟨q0, ⟨q1, q2, q3, q4, q5⟩, q6, q7, q8⟩ := q
  exact ⟨q0, ⟨q1, q2, va_K.moved (u := U) (U := U.calling g mk a) (Vm.Alike.refl U.vm) q3, q4, q5.calling g mk a⟩, va_X.moved (u := U) (U := U.calling g mk a) (Vm.Alike.refl U.vm) q6, q7, q8⟩
theorem xpreSX {b L : Nat} {xs : Nat → Int32} {s : State} {H : Heap} {locs : List Loc} {D : va_G} {k : Nat → ClassId} {A0 : Nat → Prop} {ws wc wr : va_W} {As : List Value} (hX : va_X b L xs s s.heap) (hbl : b < s.heap.size) (hbA : ¬ A0 b) (hS : va_S A0 s.heap H locs) (hA : ∀ q, s.heap.size ≤ q → A0 q) (hN : xN s) (hK : va_K D vwCl (xT k) s) (hP : va_P D vwCl ws H) (hD : va_D A0 ws) (hp : ws.Perm (wc ++ wr)) : PreS s H (va_Pc As (xPreX b L xs D k wc H.size)) As := by
  have hPc : va_P D vwCl wc H := xP_iff.mpr fun q hq => xP_iff.mp (xP_perm hp hP) q (List.mem_append_left _ hq)
  have hDc : va_D (fun _ => True) wc := xD_iff.mpr ⟨(List.pairwise_append.mp (xD_iff.mp (xD_perm hp hD)).1).1, fun _ _ => trivial⟩
  have hF := xfree hD hS hA hp
  have hXH : va_X b L xs s H := hX.kept (hS.2.1 b hbl hbA)
  have hbH : b < H.size := Nat.lt_of_lt_of_le hbl hS.1
  exact ⟨xblindX, fun U hU hW => ⟨rfl, ⟨by rw [hU], by rw [hU]; exact hPc, va_K.moved hW.alike hK, hDc, hN.warm hW⟩, by rw [hU]; exact hXH.moved hW.alike, by rw [hU]; exact hbH, fun h => hbA (hF b h)⟩⟩
theorem xMetX {b L : Nat} {xs : Nat → Int32} {l : Launch} {y : MethodName} {ws ws0 : List Cond} {rm : Room} {cc : ByteArray} {maxL : Nat} {ret : Option FieldType} {D : va_G} {k : Nat → ClassId} {w : va_W} {mc ms : Nat} {vs : List Value} {Qc : Nat → Array Value → State → Outcome → State → Prop}
    (hy : plainName y.cls = true) (hw : ws = Cond.code y cc maxL ret :: ws0) (hvs : (lg_sl vs).length ≤ maxL)
    (body : ∀ (p : Program) (e : Env) (s : State) (m : MethodId) (below : List Frame) (meth : Method) (c : Code), p.tables.exec = Jvm.exec → c.code = cc → meth.sig.returnType = ret → c.maxLocals = maxL → s.vm.findClass y.cls = some m.cls → (∀ w ∈ ws, w.before vs.toArray s = true) → meth.locks = false → meth.name = y.name →
      xN s → va_K D vwCl (xT k) s → va_P D vwCl w s.heap → va_D (va_A w s.heap.size) w → (va_X b L xs s s.heap ∧ b < s.heap.size ∧ ¬ va_A w s.heap.size b) → ∀ ls : Array Slot, lv_has ls maxL (lv_args 0 vs) →
      W p l e rm s m vs.toArray below meth c s.heap [] 0 0 (MQ below (Qc s.heap.size) vs.toArray s mc ms (va_A w s.heap.size)) (F0 m 0 ls [])) : ∀ sz, Met l y ws rm (va_Pc vs (xPreX b L xs D k w sz)) (Qc sz) mc ms (va_A w sz) := by
  intro sz
  refine Met.ofW (cc := cc) (maxL := maxL) (ret := ret) hy hw ?_
  intro p e s m args below meth c s₁ B hml hv
  obtain ⟨rfl, ⟨hsz, hP, hK, hD0, hN⟩, hX⟩ := hv
  subst hsz
  have hl := lv_entry vs (n := maxL) hvs
  rw [lg_entry_eq]
  exact body p e s m below meth c B.exec B.bytes B.returns hml (findClass_of_methodNamed B.named) (atoms_spec (ws := ws) B.pre) B.notSynchronized (name_of_methodNamed B.named B.method).1 hN hK hP hD0.self hX _ hl
section XE
variable {p : Program} {l : Launch} {e : Env} {R : Room} {s : State} {m : MethodId} {args : Array Value} {below : List Frame} {meth : Method} {c : Code} {H : Heap} {locs : List Loc} {cells slots mc ms : Nat} {Q : State → Prop}
variable {cc : ByteArray} {pc : Nat} {ls : Array Slot} {st0 rest : List Value} {a : Array Value} {D : va_G} {A0 : Nat → Prop} {ws wc wr w : va_W}
theorem xrete {α : Type} {Ok : α → Prop} {rv : α → Int32} {wu wsu : α → va_W} (hr : va_Run p l e R s m args below meth c H locs cells slots mc ms (F0 m pc ls st0) rest (xQe D wc wu Ok rv H.size a) (va_A wc H.size)) (hP : va_P D vwCl ws H) (hD : va_D A0 ws) (hS : va_S A0 s.heap H locs) (hA : ∀ q, s.heap.size ≤ q → A0 q)
    (hp : ws.Perm (wc ++ wr)) (hp' : ∀ u, (wu u ++ wr).Perm (wsu u)) (kk : ∀ (u : α), Ok u → ∀ (H1 : Heap) (locs1 : List Loc), va_P D vwCl (wsu u) H1 → va_D A0 (wsu u) → va_S A0 s.heap H1 locs1 → W p l e R s m args below meth c H1 locs1 (cells + mc) (slots + ms) Q (F0 m (pc + 3) ls (.int (rv u) :: rest))) : W p l e R s m args below meth c H locs cells slots Q (F0 m pc ls st0) := by
  have hF := xfree hD hS hA hp
  refine va_calli hr hS (fun q _ h => hF q h) hF (fun r u t H1 locs1 ht _ hw hB _ hk1 hS1 => ?_)
  obtain ⟨hw, hu⟩ := hw
  subst hw
  subst ht
  obtain ⟨h1, h2⟩ := xjoin hP hD hp hk1 hF hB.1 hB.2 (hp' u)
  exact kk u hu _ locs1 h1 h2 hS1
theorem xeiret {α : Type} {Ok : α → Prop} {rv : α → Int32} {wu : α → va_W} {v : Int32} (u : α) (hok : Ok u) (hx : p.tables.exec = Jvm.exec) (hb : c.code = cc) (hr : meth.sig.returnType = some .int) (hlocks : meth.locks = false) (hP : va_P D vwCl ws H) (hD : va_D (va_A w s.heap.size) ws) (hS : va_S (va_A w s.heap.size) s.heap H locs) (hv : v = rv u) (hw : ws = wu u)
    (hdg : decode cc pc = .ok (.ireturn, 1)) : W p l e R s m args below meth c H locs cells slots (MQ below (xQe D w wu Ok rv s.heap.size) args s cells slots (va_A w s.heap.size)) (F0 m pc ls [.int v]) := by
  subst hv; subst hw
  exact W.iret hx hb hr (fun t ht hW => ⟨⟨_, u, rfl, ⟨rfl, hok⟩, by rw [ht]; exact hP, hD⟩, hS.F ht⟩) hS.2.2 hdg hlocks
theorem xezret {α : Type} {Ok : α → Prop} {rv : α → Int32} {wu : α → va_W} {v : Int32} (u : α) (hok : Ok u) (hx : p.tables.exec = Jvm.exec) (hb : c.code = cc) (hr : meth.sig.returnType = some .boolean) (hlocks : meth.locks = false) (hP : va_P D vwCl ws H) (hD : va_D (va_A w s.heap.size) ws) (hS : va_S (va_A w s.heap.size) s.heap H locs) (h01 : v = 0 ∨ v = 1) (hv : v = rv u) (hw : ws = wu u)
    (hdg : decode cc pc = .ok (.ireturn, 1)) : W p l e R s m args below meth c H locs cells slots (MQ below (xQe D w wu Ok rv s.heap.size) args s cells slots (va_A w s.heap.size)) (F0 m pc ls [.int v]) := by
  subst hv; subst hw
  exact W.zret hx hb hr (xnarrow h01) (fun t ht hW => ⟨⟨_, u, rfl, ⟨rfl, hok⟩, by rw [ht]; exact hP, hD⟩, hS.F ht⟩) hS.2.2 hdg hlocks
end XE
/-! ===== numbers of the script ===== -/
def rmL_cell : Room := { frames := 0, cells := 0, slots := 0, locals := 0 }
set_option maxHeartbeats 4000000 in
set_option maxRecDepth 100000 in
theorem mL_cell (l : Launch) (D : va_G) (ck : Nat → ClassId) {b L : Nat} {xs : Nat → Int32} (i : Nat) (hi : i < 2 ^ 31) (hL : L < 2 ^ 31) : ∀ sz, Met l yL_cell wsL_cell rmL_cell (va_Pc [.ref b, .int (nI i)] (xPreX b L xs D ck [] sz)) (xQe D [] (fun _ : Int32 => []) (fun _ => True) (fun u => u) sz) 0 0 (va_A [] sz) := by
  refine xMetX (by decide) rfl (Nat.le_of_ble_eq_true rfl) ?_
  intro zp ze s zm zb zt zc hx hb hr hml hown hts hlk hnm hN hK hP hD hXX ls hl
  obtain ⟨hX, hbl, hbA⟩ := hXX
  have hown : s.vm.findClass RL = some zm.cls := hown
  have hl : lv_has ls 2 [(0, .ref b), (1, .int (nI i))] := hl
  have hS : va_S (va_A [] s.heap.size) s.heap s.heap [] := va_S.rf
  refine lv_iload_n hx hb dL_cell_0 rfl (lv_at hl 1 rfl) ?_
  refine lv_aload_n hx hb dL_cell_1 rfl (lv_at hl 0 rfl) ?_
  refine va_slen hx hb hX hbl hbA hS dL_cell_2 ?_
  refine lv_icmp_ge (tgt := 12) hx hb dL_cell_3 (by decide) (fun c_3 => ?_) (fun c_3 => ?_)
  · refine lv_ldc (v := 2113250241) hx hb hown (hts (.constant RL 7 (2113250241)) (List.mem_of_getElem? (i := 1) rfl)) dL_cell_12 ?_
    refine lv_iload_n hx hb dL_cell_14 rfl (lv_at hl 1 rfl) ?_
    refine lv_sipush (v := 1163) hx hb dL_cell_15 (by decide) ?_
    refine lv_iadd hx hb dL_cell_18 ?_
    refine lv_imul hx hb dL_cell_19 ?_
    exact xeiret (2113250241 * (nI i + 1163)) trivial hx hb hr hlk hP hD hS rfl rfl dL_cell_20
  · refine lv_aload_n hx hb dL_cell_6 rfl (lv_at hl 0 rfl) ?_
    refine lv_iload_n hx hb dL_cell_7 rfl (lv_at hl 1 rfl) ?_
    have hiL : i < L := by
      rcases Nat.lt_or_ge i L with h | h
      · exact h
      · exact absurd (nI_le h hi) c_3
    refine va_sld hx hb hX hbl hbA hS (vp_in_nI hiL hL) dL_cell_8 ?_
    refine lv_goto (tgt := 20) hx hb dL_cell_9 (by decide) ?_
    exact xeiret (xs (nI i).toNatClampNeg) trivial hx hb hr hlk hP hD hS rfl rfl dL_cell_20
/-- a number from 0 to n - 1 -/
def upN (v n : Int32) : Int32 := (v &&& 2147483647) - (v &&& 2147483647) / n * n
theorem up_in {v : Int32} {n : Nat} (h0 : 0 < n) (hn : n < 2 ^ 31) : ∃ j : Nat, j < n ∧ upN v (nI n) = nI j := by
  obtain ⟨a, ha, e⟩ := pk_andE v (m := 2147483647) 31 (by decide)
  refine ⟨a % n, Nat.mod_lt _ h0, ?_⟩
  unfold upN
  rw [e]
  exact pk_rem (by omega) h0 hn
def rmL_up : Room := { frames := 0, cells := 0, slots := 0, locals := 0 }
set_option maxHeartbeats 4000000 in
set_option maxRecDepth 100000 in
theorem mL_up (l : Launch) (D : va_G) (ck : Nat → ClassId) (v n : Int32) (hn : ¬ n = 0) : xMi l yL_up wsL_up rmL_up D ck [.int v, .int n] [] [] (upN v n) 0 0 := by
  refine xMet (by decide) rfl (Nat.le_of_ble_eq_true rfl) ?_
  intro zp ze s zm zb zt zc hx hb hr hml hown hts hlk hnm hN hK hP hD ls hl
  have hown : s.vm.findClass RL = some zm.cls := hown
  have hl : lv_has ls 2 [(0, .int v), (1, .int n)] := hl
  have hS : va_S (va_A [] s.heap.size) s.heap s.heap [] := va_S.rf
  refine lv_iload_n hx hb dL_up_0 rfl (lv_at hl 0 rfl) ?_
  refine lv_ldc (v := 2147483647) hx hb hown (hts (.constant RL 8 (2147483647)) (List.mem_of_getElem? (i := 1) rfl)) dL_up_1 ?_
  refine lv_iand hx hb dL_up_3 ?_
  refine lv_iload_n hx hb dL_up_4 rfl (lv_at hl 1 rfl) ?_
  refine lv_irem hx hb dL_up_5 hn ?_
  exact xiret hx hb hr hlk hP hD hS rfl rfl dL_up_6
