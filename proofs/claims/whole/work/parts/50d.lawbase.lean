/-! ===== the start is the same on both sides; what the law's steps need ===== -/
abbrev r0 : FS := upd (upd z0 0 100) 3 10
theorem r0_z {k : Nat} (h : 4 ≤ k) : r0 k = 0 := by
  show (if k = 3 then (10 : Int32) else if k = 0 then 100 else 0) = 0
  rw [if_neg (by omega), if_neg (by omega)]
theorem r0_inv : mInv r0 := by
  refine ⟨⟨by decide, by decide, Or.inl (by decide), Or.inl (by decide), by decide, fun j _ _ k _ => r0_z (by omega)⟩, fun j hj => ?_⟩
  have e : (r0 4).toNatClampNeg = 0 := by decide
  rw [e] at hj
  exact absurd hj (Nat.not_lt_zero j)
theorem r0_P : RP r0 P0 := by
  refine ⟨⟨⟨by decide, by decide, by decide, by decide⟩, by decide, by decide, by decide, by decide, by decide⟩, fun j hj => ?_, fun j _ _ => ⟨rfl, rfl, rfl, rfl, rfl, rfl⟩⟩
  have e : nF r0 = 0 := by decide
  rw [e] at hj
  exact absurd hj (Nat.not_lt_zero j)
theorem RR_0 {hb : Nat → Nat → Nat} : RR (C0 hb) Z0 := by
  refine ⟨⟨r0_P, r0_inv⟩, ⟨rfl, ⟨by decide, by decide⟩, fun k hk => ?_⟩, ⟨0, rfl, rfl, Nat.zero_le _, fun i hi => absurd hi (Nat.not_lt_zero i)⟩, ⟨rfl, fun h => absurd rfl h⟩⟩
  have e : (Z0.1 0).toNatClampNeg = 0 := by decide
  rw [e] at hk
  exact absurd hk (Nat.not_lt_zero k)
section RRS
variable {C : CS} {Z : MS}
theorem RR_hm (h : RR C Z) : mInv Z.2.1 := h.1.2
theorem RR_hh (h : RR C Z) : hx4 (Z.1 0) := h.2.1.2.1
theorem RR_hz (h : RR C Z) : ¬ C.2.1.1 < 0 := by
  have h1 := h.2.1.1
  have h2 := h.2.1.2.1
  rw [h1] at h2
  unfold hx4 at h2
  rw [x_ilt]
  have : (0 : Int32).toInt = 0 := by decide
  omega
theorem RR_hn (h : RR C Z) : ¬ C.1.2.1 0 < 0 := by
  rw [h.1.1.1.2.1]
  exact h.1.2.1.1.1
theorem RR_ht (h : RR C Z) : ¬ C.2.2.1.1 0 < 0 := by
  obtain ⟨n, h1, -, h3, -⟩ := h.2.2.1
  rw [h1, x_ilt, nI_toInt (by omega)]
  have : (0 : Int32).toInt = 0 := by decide
  omega
theorem RR_hL (h : RR C Z) : 0 ≤ (Z.1 2).toInt ∧ (Z.1 2).toInt ≤ 60 := by
  obtain ⟨n, -, h2, h3, -⟩ := h.2.2.1
  rw [h2, nI_toInt (by omega)]
  omega
end RRS
theorem pm_x {cw m a r : va_W} (h : m.Perm (a ++ r)) : (cw ++ m).Perm (a ++ (r ++ cw)) := by
  rw [← List.append_assoc]
  exact List.perm_append_comm.trans (List.Perm.append_right cw h)
theorem pm_x' {cw m a r : va_W} (h : (a ++ r).Perm m) : (a ++ (r ++ cw)).Perm (cw ++ m) := by
  rw [← List.append_assoc]
  exact (List.Perm.append_right cw h).trans List.perm_append_comm
theorem xs_c {i k : Nat} (h : i + k < 2 ^ 31) : (nI i + nI k).toNatClampNeg = i + k := by
  rw [nI_add]
  exact nI_clamp h
theorem xs_in {i k L : Nat} (h : i + k < L) (hL : L < 2 ^ 31) : vp_in (nI i + nI k) L := by
  rw [nI_add]
  exact vp_in_nI h hL
section XSL
variable {p : Program} {l : Launch} {e : Env} {R : Room} {s : State} {m : MethodId} {args : Array Value} {below : List Frame} {meth : Method} {c : Code} {H : Heap} {locs : List Loc} {cells slots : Nat} {Q : State → Prop}
variable {cc : ByteArray} {pc : Nat} {ls : Array Slot} {rest : List Value} {A : Nat → Prop} {H0 : Heap}
theorem xsld {i : Int32} {j : Nat} (hij : i.toNatClampNeg = j) (hexec : p.tables.exec = Jvm.exec) (hb : c.code = cc) {b L : Nat} {xs : Nat → Int32} (hX : va_X b L xs s H0) (hbl : b < H0.size) (hbA : ¬ A b) (hS : va_S A H0 H locs) (hin : vp_in i L) (hdg : decode cc pc = .ok (.iaload, 1))
    (kk : W p l e R s m args below meth c H locs cells slots Q (F0 m (pc + 1) ls (.int (xs j) :: rest))) : W p l e R s m args below meth c H locs cells slots Q (F0 m pc ls (.int i :: .ref b :: rest)) := by
  subst hij
  exact va_sld hexec hb hX hbl hbA hS hin hdg kk
end XSL
/-- from here, at pc, with the two sides' states, the law comes to its end -/
def LW (p : Program) (l : Launch) (e : Env) (s : State) (m : MethodId) (below : List Frame) (meth : Method) (c : Code) (b : Nat) (D : va_G) (ck : Nat → ClassId) (ca : Nat → Nat → Nat) (ma : Nat → Nat) (i pc : Nat) (C : CS) (Z : MS) : Prop :=
  ∀ (H : Heap) (locs : List Loc) (ls : Array Slot), va_P D vwCl (clW ck ca C ++ modW ck ma Z) H → va_D (fun q => s.heap.size ≤ q) (clW ck ca C ++ modW ck ma Z) → va_S (fun q => s.heap.size ≤ q) s.heap H locs → lv_has ls 4 [(3, .int (nI i)), (2, .ref (ma 0)), (1, .ref (ca 0 0)), (0, .ref b)] → W p l e room_1 s m #[Value.ref b] below meth c H locs 600000 7302250 (lw_Z below #[Value.ref b] s) (F0 m pc ls [])
theorem law_gt {i L : Nat} (hi : i ≤ 2565) (hL : L ≤ 2560) : Int32.ofNat L - 5 < nI i ↔ L < i + 5 := by
  have e5 : (5 : Int32).toInt = 5 := by decide
  have eL : (Int32.ofNat L).toInt = (L : Int) := nI_toInt (n := L) (by omega)
  have e : (Int32.ofNat L - 5).toInt = (L : Int) - 5 := by
    rw [Int32.toInt_sub, eL, e5]
    exact Int.bmod_eq_of_le (by omega) (by omega)
  rw [x_ilt, e, nI_toInt (by omega)]
  omega
