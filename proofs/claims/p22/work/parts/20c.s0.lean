/-! ===== the history and the class: their cells ===== -/
abbrev HS3 : Type := Int32 × (Nat → Nat → Nat) × (Nat → PS)
def rotF {α : Type} (g : Nat → α) : Nat → α := fun i => if i < 3 then g (i + 1) else if i = 3 then g 0 else g i
def hhW (ck : Nat → ClassId) (ha : Nat → Nat) (sz : Int32) (f : Nat → Option Nat) : va_W := [(ha 0, .inr (0, [.ref (ha 1), .int sz])), (ha 1, .inl (ck 3, 4, .inr (.inr (.inr (.inr f)))))]
def pcW (b : Nat → Nat) (vs : Nat → List Value) : va_W := [(b 0, .inr (4, vs 0)), (b 1, .inr (4, vs 1)), (b 2, .inr (4, vs 2)), (b 3, .inr (4, vs 3))]
def histW (ck : Nat → ClassId) (ha : Nat → Nat) (S : HS3) : va_W := hhW ck ha S.1 (fun i => some (S.2.1 i 0)) ++ famW 4 (fun i => poolW ck (S.2.1 i) (S.2.2 i))
theorem arr_rot {b : Nat → Nat} : va_up (va_up (va_up (va_up (fun i => some (b i)) 0 (some (b 1))) 1 (some (b 2))) 2 (some (b 3))) 3 (some (b 0)) = fun i => some (rotF b i) := by
  funext i
  unfold va_up rotF
  by_cases h3 : i = 3
  · subst h3; simp
  · by_cases h2 : i = 2
    · subst h2; simp
    · by_cases h1 : i = 1
      · subst h1; simp
      · by_cases h0 : i = 0
        · subst h0; simp
        · have : ¬ i < 3 := by omega
          simp [h3, h2, h1, h0, this]
section XL
variable {p : Program} {l : Launch} {e : Env} {R : Room} {s : State} {m : MethodId} {args : Array Value} {below : List Frame} {meth : Method} {c : Code} {H : Heap} {locs : List Loc} {cells slots : Nat} {Q : State → Prop}
variable {cc : ByteArray} {pc : Nat} {ls : Array Slot} {rest : List Value} {D : va_G} {cl : List vw_C} {A : Nat → Prop} {a : Nat} {tys : List (ClassId × FieldType)} {ws : va_W} {H0 : Heap}
theorem xastq {i : Int32} {j : Nat} (hij : i.toNatClampNeg = j) (hx : p.tables.exec = Jvm.exec) (hb : c.code = cc) (hK : va_K D cl tys s) (hP : va_P D cl ws H) (hD : va_D A ws) (hS : va_S A H0 H locs) (q0 t0 qk ci : Nat) {cA : ClassId} {r : vw_C} {n v : Nat} {vs : List Value} {f : Nat → Option Nat} (ha : ws[q0]? = some (a, .inl (cA, n, .inr (.inr (.inr (.inr f)))))) (ht : tys[t0]? = some (cA, .object r.1)) (hv : ws[qk]? = some (v, .inr (ci, vs))) (hc : cl[ci]? = some r) (hin : vp_in i n) (hdg : decode cc pc = .ok (.aastore, 1))
    (kk : ∀ (H1 : Heap) (locs1 : List Loc), va_P D cl (ws.set q0 (a, .inl (cA, n, .inr (.inr (.inr (.inr (va_up f j (some v)))))))) H1 → va_D A (ws.set q0 (a, .inl (cA, n, .inr (.inr (.inr (.inr (va_up f j (some v)))))))) → va_S A H0 H1 locs1 → W p l e R s m args below meth c H1 locs1 cells slots Q (F0 m (pc + 1) ls rest)) : W p l e R s m args below meth c H locs cells slots Q (F0 m pc ls (.ref v :: .int i :: .ref a :: rest)) := by
  subst hij
  exact va_astq hx hb hK hP hD hS q0 t0 qk ci ha ht hv hc hin hdg kk
end XL
/-! worlds of blocks, and their order -/
theorem pm_flat {L L' : List va_W} (h : L.Perm L') : (L.flatten).Perm L'.flatten := List.Perm.flatten h
theorem fam4 {g : Nat → va_W} : famW 4 g = g 0 ++ (g 1 ++ (g 2 ++ (g 3 ++ []))) := rfl
theorem pm_rot {g : Nat → va_W} : (g 1 ++ (g 2 ++ (g 3 ++ (g 0 ++ [])))).Perm (g 0 ++ (g 1 ++ (g 2 ++ (g 3 ++ [])))) := by
  refine pm_flat (L := [g 1, g 2, g 3, g 0]) (L' := [g 0, g 1, g 2, g 3]) ?_
  exact List.perm_append_comm (l₁ := [g 1, g 2, g 3]) (l₂ := [g 0])
theorem fam4_rot {ck : Nat → ClassId} {hb : Nat → Nat → Nat} {q : Nat → PS} : (famW 4 (fun i => poolW ck (rotF hb i) (rotF q i))).Perm (famW 4 (fun i => poolW ck (hb i) (q i))) := pm_rot (g := fun i => poolW ck (hb i) (q i))
/-- the cells of the pools themselves, first of each block -/
theorem fam4_heads {c : Nat → Nat × va_E} {r : Nat → va_W} : (famW 4 (fun i => c i :: r i)).Perm ([c 0, c 1, c 2, c 3] ++ famW 4 r) := by
  rw [fam4, fam4]
  have h : ∀ (x : Nat × va_E) (a b w : va_W), b.Perm w → ((x :: a) ++ b).Perm (x :: (a ++ w)) := fun x a b w hb => List.Perm.cons x (List.Perm.append_left a hb)
  have mid : ∀ (x : Nat × va_E) (a b : va_W), (a ++ x :: b).Perm (x :: (a ++ b)) := fun x a b => List.perm_middle
  have e3 : ((c 3 :: r 3) ++ ([] : va_W)).Perm (c 3 :: (r 3 ++ [])) := List.Perm.refl _
  have e2 : ((c 2 :: r 2) ++ ((c 3 :: r 3) ++ [])).Perm (c 2 :: c 3 :: (r 2 ++ (r 3 ++ []))) := List.Perm.cons _ (mid _ _ _)
  have e1 : ((c 1 :: r 1) ++ ((c 2 :: r 2) ++ ((c 3 :: r 3) ++ []))).Perm (c 1 :: c 2 :: c 3 :: (r 1 ++ (r 2 ++ (r 3 ++ [])))) :=
    List.Perm.cons _ ((List.Perm.append_left _ e2).trans ((mid _ _ _).trans (List.Perm.cons _ (mid _ _ _))))
  exact List.Perm.cons _ ((List.Perm.append_left _ e1).trans ((mid _ _ _).trans (List.Perm.cons _ ((mid _ _ _).trans (List.Perm.cons _ (mid _ _ _))))))
def plV (pa : Nat → Nat) (P : PS) : List Value := [.ref (pa 1), .ref (pa 2), .int (P.2.1 0), .int (P.2.1 1), .int (P.2.1 2), .int (P.2.1 3), .int (P.2.1 4)]
def plR (ck : Nat → ClassId) (pa : Nat → Nat) (P : PS) : va_W := [(pa 1, .inl (ck 0, 4, .inl P.1)), (pa 2, .inl (ck 2, 16, .inr (.inr (.inr (.inr (fun i => some (jA pa i)))))))] ++ famW 16 (jsW pa P.2.2)
theorem poolW_eq {ck : Nat → ClassId} {pa : Nat → Nat} {P : PS} : poolW ck pa P = (pa 0, .inr (4, plV pa P)) :: plR ck pa P := rfl
/-- the history, and a pool beside it -/
def hsRest (ck : Nat → ClassId) (S : HS3) (pa : Nat → Nat) (P : PS) : va_W := famW 4 (fun i => plR ck (S.2.1 i) (S.2.2 i)) ++ poolW ck pa P
theorem pm_hd {ck : Nat → ClassId} {ha pa : Nat → Nat} {S : HS3} {P : PS} : (histW ck ha S ++ poolW ck pa P).Perm ((hhW ck ha S.1 (fun i => some ((fun j => S.2.1 j 0) i)) ++ pcW (fun i => S.2.1 i 0) (fun i => plV (S.2.1 i) (S.2.2 i))) ++ hsRest ck S pa P) := by
  unfold histW hsRest
  have h : (famW 4 (fun i => poolW ck (S.2.1 i) (S.2.2 i))).Perm (pcW (fun i => S.2.1 i 0) (fun i => plV (S.2.1 i) (S.2.2 i)) ++ famW 4 (fun i => plR ck (S.2.1 i) (S.2.2 i))) := fam4_heads (c := fun i => (S.2.1 i 0, .inr (4, plV (S.2.1 i) (S.2.2 i)))) (r := fun i => plR ck (S.2.1 i) (S.2.2 i))
  rw [List.append_assoc, List.append_assoc]
  refine List.Perm.append_left _ ?_
  rw [← List.append_assoc]
  exact List.Perm.append_right _ h
theorem pm_hd' {ck : Nat → ClassId} {ha pa : Nat → Nat} {S : HS3} {P : PS} {z : Int32} : ((hhW ck ha z (fun i => some (rotF (fun j => S.2.1 j 0) i)) ++ pcW (fun i => S.2.1 i 0) (fun i => plV (S.2.1 i) (S.2.2 i))) ++ hsRest ck S pa P).Perm (histW ck ha (z, rotF S.2.1, rotF S.2.2) ++ poolW ck pa P) := by
  have e : (fun i => some (rotF (fun j => S.2.1 j 0) i)) = fun i => some ((rotF S.2.1) i 0) := by
    funext i
    unfold rotF
    (repeat' split) <;> rfl
  have h : (famW 4 (fun i => poolW ck (S.2.1 i) (S.2.2 i))).Perm (pcW (fun i => S.2.1 i 0) (fun i => plV (S.2.1 i) (S.2.2 i)) ++ famW 4 (fun i => plR ck (S.2.1 i) (S.2.2 i))) := fam4_heads (c := fun i => (S.2.1 i 0, .inr (4, plV (S.2.1 i) (S.2.2 i)))) (r := fun i => plR ck (S.2.1 i) (S.2.2 i))
  unfold histW hsRest
  rw [e, List.append_assoc, List.append_assoc]
  refine List.Perm.append_left _ ?_
  rw [← List.append_assoc]
  exact List.Perm.append_right _ (h.symm.trans (fam4_rot (hb := S.2.1) (q := S.2.2)).symm)
def hRest (ck : Nat → ClassId) (ha : Nat → Nat) (S : HS3) (j : Nat) : va_W := hhW ck ha S.1 (fun i => some (S.2.1 i 0)) ++ famX 4 (fun i => poolW ck (S.2.1 i) (S.2.2 i)) j
theorem pm_hO {ck : Nat → ClassId} {ha : Nat → Nat} {S : HS3} {j : Nat} (hj : j < 4) : (histW ck ha S).Perm (poolW ck (S.2.1 j) (S.2.2 j) ++ hRest ck ha S j) := fam_out (g := fun i => poolW ck (S.2.1 i) (S.2.2 i)) hj
theorem pm_hI {ck : Nat → ClassId} {ha : Nat → Nat} {S : HS3} {j : Nat} {q : PS} (hj : j < 4) : (poolW ck (S.2.1 j) q ++ hRest ck ha S j).Perm (histW ck ha (S.1, S.2.1, va_up S.2.2 j q)) := by
  have h := fam_in (n := 4) (j := j) (g := fun i => poolW ck (S.2.1 i) (S.2.2 i)) (g' := fun i => poolW ck (S.2.1 i) (va_up S.2.2 j q i)) (hd := hhW ck ha S.1 (fun i => some (S.2.1 i 0))) hj (fun i _ hi => by unfold va_up; rw [if_neg hi])
  have e : poolW ck (S.2.1 j) (va_up S.2.2 j q j) = poolW ck (S.2.1 j) q := by unfold va_up; rw [if_pos rfl]
  have h : (poolW ck (S.2.1 j) (va_up S.2.2 j q j) ++ hRest ck ha S j).Perm (histW ck ha (S.1, S.2.1, va_up S.2.2 j q)) := h
  rw [e] at h
  exact h
theorem pm_a3 {a b c : va_W} : ((a ++ b) ++ c).Perm ((a ++ c) ++ b) := by
  rw [List.append_assoc, List.append_assoc]
  exact List.Perm.append_left a List.perm_append_comm
theorem pm_hj {ck : Nat → ClassId} {ha pa : Nat → Nat} {S : HS3} {P : PS} {j : Nat} (hj : j < 4) : (histW ck ha S ++ poolW ck pa P).Perm (twoW ck (S.2.1 j) pa (S.2.2 j) P ++ hRest ck ha S j) :=
  (List.Perm.append_right _ (pm_hO hj)).trans (pm_a3.trans (List.Perm.append_right _ pm_two.symm))
theorem pm_hj' {ck : Nat → ClassId} {ha pa : Nat → Nat} {S : HS3} {P : PS} {j : Nat} {q : PS} (hj : j < 4) : (twoW ck (S.2.1 j) pa q P ++ hRest ck ha S j).Perm (histW ck ha (S.1, S.2.1, va_up S.2.2 j q) ++ poolW ck pa P) :=
  (List.Perm.append_right _ pm_two).trans (pm_a3.trans (List.Perm.append_right _ (pm_hI hj)))
theorem pm_hk {ck : Nat → ClassId} {ha pa : Nat → Nat} {S : HS3} {P : PS} {j : Nat} (hj : j < 4) : (histW ck ha S ++ poolW ck pa P).Perm (twoW ck pa (S.2.1 j) P (S.2.2 j) ++ hRest ck ha S j) :=
  (List.Perm.append_right _ (pm_hO hj)).trans (pm_a3.trans (List.Perm.append_right _ (List.perm_append_comm.trans pm_two.symm)))
theorem pm_hk' {ck : Nat → ClassId} {ha pa : Nat → Nat} {S : HS3} {P : PS} {j : Nat} (hj : j < 4) : (twoW ck pa (S.2.1 j) P (S.2.2 j) ++ hRest ck ha S j).Perm (histW ck ha S ++ poolW ck pa P) := (pm_hk hj).symm
