/-! ===== the row at the start ===== -/
abbrev z0 : FS := fun _ => 0
abbrev r0 : FS := upd (upd z0 0 100) 3 10
theorem r0_z {k : Nat} (h : 4 ≤ k) : r0 k = 0 := by
  show (if k = 3 then (10 : Int32) else if k = 0 then 100 else 0) = 0
  rw [if_neg (by omega), if_neg (by omega)]
theorem r0_inv : mInv r0 := by
  refine ⟨⟨by decide, by decide, Or.inl (by decide), Or.inl (by decide), by decide, fun j _ _ k _ => r0_z (by omega)⟩, fun j hj => ?_⟩
  have e : (r0 4).toNatClampNeg = 0 := by decide
  rw [e] at hj
  exact absurd hj (Nat.not_lt_zero j)
theorem r0_P : RP r0 P0 := by
  refine ⟨⟨⟨by decide, by decide, by decide, by decide⟩, by decide, by decide, by decide, by decide, by decide⟩, fun j hj => ?_, fun j _ _ => ⟨rfl, rfl, rfl, rfl, rfl, rfl⟩⟩
  have e : nF r0 = 0 := by decide
  rw [e] at hj
  exact absurd hj (Nat.not_lt_zero j)
theorem LR_0 {hb : Nat → Nat → Nat} : LR (C0 hb) r0 := ⟨⟨r0_P, r0_inv⟩, show hx4 (0 : Int32) from ⟨by decide, by decide⟩⟩
theorem WI_0 : WI r0 0 := by
  have e : nF r0 = 0 := by decide
  have h6 : r0 6 = 0 := r0_z (by decide)
  refine ⟨r0_inv, ⟨fun j hj => ?_, ?_, ?_⟩, fun j hj => ?_, fun j hj => ?_, by rw [h6]; decide, by rw [h6]; decide⟩
  · rw [e] at hj
    exact absurd hj (Nat.not_lt_zero j)
  · have hg : gX6_granted r0 = 0 := by
      rw [granted_eq, show (r0 4).toNatClampNeg = 0 from e]
      rfl
    rw [hg, r0_z (by decide)]
    exact Int.le_refl _
  · unfold gB
    rw [e, r0_z (by decide)]
    rfl
  · rw [e] at hj
    exact absurd hj (Nat.not_lt_zero j)
  · rw [e] at hj
    exact absurd hj (Nat.not_lt_zero j)
