/-! ===== the reference's whole state: parts of its world ===== -/
theorem pm_ix {ws : va_W} (d : Nat × va_E) (is : List Nat) (h : (List.range ws.length).Perm is) : ws.Perm (is.map (fun i => ws.getD i d)) := by
  have e : ws = (List.range ws.length).map (fun i => ws.getD i d) := by
    apply List.ext_getElem?
    intro i
    rw [List.getElem?_map]
    by_cases hi : i < ws.length
    · rw [List.getElem?_range hi, List.getElem?_eq_getElem hi]
      simp [hi]
    · rw [List.getElem?_eq_none (by omega), List.getElem?_eq_none (by simp; omega)]
      rfl
  exact (by rw [← e] : ws.Perm ((List.range ws.length).map (fun i => ws.getD i d))).trans (h.map _)
def restW (ck : Nat → ClassId) (ma : Nat → Nat) (Z : MS) : va_W := [rowW ck (ma 2) 153 Z.2.2.1, rowW ck (ma 3) 153 Z.2.2.2.1, rowW ck (ma 4) 612 Z.2.2.2.2.1, rowW ck (ma 5) 153 Z.2.2.2.2.2.1, rowW ck (ma 6) 60 Z.2.2.2.2.2.2.1, rowW ck (ma 7) 60 Z.2.2.2.2.2.2.2]
theorem pm_core {ck : Nat → ClassId} {ma : Nat → Nat} (Z : MS) : (modW ck ma Z).Perm (coreW ck ma Z.1 Z.2.1 ++ restW ck ma Z) := List.Perm.refl _
theorem pm_core' {ck : Nat → ClassId} {ma : Nat → Nat} (Z : MS) {f : FS} : (coreW ck ma Z.1 f ++ restW ck ma Z).Perm (modW ck ma (Z.1, f, Z.2.2)) := List.Perm.refl _
def dumC : Nat × va_E := (0, .inr (0, []))
def rest5 (ck : Nat → ClassId) (ma : Nat → Nat) (Z : MS) : va_W := [rowW ck (ma 1) 153 Z.2.1, rowW ck (ma 2) 153 Z.2.2.1, rowW ck (ma 3) 153 Z.2.2.2.1, rowW ck (ma 4) 612 Z.2.2.2.2.1, rowW ck (ma 5) 153 Z.2.2.2.2.2.1]
theorem pm_mtx {ck : Nat → ClassId} {ma : Nat → Nat} (Z : MS) : (modW ck ma Z).Perm (mtxW ck ma (Z.1, Z.2.2.2.2.2.2.1, Z.2.2.2.2.2.2.2) ++ rest5 ck ma Z) := pm_ix dumC [0, 6, 7, 1, 2, 3, 4, 5] (show (List.range 8).Perm [0, 6, 7, 1, 2, 3, 4, 5] by decide)
theorem pm_mtx' {ck : Nat → ClassId} {ma : Nat → Nat} (Z : MS) {Y : FS × FS × FS} : (mtxW ck ma Y ++ rest5 ck ma Z).Perm (modW ck ma (Y.1, Z.2.1, Z.2.2.1, Z.2.2.2.1, Z.2.2.2.2.1, Z.2.2.2.2.2.1, Y.2.1, Y.2.2)) := pm_ix dumC [0, 3, 4, 5, 6, 7, 1, 2] (show (List.range 8).Perm [0, 3, 4, 5, 6, 7, 1, 2] by decide)
/-- two rows of 153 out of the eight cells, the first of them read, the second written -/
def restR (ck : Nat → ClassId) (ma : Nat → Nat) (Z : MS) (is : List Nat) : va_W := is.map (fun i => (modW ck ma Z).getD i dumC)
theorem pm_12 {ck : Nat → ClassId} {ma : Nat → Nat} (Z : MS) : (modW ck ma Z).Perm (twoR ck (ma 1) (ma 2) Z.2.1 Z.2.2.1 ++ restR ck ma Z [0, 3, 4, 5, 6, 7]) := pm_ix dumC [1, 2, 0, 3, 4, 5, 6, 7] (show (List.range 8).Perm _ by decide)
theorem pm_12' {ck : Nat → ClassId} {ma : Nat → Nat} (Z : MS) {g : FS} : (twoR ck (ma 1) (ma 2) Z.2.1 g ++ restR ck ma Z [0, 3, 4, 5, 6, 7]).Perm (modW ck ma (Z.1, Z.2.1, g, Z.2.2.2)) := pm_ix dumC [2, 0, 1, 3, 4, 5, 6, 7] (show (List.range 8).Perm _ by decide)
theorem pm_13 {ck : Nat → ClassId} {ma : Nat → Nat} (Z : MS) : (modW ck ma Z).Perm (twoR ck (ma 1) (ma 3) Z.2.1 Z.2.2.2.1 ++ restR ck ma Z [0, 2, 4, 5, 6, 7]) := pm_ix dumC [1, 3, 0, 2, 4, 5, 6, 7] (show (List.range 8).Perm _ by decide)
theorem pm_13' {ck : Nat → ClassId} {ma : Nat → Nat} (Z : MS) {g : FS} : (twoR ck (ma 1) (ma 3) Z.2.1 g ++ restR ck ma Z [0, 2, 4, 5, 6, 7]).Perm (modW ck ma (Z.1, Z.2.1, Z.2.2.1, g, Z.2.2.2.2)) := pm_ix dumC [2, 0, 3, 1, 4, 5, 6, 7] (show (List.range 8).Perm _ by decide)
theorem pm_31 {ck : Nat → ClassId} {ma : Nat → Nat} (Z : MS) : (modW ck ma Z).Perm (twoR ck (ma 3) (ma 1) Z.2.2.2.1 Z.2.1 ++ restR ck ma Z [0, 2, 4, 5, 6, 7]) := pm_ix dumC [3, 1, 0, 2, 4, 5, 6, 7] (show (List.range 8).Perm _ by decide)
theorem pm_31' {ck : Nat → ClassId} {ma : Nat → Nat} (Z : MS) {g : FS} : (twoR ck (ma 3) (ma 1) Z.2.2.2.1 g ++ restR ck ma Z [0, 2, 4, 5, 6, 7]).Perm (modW ck ma (Z.1, g, Z.2.2)) := pm_ix dumC [2, 1, 3, 0, 4, 5, 6, 7] (show (List.range 8).Perm _ by decide)
theorem pm_15 {ck : Nat → ClassId} {ma : Nat → Nat} (Z : MS) : (modW ck ma Z).Perm (twoR ck (ma 1) (ma 5) Z.2.1 Z.2.2.2.2.2.1 ++ restR ck ma Z [0, 2, 3, 4, 6, 7]) := pm_ix dumC [1, 5, 0, 2, 3, 4, 6, 7] (show (List.range 8).Perm _ by decide)
theorem pm_15' {ck : Nat → ClassId} {ma : Nat → Nat} (Z : MS) {g : FS} : (twoR ck (ma 1) (ma 5) Z.2.1 g ++ restR ck ma Z [0, 2, 3, 4, 6, 7]).Perm (modW ck ma (Z.1, Z.2.1, Z.2.2.1, Z.2.2.2.1, Z.2.2.2.2.1, g, Z.2.2.2.2.2.2)) := pm_ix dumC [2, 0, 3, 4, 5, 1, 6, 7] (show (List.range 8).Perm _ by decide)
theorem pm_51 {ck : Nat → ClassId} {ma : Nat → Nat} (Z : MS) : (modW ck ma Z).Perm (twoR ck (ma 5) (ma 1) Z.2.2.2.2.2.1 Z.2.1 ++ restR ck ma Z [0, 2, 3, 4, 6, 7]) := pm_ix dumC [5, 1, 0, 2, 3, 4, 6, 7] (show (List.range 8).Perm _ by decide)
theorem pm_51' {ck : Nat → ClassId} {ma : Nat → Nat} (Z : MS) {g : FS} : (twoR ck (ma 5) (ma 1) Z.2.2.2.2.2.1 g ++ restR ck ma Z [0, 2, 3, 4, 6, 7]).Perm (modW ck ma (Z.1, g, Z.2.2)) := pm_ix dumC [2, 1, 3, 4, 5, 0, 6, 7] (show (List.range 8).Perm _ by decide)
