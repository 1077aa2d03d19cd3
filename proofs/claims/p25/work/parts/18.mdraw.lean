/-! the reference: draw and fill -/
abbrev idiff (f g : Int → Int) : Int := isum (fun k => if f k ≠ g k then 1 else 0) 160
/-- a state is saved -/
def SavR (P P' : MP) : Prop := P'.2.1 = isv P.2.1 + 1 ∧ Svd P.1 P.2.1 P.2.2.1 P'.2.2.1 ∧ P'.2.2.2 = P.2.2.2
abbrev irect (x y u v k : Int) : Prop := ((x ≤ k % 16 ∧ k % 16 ≤ u) ∨ (u ≤ k % 16 ∧ k % 16 ≤ x)) ∧ ((y ≤ k / 16 ∧ k / 16 ≤ v) ∨ (v ≤ k / 16 ∧ k / 16 ≤ y))
/-- shades as they were up to the places of picks -/
def Rst (z z' : Int → Int) : Prop := ∀ k, 160 ≤ k → k < 2189 → z' k = z k
theorem VZ.rst {z z' : Int → Int} (h : VZ z) (hr : Rst z z') (hs : ∀ k, 0 ≤ k → k < 160 → 0 ≤ z' k ∧ z' k ≤ 99) : VZ z' := by
  have h160 := hr 160 (by omega) (by omega)
  refine ⟨hs, by rw [h160]; exact h.2.1, fun p p0 p1 => ?_⟩
  rw [h160] at p1
  have g := h.2.2 p p0 p1
  have g0 := h.2.1
  refine ⟨?_, ?_, ?_, ?_, ?_, ?_, ?_, ?_, ?_, fun c c0 c1 => ?_⟩
  · rw [hr _ (by omega) (by omega)]; exact g.1
  · rw [hr _ (by omega) (by omega)]; exact g.2.1
  · rw [hr _ (by omega) (by omega)]; exact g.2.2.1
  · rw [hr _ (by omega) (by omega)]; exact g.2.2.2.1
  · rw [hr _ (by omega) (by omega)]; exact g.2.2.2.2.1
  · rw [hr _ (by omega) (by omega)]; exact g.2.2.2.2.2.1
  · rw [hr _ (by omega) (by omega)]; exact g.2.2.2.2.2.2.1
  · rw [hr _ (by omega) (by omega)]; exact g.2.2.2.2.2.2.2.1
  · rw [hr _ (by omega) (by omega)]; exact g.2.2.2.2.2.2.2.2.1
  · rw [hr _ (by omega) (by omega)]; exact g.2.2.2.2.2.2.2.2.2 c c0 c1
/-- a cell's shade behind a fill with s through the level m -/
abbrev ifil (z s m : Int) : Int := z + ((s - z) * m).tdiv 100
theorem ifil_b {z s m : Int} (h1 : 0 ≤ z ∧ z ≤ 99) (h2 : 0 ≤ s ∧ s ≤ 99) (h3 : 0 ≤ m ∧ m ≤ 100) : 0 ≤ ifil z s m ∧ ifil z s m ≤ 99 := by
  unfold ifil
  rcases Int.le_total z s with h | h
  · have e1 : 0 ≤ (s - z) * m := Int.mul_nonneg (by omega) h3.1
    have e2 : (s - z) * m ≤ (s - z) * 100 := Int.mul_le_mul_of_nonneg_left h3.2 (by omega)
    rw [Int.tdiv_eq_ediv_of_nonneg e1]
    omega
  · have e1 : 0 ≤ (z - s) * m := Int.mul_nonneg (by omega) h3.1
    have e2 : (z - s) * m ≤ (z - s) * 100 := Int.mul_le_mul_of_nonneg_left h3.2 (by omega)
    have e3 : (s - z) * m = -((z - s) * m) := by rw [← Int.neg_mul]; congr 1; omega
    rw [e3, Int.neg_tdiv, Int.tdiv_eq_ediv_of_nonneg e1]
    omega
def drawR (P : MP) (x y u v s t r : Int) (P' : MP) : Prop := (¬ (iCell x y ∧ iCell u v) ∧ t = 1 ∧ P' = P) ∨ ((iCell x y ∧ iCell u v) ∧ ¬ (0 ≤ s ∧ s ≤ 99) ∧ t = 2 ∧ P' = P) ∨ ((iCell x y ∧ iCell u v) ∧ (0 ≤ s ∧ s ≤ 99) ∧ t = 0 ∧ SavR P P' ∧ (∀ k, 0 ≤ k → k < 160 → P'.1 k = if irect x y u v k then s else P.1 k) ∧ Rst P.1 P'.1 ∧ r = idiff P'.1 P.1)
def fillR (P : MP) (s t r : Int) (P' : MP) : Prop := (¬ (0 ≤ s ∧ s ≤ 99) ∧ t = 1 ∧ P' = P) ∨ ((0 ≤ s ∧ s ≤ 99) ∧ t = 0 ∧ SavR P P' ∧ (∀ k, 0 ≤ k → k < 160 → P'.1 k = ifil (P.1 k) s (imS P.1 k)) ∧ Rst P.1 P'.1 ∧ r = idiff P'.1 P.1)
