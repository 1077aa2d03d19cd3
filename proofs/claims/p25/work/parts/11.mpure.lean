/-! the reference: pure methods -/
abbrev pR (v : Option Value) (w : WD) (sz : Nat) : XQ := fun v' w' sz' => v' = v ∧ w' = w ∧ sz' = sz
theorem bT {p : Prop} [Decidable p] (h : p) : (some (xB true) : Option Value) = some (xB (decide p)) := by rw [decide_eq_true h]
theorem bF {p : Prop} [Decidable p] (h : ¬ p) : (some (xB false) : Option Value) = some (xB (decide p)) := by rw [decide_eq_false h]
theorem bE {x y : Int} (h : x = y) : (some (xI x) : Option Value) = some (xI y) := by rw [h]
abbrev iabs (x : Int) : Int := if x < 0 then -x else x
abbrev stp (c o : Int) : Int := iabs (c % 16 - o % 16) + iabs (c / 16 - o / 16)
abbrev ifar (c o : Int) : Int := if iabs (c / 16 - o / 16) < iabs (c % 16 - o % 16) then iabs (c % 16 - o % 16) else iabs (c / 16 - o / 16)
abbrev iCell (x y : Int) : Prop := (0 ≤ x ∧ x ≤ 15) ∧ (0 ≤ y ∧ y ≤ 9)
abbrev iLies (c q w : Int) : Prop := (0 ≤ c % 16 - q % 16 ∧ c % 16 - q % 16 ≤ w) ∧ (0 ≤ c / 16 - q / 16 ∧ c / 16 - q / 16 ≤ w)
