/-! the reference: areas -/
theorem Rch_c {z : Int → Int} {L : Int} {A A' : Int → Bool} {s k : Int} (h : ∀ j, 0 ≤ j → j < 160 → A j = A' j) : Rch z L A s k ↔ Rch z L A' s k := by
  constructor
  · intro hk X h1 h2
    exact hk X h1 (fun i j g1 g2 g3 g4 g5 g6 => h2 i j g1 g2 g3 g4 g5 (by rw [← h j g4 g5]; exact g6))
  · intro hk X h1 h2
    exact hk X h1 (fun i j g1 g2 g3 g4 g5 g6 => h2 i j g1 g2 g3 g4 g5 (by rw [h j g4 g5]; exact g6))
