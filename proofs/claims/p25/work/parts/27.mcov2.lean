/-! the reference: coverage, mix -/
def covD (z : Int → Int) : UInt64 := FP.ddiv (FP.i2d (Int32.ofInt (isum (imS z) 160))) 4670021707350671360
theorem imS_sum {z : Int → Int} (h : VZ z) : 0 ≤ isum (imS z) 160 ∧ isum (imS z) 160 ≤ 16000 := by
  have := isum_b (f := imS z) (lo := 0) (hi := 100) (k := 160) (by omega) (fun j j0 j1 => imsk_b h ⟨j0, j1⟩ _ h.2.1.1 (Int.le_refl _))
  omega
