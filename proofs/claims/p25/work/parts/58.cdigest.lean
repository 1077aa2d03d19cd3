/-! the class: digest -/
theorem Rch_z {z z' : Int → Int} {L : Int} {A : Int → Bool} {s k : Int} (h : ∀ k, 0 ≤ k → k < 160 → z k = z' k) (g : Rch z L A s k) : Rch z' L A s k := fun X h1 h2 => g X h1 (fun i j g1 i0 i1 j0 j1 ga gs gl => h2 i j g1 i0 i1 j0 j1 ga gs (by rw [← h i i0 i1, ← h j j0 j1]; exact gl))
theorem Rch_ze {z z' : Int → Int} {L : Int} (h : ∀ k, 0 ≤ k → k < 160 → z k = z' k) : Rch z L = Rch z' L := by
  funext A s k
  exact propext ⟨Rch_z h, Rch_z (fun k k0 k1 => (h k k0 k1).symm)⟩
theorem aP_z {z z' : Int → Int} {f L a : Int} (h : ∀ k, 0 ≤ k → k < 160 → z k = z' k) (hf : 0 ≤ f ∧ f < 160) : ∀ k, 0 ≤ k → k < 160 → (aP z f L a k ↔ aP z' f L a k) := by
  intro k k0 k1
  unfold aP
  rw [h k k0 k1, h f hf.1 hf.2, Rch_ze h]
theorem arN_z {z z' : Int → Int} {f l a g r : Int} (h : ∀ k, 0 ≤ k → k < 160 → z k = z' k) (hf : 0 ≤ f ∧ f < 160) : arN z f l a g r → arN z' f l a g r := by
  rintro ⟨u, A, h1, h2, h3⟩
  exact ⟨u, A, wiA_c (aP_z h hf) h1, fun k k0 k1 => (h2 k k0 k1).trans (arA_c (aP_z h hf) h1.1), h3⟩
theorem arN_u {z : Int → Int} {f l a g r r' : Int} (h : arN z f l a g r) (h' : arN z f l a g r') : r = r' := by
  obtain ⟨u, A, h1, h2, h3⟩ := h
  obtain ⟨u', A', h1', h2', h3'⟩ := h'
  have e := wiA_u h1 h1'
  subst e
  rw [h3, h3']
  exact isum_c (fun j j0 j1 => by rw [show A j = A' j from Bool.eq_iff_iff.mpr ((h2 j j0 j1).trans (h2' j j0 j1).symm)])
