/-! what a run of calls keeps -/
theorem VZ.c {z f : Int → Int} (h : VZ z) (e : ∀ k, 0 ≤ k → k < 2189 → f k = z k) : VZ f := h.mv (m := fun q => q) (fun q a b => ⟨a, b⟩) ⟨fun j j0 j1 => e j j0 (by omega), fun q i q0 q1 i0 i1 => e _ (by omega) (by omega)⟩
def MInv (P : MP) : Prop := VZ P.1 ∧ (0 ≤ P.2.1 ∧ P.2.1 ≤ 6) ∧ (∀ i, 0 ≤ i → i < P.2.1 → VZ (fun k => P.2.2.1 (2189 * i + k))) ∧ VT P
theorem svd_inv {z sv S : Int → Int} {s : Int} (hz : VZ z) (hs : 0 ≤ s ∧ s ≤ 6) (hv : ∀ i, 0 ≤ i → i < s → VZ (fun k => sv (2189 * i + k))) (h : Svd z s sv S) : ∀ i, 0 ≤ i → i < isv s + 1 → VZ (fun k => S (2189 * i + k)) := by
  intro i i0 i1
  have hb : 0 ≤ isv s ∧ isv s ≤ 5 ∧ (s ≠ 6 → isv s = s) ∧ (s = 6 → isv s = 5) := by unfold isv; omega
  by_cases e : i = isv s
  · rw [e]
    exact hz.c (fun k k0 k1 => h.1 k k0 k1)
  · refine (hv (if s = 6 then i + 1 else i) (by omega) (by omega)).c (fun k k0 k1 => ?_)
    exact h.2 i k i0 (by omega) k0 k1
theorem MInv.sav {P P' : MP} (h : MInv P) (hR : SavR P P') (hz : VZ P'.1) : MInv P' := by
  obtain ⟨h1, h2, h3, h4⟩ := h
  obtain ⟨r1, r2, r3⟩ := hR
  refine ⟨hz, ?_, ?_, ?_⟩
  · have hb : 0 ≤ isv P.2.1 ∧ isv P.2.1 ≤ 5 := by unfold isv; omega
    rw [r1]; omega
  · intro i i0 i1
    rw [r1] at i1
    exact svd_inv h1 h2 h3 r2 i i0 i1
  · unfold VT
    rw [r3]
    exact h4
theorem draw_inv {P P' : MP} {x y u v s t r : Int} (h : MInv P) (hR : drawR P x y u v s t r P') : MInv P' := by
  rcases hR with ⟨-, -, e⟩ | ⟨-, -, -, e⟩ | ⟨-, hs, -, hS, hk, hr, -⟩
  · rw [e]; exact h
  · rw [e]; exact h
  · refine h.sav hS (h.1.rst hr (fun k k0 k1 => ?_))
    rw [hk k k0 k1]
    split
    · exact hs
    · exact h.1.1 k k0 k1
theorem fill_inv {P P' : MP} {s t r : Int} (h : MInv P) (hR : fillR P s t r P') : MInv P' := by
  rcases hR with ⟨-, -, e⟩ | ⟨hs, -, hS, hk, hr, -⟩
  · rw [e]; exact h
  · refine h.sav hS (h.1.rst hr (fun k k0 k1 => ?_))
    rw [hk k k0 k1]
    exact ifil_b (h.1.1 k k0 k1) hs (imsk_b h.1 ⟨k0, k1⟩ _ h.1.2.1.1 (Int.le_refl _))
theorem ord_inv {P P' : MP} {p u t r : Int} (h : MInv P) (hR : ordR P p u t r P') : MInv P' := by
  rcases hR with ⟨-, -, e⟩ | ⟨hp, -, hS, hm, -⟩
  · rw [e]; exact h
  · exact h.sav hS (h.1.mv (m := imv p u) (fun q g1 g2 => by unfold imv; omega) hm)
