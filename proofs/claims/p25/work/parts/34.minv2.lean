/-! what a run of calls keeps: picks, texts, undo -/
theorem VZ.one {z f : Int → Int} {p c v : Int} (h : VZ z) (hw : (c = 5 ∧ 0 ≤ v ∧ v ≤ 3) ∨ (c = 7 ∧ 0 ≤ v ∧ v ≤ 1)) (hp : 0 ≤ p ∧ p < z 160) (h1 : f (161 + 169 * p + c) = v) (h2 : ∀ j, 0 ≤ j → j < 2189 → j ≠ 161 + 169 * p + c → f j = z j) : VZ f := by
  have hz := h.2.1
  have e0 := h2 160 (by omega) (by omega) (by omega)
  refine ⟨fun k k0 k1 => by rw [h2 k k0 (by omega) (by omega)]; exact h.1 k k0 k1, by rw [e0]; exact hz, fun q q0 q1 => ?_⟩
  rw [e0] at q1
  have g := h.2.2 q q0 q1
  refine ⟨?_, ?_, ?_, ?_, ?_, ?_, ?_, ?_, ?_, fun k k0 k1 => ?_⟩
  · rw [h2 _ (by omega) (by omega) (by omega)]; exact g.1
  · rw [h2 _ (by omega) (by omega) (by omega)]; exact g.2.1
  · rw [h2 _ (by omega) (by omega) (by omega)]; exact g.2.2.1
  · rw [h2 _ (by omega) (by omega) (by omega)]; exact g.2.2.2.1
  · rw [h2 _ (by omega) (by omega) (by omega)]; exact g.2.2.2.2.1
  · by_cases e : 161 + 169 * q + 5 = 161 + 169 * p + c
    · rw [e, h1]; omega
    · rw [h2 _ (by omega) (by omega) e]; exact g.2.2.2.2.2.1
  · rw [h2 _ (by omega) (by omega) (by omega)]; exact g.2.2.2.2.2.2.1
  · by_cases e : 161 + 169 * q + 7 = 161 + 169 * p + c
    · rw [e, h1]; omega
    · rw [h2 _ (by omega) (by omega) e]; exact g.2.2.2.2.2.2.2.1
  · rw [h2 _ (by omega) (by omega) (by omega)]; exact g.2.2.2.2.2.2.2.2.1
  · rw [h2 _ (by omega) (by omega) (by omega)]; exact g.2.2.2.2.2.2.2.2.2 k k0 k1
theorem tog_inv {P P' : MP} {p t r : Int} (h : MInv P) (hR : togR P p t r P') : MInv P' := by
  rcases hR with ⟨-, -, e⟩ | ⟨hp, -, hS, hr, h1, h2⟩
  · rw [e]; exact h
  · have g := (h.1.2.2 p (by omega) (by omega)).2.2.2.2.2.2.2.1
    exact h.sav hS (h.1.one (Or.inr ⟨rfl, by omega, by omega⟩) (by omega) h1 h2)
theorem knd_inv {P P' : MP} {p d t r : Int} (h : MInv P) (hR : kndR P p d t r P') : MInv P' := by
  rcases hR with ⟨-, -, e⟩ | ⟨-, -, -, e⟩ | ⟨hp, hd, -, hS, -, h1, h2⟩
  · rw [e]; exact h
  · rw [e]; exact h
  · exact h.sav hS (h.1.one (Or.inl ⟨rfl, hd.1, hd.2⟩) (by omega) h1 h2)
theorem pick_inv {P P' : MP} {x y l a g d t r : Int} (h : MInv P) (hR : pickR P x y l a g d t r P') : MInv P' := by
  rcases hR with ⟨-, -, e⟩ | ⟨-, -, -, e⟩ | ⟨-, -, -, -, e⟩ | ⟨hc, hk, hn, -, hS, u, A, hu, -, -, hp, hm⟩
  · rw [e]; exact h
  · rw [e]; exact h
  · rw [e]; exact h
  · refine h.sav hS ?_
    obtain ⟨h1, h2, h3, h4, h5, h6, h7, h8, h9, h10, h11⟩ := hp
    have hz := h.1.2.1
    have hu1 := hu.1
    have hu2 := hu.2.1
    refine ⟨fun k k0 k1 => by rw [h11 k k0 (by omega) (by omega)]; exact h.1.1 k k0 k1, by rw [hm]; omega, fun q q0 q1 => ?_⟩
    rw [hm] at q1
    by_cases e : q = P.1 160
    · rw [e, h1, h2, h3, h4, h5, h6, h7, h8, h9]
      refine ⟨hc.1, hc.2, hk.1.1, hk.1.2.1, hk.1.2.2, by omega, by omega, by omega, by omega, fun k k0 k1 => ?_⟩
      rw [h10 k k0 k1]
      exact ilev_b (by omega)
    · have g := h.1.2.2 q q0 (by omega)
      refine ⟨?_, ?_, ?_, ?_, ?_, ?_, ?_, ?_, ?_, fun k k0 k1 => ?_⟩
      · rw [h11 _ (by omega) (by omega) (by omega)]; exact g.1
      · rw [h11 _ (by omega) (by omega) (by omega)]; exact g.2.1
      · rw [h11 _ (by omega) (by omega) (by omega)]; exact g.2.2.1
      · rw [h11 _ (by omega) (by omega) (by omega)]; exact g.2.2.2.1
      · rw [h11 _ (by omega) (by omega) (by omega)]; exact g.2.2.2.2.1
      · rw [h11 _ (by omega) (by omega) (by omega)]; exact g.2.2.2.2.2.1
      · rw [h11 _ (by omega) (by omega) (by omega)]; exact g.2.2.2.2.2.2.1
      · rw [h11 _ (by omega) (by omega) (by omega)]; exact g.2.2.2.2.2.2.2.1
      · rw [h11 _ (by omega) (by omega) (by omega)]; exact g.2.2.2.2.2.2.2.2.1
      · rw [h11 _ (by omega) (by omega) (by omega)]; exact g.2.2.2.2.2.2.2.2.2 k k0 k1
theorem und_inv {P : MP} {f : Int → Int} (h : MInv P) (hs : 0 < P.2.1) (hf : ∀ j, 0 ≤ j → j < 2189 → f j = P.2.2.1 (2189 * (P.2.1 - 1) + j)) : MInv (f, P.2.1 - 1, P.2.2) := by
  obtain ⟨h1, h2, h3, h4⟩ := h
  exact ⟨(h3 (P.2.1 - 1) (by omega) (by omega)).c hf, ⟨by dsimp only; omega, by dsimp only; omega⟩, fun i i0 i1 => h3 i i0 (by dsimp only at i1; omega), h4⟩
