theorem icin_onto {z : Int → Int} (h : VZ z) : ∀ n : Nat, (n : Int) ≤ z 160 → ∀ q, 0 ≤ q → q < icin z n → ∃ p, 0 ≤ p ∧ p < (n : Int) ∧ z (161 + 169 * p + 7) = 1 ∧ icin z p = q
  | 0, _, q, q0, q1 => by
    have e : icin z ((0 : Nat) : Int) = 0 := rfl
    omega
  | n + 1, hn, q, q0, q1 => by
    have g := (h.2.2 n (by omega) (by omega)).2.2.2.2.2.2.2.1
    have e : icin z ((n : Int) + 1) = icin z n + z (161 + 169 * n + 7) := isum_s (by omega)
    rw [show ((n + 1 : Nat) : Int) = (n : Int) + 1 by omega] at q1 ⊢
    rw [e] at q1
    by_cases c : q < icin z n
    · obtain ⟨p, p0, p1, p2, p3⟩ := icin_onto h n (by omega) q q0 c
      exact ⟨p, p0, by omega, p2, p3⟩
    · exact ⟨n, by omega, by omega, by omega, by omega⟩
theorem cln_inv {P P' : MP} {t r : Int} (h : MInv P) (hR : clnR P t r P') : MInv P' := by
  obtain ⟨-, hS, hc, hm, -⟩ := hR
  refine h.sav hS ?_
  have hz := h.1.2.1
  have hb := icin_b h.1 hz.1 (Int.le_refl _)
  refine ⟨fun k k0 k1 => by rw [hc.1 k k0 k1]; exact h.1.1 k k0 k1, by rw [hm]; omega, fun q q0 q1 => ?_⟩
  rw [hm] at q1
  obtain ⟨p, p0, p1, p2, p3⟩ := icin_onto h.1 (P.1 160).toNat (by omega) q q0 (by rw [show (((P.1 160).toNat : Nat) : Int) = P.1 160 by omega]; exact q1)
  rw [show (((P.1 160).toNat : Nat) : Int) = P.1 160 by omega] at p1
  have g := h.1.2.2 p p0 p1
  have e := hc.2 p p0 p1 p2
  rw [p3] at e
  refine ⟨?_, ?_, ?_, ?_, ?_, ?_, ?_, ?_, ?_, fun k k0 k1 => ?_⟩
  · have := e 0 (by omega) (by omega); rw [Int.add_zero, Int.add_zero] at this; rw [this]; exact g.1
  · rw [e 1 (by omega) (by omega)]; exact g.2.1
  · rw [e 2 (by omega) (by omega)]; exact g.2.2.1
  · rw [e 3 (by omega) (by omega)]; exact g.2.2.2.1
  · rw [e 4 (by omega) (by omega)]; exact g.2.2.2.2.1
  · rw [e 5 (by omega) (by omega)]; exact g.2.2.2.2.2.1
  · rw [e 6 (by omega) (by omega)]; exact g.2.2.2.2.2.2.1
  · rw [e 7 (by omega) (by omega)]; exact g.2.2.2.2.2.2.2.1
  · rw [e 8 (by omega) (by omega)]; exact g.2.2.2.2.2.2.2.2.1
  · rw [e (9 + k) (by omega) (by omega)]; exact g.2.2.2.2.2.2.2.2.2 k k0 k1
