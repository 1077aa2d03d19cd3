/-! the reference: the area -/
/-- a search of squares under way -/
def JI (a : Int → Prop) (f u : Int) (S0 : Int → Bool) (l : Int → Int) (S : Int → Bool) (n : Int) : Prop := n = cnt S0 - cnt S ∧ (∀ q, 0 ≤ q → q < n → 0 ≤ l q ∧ l q < 160 ∧ S0 (l q) = true ∧ S (l q) = false ∧ joA a f u (l q)) ∧ (∀ j, 0 ≤ j → j < 160 → S j = true → S0 j = true) ∧ (∀ j, 0 ≤ j → j < 160 → S0 j = true → S j = false → ∃ q, 0 ≤ q ∧ q < n ∧ l q = j)
def JC (u : Int) (S0 : Int → Bool) (l : Int → Int) (S : Int → Bool) (h : Int) : Prop := ∀ q, 0 ≤ q → q < h → ∀ j, 0 ≤ j → j < 160 → S0 j = true → adj u (l q) j → S j = false
theorem cnt_gt {A : Int → Bool} {k : Int} (h0 : 0 ≤ k) (h1 : k < 160) (h : A k = true) : 1 ≤ cnt A := by
  have e := cnt_iu (A := A) (b := false) h0 h1
  rw [h, b2i_t, b2i_f] at e
  have := cnt_b (iu A k false)
  omega
theorem JI.le {a : Int → Prop} {f u n : Int} {S0 S : Int → Bool} {l : Int → Int} (h : JI a f u S0 l S n) : n ≤ 160 := by
  have := h.1
  have := cnt_b S
  have := cnt_b S0
  omega
theorem JI.lt {a : Int → Prop} {f u n k : Int} {S0 S : Int → Bool} {l : Int → Int} (h : JI a f u S0 l S n) (h0 : 0 ≤ k) (h1 : k < 160) (hk : S k = true) : n < 160 := by
  have := h.1
  have := cnt_gt h0 h1 hk
  have := cnt_b S0
  omega
theorem JI.start {a : Int → Prop} {f u : Int} {S0 : Int → Bool} {l : Int → Int} : JI a f u S0 l S0 0 := ⟨by omega, fun q h1 h2 => by omega, fun j _ _ h => h, fun j _ _ h1 h2 => by rw [h1] at h2; cases h2⟩
theorem JI.add {a : Int → Prop} {f u n k : Int} {S0 S : Int → Bool} {l : Int → Int} (R : JI a f u S0 l S n) (h0 : 0 ≤ k) (h1 : k < 160) (hk : S k = true) (hj : joA a f u k) : JI a f u S0 (iu l n k) (iu S k false) (n + 1) := by
  refine ⟨?_, fun q q0 q1 => ?_, fun j j0 j1 hj1 => ?_, fun j j0 j1 hj1 hj2 => ?_⟩
  · rw [cnt_iu h0 h1, hk, b2i_t, b2i_f]
    have := R.1
    omega
  · by_cases e : q = n
    · rw [e, iu_s]
      exact ⟨h0, h1, R.2.2.1 k h0 h1 hk, iu_s, hj⟩
    · rw [iu_n e]
      obtain ⟨g1, g2, g3, g4, g5⟩ := R.2.1 q q0 (by omega)
      refine ⟨g1, g2, g3, ?_, g5⟩
      by_cases e : l q = k
      · rw [e, iu_s]
      · rw [iu_n e, g4]
  · by_cases e : j = k
    · rw [e, iu_s] at hj1
      cases hj1
    · rw [iu_n e] at hj1
      exact R.2.2.1 j j0 j1 hj1
  · by_cases e : j = k
    · exact ⟨n, by have := R.1; have := cnt_b S; have := cnt_gt h0 h1 (R.2.2.1 k h0 h1 hk); by_cases g : 0 ≤ n; exact g; exact absurd (R.2.2.1 k h0 h1 hk) (by
        exfalso
        have e1 : cnt S ≤ cnt S0 := by
          unfold cnt isum
          have key : ∀ m : Nat, (m : Int) ≤ 160 → nsum (fun k => b2i (S k)) m ≤ nsum (fun k => b2i (S0 k)) m := by
            intro m
            induction m with
            | zero => intro _; exact Int.le_refl _
            | succ m ih =>
              intro hm
              have h2 : b2i (S m) ≤ b2i (S0 m) := by
                cases e2 : S m with
                | false => exact (b2i_r _).1
                | true => rw [R.2.2.1 m (by omega) (by omega) e2]; exact Int.le_refl _
              have h3 := ih (by omega)
              show nsum _ m + b2i (S m) ≤ nsum _ m + b2i (S0 m)
              omega
          exact key _ (by omega)
        omega), by omega, by rw [iu_s, e]⟩
    · rw [iu_n e] at hj2
      obtain ⟨q, g1, g2, g3⟩ := R.2.2.2 j j0 j1 hj1 hj2
      exact ⟨q, g1, by omega, by rw [iu_n (by omega), g3]⟩
theorem JC.add {u n k h : Int} {S0 S : Int → Bool} {l : Int → Int} (hn : h ≤ n) (C : JC u S0 l S h) : JC u S0 (iu l n k) (iu S k false) h := by
  intro q q0 q1 j j0 j1 hj
  rw [iu_n (by omega)]
  intro ha
  by_cases e : j = k
  · rw [e, iu_s]
  · rw [iu_n e]
    exact C q q0 q1 j j0 j1 hj ha
theorem JI.fin {a : Int → Prop} {f u n h : Int} {S0 S R : Int → Bool} {l : Int → Int} (J : JI a f u S0 l S n) (C : JC u S0 l S h) (hn : n ≤ h) (hh : h ≤ n) (hS0 : ∀ j, 0 ≤ j → j < 160 → (S0 j = true ↔ sqA a u j)) (hs : ∀ j, 0 ≤ j → j < 160 → S0 j = true → iLies f j u → S j = false) (hR : ∀ j, 0 ≤ j → j < 160 → (R j = true ↔ ∃ q, 0 ≤ q ∧ q < h ∧ iLies j (l q) u)) : ∀ k, 0 ≤ k → k < 160 → (R k = true ↔ arA a f u k) := by
  intro k k0 k1
  rw [hR k k0 k1]
  constructor
  · rintro ⟨q, q0, q1, q2⟩
    obtain ⟨g1, g2, g3, g4, g5⟩ := J.2.1 q q0 (by omega)
    exact ⟨l q, g1, g2, g5, q2⟩
  · rintro ⟨q, q0, q1, q2, q3⟩
    have := q2 (fun i => 0 ≤ i ∧ i < 160 ∧ S0 i = true ∧ S i = false) (fun i i0 i1 hi hl => ⟨i0, i1, (hS0 i i0 i1).mpr hi, hs i i0 i1 ((hS0 i i0 i1).mpr hi) hl⟩) (fun i j hi i0 i1 j0 j1 hj ha => by
      obtain ⟨q', g1, g2, g3⟩ := J.2.2.2 i i0 i1 hi.2.2.1 hi.2.2.2
      exact ⟨j0, j1, (hS0 j j0 j1).mpr hj, C q' g1 (by omega) j j0 j1 ((hS0 j j0 j1).mpr hj) (by rw [g3]; exact ha)⟩)
    obtain ⟨q', g1, g2, g3⟩ := J.2.2.2 q q0 q1 this.2.2.1 this.2.2.2
    exact ⟨q', g1, by omega, by rw [g3]; exact q3⟩
theorem joA_seed {a : Int → Prop} {f u i : Int} (i0 : 0 ≤ i) (i1 : i < 160) (hs : sqA a u i) (hl : iLies f i u) : joA a f u i := fun X h1 _ => h1 i i0 i1 hs hl
theorem joA_step {a : Int → Prop} {f u i j : Int} (hi : joA a f u i) (i0 : 0 ≤ i) (i1 : i < 160) (j0 : 0 ≤ j) (j1 : j < 160) (hs : sqA a u j) (ha : adj u i j) : joA a f u j := fun X h1 h2 => h2 i j (hi X h1 h2) i0 i1 j0 j1 hs ha
