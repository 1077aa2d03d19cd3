/-! areas: what both programs find -/
theorem nsum_iu {f : Int → Int} {z v : Int} (hz : 0 ≤ z) : ∀ n : Nat, nsum (iu f z v) n = if z < n then nsum f n - f z + v else nsum f n
  | 0 => by rw [if_neg (by omega)]; rfl
  | n + 1 => by
    show nsum (iu f z v) n + iu f z v n = _
    rw [nsum_iu hz n]
    show _ = if z < ((n + 1 : Nat) : Int) then nsum f n + f n - f z + v else nsum f n + f n
    by_cases h : z = n
    · rw [if_neg (by omega), if_pos (by omega), h, iu_s]
      omega
    · rw [iu_n (fun q => h q.symm)]
      by_cases h2 : z < n
      · rw [if_pos h2, if_pos (by omega)]
        omega
      · rw [if_neg h2, if_neg (by omega)]
theorem isum_iu {f : Int → Int} {z v n : Int} (hz : 0 ≤ z) (hn : z < n) : isum (iu f z v) n = isum f n - f z + v := by
  unfold isum
  rw [nsum_iu hz, if_pos (by omega)]
/-- how many cells are marked -/
def cnt (A : Int → Bool) : Int := isum (fun k => b2i (A k)) 160
theorem cnt_b (A : Int → Bool) : 0 ≤ cnt A ∧ cnt A ≤ 160 := by
  have := isum_b (f := fun k => b2i (A k)) (lo := 0) (hi := 1) (k := 160) (by omega) (fun j _ _ => b2i_r _)
  unfold cnt
  omega
theorem cnt_iu {A : Int → Bool} {k : Int} {b : Bool} (h0 : 0 ≤ k) (h1 : k < 160) : cnt (iu A k b) = cnt A - b2i (A k) + b2i b := by
  unfold cnt
  have e : (fun j => b2i (iu A k b j)) = iu (fun j => b2i (A j)) k (b2i b) := by
    funext j
    unfold iu
    split <;> rfl
  rw [e, isum_iu h0 h1]
theorem cnt_lt {A : Int → Bool} {k : Int} (h0 : 0 ≤ k) (h1 : k < 160) (h : A k = false) : cnt A ≤ 159 := by
  have e := cnt_iu (A := A) (b := true) h0 h1
  rw [h, b2i_t, b2i_f] at e
  have := cnt_b (iu A k true)
  omega
/-- reached from s by steps to cells that A doesn't have, with shades that differ by at most L -/
def Rch (z : Int → Int) (L : Int) (A : Int → Bool) (s k : Int) : Prop := ∀ X : Int → Prop, X s → (∀ i j, X i → 0 ≤ i → i < 160 → 0 ≤ j → j < 160 → A j = false → stp i j = 1 → iabs (z i - z j) ≤ L → X j) → X k
theorem Rch.self {z : Int → Int} {L : Int} {A : Int → Bool} {s : Int} : Rch z L A s s := fun X h _ => h
theorem Rch.step {z : Int → Int} {L : Int} {A : Int → Bool} {s i j : Int} (h : Rch z L A s i) (i0 : 0 ≤ i) (i1 : i < 160) (j0 : 0 ≤ j) (j1 : j < 160) (hA : A j = false) (hs : stp i j = 1) (hl : iabs (z i - z j) ≤ L) : Rch z L A s j := fun X h1 h2 => h2 i j (h X h1 h2) i0 i1 j0 j1 hA hs hl
/-- a search under way: n cells in the line l, A is marked, A0 was marked at first -/
def RI (z : Int → Int) (L : Int) (A0 : Int → Bool) (s : Int) (l : Int → Int) (A : Int → Bool) (n : Int) : Prop := n = cnt A - cnt A0 ∧ (∀ q, 0 ≤ q → q < n → 0 ≤ l q ∧ l q < 160 ∧ A (l q) = true ∧ A0 (l q) = false ∧ Rch z L A0 s (l q)) ∧ (∀ k, 0 ≤ k → k < 160 → A0 k = true → A k = true) ∧ (∀ k, 0 ≤ k → k < 160 → A k = true → A0 k = false → ∃ q, 0 ≤ q ∧ q < n ∧ l q = k) ∧ A s = true
/-- the first h cells of the line are done -/
def RC (z : Int → Int) (L : Int) (l : Int → Int) (A : Int → Bool) (h : Int) : Prop := ∀ q, 0 ≤ q → q < h → ∀ j, 0 ≤ j → j < 160 → stp (l q) j = 1 → iabs (z (l q) - z j) ≤ L → A j = true
theorem RI.le {z : Int → Int} {L : Int} {A0 : Int → Bool} {s : Int} {l : Int → Int} {A : Int → Bool} {n : Int} (h : RI z L A0 s l A n) : n ≤ 160 := by
  have := h.1
  have := cnt_b A
  have := cnt_b A0
  omega
theorem RI.lt {z : Int → Int} {L : Int} {A0 : Int → Bool} {s : Int} {l : Int → Int} {A : Int → Bool} {n k : Int} (h : RI z L A0 s l A n) (h0 : 0 ≤ k) (h1 : k < 160) (hk : A k = false) : n < 160 := by
  have := h.1
  have := cnt_lt h0 h1 hk
  have := cnt_b A0
  omega
theorem RI.start {z : Int → Int} {L : Int} {A0 : Int → Bool} {s : Int} {l : Int → Int} (h0 : 0 ≤ s) (h1 : s < 160) (hs : A0 s = false) : RI z L A0 s (iu l 0 s) (iu A0 s true) 1 := by
  refine ⟨?_, fun q hq0 hq1 => ?_, fun k _ _ hk => ?_, fun k hk0 hk1 hk hk2 => ?_, iu_s⟩
  · rw [cnt_iu h0 h1, hs, b2i_t, b2i_f]
    omega
  · rw [show q = 0 by omega, iu_s]
    exact ⟨h0, h1, iu_s, hs, Rch.self⟩
  · by_cases h : k = s
    · rw [h, iu_s]
    · rw [iu_n h, hk]
  · by_cases h : k = s
    · exact ⟨0, by omega, by omega, by rw [iu_s, h]⟩
    · rw [iu_n h, hk2] at hk
      cases hk
theorem RI.add {z : Int → Int} {L : Int} {A0 : Int → Bool} {s : Int} {l : Int → Int} {A : Int → Bool} {n k h : Int} (R : RI z L A0 s l A n) (h0 : 0 ≤ k) (h1 : k < 160) (hk : A k = false) (hh0 : 0 ≤ h) (hh1 : h < n) (hs : stp (l h) k = 1) (hl : iabs (z (l h) - z k) ≤ L) : RI z L A0 s (iu l n k) (iu A k true) (n + 1) := by
  have hA0 : A0 k = false := by
    cases e : A0 k with
    | false => rfl
    | true => rw [R.2.2.1 k h0 h1 e] at hk; cases hk
  refine ⟨?_, fun q hq0 hq1 => ?_, fun j j0 j1 hj => ?_, fun j j0 j1 hj hj2 => ?_, ?_⟩
  · rw [cnt_iu h0 h1, hk, b2i_t, b2i_f]
    have := R.1
    omega
  · by_cases hq : q = n
    · rw [hq, iu_s]
      obtain ⟨g1, g2, g3, g4, g5⟩ := R.2.1 h hh0 hh1
      exact ⟨h0, h1, iu_s, hA0, g5.step g1 g2 h0 h1 hA0 hs hl⟩
    · rw [iu_n hq]
      obtain ⟨g1, g2, g3, g4, g5⟩ := R.2.1 q hq0 (by omega)
      refine ⟨g1, g2, ?_, g4, g5⟩
      by_cases e : l q = k
      · rw [e, iu_s]
      · rw [iu_n e, g3]
  · by_cases e : j = k
    · rw [e, iu_s]
    · rw [iu_n e, R.2.2.1 j j0 j1 hj]
  · by_cases e : j = k
    · exact ⟨n, by omega, by omega, by rw [iu_s, e]⟩
    · rw [iu_n e] at hj
      obtain ⟨q, g1, g2, g3⟩ := R.2.2.2.1 j j0 j1 hj hj2
      exact ⟨q, g1, by omega, by rw [iu_n (by omega), g3]⟩
  · by_cases e : s = k
    · rw [e, iu_s]
    · rw [iu_n e, R.2.2.2.2]
theorem RC.add {z : Int → Int} {L : Int} {l : Int → Int} {A : Int → Bool} {n k h : Int} (hn : h ≤ n) (C : RC z L l A h) : RC z L (iu l n k) (iu A k true) h := by
  intro q q0 q1 j j0 j1
  rw [iu_n (by omega)]
  intro g1 g2
  by_cases e : j = k
  · rw [e, iu_s]
  · rw [iu_n e]
    exact C q q0 q1 j j0 j1 g1 g2
/-- the end of a search: what is marked -/
theorem RI.fin {z : Int → Int} {L : Int} {A0 : Int → Bool} {s : Int} {l : Int → Int} {A : Int → Bool} {n h : Int} (R : RI z L A0 s l A n) (C : RC z L l A h) (hn : n ≤ h) (s0 : 0 ≤ s) (s1 : s < 160) (hs : A0 s = false) : ∀ k, 0 ≤ k → k < 160 → (A k = true ↔ A0 k = true ∨ Rch z L A0 s k) := by
  intro k k0 k1
  constructor
  · intro hk
    cases e : A0 k with
    | true => exact Or.inl rfl
    | false =>
      obtain ⟨q, g1, g2, g3⟩ := R.2.2.2.1 k k0 k1 hk e
      rw [← g3]
      exact Or.inr (R.2.1 q g1 g2).2.2.2.2
  · rintro (hk | hk)
    · exact R.2.2.1 k k0 k1 hk
    · have := hk (fun k => 0 ≤ k ∧ k < 160 ∧ A k = true ∧ A0 k = false) ⟨s0, s1, R.2.2.2.2, hs⟩ (fun i j hi i0 i1 j0 j1 hj hst hl => by
        obtain ⟨q, g1, g2, g3⟩ := R.2.2.2.1 i i0 i1 hi.2.2.1 hi.2.2.2
        refine ⟨j0, j1, C q g1 (by omega) j j0 j1 ?_ ?_, hj⟩
        · rw [g3]; exact hst
        · rw [g3]; exact hl)
      exact this.2.2.1
/-- alike cells, of a pick from f -/
def aP (z : Int → Int) (f L way k : Int) : Prop := if way = 0 then iabs (z k - z f) ≤ L else Rch z L (fun _ => false) f k
/-- of cells a: a square of the width w begins at c -/
def sqA (a : Int → Prop) (w c : Int) : Prop := c % 16 + w < 16 ∧ c / 16 + w < 10 ∧ ∀ dx dy, 0 ≤ dx → dx ≤ w → 0 ≤ dy → dy ≤ w → a (16 * (c / 16 + dy) + (c % 16 + dx))
def liA (a : Int → Prop) (f w : Int) : Prop := ∃ q, 0 ≤ q ∧ q < 160 ∧ sqA a w q ∧ iLies f q w
/-- the width that is used -/
def wiA (a : Int → Prop) (f gap w : Int) : Prop := 0 ≤ w ∧ w ≤ gap ∧ liA a f w ∧ ∀ w', w < w' → w' ≤ gap → ¬ liA a f w'
abbrev adj (w i j : Int) : Prop := if w = 0 then stp i j = 1 else ifar i j ≤ w
/-- squares that are joined with one over f -/
def joA (a : Int → Prop) (f w q : Int) : Prop := ∀ X : Int → Prop, (∀ i, 0 ≤ i → i < 160 → sqA a w i → iLies f i w → X i) → (∀ i j, X i → 0 ≤ i → i < 160 → 0 ≤ j → j < 160 → sqA a w j → adj w i j → X j) → X q
/-- the cells of the area -/
def arA (a : Int → Prop) (f w k : Int) : Prop := ∃ q, 0 ≤ q ∧ q < 160 ∧ joA a f w q ∧ iLies k q w
theorem sqA_c {a a' : Int → Prop} {w c : Int} (h : ∀ k, 0 ≤ k → k < 160 → (a k ↔ a' k)) (hc : 0 ≤ c ∧ c < 160) (hw : 0 ≤ w) : sqA a w c ↔ sqA a' w c := by
  unfold sqA
  constructor
  · rintro ⟨h1, h2, h3⟩
    exact ⟨h1, h2, fun dx dy g1 g2 g3 g4 => (h _ (by omega) (by omega)).mp (h3 dx dy g1 g2 g3 g4)⟩
  · rintro ⟨h1, h2, h3⟩
    exact ⟨h1, h2, fun dx dy g1 g2 g3 g4 => (h _ (by omega) (by omega)).mpr (h3 dx dy g1 g2 g3 g4)⟩
theorem wiA_u {a : Int → Prop} {f gap w w' : Int} (h : wiA a f gap w) (h' : wiA a f gap w') : w = w' := by
  rcases Int.lt_trichotomy w w' with g | g | g
  · exact absurd h'.2.2.1 (h.2.2.2 w' g h'.2.1)
  · exact g
  · exact absurd h.2.2.1 (h'.2.2.2 w g h.2.1)
theorem liA_0 {a : Int → Prop} {f : Int} (hf : 0 ≤ f ∧ f < 160) (h : a f) : liA a f 0 := by
  refine ⟨f, hf.1, hf.2, ⟨by omega, by omega, fun dx dy g1 g2 g3 g4 => ?_⟩, by omega⟩
  rw [show 16 * (f / 16 + dy) + (f % 16 + dx) = f by omega]
  exact h
theorem aP_self {z : Int → Int} {f L way : Int} (hL : 0 ≤ L) : aP z f L way f := by
  unfold aP
  split
  · simp only [iabs]; omega
  · exact Rch.self
