/-! the reference: picks -/
def nlst (A : Int → Bool) (c s : Int) : Nat → Int
  | 0 => s + 1
  | n + 1 => if A n = true ∧ ifar c n < nlst A c s n then ifar c n else nlst A c s n
/-- the least distance from the cell c to a marked cell before k, at most s + 1 -/
def ilst (A : Int → Bool) (c s k : Int) : Int := nlst A c s k.toNat
theorem ilst_b {A : Int → Bool} {c s : Int} (hs : 0 ≤ s) : ∀ {k : Int}, 0 ≤ k → 0 ≤ ilst A c s k ∧ ilst A c s k ≤ s + 1 := by
  have key : ∀ n : Nat, 0 ≤ nlst A c s n ∧ nlst A c s n ≤ s + 1 := by
    intro n
    induction n with
    | zero => show 0 ≤ s + 1 ∧ s + 1 ≤ s + 1; omega
    | succ n ih =>
      have g : 0 ≤ ifar c n := by
        unfold ifar iabs
        (repeat' split) <;> omega
      show 0 ≤ (if A n = true ∧ ifar c n < nlst A c s n then ifar c n else nlst A c s n) ∧ (if A n = true ∧ ifar c n < nlst A c s n then ifar c n else nlst A c s n) ≤ s + 1
      omega
  intro k hk
  exact key k.toNat
/-- the level of the cell c with soft edges of s -/
def ilev (A : Int → Bool) (c s : Int) : Int := (100 * (s + 1 - ilst A c s 160)) / (s + 1)
theorem ilev_b {A : Int → Bool} {c s : Int} (hs : 0 ≤ s) : 0 ≤ ilev A c s ∧ ilev A c s ≤ 100 := by
  have h := ilst_b (A := A) (c := c) hs (k := 160) (by omega)
  unfold ilev
  refine ⟨Int.ediv_nonneg (by omega) (by omega), ?_⟩
  have e : (100 * (s + 1 - ilst A c s 160)) / (s + 1) ≤ (100 * (s + 1)) / (s + 1) := Int.ediv_le_ediv (by omega) (by omega)
  rw [Int.mul_ediv_cancel _ (by omega)] at e
  exact e
abbrev pOk (l a g d : Int) : Prop := ((0 ≤ l ∧ l ≤ 99) ∧ (0 ≤ a ∧ a ≤ 1) ∧ (0 ≤ g ∧ g ≤ 5)) ∧ (0 ≤ d ∧ d ≤ 43) ∧ d % 10 < 4
def pickZ (z f : Int → Int) (x y l a g d u : Int) (A : Int → Bool) (k : Int) : Prop := f (161 + 169 * z 160) = x ∧ f (161 + 169 * z 160 + 1) = y ∧ f (161 + 169 * z 160 + 2) = l ∧ f (161 + 169 * z 160 + 3) = a ∧ f (161 + 169 * z 160 + 4) = g ∧ f (161 + 169 * z 160 + 5) = d % 10 ∧ f (161 + 169 * z 160 + 6) = d / 10 ∧ f (161 + 169 * z 160 + 7) = 1 ∧ f (161 + 169 * z 160 + 8) = u ∧ (∀ c, 0 ≤ c → c < k → f (161 + 169 * z 160 + (9 + c)) = ilev A c (d / 10)) ∧ ∀ j, 0 ≤ j → j < 161 + 169 * z 160 → j ≠ 160 → f j = z j
def pickR (P : MP) (x y l a g d t r : Int) (P' : MP) : Prop := (¬ iCell x y ∧ t = 1 ∧ P' = P) ∨ (iCell x y ∧ ¬ pOk l a g d ∧ t = 2 ∧ P' = P) ∨ (iCell x y ∧ pOk l a g d ∧ P.1 160 = 12 ∧ t = 3 ∧ P' = P) ∨ (iCell x y ∧ pOk l a g d ∧ P.1 160 ≠ 12 ∧ t = 0 ∧ SavR P P' ∧ ∃ u A, wiA (aP P.1 (16 * y + x) l a) (16 * y + x) g u ∧ (∀ k, 0 ≤ k → k < 160 → (A k = true ↔ arA (aP P.1 (16 * y + x) l a) (16 * y + x) u k)) ∧ r = isum (fun k => b2i (A k)) 160 ∧ pickZ P.1 P'.1 x y l a g d u A 160 ∧ P'.1 160 = P.1 160 + 1)
abbrev isP (z : Int → Int) (p : Int) : Prop := 0 ≤ p ∧ p ≤ z 160 - 1
def togR (P : MP) (p t r : Int) (P' : MP) : Prop := (¬ isP P.1 p ∧ t = 1 ∧ P' = P) ∨ (isP P.1 p ∧ t = 0 ∧ SavR P P' ∧ r = 1 - P.1 (161 + 169 * p + 7) ∧ P'.1 (161 + 169 * p + 7) = r ∧ ∀ j, 0 ≤ j → j < 2189 → j ≠ 161 + 169 * p + 7 → P'.1 j = P.1 j)
def kndR (P : MP) (p d t r : Int) (P' : MP) : Prop := (¬ isP P.1 p ∧ t = 1 ∧ P' = P) ∨ (isP P.1 p ∧ ¬ (0 ≤ d ∧ d ≤ 3) ∧ t = 2 ∧ P' = P) ∨ (isP P.1 p ∧ (0 ≤ d ∧ d ≤ 3) ∧ t = 0 ∧ SavR P P' ∧ r = P.1 (161 + 169 * p + 5) ∧ P'.1 (161 + 169 * p + 5) = d ∧ ∀ j, 0 ≤ j → j < 2189 → j ≠ 161 + 169 * p + 5 → P'.1 j = P.1 j)
/-- where the pick at q stood before p went to t -/
abbrev imv (p t q : Int) : Int := if q = t then p else if p ≤ q ∧ q < t then q + 1 else if t < q ∧ q ≤ p then q - 1 else q
def Moved (z f : Int → Int) (m : Int → Int) : Prop := (∀ j, 0 ≤ j → j < 161 → f j = z j) ∧ ∀ q i, 0 ≤ q → q < 12 → 0 ≤ i → i < 169 → f (161 + 169 * q + i) = z (161 + 169 * m q + i)
theorem VZ.mv {z f : Int → Int} {m : Int → Int} (h : VZ z) (hm : ∀ q, 0 ≤ q → q < z 160 → 0 ≤ m q ∧ m q < z 160) (hf : Moved z f m) : VZ f := by
  obtain ⟨h1, h2, h3⟩ := h
  have e0 := hf.1 160 (by omega) (by omega)
  refine ⟨fun k k0 k1 => by rw [hf.1 k k0 (by omega)]; exact h1 k k0 k1, by rw [e0]; exact h2, fun p p0 p1 => ?_⟩
  rw [e0] at p1
  have g := h3 (m p) (hm p p0 p1).1 (hm p p0 p1).2
  have e := hf.2 p
  refine ⟨?_, ?_, ?_, ?_, ?_, ?_, ?_, ?_, ?_, fun c c0 c1 => ?_⟩
  · have := e 0 p0 (by omega) (by omega) (by omega); rw [Int.add_zero, Int.add_zero] at this; rw [this]; exact g.1
  · rw [e 1 p0 (by omega) (by omega) (by omega)]; exact g.2.1
  · rw [e 2 p0 (by omega) (by omega) (by omega)]; exact g.2.2.1
  · rw [e 3 p0 (by omega) (by omega) (by omega)]; exact g.2.2.2.1
  · rw [e 4 p0 (by omega) (by omega) (by omega)]; exact g.2.2.2.2.1
  · rw [e 5 p0 (by omega) (by omega) (by omega)]; exact g.2.2.2.2.2.1
  · rw [e 6 p0 (by omega) (by omega) (by omega)]; exact g.2.2.2.2.2.2.1
  · rw [e 7 p0 (by omega) (by omega) (by omega)]; exact g.2.2.2.2.2.2.2.1
  · rw [e 8 p0 (by omega) (by omega) (by omega)]; exact g.2.2.2.2.2.2.2.2.1
  · rw [e (9 + c) p0 (by omega) (by omega) (by omega)]; exact g.2.2.2.2.2.2.2.2.2 c c0 c1
def ordR (P : MP) (p u t r : Int) (P' : MP) : Prop := (¬ (isP P.1 p ∧ isP P.1 u) ∧ t = 1 ∧ P' = P) ∨ ((isP P.1 p ∧ isP P.1 u) ∧ t = 0 ∧ SavR P P' ∧ Moved P.1 P'.1 (imv p u) ∧ r = isum (fun k => if imS P'.1 k ≠ imS P.1 k then 1 else 0) 160)
/-- how many picks before i are in -/
abbrev icin (z : Int → Int) (i : Int) : Int := isum (fun p => z (161 + 169 * p + 7)) i
theorem icin_m {z : Int → Int} (h : VZ z) {p i : Int} (hp : 0 ≤ p) (hi : p < i) (hz : i ≤ z 160) : icin z p + z (161 + 169 * p + 7) ≤ icin z i := by
  have key : ∀ n : Nat, p + 1 + n ≤ z 160 → icin z p + z (161 + 169 * p + 7) ≤ icin z (p + 1 + n) := by
    intro n
    induction n with
    | zero => intro _; rw [show p + 1 + ((0 : Nat) : Int) = p + 1 by omega]; simp only [icin]; rw [isum_s hp]; omega
    | succ n ih =>
      intro hn
      have := ih (by omega)
      have g := (h.2.2 (p + 1 + n) (by omega) (by omega)).2.2.2.2.2.2.2.1
      rw [show p + 1 + ((n + 1 : Nat) : Int) = (p + 1 + n) + 1 by omega]
      simp only [icin] at this ⊢
      rw [isum_s (by omega)]
      omega
  have := key (i - p - 1).toNat (by omega)
  rw [show p + 1 + (((i - p - 1).toNat : Nat) : Int) = i by omega] at this
  exact this
theorem icin_b {z : Int → Int} (h : VZ z) {i : Int} (h0 : 0 ≤ i) (h1 : i ≤ z 160) : 0 ≤ icin z i ∧ icin z i ≤ i := by
  have := isum_b (f := fun p => z (161 + 169 * p + 7)) (lo := 0) (hi := 1) h0 (fun j j0 j1 => (h.2.2 j j0 (by omega)).2.2.2.2.2.2.2.1)
  simp only [icin]
  omega
def Clean (z f : Int → Int) (i : Int) : Prop := (∀ j, 0 ≤ j → j < 160 → f j = z j) ∧ ∀ p, 0 ≤ p → p < i → z (161 + 169 * p + 7) = 1 → ∀ k, 0 ≤ k → k < 169 → f (161 + 169 * icin z p + k) = z (161 + 169 * p + k)
def clnR (P : MP) (t r : Int) (P' : MP) : Prop := t = 0 ∧ SavR P P' ∧ Clean P.1 P'.1 (P.1 160) ∧ P'.1 160 = icin P.1 (P.1 160) ∧ r = P.1 160 - icin P.1 (P.1 160)
