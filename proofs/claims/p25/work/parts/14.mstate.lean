/-! the reference: saved states, the mask, exchanged picks -/
abbrev isv (s : Int) : Int := if s = 6 then 5 else s
/-- S is the saved states behind a save of z -/
def Svd (z : Int → Int) (s : Int) (sv S : Int → Int) : Prop := (∀ k, 0 ≤ k → k < 2189 → S (2189 * isv s + k) = z k) ∧ ∀ i k, 0 ≤ i → i < isv s → 0 ≤ k → k < 2189 → S (2189 * i + k) = sv (2189 * (if s = 6 then i + 1 else i) + k)
abbrev imst (kind p m : Int) : Int := if kind = 0 ∨ (kind = 1 ∧ m < p) ∨ (kind = 3 ∧ p < m) then p else if kind = 2 ∧ 100 - p < m then 100 - p else m
def nmsk (z : Int → Int) (c : Int) : Nat → Int
  | 0 => 0
  | n + 1 => if z (161 + 169 * n + 7) = 1 then imst (z (161 + 169 * n + 5)) (z (161 + 169 * n + (9 + c))) (nmsk z c n) else nmsk z c n
/-- the mask's level of the cell c behind the first i picks -/
def imsk (z : Int → Int) (i c : Int) : Int := nmsk z c i.toNat
theorem imsk_s {z : Int → Int} {c i : Int} (h : 0 ≤ i) : imsk z (i + 1) c = if z (161 + 169 * i + 7) = 1 then imst (z (161 + 169 * i + 5)) (z (161 + 169 * i + (9 + c))) (imsk z i c) else imsk z i c := by
  unfold imsk
  rw [show (i + 1).toNat = i.toNat + 1 by omega]
  show (if z (161 + 169 * (i.toNat : Nat) + 7) = 1 then _ else _) = _
  rw [show ((i.toNat : Nat) : Int) = i by omega]
/-- what a state's numbers keep to -/
def VZ (z : Int → Int) : Prop := (∀ k, 0 ≤ k → k < 160 → 0 ≤ z k ∧ z k ≤ 99) ∧ (0 ≤ z 160 ∧ z 160 ≤ 12) ∧ ∀ p, 0 ≤ p → p < z 160 →
  (0 ≤ z (161 + 169 * p) ∧ z (161 + 169 * p) ≤ 15) ∧ (0 ≤ z (161 + 169 * p + 1) ∧ z (161 + 169 * p + 1) ≤ 9) ∧ (0 ≤ z (161 + 169 * p + 2) ∧ z (161 + 169 * p + 2) ≤ 99) ∧ (0 ≤ z (161 + 169 * p + 3) ∧ z (161 + 169 * p + 3) ≤ 1) ∧ (0 ≤ z (161 + 169 * p + 4) ∧ z (161 + 169 * p + 4) ≤ 5) ∧ (0 ≤ z (161 + 169 * p + 5) ∧ z (161 + 169 * p + 5) ≤ 3) ∧ (0 ≤ z (161 + 169 * p + 6) ∧ z (161 + 169 * p + 6) ≤ 4) ∧ (0 ≤ z (161 + 169 * p + 7) ∧ z (161 + 169 * p + 7) ≤ 1) ∧ (0 ≤ z (161 + 169 * p + 8) ∧ z (161 + 169 * p + 8) ≤ 5) ∧ ∀ c, 0 ≤ c → c < 160 → 0 ≤ z (161 + 169 * p + (9 + c)) ∧ z (161 + 169 * p + (9 + c)) ≤ 100
theorem VZ.lev {z : Int → Int} (h : VZ z) : ∀ p c, 0 ≤ p → p < z 160 → 0 ≤ c → c < 160 → 0 ≤ z (161 + 169 * p + (9 + c)) ∧ z (161 + 169 * p + (9 + c)) ≤ 100 := fun p c h1 h2 h3 h4 => (h.2.2 p h1 h2).2.2.2.2.2.2.2.2.2 c h3 h4
theorem imsk_b {z : Int → Int} (h : VZ z) {c : Int} (hc : 0 ≤ c ∧ c < 160) : ∀ i, 0 ≤ i → i ≤ z 160 → 0 ≤ imsk z i c ∧ imsk z i c ≤ 100 := by
  have key : ∀ n : Nat, (n : Int) ≤ z 160 → 0 ≤ nmsk z c n ∧ nmsk z c n ≤ 100 := by
    intro n
    induction n with
    | zero => intro _; show 0 ≤ (0 : Int) ∧ (0 : Int) ≤ 100; omega
    | succ n ih =>
      intro hn
      have h1 := ih (by omega)
      have h2 := h.lev n c (by omega) (by omega) hc.1 hc.2
      show 0 ≤ (if z (161 + 169 * n + 7) = 1 then imst (z (161 + 169 * n + 5)) (z (161 + 169 * n + (9 + c))) (nmsk z c n) else nmsk z c n) ∧ (if z (161 + 169 * n + 7) = 1 then imst (z (161 + 169 * n + 5)) (z (161 + 169 * n + (9 + c))) (nmsk z c n) else nmsk z c n) ≤ 100
      unfold imst
      omega
  intro i h0 h1
  exact key i.toNat (by omega)
/-- the mask's level of the cell c -/
abbrev imS (z : Int → Int) (c : Int) : Int := imsk z (z 160) c
