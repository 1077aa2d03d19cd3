/-- the size of an area -/
def arN (z : Int → Int) (f l a g r : Int) : Prop := ∃ (u : Int) (A : Int → Bool), wiA (aP z f l a) f g u ∧ (∀ k, 0 ≤ k → k < 160 → (A k = true ↔ arA (aP z f l a) f u k)) ∧ r = isum (fun k => b2i (A k)) 160
abbrev ask (c : Prop) (P : MP) (t : Int) (P' : MP) (d : Prop) : Prop := P' = P ∧ ((¬ c ∧ t = 1) ∨ (c ∧ t = 0 ∧ d))
abbrev ask2 (c e : Prop) (P : MP) (t : Int) (P' : MP) (d : Prop) : Prop := P' = P ∧ ((¬ c ∧ t = 1) ∨ (c ∧ ¬ e ∧ t = 2) ∨ (c ∧ e ∧ t = 0 ∧ d))
def celR (P : MP) (x y a t r : Int) (P' : MP) : Prop := ask2 (iCell x y) (0 ≤ a ∧ a ≤ 2) P t P' (r = icel P.1 (imS P.1) (16 * y + x) a)
def pkdR (P : MP) (p a t r : Int) (P' : MP) : Prop := ask2 (isP P.1 p) (0 ≤ a ∧ a ≤ 11) P t P' (r = ipic P.1 p a)
def lvlR (P : MP) (p x y t r : Int) (P' : MP) : Prop := ask (isP P.1 p ∧ iCell x y) P t P' (r = P.1 (161 + 169 * p + (9 + (16 * y + x))))
def cntR (P : MP) (a t r : Int) (P' : MP) : Prop := ask (0 ≤ a ∧ a ≤ 8) P t P' (r = icnt P.1 (imS P.1) P.2.1 a)
abbrev aOk (l a g : Int) : Prop := (0 ≤ l ∧ l ≤ 99) ∧ (0 ≤ a ∧ a ≤ 1) ∧ (0 ≤ g ∧ g ≤ 5)
def aofR (P : MP) (x y l a g t r : Int) (P' : MP) : Prop := ask2 (iCell x y) (aOk l a g) P t P' (arN P.1 (16 * y + x) l a g r)
