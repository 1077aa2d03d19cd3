/-! by program: the reference's object: its tuple, its cells, its rows -/
abbrev MP : Type := (Int → Int) × Int × (Int → Int) × Int × (Int → Int)
abbrev MK : Type := Int × (Int → Bool) × (Int → Bool) × (Int → Int) × (Int → Bool) × Int × (Int → Int) × (Int → Int) × Int × Int × Int
abbrev MP.z (P : MP) : (Int → Int) := P.1
abbrev MP.length (P : MP) : Int := P.2.2.2.1
abbrev MK.mask (K : MK) : (Int → Int) := K.2.2.2.2.2.2.1
abbrev MK.before (K : MK) : (Int → Int) := K.2.2.2.2.2.2.2.1
abbrev MK.step (K : MK) : Int := K.2.2.2.2.2.2.2.2.1
def MF (μ : Nat) (P : MP) (K : MK) : List Value := [xI (K.1), .ref (μ + 1), xI (P.2.1), .ref (μ + 2), xI (P.2.2.2.1), .ref (μ + 3), .ref (μ + 4), .ref (μ + 5), .ref (μ + 6), .ref (μ + 7), xI (K.2.2.2.2.2.1), .ref (μ + 8), .ref (μ + 9), xI (K.2.2.2.2.2.2.2.2.1), xI (K.2.2.2.2.2.2.2.2.2.1), xJ (K.2.2.2.2.2.2.2.2.2.2)]
def MW (w0 w : WD) (μ : Nat) (P : MP) (K : MK) : Prop := w μ = some (xOb 7 (MF μ P K)) ∧ w (μ + 1) = some (xIA 2189 P.1) ∧ w (μ + 2) = some (xIA 13134 P.2.2.1) ∧ w (μ + 3) = some (xIA 60 P.2.2.2.2) ∧ w (μ + 4) = some (xBA 160 K.2.1) ∧ w (μ + 5) = some (xBA 160 K.2.2.1) ∧ w (μ + 6) = some (xIA 160 K.2.2.2.1) ∧ w (μ + 7) = some (xBA 160 K.2.2.2.2.1) ∧ w (μ + 8) = some (xIA 160 K.2.2.2.2.2.2.1) ∧ w (μ + 9) = some (xIA 160 K.2.2.2.2.2.2.2.1) ∧ ∀ j, (j < μ ∨ μ + 10 ≤ j) → w j = w0 j
theorem MW.fr {w0 w : WD} {μ : Nat} {P : MP} {K : MK} (hM : MW w0 w μ P K) : ∀ j, (j < μ ∨ μ + 10 ≤ j) → w j = w0 j := hM.2.2.2.2.2.2.2.2.2.2
