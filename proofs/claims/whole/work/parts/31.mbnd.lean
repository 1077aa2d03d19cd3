/-! how great the answers are -/
theorem ieg_b (f : Int → Int) (x y : Int) : 0 ≤ ieg f x y ∧ ieg f x y ≤ 2 := by
  unfold ieg
  split <;> split <;> omega
theorem iegr_b (f : Int → Int) (j : Int) : 0 ≤ iegr f j ∧ iegr f j ≤ 34 := by
  have := isum_b (f := fun i => ieg f (i - 1) (j - 1)) (lo := 0) (hi := 2) (k := 17) (by omega) (fun i _ _ => ieg_b f _ _)
  unfold iegr
  omega
theorem icnt_b {z : Int → Int} {s a : Int} (h : VZ z) (hs : 0 ≤ s ∧ s ≤ 6) (ha : 0 ≤ a ∧ a ≤ 8) : 0 ≤ icnt z (imS z) s a ∧ icnt z (imS z) s a ≤ 20000 := by
  have hz := h.2.1
  have e1 := isum_b (f := fun p => z (161 + 169 * p + 7)) (lo := 0) (hi := 1) hz.1 (fun j j0 j1 => (h.2.2 j j0 j1).2.2.2.2.2.2.2.1)
  have e2 := isum_b (f := fun k => if 100 ≤ imS z k then 1 else 0) (lo := 0) (hi := 1) (k := 160) (by omega) (fun j j0 j1 => by split <;> omega)
  have e3 := isum_b (f := fun k => if 1 ≤ imS z k then 1 else 0) (lo := 0) (hi := 1) (k := 160) (by omega) (fun j j0 j1 => by split <;> omega)
  have e4 := imS_sum h
  have e5 := isum_b (f := iegr (imS z)) (lo := 0) (hi := 34) (k := 11) (by omega) (fun j j0 j1 => iegr_b _ _)
  have e6 := isum_b (f := z) (lo := 0) (hi := 99) (k := 160) (by omega) (fun j j0 j1 => h.1 j j0 j1)
  have e7 := isum_b (f := fun s => b2i (iex (fun j => decide (z j = s)) 160)) (lo := 0) (hi := 1) (k := 100) (by omega) (fun j j0 j1 => b2i_r _)
  unfold icnt idif
  repeat' split
  all_goals omega
theorem ipat_b {z : Int → Int} {c : Int} (h : VZ z) : 0 ≤ ipat z c ∧ ipat z c ≤ 12 := by
  have hz := h.2.1
  have e1 := isum_b (f := fun p => if 0 < z (161 + 169 * p + (9 + c)) then 1 else 0) (lo := 0) (hi := 1) hz.1 (fun j j0 j1 => by split <;> omega)
  unfold ipat
  omega
theorem icel_b {z : Int → Int} {c a : Int} (h : VZ z) (hc : 0 ≤ c ∧ c < 160) : 0 ≤ icel z (imS z) c a ∧ icel z (imS z) c a ≤ 100 := by
  have e1 := h.1 c hc.1 hc.2
  have e2 := imsk_b h hc _ h.2.1.1 (Int.le_refl _)
  have e3 := ipat_b (c := c) h
  unfold icel
  split
  · omega
  · split
    · exact e2
    · omega
theorem ipic_b {z : Int → Int} {p a : Int} (h : VZ z) (hp : 0 ≤ p ∧ p < z 160) (ha : 0 ≤ a ∧ a ≤ 11) : 0 ≤ ipic z p a ∧ ipic z p a ≤ 20000 := by
  have e1 := isum_b (f := fun k => if a = 11 then z (161 + 169 * p + (9 + k)) else if (if a = 9 then 100 else 1) ≤ z (161 + 169 * p + (9 + k)) then 1 else 0) (lo := 0) (hi := 100) (k := 160) (by omega) (fun j j0 j1 => by
    have g := h.lev p j hp.1 hp.2 j0 j1
    repeat' split
    all_goals omega)
  have g := h.2.2 p hp.1 hp.2
  have e2 : a < 9 → 0 ≤ z (161 + 169 * p + a) ∧ z (161 + 169 * p + a) ≤ 100 := by
    intro q
    rcases (show a = 0 ∨ a = 1 ∨ a = 2 ∨ a = 3 ∨ a = 4 ∨ a = 5 ∨ a = 6 ∨ a = 7 ∨ a = 8 by omega) with rfl | rfl | rfl | rfl | rfl | rfl | rfl | rfl | rfl
    · rw [Int.add_zero]; omega
    all_goals omega
  unfold ipic
  split
  · have := e2 (by omega); omega
  · omega
theorem arN_b {z : Int → Int} {f l a g r : Int} (h : arN z f l a g r) : 0 ≤ r ∧ r ≤ 160 := by
  obtain ⟨u, A, -, -, hr⟩ := h
  have e := isum_b (f := fun k => b2i (A k)) (lo := 0) (hi := 1) (k := 160) (by omega) (fun j j0 j1 => b2i_r _)
  omega
theorem nArs_b {z : Int → Int} {L : Int} : ∀ n : Nat, 0 ≤ (nArs z L n).2 ∧ (nArs z L n).2 ≤ n
  | 0 => by show 0 ≤ (0 : Int) ∧ (0 : Int) ≤ ((0 : Nat) : Int); omega
  | n + 1 => by
    have ih := nArs_b (z := z) (L := L) n
    show 0 ≤ (if (nArs z L n).1 n = true then nArs z L n else (_, (nArs z L n).2 + 1)).2 ∧ (if (nArs z L n).1 n = true then nArs z L n else (_, (nArs z L n).2 + 1)).2 ≤ ((n + 1 : Nat) : Int)
    split
    · omega
    · dsimp only; omega
theorem iArs_b {z : Int → Int} {L : Int} : 0 ≤ (iArs z L 160).2 ∧ (iArs z L 160).2 ≤ 160 := by
  have := nArs_b (z := z) (L := L) 160
  unfold iArs
  rw [show (160 : Int).toNat = 160 by rfl]
  omega
def nmx (f : Int → Int) (h : Int) : Nat → Int
  | 0 => h
  | n + 1 => 31 * nmx f h n + f n
/-- the hash behind k numbers -/
def imx (f : Int → Int) (h k : Int) : Int := nmx f h k.toNat
theorem imx_0 {f : Int → Int} {h : Int} : imx f h 0 = h := rfl
theorem imx_s {f : Int → Int} {h k : Int} (hk : 0 ≤ k) : imx f h (k + 1) = 31 * imx f h k + f k := by
  unfold imx
  rw [show (k + 1).toNat = k.toNat + 1 by omega]
  show 31 * nmx f h k.toNat + f (k.toNat : Nat) = _
  rw [show ((k.toNat : Nat) : Int) = k by omega]
def covL (z : Int → Int) : Int := (covD z).toInt64.toInt
theorem covL_v {z : Int → Int} : Value.long (covD z).toInt64 = xJ (covL z) := by
  unfold covL
  show Value.long _ = Value.long (Int64.ofInt _)
  rw [Int64.ofInt_toInt]
