/-! the reference: picks -/
def nlst (A : Int → Bool) (c s : Int) : Nat → Int
  | 0 => s + 1
  | n + 1 => if A n = true ∧ ifar c n < nlst A c s n then ifar c n else nlst A c s n
/-- the least distance from the cell c to a marked cell before k, at most s + 1 -/
def ilst (A : Int → Bool) (c s k : Int) : Int := nlst A c s k.toNat
theorem ilst_0 {A : Int → Bool} {c s : Int} : ilst A c s 0 = s + 1 := rfl
theorem ilst_s {A : Int → Bool} {c s k : Int} (h : 0 ≤ k) : ilst A c s (k + 1) = if A k = true ∧ ifar c k < ilst A c s k then ifar c k else ilst A c s k := by
  unfold ilst
  rw [show (k + 1).toNat = k.toNat + 1 by omega]
  show (if A (k.toNat : Nat) = true ∧ ifar c (k.toNat : Nat) < nlst A c s k.toNat then ifar c (k.toNat : Nat) else nlst A c s k.toNat) = _
  rw [show ((k.toNat : Nat) : Int) = k by omega]
theorem ilst_b {A : Int → Bool} {c s : Int} (hs : 0 ≤ s) : ∀ {k : Int}, 0 ≤ k → 0 ≤ ilst A c s k ∧ ilst A c s k ≤ s + 1 := by
  have key : ∀ n : Nat, 0 ≤ nlst A c s n ∧ nlst A c s n ≤ s + 1 := by
    intro n
    induction n with
    | zero => show 0 ≤ s + 1 ∧ s + 1 ≤ s + 1; omega
    | succ n ih =>
      have g : 0 ≤ ifar c n := by
        unfold ifar iabs
        (repeat' split) <;> omega
      show 0 ≤ (if A n = true ∧ ifar c n < nlst A c s n then ifar c n else nlst A c s n) ∧ (if A n = true ∧ ifar c n < nlst A c s n then ifar c n else nlst A c s n) ≤ s + 1
      omega
  intro k hk
  exact key k.toNat
/-- the level of the cell c with soft edges of s -/
def ilev (A : Int → Bool) (c s : Int) : Int := (100 * (s + 1 - ilst A c s 160)) / (s + 1)
theorem ilev_b {A : Int → Bool} {c s : Int} (hs : 0 ≤ s) : 0 ≤ ilev A c s ∧ ilev A c s ≤ 100 := by
  have h := ilst_b (A := A) (c := c) hs (k := 160) (by omega)
  unfold ilev
  refine ⟨Int.ediv_nonneg (by omega) (by omega), ?_⟩
  have e : (100 * (s + 1 - ilst A c s 160)) / (s + 1) ≤ (100 * (s + 1)) / (s + 1) := Int.ediv_le_ediv (by omega) (by omega)
  rw [Int.mul_ediv_cancel _ (by omega)] at e
  exact e
abbrev pOk (l a g d : Int) : Prop := ((0 ≤ l ∧ l ≤ 99) ∧ (0 ≤ a ∧ a ≤ 1) ∧ (0 ≤ g ∧ g ≤ 5)) ∧ (0 ≤ d ∧ d ≤ 43) ∧ d % 10 < 4
def pickZ (z f : Int → Int) (x y l a g d u : Int) (A : Int → Bool) (k : Int) : Prop := f (161 + 169 * z 160) = x ∧ f (161 + 169 * z 160 + 1) = y ∧ f (161 + 169 * z 160 + 2) = l ∧ f (161 + 169 * z 160 + 3) = a ∧ f (161 + 169 * z 160 + 4) = g ∧ f (161 + 169 * z 160 + 5) = d % 10 ∧ f (161 + 169 * z 160 + 6) = d / 10 ∧ f (161 + 169 * z 160 + 7) = 1 ∧ f (161 + 169 * z 160 + 8) = u ∧ (∀ c, 0 ≤ c → c < k → f (161 + 169 * z 160 + (9 + c)) = ilev A c (d / 10)) ∧ ∀ j, 0 ≤ j → j < 161 + 169 * z 160 → j ≠ 160 → f j = z j
theorem pickZ.nxt {z f : Int → Int} {x y l a g d u k i v : Int} {A : Int → Bool} (h : pickZ z f x y l a g d u A k) (hz : 0 ≤ z 160) (hk : 0 ≤ k) (hi : i = 161 + 169 * z 160 + 9 + k) (hv : v = ilev A k (d / 10)) : pickZ z (iu f i v) x y l a g d u A (k + 1) := by
  obtain ⟨h1, h2, h3, h4, h5, h6, h7, h8, h9, h10, h11⟩ := h
  refine ⟨?_, ?_, ?_, ?_, ?_, ?_, ?_, ?_, ?_, fun c c0 c1 => ?_, fun j j0 j1 j2 => ?_⟩
  · rw [iu_n (by omega)]; exact h1
  · rw [iu_n (by omega)]; exact h2
  · rw [iu_n (by omega)]; exact h3
  · rw [iu_n (by omega)]; exact h4
  · rw [iu_n (by omega)]; exact h5
  · rw [iu_n (by omega)]; exact h6
  · rw [iu_n (by omega)]; exact h7
  · rw [iu_n (by omega)]; exact h8
  · rw [iu_n (by omega)]; exact h9
  · by_cases e : c = k
    · rw [e, show 161 + 169 * z 160 + (9 + k) = i by omega, iu_s, hv]
    · rw [iu_n (by omega)]; exact h10 c c0 (by omega)
  · rw [iu_n (by omega)]; exact h11 j j0 j1 j2
theorem pickZ.mny {z f : Int → Int} {x y l a g d u k v : Int} {A : Int → Bool} (h : pickZ z f x y l a g d u A k) (hz : 0 ≤ z 160) : pickZ z (iu f 160 v) x y l a g d u A k := by
  obtain ⟨h1, h2, h3, h4, h5, h6, h7, h8, h9, h10, h11⟩ := h
  refine ⟨?_, ?_, ?_, ?_, ?_, ?_, ?_, ?_, ?_, fun c c0 c1 => ?_, fun j j0 j1 j2 => ?_⟩
  · rw [iu_n (by omega)]; exact h1
  · rw [iu_n (by omega)]; exact h2
  · rw [iu_n (by omega)]; exact h3
  · rw [iu_n (by omega)]; exact h4
  · rw [iu_n (by omega)]; exact h5
  · rw [iu_n (by omega)]; exact h6
  · rw [iu_n (by omega)]; exact h7
  · rw [iu_n (by omega)]; exact h8
  · rw [iu_n (by omega)]; exact h9
  · rw [iu_n (by omega)]; exact h10 c c0 c1
  · rw [iu_n (by omega)]; exact h11 j j0 j1 j2
def pickR (P : MP) (x y l a g d t r : Int) (P' : MP) : Prop := (¬ iCell x y ∧ t = 1 ∧ P' = P) ∨ (iCell x y ∧ ¬ pOk l a g d ∧ t = 2 ∧ P' = P) ∨ (iCell x y ∧ pOk l a g d ∧ P.1 160 = 12 ∧ t = 3 ∧ P' = P) ∨ (iCell x y ∧ pOk l a g d ∧ P.1 160 ≠ 12 ∧ t = 0 ∧ SavR P P' ∧ ∃ u A, wiA (aP P.1 (16 * y + x) l a) (16 * y + x) g u ∧ (∀ k, 0 ≤ k → k < 160 → (A k = true ↔ arA (aP P.1 (16 * y + x) l a) (16 * y + x) u k)) ∧ r = isum (fun k => b2i (A k)) 160 ∧ pickZ P.1 P'.1 x y l a g d u A 160 ∧ P'.1 160 = P.1 160 + 1)
abbrev isP (z : Int → Int) (p : Int) : Prop := 0 ≤ p ∧ p ≤ z 160 - 1
def togR (P : MP) (p t r : Int) (P' : MP) : Prop := (¬ isP P.1 p ∧ t = 1 ∧ P' = P) ∨ (isP P.1 p ∧ t = 0 ∧ SavR P P' ∧ r = 1 - P.1 (161 + 169 * p + 7) ∧ P'.1 (161 + 169 * p + 7) = r ∧ ∀ j, 0 ≤ j → j < 2189 → j ≠ 161 + 169 * p + 7 → P'.1 j = P.1 j)
def kndR (P : MP) (p d t r : Int) (P' : MP) : Prop := (¬ isP P.1 p ∧ t = 1 ∧ P' = P) ∨ (isP P.1 p ∧ ¬ (0 ≤ d ∧ d ≤ 3) ∧ t = 2 ∧ P' = P) ∨ (isP P.1 p ∧ (0 ≤ d ∧ d ≤ 3) ∧ t = 0 ∧ SavR P P' ∧ r = P.1 (161 + 169 * p + 5) ∧ P'.1 (161 + 169 * p + 5) = d ∧ ∀ j, 0 ≤ j → j < 2189 → j ≠ 161 + 169 * p + 5 → P'.1 j = P.1 j)
/-- where the pick at q stood before p went to t -/
abbrev imv (p t q : Int) : Int := if q = t then p else if p ≤ q ∧ q < t then q + 1 else if t < q ∧ q ≤ p then q - 1 else q
def Moved (z f : Int → Int) (m : Int → Int) : Prop := (∀ j, 0 ≤ j → j < 161 → f j = z j) ∧ ∀ q i, 0 ≤ q → q < 12 → 0 ≤ i → i < 169 → f (161 + 169 * q + i) = z (161 + 169 * m q + i)
theorem VZ.mv {z f : Int → Int} {m : Int → Int} (h : VZ z) (hm : ∀ q, 0 ≤ q → q < z 160 → 0 ≤ m q ∧ m q < z 160) (hf : Moved z f m) : VZ f := by
  obtain ⟨h1, h2, h3⟩ := h
  have e0 := hf.1 160 (by omega) (by omega)
  refine ⟨fun k k0 k1 => by rw [hf.1 k k0 (by omega)]; exact h1 k k0 k1, by rw [e0]; exact h2, fun p p0 p1 => ?_⟩
  rw [e0] at p1
  have g := h3 (m p) (hm p p0 p1).1 (hm p p0 p1).2
  have e := hf.2 p
  refine ⟨?_, ?_, ?_, ?_, ?_, ?_, ?_, ?_, ?_, fun c c0 c1 => ?_⟩
  · have := e 0 p0 (by omega) (by omega) (by omega); rw [Int.add_zero, Int.add_zero] at this; rw [this]; exact g.1
  · rw [e 1 p0 (by omega) (by omega) (by omega)]; exact g.2.1
  · rw [e 2 p0 (by omega) (by omega) (by omega)]; exact g.2.2.1
  · rw [e 3 p0 (by omega) (by omega) (by omega)]; exact g.2.2.2.1
  · rw [e 4 p0 (by omega) (by omega) (by omega)]; exact g.2.2.2.2.1
  · rw [e 5 p0 (by omega) (by omega) (by omega)]; exact g.2.2.2.2.2.1
  · rw [e 6 p0 (by omega) (by omega) (by omega)]; exact g.2.2.2.2.2.2.1
  · rw [e 7 p0 (by omega) (by omega) (by omega)]; exact g.2.2.2.2.2.2.2.1
  · rw [e 8 p0 (by omega) (by omega) (by omega)]; exact g.2.2.2.2.2.2.2.2.1
  · rw [e (9 + c) p0 (by omega) (by omega) (by omega)]; exact g.2.2.2.2.2.2.2.2.2 c c0 c1
theorem Moved.xch {z f f2 : Int → Int} {m m2 : Int → Int} {p : Int} (h : Moved z f m) (hp : 0 ≤ p ∧ p ≤ 10) (h2 : ∀ j, 0 ≤ j → j < 2189 → f2 j = if 161 + 169 * p ≤ j ∧ j < 161 + 169 * p + 169 then f (j + 169) else if 161 + 169 * p + 169 ≤ j ∧ j < 161 + 169 * p + 169 + 169 then f (j - 169) else f j) (m0 : m2 p = m (p + 1)) (m1 : m2 (p + 1) = m p) (mn : ∀ q, q ≠ p → q ≠ p + 1 → m2 q = m q) : Moved z f2 m2 := by
  refine ⟨fun j j0 j1 => ?_, fun q i q0 q1 i0 i1 => ?_⟩
  · rw [h2 j j0 (by omega), if_neg (by omega), if_neg (by omega)]; exact h.1 j j0 j1
  · rw [h2 _ (by omega) (by omega)]
    by_cases e : q = p
    · rw [if_pos (by omega), e, m0, ← h.2 (p + 1) i (by omega) (by omega) i0 i1]
      exact congrArg f (by omega)
    · rw [if_neg (by omega)]
      by_cases e1 : q = p + 1
      · rw [if_pos (by omega), e1, m1, ← h.2 p i (by omega) (by omega) i0 i1]
        exact congrArg f (by omega)
      · rw [if_neg (by omega), mn q e e1]
        exact h.2 q i q0 q1 i0 i1
def ordR (P : MP) (p u t r : Int) (P' : MP) : Prop := (¬ (isP P.1 p ∧ isP P.1 u) ∧ t = 1 ∧ P' = P) ∨ ((isP P.1 p ∧ isP P.1 u) ∧ t = 0 ∧ SavR P P' ∧ Moved P.1 P'.1 (imv p u) ∧ r = isum (fun k => if imS P'.1 k ≠ imS P.1 k then 1 else 0) 160)
/-- how many picks before i are in -/
abbrev icin (z : Int → Int) (i : Int) : Int := isum (fun p => z (161 + 169 * p + 7)) i
theorem icin_m {z : Int → Int} (h : VZ z) {p i : Int} (hp : 0 ≤ p) (hi : p < i) (hz : i ≤ z 160) : icin z p + z (161 + 169 * p + 7) ≤ icin z i := by
  have key : ∀ n : Nat, p + 1 + n ≤ z 160 → icin z p + z (161 + 169 * p + 7) ≤ icin z (p + 1 + n) := by
    intro n
    induction n with
    | zero => intro _; rw [show p + 1 + ((0 : Nat) : Int) = p + 1 by omega]; simp only [icin]; rw [isum_s hp]; omega
    | succ n ih =>
      intro hn
      have := ih (by omega)
      have g := (h.2.2 (p + 1 + n) (by omega) (by omega)).2.2.2.2.2.2.2.1
      rw [show p + 1 + ((n + 1 : Nat) : Int) = (p + 1 + n) + 1 by omega]
      simp only [icin] at this ⊢
      rw [isum_s (by omega)]
      omega
  have := key (i - p - 1).toNat (by omega)
  rw [show p + 1 + (((i - p - 1).toNat : Nat) : Int) = i by omega] at this
  exact this
theorem icin_b {z : Int → Int} (h : VZ z) {i : Int} (h0 : 0 ≤ i) (h1 : i ≤ z 160) : 0 ≤ icin z i ∧ icin z i ≤ i := by
  have := isum_b (f := fun p => z (161 + 169 * p + 7)) (lo := 0) (hi := 1) h0 (fun j j0 j1 => (h.2.2 j j0 (by omega)).2.2.2.2.2.2.2.1)
  simp only [icin]
  omega
def Clean (z f : Int → Int) (i : Int) : Prop := (∀ j, 0 ≤ j → j < 160 → f j = z j) ∧ ∀ p, 0 ≤ p → p < i → z (161 + 169 * p + 7) = 1 → ∀ k, 0 ≤ k → k < 169 → f (161 + 169 * icin z p + k) = z (161 + 169 * p + k)
def clnR (P : MP) (t r : Int) (P' : MP) : Prop := t = 0 ∧ SavR P P' ∧ Clean P.1 P'.1 (P.1 160) ∧ P'.1 160 = icin P.1 (P.1 160) ∧ r = P.1 160 - icin P.1 (P.1 160)
set_option maxRecDepth 100000 in
set_option maxHeartbeats 4000000 in
theorem m_softLevel {w0 w : WD} {sz μ : Nat} {P : MP} {K : MK} {c s : Int} (hM : MW w0 w μ P K) (hc : 0 ≤ c ∧ c < 160) (hs : 0 ≤ s ∧ s ≤ 4) : CT iX7_softLevel 0 0 [.ref μ, xI c, xI s] w sz (pR (some (xI (ilev K.2.2.1 c s))) w sz) := by
  refine CT.ofZ (by decide) rfl (Nat.le_of_ble_eq_true rfl) (fun Z hE => ?_)
  refine V_iload_n dX7_softLevel_0 2 rfl rfl ?_
  refine V_iconst dX7_softLevel_1 ?_
  refine V_iadd dX7_softLevel_2 ?_
  refine V_istore_n dX7_softLevel_3 3 rfl (by decide) ?_
  refine V_iconst dX7_softLevel_4 ?_
  refine V_istore dX7_softLevel_5 (by decide) ?_
  have L7 : ∀ k : Int, 0 ≤ k → k ≤ 160 → V iX7_softLevel Z 0 0 w sz 7 [some (.ref μ), some (xI c), some (xI s), some (xI (ilst K.2.2.1 c s k)), some (xI k)] [] := by
    refine up_ind ?_
    intro k hk0 hk1 ih
    have hb9 := ilst_b (A := K.2.2.1) (c := c) hs.1 hk0
    refine V_iload dX7_softLevel_7 rfl ?_
    refine V_sipush dX7_softLevel_9 (by decide) ?_
    refine V_icmp_ge 52 dX7_softLevel_12 (by decide) (by omega) (fun h12 => ?_) (fun h12 => ?_)
    · refine V_bipush dX7_softLevel_52 (by decide) ?_
      refine V_iload_n dX7_softLevel_54 2 rfl rfl ?_
      refine V_iconst dX7_softLevel_55 ?_
      refine V_iadd dX7_softLevel_56 ?_
      refine V_iload_n dX7_softLevel_57 3 rfl rfl ?_
      refine V_isub dX7_softLevel_58 ?_
      refine V_imul dX7_softLevel_59 ?_
      refine V_iload_n dX7_softLevel_60 2 rfl rfl ?_
      refine V_iconst dX7_softLevel_61 ?_
      refine V_iadd dX7_softLevel_62 ?_
      refine V_idivN dX7_softLevel_63 (by omega) ?_
      exact V_iret hE rfl dX7_softLevel_64 ⟨bE (by unfold ilev; rw [show k = 160 by omega]), rfl, rfl⟩
    · refine V_aload_n dX7_softLevel_15 0 rfl rfl ?_
      refine M_g_isArea hM rfl dX7_softLevel_16 ?_
      refine V_iload dX7_softLevel_19 rfl ?_
      refine M_l_isArea hM dX7_softLevel_21 (by first | omega | (dsimp only; omega) | (dsimp only at *; omega)) ?_
      try dsimp only
      refine V_ifeqB 44 dX7_softLevel_22 (by decide) (fun h22 => ?_) (fun h22 => ?_)
      · try simp only [decide_eq_true_eq, decide_eq_false_iff_not, Bool.not_eq_true] at h22
        refine V_iload_n dX7_softLevel_44 3 rfl rfl ?_
        refine V_istore_n dX7_softLevel_45 3 rfl (by decide) ?_
        refine V_iinc dX7_softLevel_46 rfl (by decide) ?_
        refine V_goto 7 dX7_softLevel_49 (by decide) ?_
        rw [ilst_s hk0] at ih
        first | (rw [if_pos ⟨h22, by omega⟩] at ih; exact ih (by omega)) | (rw [if_neg (fun q => by omega)] at ih; exact ih (by omega)) | (rw [if_neg (fun q => by rw [h22] at q; exact Bool.noConfusion q.1)] at ih; exact ih (by omega))
      · try simp only [decide_eq_true_eq, decide_eq_false_iff_not, Bool.not_eq_true] at h22
        refine V_iload_n dX7_softLevel_25 1 rfl rfl ?_
        refine V_iload dX7_softLevel_26 rfl ?_
        refine V_c_X7_82 rfl (by decide) (m_far (by omega)) dX7_softLevel_28 rfl rfl (Nat.le_of_ble_eq_true rfl) (Nat.le_of_eq (Nat.zero_add _)) (Nat.le_of_eq (Nat.zero_add _)) (fun v w sz q => ?_)
        try dsimp only at q
        obtain ⟨rfl, rfl, rfl⟩ := q
        have gf9 : 0 ≤ ifar c k ∧ ifar c k ≤ 15 := by
          unfold ifar iabs
          (repeat' split) <;> omega
        refine V_iload_n dX7_softLevel_31 3 rfl rfl ?_
        refine V_icmp_ge 44 dX7_softLevel_32 (by decide) (by omega) (fun h32 => ?_) (fun h32 => ?_)
        · refine V_iload_n dX7_softLevel_44 3 rfl rfl ?_
          refine V_istore_n dX7_softLevel_45 3 rfl (by decide) ?_
          refine V_iinc dX7_softLevel_46 rfl (by decide) ?_
          refine V_goto 7 dX7_softLevel_49 (by decide) ?_
          rw [ilst_s hk0] at ih
          first | (rw [if_pos ⟨h22, by omega⟩] at ih; exact ih (by omega)) | (rw [if_neg (fun q => by omega)] at ih; exact ih (by omega)) | (rw [if_neg (fun q => by rw [h22] at q; exact Bool.noConfusion q.1)] at ih; exact ih (by omega))
        · refine V_iload_n dX7_softLevel_35 1 rfl rfl ?_
          refine V_iload dX7_softLevel_36 rfl ?_
          refine V_c_X7_82 rfl (by decide) (m_far (by omega)) dX7_softLevel_38 rfl rfl (Nat.le_of_ble_eq_true rfl) (Nat.le_of_eq (Nat.zero_add _)) (Nat.le_of_eq (Nat.zero_add _)) (fun v w sz q => ?_)
          try dsimp only at q
          obtain ⟨rfl, rfl, rfl⟩ := q
          refine V_goto 45 dX7_softLevel_41 (by decide) ?_
          refine V_istore_n dX7_softLevel_45 3 rfl (by decide) ?_
          refine V_iinc dX7_softLevel_46 rfl (by decide) ?_
          refine V_goto 7 dX7_softLevel_49 (by decide) ?_
          rw [ilst_s hk0] at ih
          first | (rw [if_pos ⟨h22, by omega⟩] at ih; exact ih (by omega)) | (rw [if_neg (fun q => by omega)] at ih; exact ih (by omega)) | (rw [if_neg (fun q => by rw [h22] at q; exact Bool.noConfusion q.1)] at ih; exact ih (by omega))
  exact L7 (0) (by omega) (by omega)
set_option maxRecDepth 100000 in
set_option maxHeartbeats 4000000 in
theorem m_pick {w0 w : WD} {sz μ : Nat} {P : MP} {K : MK} {x y l a g d : Int} (hM : MW w0 w μ P K) (hv : VZ P.1) (hs : 0 ≤ P.2.1 ∧ P.2.1 ≤ 6) (r : -2147483648 ≤ x ∧ x < 2147483648 ∧ -2147483648 ≤ y ∧ y < 2147483648 ∧ -2147483648 ≤ l ∧ l < 2147483648 ∧ -2147483648 ≤ a ∧ a < 2147483648 ∧ -2147483648 ≤ g ∧ g < 2147483648 ∧ -2147483648 ≤ d ∧ d < 2147483648) : CT iX7_pick 0 0 [.ref μ, xI x, xI y, xI l, xI a, xI g, xI d] w sz (fun o9 w' sz' => sz' = sz ∧ ∃ r t P', o9 = some (xI r) ∧ MD w0 w' μ t P' ∧ pickR P x y l a g d t r P') := by
  have hzp := hv.2.1
  refine CT.ofZ (by decide) rfl (Nat.le_of_ble_eq_true rfl) (fun Z hE => ?_)
  refine V_iload_n dX7_pick_0 3 rfl rfl ?_
  refine V_iload dX7_pick_1 rfl ?_
  refine V_iload dX7_pick_3 rfl ?_
  refine V_c_X7_108 rfl (by decide) (m_isAsked (by omega)) dX7_pick_5 rfl rfl (Nat.le_of_ble_eq_true rfl) (Nat.le_of_eq (Nat.zero_add _)) (Nat.le_of_eq (Nat.zero_add _)) (fun v w sz q => ?_)
  try dsimp only at q
  obtain ⟨rfl, rfl, rfl⟩ := q
  refine V_ifeqB 35 dX7_pick_8 (by decide) (fun h8 => ?_) (fun h8 => ?_)
  · try simp only [decide_eq_true_eq, decide_eq_false_iff_not, Bool.not_eq_true] at h8
    refine V_iconst dX7_pick_35 ?_
    refine V_istore dX7_pick_36 (by decide) ?_
    refine V_aload_n dX7_pick_38 0 rfl rfl ?_
    refine V_iload_n dX7_pick_39 1 rfl rfl ?_
    refine V_iload_n dX7_pick_40 2 rfl rfl ?_
    refine V_c_X7_91 rfl (by decide) (m_isCell (by omega)) dX7_pick_41 rfl rfl (Nat.le_of_ble_eq_true rfl) (Nat.le_of_eq (Nat.zero_add _)) (Nat.le_of_eq (Nat.zero_add _)) (fun v w sz q => ?_)
    try dsimp only at q
    obtain ⟨rfl, rfl, rfl⟩ := q
    refine V_ifneB 51 dX7_pick_44 (by decide) (fun h44 => ?_) (fun h44 => ?_)
    · try simp only [decide_eq_true_eq, decide_eq_false_iff_not, Bool.not_eq_true] at h44
      refine V_iload dX7_pick_51 rfl ?_
      refine V_if_ne 60 dX7_pick_53 (by decide) (by omega) (fun h53 => ?_) (fun h53 => ?_)
      · exact absurd h53 (by simp)
      · refine V_iconst dX7_pick_56 ?_
        refine V_goto 78 dX7_pick_57 (by decide) ?_
        refine M_p_thrown hM rfl dX7_pick_78 (fun w hM => ?_)
        try dsimp only at hM
        refine V_aload_n dX7_pick_81 0 rfl rfl ?_
        refine M_g_thrown hM rfl dX7_pick_82 ?_
        try dsimp only
        refine V_if_le 90 dX7_pick_85 (by decide) (by omega) (fun h85 => ?_) (fun h85 => ?_)
        · exact absurd h85 (by simp)
        · refine V_iconst dX7_pick_88 ?_
          exact V_iret hE rfl dX7_pick_89 ⟨rfl, 0, 2, _, rfl, ⟨_, hM, rfl⟩, Or.inr (Or.inl ⟨by omega, by omega, rfl, rfl⟩)⟩
    · try simp only [decide_eq_true_eq, decide_eq_false_iff_not, Bool.not_eq_true] at h44
      refine V_iconst dX7_pick_47 ?_
      refine V_goto 78 dX7_pick_48 (by decide) ?_
      refine M_p_thrown hM rfl dX7_pick_78 (fun w hM => ?_)
      try dsimp only at hM
      refine V_aload_n dX7_pick_81 0 rfl rfl ?_
      refine M_g_thrown hM rfl dX7_pick_82 ?_
      try dsimp only
      refine V_if_le 90 dX7_pick_85 (by decide) (by omega) (fun h85 => ?_) (fun h85 => ?_)
      · exact absurd h85 (by simp)
      · refine V_iconst dX7_pick_88 ?_
        exact V_iret hE rfl dX7_pick_89 ⟨rfl, 0, 1, _, rfl, ⟨_, hM, rfl⟩, Or.inl ⟨by omega, rfl, rfl⟩⟩
  · try simp only [decide_eq_true_eq, decide_eq_false_iff_not, Bool.not_eq_true] at h8
    refine V_iload dX7_pick_11 rfl ?_
    refine V_iconst dX7_pick_13 ?_
    refine V_bipush dX7_pick_14 (by decide) ?_
    refine V_c_X7_42 rfl (by decide) (m_within (by omega)) dX7_pick_16 rfl rfl (Nat.le_of_ble_eq_true rfl) (Nat.le_of_eq (Nat.zero_add _)) (Nat.le_of_eq (Nat.zero_add _)) (fun v w sz q => ?_)
    try dsimp only at q
    obtain ⟨rfl, rfl, rfl⟩ := q
    refine V_ifeqB 35 dX7_pick_19 (by decide) (fun h19 => ?_) (fun h19 => ?_)
    · try simp only [decide_eq_true_eq, decide_eq_false_iff_not, Bool.not_eq_true] at h19
      refine V_iconst dX7_pick_35 ?_
      refine V_istore dX7_pick_36 (by decide) ?_
      refine V_aload_n dX7_pick_38 0 rfl rfl ?_
      refine V_iload_n dX7_pick_39 1 rfl rfl ?_
      refine V_iload_n dX7_pick_40 2 rfl rfl ?_
      refine V_c_X7_91 rfl (by decide) (m_isCell (by omega)) dX7_pick_41 rfl rfl (Nat.le_of_ble_eq_true rfl) (Nat.le_of_eq (Nat.zero_add _)) (Nat.le_of_eq (Nat.zero_add _)) (fun v w sz q => ?_)
      try dsimp only at q
      obtain ⟨rfl, rfl, rfl⟩ := q
      refine V_ifneB 51 dX7_pick_44 (by decide) (fun h44 => ?_) (fun h44 => ?_)
      · try simp only [decide_eq_true_eq, decide_eq_false_iff_not, Bool.not_eq_true] at h44
        refine V_iload dX7_pick_51 rfl ?_
        refine V_if_ne 60 dX7_pick_53 (by decide) (by omega) (fun h53 => ?_) (fun h53 => ?_)
        · exact absurd h53 (by simp)
        · refine V_iconst dX7_pick_56 ?_
          refine V_goto 78 dX7_pick_57 (by decide) ?_
          refine M_p_thrown hM rfl dX7_pick_78 (fun w hM => ?_)
          try dsimp only at hM
          refine V_aload_n dX7_pick_81 0 rfl rfl ?_
          refine M_g_thrown hM rfl dX7_pick_82 ?_
          try dsimp only
          refine V_if_le 90 dX7_pick_85 (by decide) (by omega) (fun h85 => ?_) (fun h85 => ?_)
          · exact absurd h85 (by simp)
          · refine V_iconst dX7_pick_88 ?_
            exact V_iret hE rfl dX7_pick_89 ⟨rfl, 0, 2, _, rfl, ⟨_, hM, rfl⟩, Or.inr (Or.inl ⟨by omega, by omega, rfl, rfl⟩)⟩
      · try simp only [decide_eq_true_eq, decide_eq_false_iff_not, Bool.not_eq_true] at h44
        refine V_iconst dX7_pick_47 ?_
        refine V_goto 78 dX7_pick_48 (by decide) ?_
        refine M_p_thrown hM rfl dX7_pick_78 (fun w hM => ?_)
        try dsimp only at hM
        refine V_aload_n dX7_pick_81 0 rfl rfl ?_
        refine M_g_thrown hM rfl dX7_pick_82 ?_
        try dsimp only
        refine V_if_le 90 dX7_pick_85 (by decide) (by omega) (fun h85 => ?_) (fun h85 => ?_)
        · exact absurd h85 (by simp)
        · refine V_iconst dX7_pick_88 ?_
          exact V_iret hE rfl dX7_pick_89 ⟨rfl, 0, 1, _, rfl, ⟨_, hM, rfl⟩, Or.inl ⟨by omega, rfl, rfl⟩⟩
    · try simp only [decide_eq_true_eq, decide_eq_false_iff_not, Bool.not_eq_true] at h19
      refine V_iload dX7_pick_22 rfl ?_
      refine V_bipush dX7_pick_24 (by decide) ?_
      refine V_iremN dX7_pick_26 (by omega) ?_
      refine V_iconst dX7_pick_27 ?_
      refine V_icmp_ge 35 dX7_pick_28 (by decide) (by omega) (fun h28 => ?_) (fun h28 => ?_)
      · refine V_iconst dX7_pick_35 ?_
        refine V_istore dX7_pick_36 (by decide) ?_
        refine V_aload_n dX7_pick_38 0 rfl rfl ?_
        refine V_iload_n dX7_pick_39 1 rfl rfl ?_
        refine V_iload_n dX7_pick_40 2 rfl rfl ?_
        refine V_c_X7_91 rfl (by decide) (m_isCell (by omega)) dX7_pick_41 rfl rfl (Nat.le_of_ble_eq_true rfl) (Nat.le_of_eq (Nat.zero_add _)) (Nat.le_of_eq (Nat.zero_add _)) (fun v w sz q => ?_)
        try dsimp only at q
        obtain ⟨rfl, rfl, rfl⟩ := q
        refine V_ifneB 51 dX7_pick_44 (by decide) (fun h44 => ?_) (fun h44 => ?_)
        · try simp only [decide_eq_true_eq, decide_eq_false_iff_not, Bool.not_eq_true] at h44
          refine V_iload dX7_pick_51 rfl ?_
          refine V_if_ne 60 dX7_pick_53 (by decide) (by omega) (fun h53 => ?_) (fun h53 => ?_)
          · exact absurd h53 (by simp)
          · refine V_iconst dX7_pick_56 ?_
            refine V_goto 78 dX7_pick_57 (by decide) ?_
            refine M_p_thrown hM rfl dX7_pick_78 (fun w hM => ?_)
            try dsimp only at hM
            refine V_aload_n dX7_pick_81 0 rfl rfl ?_
            refine M_g_thrown hM rfl dX7_pick_82 ?_
            try dsimp only
            refine V_if_le 90 dX7_pick_85 (by decide) (by omega) (fun h85 => ?_) (fun h85 => ?_)
            · exact absurd h85 (by simp)
            · refine V_iconst dX7_pick_88 ?_
              exact V_iret hE rfl dX7_pick_89 ⟨rfl, 0, 2, _, rfl, ⟨_, hM, rfl⟩, Or.inr (Or.inl ⟨by omega, by omega, rfl, rfl⟩)⟩
        · try simp only [decide_eq_true_eq, decide_eq_false_iff_not, Bool.not_eq_true] at h44
          refine V_iconst dX7_pick_47 ?_
          refine V_goto 78 dX7_pick_48 (by decide) ?_
          refine M_p_thrown hM rfl dX7_pick_78 (fun w hM => ?_)
          try dsimp only at hM
          refine V_aload_n dX7_pick_81 0 rfl rfl ?_
          refine M_g_thrown hM rfl dX7_pick_82 ?_
          try dsimp only
          refine V_if_le 90 dX7_pick_85 (by decide) (by omega) (fun h85 => ?_) (fun h85 => ?_)
          · exact absurd h85 (by simp)
          · refine V_iconst dX7_pick_88 ?_
            exact V_iret hE rfl dX7_pick_89 ⟨rfl, 0, 1, _, rfl, ⟨_, hM, rfl⟩, Or.inl ⟨by omega, rfl, rfl⟩⟩
      · refine V_iconst dX7_pick_31 ?_
        refine V_goto 36 dX7_pick_32 (by decide) ?_
        refine V_istore dX7_pick_36 (by decide) ?_
        refine V_aload_n dX7_pick_38 0 rfl rfl ?_
        refine V_iload_n dX7_pick_39 1 rfl rfl ?_
        refine V_iload_n dX7_pick_40 2 rfl rfl ?_
        refine V_c_X7_91 rfl (by decide) (m_isCell (by omega)) dX7_pick_41 rfl rfl (Nat.le_of_ble_eq_true rfl) (Nat.le_of_eq (Nat.zero_add _)) (Nat.le_of_eq (Nat.zero_add _)) (fun v w sz q => ?_)
        try dsimp only at q
        obtain ⟨rfl, rfl, rfl⟩ := q
        refine V_ifneB 51 dX7_pick_44 (by decide) (fun h44 => ?_) (fun h44 => ?_)
        · try simp only [decide_eq_true_eq, decide_eq_false_iff_not, Bool.not_eq_true] at h44
          refine V_iload dX7_pick_51 rfl ?_
          refine V_if_ne 60 dX7_pick_53 (by decide) (by omega) (fun h53 => ?_) (fun h53 => ?_)
          · refine V_aload_n dX7_pick_60 0 rfl rfl ?_
            refine M_g_z hM rfl dX7_pick_61 ?_
            refine V_sipush dX7_pick_64 (by decide) ?_
            refine M_l_z hM dX7_pick_67 (by first | omega | (dsimp only; omega) | (dsimp only at *; omega)) ?_
            try dsimp only
            refine V_bipush dX7_pick_68 (by decide) ?_
            refine V_icmp_ne 77 dX7_pick_70 (by decide) (by omega) (fun h70 => ?_) (fun h70 => ?_)
            · refine V_iconst dX7_pick_77 ?_
              refine M_p_thrown hM rfl dX7_pick_78 (fun w hM => ?_)
              try dsimp only at hM
              refine V_aload_n dX7_pick_81 0 rfl rfl ?_
              refine M_g_thrown hM rfl dX7_pick_82 ?_
              try dsimp only
              refine V_if_le 90 dX7_pick_85 (by decide) (by omega) (fun h85 => ?_) (fun h85 => ?_)
              · refine V_aload_n dX7_pick_90 0 rfl rfl ?_
                refine V_c_X7_98 rfl (by decide) (m_save hM hs) dX7_pick_91 hM.1 rfl rfl (Nat.le_of_ble_eq_true rfl) (Nat.le_of_eq (Nat.zero_add _)) (Nat.le_of_eq (Nat.zero_add _)) (fun v w sz q => ?_)
                try dsimp only at q
                obtain ⟨rfl, rfl, S, hM, hS⟩ := q
                rw [show (if P.2.1 = 6 then 6 else P.2.1 + 1) = isv P.2.1 + 1 by unfold isv; omega] at hM
                have hi9 : 0 ≤ isv P.2.1 ∧ isv P.2.1 ≤ 5 := by unfold isv; omega
                refine V_aload_n dX7_pick_94 0 rfl rfl ?_
                refine V_bipush dX7_pick_95 (by decide) ?_
                refine V_iload_n dX7_pick_97 2 rfl rfl ?_
                refine V_imul dX7_pick_98 ?_
                refine V_iload_n dX7_pick_99 1 rfl rfl ?_
                refine V_iadd dX7_pick_100 ?_
                refine V_iload_n dX7_pick_101 3 rfl rfl ?_
                refine V_iload dX7_pick_102 rfl ?_
                refine V_iload dX7_pick_104 rfl ?_
                refine V_c_X7_111 rfl (by decide) (m_layArea hM hv.1 (by omega) (by omega) (by omega) (by omega)) dX7_pick_106 hM.1 rfl rfl (Nat.le_of_ble_eq_true rfl) (Nat.le_of_eq (Nat.zero_add _)) (Nat.le_of_eq (Nat.zero_add _)) (fun v w sz q => ?_)
                try dsimp only at q
                obtain ⟨rfl, rfl, K', hM, hK0, -, -, -, hwi, hA⟩ := q
                refine V_sipush dX7_pick_109 (by decide) ?_
                refine V_sipush dX7_pick_112 (by decide) ?_
                refine V_aload_n dX7_pick_115 0 rfl rfl ?_
                refine M_g_z hM rfl dX7_pick_116 ?_
                refine V_sipush dX7_pick_119 (by decide) ?_
                refine M_l_z hM dX7_pick_122 (by first | omega | (dsimp only; omega) | (dsimp only at *; omega)) ?_
                try dsimp only
                refine V_imul dX7_pick_123 ?_
                refine V_iadd dX7_pick_124 ?_
                refine V_istore dX7_pick_125 (by decide) ?_
                refine V_aload_n dX7_pick_127 0 rfl rfl ?_
                refine M_g_z hM rfl dX7_pick_128 ?_
                refine V_iload dX7_pick_131 rfl ?_
                refine V_iload_n dX7_pick_133 1 rfl rfl ?_
                refine M_s_z hM dX7_pick_134 (by first | omega | (dsimp only; omega) | (dsimp only at *; omega)) (fun w hM => ?_)
                try dsimp only at hM
                refine V_aload_n dX7_pick_135 0 rfl rfl ?_
                refine M_g_z hM rfl dX7_pick_136 ?_
                refine V_iload dX7_pick_139 rfl ?_
                refine V_iconst dX7_pick_141 ?_
                refine V_iadd dX7_pick_142 ?_
                refine V_iload_n dX7_pick_143 2 rfl rfl ?_
                refine M_s_z hM dX7_pick_144 (by first | omega | (dsimp only; omega) | (dsimp only at *; omega)) (fun w hM => ?_)
                try dsimp only at hM
                refine V_aload_n dX7_pick_145 0 rfl rfl ?_
                refine M_g_z hM rfl dX7_pick_146 ?_
                refine V_iload dX7_pick_149 rfl ?_
                refine V_iconst dX7_pick_151 ?_
                refine V_iadd dX7_pick_152 ?_
                refine V_iload_n dX7_pick_153 3 rfl rfl ?_
                refine M_s_z hM dX7_pick_154 (by first | omega | (dsimp only; omega) | (dsimp only at *; omega)) (fun w hM => ?_)
                try dsimp only at hM
                refine V_aload_n dX7_pick_155 0 rfl rfl ?_
                refine M_g_z hM rfl dX7_pick_156 ?_
                refine V_iload dX7_pick_159 rfl ?_
                refine V_iconst dX7_pick_161 ?_
                refine V_iadd dX7_pick_162 ?_
                refine V_iload dX7_pick_163 rfl ?_
                refine M_s_z hM dX7_pick_165 (by first | omega | (dsimp only; omega) | (dsimp only at *; omega)) (fun w hM => ?_)
                try dsimp only at hM
                refine V_aload_n dX7_pick_166 0 rfl rfl ?_
                refine M_g_z hM rfl dX7_pick_167 ?_
                refine V_iload dX7_pick_170 rfl ?_
                refine V_iconst dX7_pick_172 ?_
                refine V_iadd dX7_pick_173 ?_
                refine V_iload dX7_pick_174 rfl ?_
                refine M_s_z hM dX7_pick_176 (by first | omega | (dsimp only; omega) | (dsimp only at *; omega)) (fun w hM => ?_)
                try dsimp only at hM
                refine V_aload_n dX7_pick_177 0 rfl rfl ?_
                refine M_g_z hM rfl dX7_pick_178 ?_
                refine V_iload dX7_pick_181 rfl ?_
                refine V_iconst dX7_pick_183 ?_
                refine V_iadd dX7_pick_184 ?_
                refine V_iload dX7_pick_185 rfl ?_
                refine V_bipush dX7_pick_187 (by decide) ?_
                refine V_iremN dX7_pick_189 (by omega) ?_
                refine M_s_z hM dX7_pick_190 (by first | omega | (dsimp only; omega) | (dsimp only at *; omega)) (fun w hM => ?_)
                try dsimp only at hM
                refine V_aload_n dX7_pick_191 0 rfl rfl ?_
                refine M_g_z hM rfl dX7_pick_192 ?_
                refine V_iload dX7_pick_195 rfl ?_
                refine V_bipush dX7_pick_197 (by decide) ?_
                refine V_iadd dX7_pick_199 ?_
                refine V_iload dX7_pick_200 rfl ?_
                refine V_bipush dX7_pick_202 (by decide) ?_
                refine V_idivN dX7_pick_204 (by omega) ?_
                refine M_s_z hM dX7_pick_205 (by first | omega | (dsimp only; omega) | (dsimp only at *; omega)) (fun w hM => ?_)
                try dsimp only at hM
                refine V_aload_n dX7_pick_206 0 rfl rfl ?_
                refine M_g_z hM rfl dX7_pick_207 ?_
                refine V_iload dX7_pick_210 rfl ?_
                refine V_bipush dX7_pick_212 (by decide) ?_
                refine V_iadd dX7_pick_214 ?_
                refine V_iconst dX7_pick_215 ?_
                refine M_s_z hM dX7_pick_216 (by first | omega | (dsimp only; omega) | (dsimp only at *; omega)) (fun w hM => ?_)
                try dsimp only at hM
                refine V_aload_n dX7_pick_217 0 rfl rfl ?_
                refine M_g_z hM rfl dX7_pick_218 ?_
                refine V_iload dX7_pick_221 rfl ?_
                refine V_bipush dX7_pick_223 (by decide) ?_
                refine V_iadd dX7_pick_225 ?_
                refine V_aload_n dX7_pick_226 0 rfl rfl ?_
                refine M_g_width hM rfl dX7_pick_227 ?_
                try dsimp only
                refine M_s_z hM dX7_pick_230 (by first | omega | (dsimp only; omega) | (dsimp only at *; omega)) (fun w hM => ?_)
                try dsimp only at hM
                refine V_iconst dX7_pick_231 ?_
                refine V_istore dX7_pick_232 (by decide) ?_
                have L234 : ∀ k : Int, 0 ≤ k → k ≤ 160 → ∀ (w : WD) (f : Int → Int), MW w0 w μ (f, isv P.2.1 + 1, S, P.2.2.2) K' → pickZ P.1 f x y l a g d K'.width K'.isArea k → f 160 = P.1 160 → V iX7_pick Z 0 0 w sz 234 [some (.ref μ), some (xI x), some (xI y), some (xI l), some (xI a), some (xI g), some (xI d), none, some (xI (161 + 169 * P.1 160)), some (xI k)] [] := by
                  refine up_ind ?_
                  intro k hk0 hk1 ih w f hM hf h160
                  refine V_iload dX7_pick_234 rfl ?_
                  refine V_sipush dX7_pick_236 (by decide) ?_
                  refine V_icmp_ge 272 dX7_pick_239 (by decide) (by omega) (fun h239 => ?_) (fun h239 => ?_)
                  · refine V_aload_n dX7_pick_272 0 rfl rfl ?_
                    refine M_g_z hM rfl dX7_pick_273 ?_
                    refine V_sipush dX7_pick_276 (by decide) ?_
                    refine V_dup2 dX7_pick_279 rfl rfl ?_
                    refine M_l_z hM dX7_pick_280 (by first | omega | (dsimp only; omega) | (dsimp only at *; omega)) ?_
                    try dsimp only
                    refine V_iconst dX7_pick_281 ?_
                    refine V_iadd dX7_pick_282 ?_
                    refine M_s_z hM dX7_pick_283 (by first | omega | (dsimp only; omega) | (dsimp only at *; omega)) (fun w hM => ?_)
                    try dsimp only at hM
                    refine V_aload_n dX7_pick_284 0 rfl rfl ?_
                    refine V_c_X7_118 rfl (by decide) (m_areaSize hM) dX7_pick_285 hM.1 rfl rfl (Nat.le_of_ble_eq_true rfl) (Nat.le_of_eq (Nat.zero_add _)) (Nat.le_of_eq (Nat.zero_add _)) (fun v w sz q => ?_)
                    try dsimp only at q
                    obtain ⟨rfl, rfl, rfl⟩ := q
                    exact V_iret hE rfl dX7_pick_288 ⟨rfl, _, 0, _, rfl, ⟨_, hM, hK0⟩, Or.inr (Or.inr (Or.inr ⟨by omega, by omega, by omega, rfl, ⟨rfl, hS, rfl⟩, _, _, hwi, hA, rfl, by
                      have := hf.mny (v := f 160 + 1) hzp.1
                      rw [show k = 160 by omega] at this
                      exact this, by dsimp only; rw [iu_s, h160]⟩))⟩
                  · refine V_aload_n dX7_pick_242 0 rfl rfl ?_
                    refine M_g_z hM rfl dX7_pick_243 ?_
                    refine V_iload dX7_pick_246 rfl ?_
                    refine V_bipush dX7_pick_248 (by decide) ?_
                    refine V_iadd dX7_pick_250 ?_
                    refine V_iload dX7_pick_251 rfl ?_
                    refine V_iadd dX7_pick_253 ?_
                    refine V_aload_n dX7_pick_254 0 rfl rfl ?_
                    refine V_iload dX7_pick_255 rfl ?_
                    refine V_iload dX7_pick_257 rfl ?_
                    refine V_bipush dX7_pick_259 (by decide) ?_
                    refine V_idivN dX7_pick_261 (by omega) ?_
                    refine V_c_X7_115 rfl (by decide) (m_softLevel hM (by omega) (by omega)) dX7_pick_262 hM.1 rfl rfl (Nat.le_of_ble_eq_true rfl) (Nat.le_of_eq (Nat.zero_add _)) (Nat.le_of_eq (Nat.zero_add _)) (fun v w sz q => ?_)
                    try dsimp only at q
                    obtain ⟨rfl, rfl, rfl⟩ := q
                    refine M_s_z hM dX7_pick_265 (by first | omega | (dsimp only; omega) | (dsimp only at *; omega)) (fun w hM => ?_)
                    try dsimp only at hM
                    refine V_iinc dX7_pick_266 rfl (by decide) ?_
                    refine V_goto 234 dX7_pick_269 (by decide) ?_
                    refine V_fg [true, true, true, true, true, true, true, false, true, true] ?_
                    exact ih (by omega) _ _ hM (pickZ.nxt hf hzp.1 hk0 rfl rfl) (by rw [iu_n (by omega)]; exact h160)
                refine V_fg [true, true, true, true, true, true, true, false, true, true] ?_
                exact L234 (0) (by omega) (by omega) w _ hM (by
                  refine ⟨?_, ?_, ?_, ?_, ?_, ?_, ?_, ?_, ?_, fun c c0 c1 => by omega, fun j j0 j1 j2 => ?_⟩
                  all_goals (unfold iu; repeat' split) <;> first | rfl | omega) (by (unfold iu; repeat' split) <;> first | rfl | omega)
              · exact absurd h85 (by simp)
            · refine V_iconst dX7_pick_73 ?_
              refine V_goto 78 dX7_pick_74 (by decide) ?_
              refine M_p_thrown hM rfl dX7_pick_78 (fun w hM => ?_)
              try dsimp only at hM
              refine V_aload_n dX7_pick_81 0 rfl rfl ?_
              refine M_g_thrown hM rfl dX7_pick_82 ?_
              try dsimp only
              refine V_if_le 90 dX7_pick_85 (by decide) (by omega) (fun h85 => ?_) (fun h85 => ?_)
              · exact absurd h85 (by simp)
              · refine V_iconst dX7_pick_88 ?_
                exact V_iret hE rfl dX7_pick_89 ⟨rfl, 0, 3, _, rfl, ⟨_, hM, rfl⟩, Or.inr (Or.inr (Or.inl ⟨by omega, by omega, by omega, rfl, rfl⟩))⟩
          · exact absurd h53 (by simp)
        · try simp only [decide_eq_true_eq, decide_eq_false_iff_not, Bool.not_eq_true] at h44
          refine V_iconst dX7_pick_47 ?_
          refine V_goto 78 dX7_pick_48 (by decide) ?_
          refine M_p_thrown hM rfl dX7_pick_78 (fun w hM => ?_)
          try dsimp only at hM
          refine V_aload_n dX7_pick_81 0 rfl rfl ?_
          refine M_g_thrown hM rfl dX7_pick_82 ?_
          try dsimp only
          refine V_if_le 90 dX7_pick_85 (by decide) (by omega) (fun h85 => ?_) (fun h85 => ?_)
          · exact absurd h85 (by simp)
          · refine V_iconst dX7_pick_88 ?_
            exact V_iret hE rfl dX7_pick_89 ⟨rfl, 0, 1, _, rfl, ⟨_, hM, rfl⟩, Or.inl ⟨by omega, rfl, rfl⟩⟩
