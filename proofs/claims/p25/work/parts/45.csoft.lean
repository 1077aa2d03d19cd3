/-! the class: soft levels -/
def Tch (f : Int → Int) (c l : Int) : Prop := ∃ j, 0 ≤ j ∧ j < 160 ∧ ifar c j ≤ 1 ∧ f j = l
theorem Tch_i {f : Int → Int} {c l x y : Int} (hc : 0 ≤ c ∧ c < 160) (hx : c % 16 - 1 ≤ x ∧ x ≤ c % 16 + 1) (hy : c / 16 - 1 ≤ y ∧ y ≤ c / 16 + 1) (hi : iCell x y) (h : f (16 * y + x) = l) : Tch f c l := by
  refine ⟨16 * y + x, by omega, by omega, ?_, h⟩
  have e1 : (16 * y + x) % 16 = x := by omega
  have e2 : (16 * y + x) / 16 = y := by omega
  unfold ifar iabs
  rw [e1, e2]
  omega
theorem Tch_n {f : Int → Int} {c l : Int} (hc : 0 ≤ c ∧ c < 160) (h : ∀ y x, c / 16 - 1 ≤ y → y ≤ c / 16 + 1 → c % 16 - 1 ≤ x → x ≤ c % 16 + 1 → iCell x y → f (16 * y + x) ≠ l) : ¬ Tch f c l := by
  rintro ⟨j, j0, j1, j2, j3⟩
  have g : c / 16 - 1 ≤ j / 16 ∧ j / 16 ≤ c / 16 + 1 ∧ c % 16 - 1 ≤ j % 16 ∧ j % 16 ≤ c % 16 + 1 := by
    unfold ifar iabs at j2
    omega
  refine h (j / 16) (j % 16) (by omega) (by omega) (by omega) (by omega) (by omega) ?_
  rw [show 16 * (j / 16) + j % 16 = j by omega]
  exact j3
set_option maxRecDepth 100000 in
set_option maxHeartbeats 4000000 in
theorem c_touches {w : WD} {sz a9 : Nat} {f : Int → Int} {c l : Int} (hv : w a9 = some (xIA 160 f)) (hc : 0 ≤ c ∧ c < 160) (hl : 0 ≤ l ∧ l ≤ 100) (hf : ∀ k, 0 ≤ k → k < 160 → 0 ≤ f k ∧ f k ≤ 100) : CT iX0_touches 0 0 [.ref a9, xI c, xI l] w sz (fun v w' sz' => w' = w ∧ sz' = sz ∧ ∃ b, v = some (xB b) ∧ (b = true ↔ Tch f c l)) := by
  refine CT.ofZ (by decide) rfl (Nat.le_of_ble_eq_true rfl) (fun Z hE => ?_)
  refine V_iload_n dX0_touches_0 1 rfl rfl ?_
  refine V_bipush dX0_touches_1 (by decide) ?_
  refine V_iremN dX0_touches_3 (by omega) ?_
  refine V_istore_n dX0_touches_4 3 rfl (by decide) ?_
  refine V_iload_n dX0_touches_5 1 rfl rfl ?_
  refine V_bipush dX0_touches_6 (by decide) ?_
  refine V_idivN dX0_touches_8 (by omega) ?_
  refine V_istore dX0_touches_9 (by decide) ?_
  refine V_iload dX0_touches_11 rfl ?_
  refine V_iconst dX0_touches_13 ?_
  refine V_isub dX0_touches_14 ?_
  refine V_istore dX0_touches_15 (by decide) ?_
  have L17 : ∀ i : Int, c / 16 - 1 ≤ i → i ≤ c / 16 + 2 → (∀ y x, c / 16 - 1 ≤ y → y < i → c % 16 - 1 ≤ x → x ≤ c % 16 + 1 → iCell x y → f (16 * y + x) ≠ l) → V iX0_touches Z 0 0 w sz 17 [some (.ref a9), some (xI c), some (xI l), some (xI (c % 16)), some (xI (c / 16)), some (xI i), none] [] := by
    refine up_ind ?_
    intro i hi0 hi1 ihi hn
    refine V_iload dX0_touches_17 rfl ?_
    refine V_iload dX0_touches_19 rfl ?_
    refine V_iconst dX0_touches_21 ?_
    refine V_iadd dX0_touches_22 ?_
    refine V_icmp_gt 76 dX0_touches_23 (by decide) (by omega) (fun h23 => ?_) (fun h23 => ?_)
    · refine V_iconst dX0_touches_76 ?_
      exact V_zret (b := false) hE rfl dX0_touches_77 ⟨rfl, rfl, false, rfl, fun g => (Bool.false_ne_true g).elim, fun g => absurd g (Tch_n hc (fun y x g1 g2 g3 g4 => hn y x g1 (by omega) g3 g4))⟩
    · refine V_iload_n dX0_touches_26 3 rfl rfl ?_
      refine V_iconst dX0_touches_27 ?_
      refine V_isub dX0_touches_28 ?_
      refine V_istore dX0_touches_29 (by decide) ?_
      have L31 : ∀ j : Int, c % 16 - 1 ≤ j → j ≤ c % 16 + 2 → (∀ x, c % 16 - 1 ≤ x → x < j → iCell x i → f (16 * i + x) ≠ l) → V iX0_touches Z 0 0 w sz 31 [some (.ref a9), some (xI c), some (xI l), some (xI (c % 16)), some (xI (c / 16)), some (xI i), some (xI j)] [] := by
        refine up_ind ?_
        intro j hj0 hj1 ihj hm
        refine V_iload dX0_touches_31 rfl ?_
        refine V_iload_n dX0_touches_33 3 rfl rfl ?_
        refine V_iconst dX0_touches_34 ?_
        refine V_iadd dX0_touches_35 ?_
        refine V_icmp_gt 70 dX0_touches_36 (by decide) (by omega) (fun h36 => ?_) (fun h36 => ?_)
        · refine V_iinc dX0_touches_70 rfl (by decide) ?_
          refine V_goto 17 dX0_touches_73 (by decide) ?_
          refine V_fg [true, true, true, true, true, true, false] ?_
          refine ihi (by omega) (fun y x g1 g2 g3 g4 => ?_)
          by_cases e : y = i
          · rw [e]; exact hm x g3 (by omega)
          · exact hn y x g1 (by omega) g3 g4
        · refine V_iload dX0_touches_39 rfl ?_
          refine V_iload dX0_touches_41 rfl ?_
          refine V_c_X0_92 rfl (by decide) (c_isCell (by omega)) dX0_touches_43 rfl rfl (Nat.le_of_ble_eq_true rfl) (Nat.le_of_eq (Nat.zero_add _)) (Nat.le_of_eq (Nat.zero_add _)) (fun v w sz q => ?_)
          obtain ⟨rfl, rfl, rfl⟩ := q
          refine V_ifeqB 64 dX0_touches_46 (by decide) (fun h46 => ?_) (fun h46 => ?_)
          · try simp only [decide_eq_true_eq, decide_eq_false_iff_not, Bool.not_eq_true] at h46
            refine V_iinc dX0_touches_64 rfl (by decide) ?_
            refine V_goto 31 dX0_touches_67 (by decide) ?_
            refine ihj (by omega) (fun x g1 g2 g3 => ?_)
            by_cases e : x = j
            · rw [e] at g3 ⊢; exact absurd g3 h46
            · exact hm x g1 (by omega) g3
          · try simp only [decide_eq_true_eq, decide_eq_false_iff_not, Bool.not_eq_true] at h46
            refine V_aload_n dX0_touches_49 0 rfl rfl ?_
            refine V_iload dX0_touches_50 rfl ?_
            refine V_iload dX0_touches_52 rfl ?_
            refine V_c_X0_96 rfl (by decide) (c_cellAt) dX0_touches_54 rfl rfl (Nat.le_of_ble_eq_true rfl) (Nat.le_of_eq (Nat.zero_add _)) (Nat.le_of_eq (Nat.zero_add _)) (fun v w sz q => ?_)
            obtain ⟨rfl, rfl, rfl⟩ := q
            have g9 := hf (16 * i + j) (by omega) (by omega)
            refine V_iald dX0_touches_57 hv (by omega) ?_
            refine V_iload_n dX0_touches_58 2 rfl rfl ?_
            refine V_icmp_ne 64 dX0_touches_59 (by decide) (by omega) (fun h59 => ?_) (fun h59 => ?_)
            · refine V_iinc dX0_touches_64 rfl (by decide) ?_
              refine V_goto 31 dX0_touches_67 (by decide) ?_
              refine ihj (by omega) (fun x g1 g2 g3 => ?_)
              by_cases e : x = j
              · rw [e] at g3 ⊢; exact h59
              · exact hm x g1 (by omega) g3
            · refine V_iconst dX0_touches_62 ?_
              exact V_zret (b := true) hE rfl dX0_touches_63 ⟨rfl, rfl, true, rfl, fun _ => Tch_i hc (by omega) (by omega) h46 h59, fun _ => rfl⟩
      exact L31 ((c % 16 - 1)) (by omega) (by omega) (fun x g1 g2 => by omega)
  refine V_fg [true, true, true, true, true, true, false] ?_
  exact L17 ((c / 16 - 1)) (by omega) (by omega) (fun y x g1 g2 => by omega)
/-- the ring laid up to the cell k -/
def Rng (f g : Int → Int) (i u k : Int) : Prop := ∀ j, 0 ≤ j → j < 160 → ((j < k ∧ f j = 0 ∧ Tch f j i) ∧ g j = u) ∨ (¬ (j < k ∧ f j = 0 ∧ Tch f j i) ∧ g j = f j)
theorem Rng.tch {f g : Int → Int} {i u k c : Int} (h : Rng f g i u k) (hi : i ≠ 0) (hu : i ≠ u) : Tch g c i ↔ Tch f c i := by
  constructor
  · rintro ⟨j, j0, j1, j2, j3⟩
    rcases h j j0 j1 with ⟨-, g2⟩ | ⟨-, g2⟩
    · exact absurd (j3.symm.trans g2) hu
    · exact ⟨j, j0, j1, j2, by rw [← g2]; exact j3⟩
  · rintro ⟨j, j0, j1, j2, j3⟩
    rcases h j j0 j1 with ⟨⟨-, g1, -⟩, -⟩ | ⟨-, g2⟩
    · exact absurd (j3.symm.trans g1) hi
    · exact ⟨j, j0, j1, j2, by rw [g2]; exact j3⟩
set_option maxRecDepth 100000 in
set_option maxHeartbeats 4000000 in
theorem c_addRing {w : WD} {sz a9 : Nat} {f : Int → Int} {i u : Int} (hv : w a9 = some (xIA 160 f)) (hi : 1 ≤ i ∧ i ≤ 100) (hu : 0 ≤ u ∧ u < i) (hf : ∀ k, 0 ≤ k → k < 160 → 0 ≤ f k ∧ f k ≤ 100) : CT iX0_addRing 0 0 [.ref a9, xI i, xI u] w sz (fun v w' sz' => v = none ∧ sz' = sz ∧ ∃ g, UA w w' a9 (xIA 160 g) ∧ Rng f g i u 160) := by
  refine CT.ofZ (by decide) rfl (Nat.le_of_ble_eq_true rfl) (fun Z hE => ?_)
  refine V_iconst dX0_addRing_0 ?_
  refine V_istore_n dX0_addRing_1 3 rfl (by decide) ?_
  have L2 : ∀ k : Int, 0 ≤ k → k ≤ 160 → ∀ (w' : WD) (g : Int → Int), UA w w' a9 (xIA 160 g) → Rng f g i u k → V iX0_addRing Z 0 0 w' sz 2 [some (.ref a9), some (xI i), some (xI u), some (xI k)] [] := by
    refine up_ind ?_
    intro k hk0 hk1 ih w' g hu9 hR
    have hg9 : ∀ j, 0 ≤ j → j < 160 → 0 ≤ g j ∧ g j ≤ 100 := fun j g1 g2 => by
      have := hf j g1 g2
      rcases hR j g1 g2 with ⟨q1, q2⟩ | ⟨q1, q2⟩ <;> omega
    refine V_iload_n dX0_addRing_2 3 rfl rfl ?_
    refine V_sipush dX0_addRing_3 (by decide) ?_
    refine V_icmp_ge 34 dX0_addRing_6 (by decide) (by omega) (fun h6 => ?_) (fun h6 => ?_)
    · exact V_vret hE rfl dX0_addRing_34 ⟨rfl, rfl, g, hu9, by rw [show (160 : Int) = k by omega]; exact hR⟩
    · refine V_aload_n dX0_addRing_9 0 rfl rfl ?_
      refine V_iload_n dX0_addRing_10 3 rfl rfl ?_
      have g9 := hg9 k hk0 (by omega)
      refine V_iald dX0_addRing_11 hu9.1 ⟨hk0, by omega⟩ ?_
      refine V_if_ne 28 dX0_addRing_12 (by decide) (by omega) (fun h12 => ?_) (fun h12 => ?_)
      · refine V_iinc dX0_addRing_28 rfl (by decide) ?_
        refine V_goto 2 dX0_addRing_31 (by decide) ?_
        refine ih (by omega) _ _ hu9 (fun j g1 g2 => ?_)
        by_cases e : j = k
        rotate_left
        · rcases hR j g1 g2 with ⟨q1, q2⟩ | ⟨q1, q2⟩
          · exact Or.inl ⟨⟨by omega, q1.2⟩, q2⟩
          · exact Or.inr ⟨fun q => q1 ⟨by omega, q.2⟩, q2⟩
        rcases hR k hk0 (by omega) with ⟨q1, q2⟩ | ⟨q1, q2⟩
        · exact absurd q1.1 (by omega)
        rw [e]
        exact Or.inr ⟨fun q => h12 (q2.trans q.2.1), q2⟩
      · refine V_aload_n dX0_addRing_15 0 rfl rfl ?_
        refine V_iload_n dX0_addRing_16 3 rfl rfl ?_
        refine V_iload_n dX0_addRing_17 1 rfl rfl ?_
        refine V_c_X0_109 rfl (by decide) (c_touches hu9.1 ⟨hk0, by omega⟩ ⟨by omega, by omega⟩ hg9) dX0_addRing_18 rfl rfl (Nat.le_of_ble_eq_true rfl) (Nat.le_of_eq (Nat.zero_add _)) (Nat.le_of_eq (Nat.zero_add _)) (fun v w sz q => ?_)
        obtain ⟨rfl, rfl, b, rfl, hb⟩ := q
        refine V_ifeqB 28 dX0_addRing_21 (by decide) (fun h21 => ?_) (fun h21 => ?_)
        · try simp only [decide_eq_true_eq, decide_eq_false_iff_not, Bool.not_eq_true] at h21
          refine V_iinc dX0_addRing_28 rfl (by decide) ?_
          refine V_goto 2 dX0_addRing_31 (by decide) ?_
          refine ih (by omega) _ _ hu9 (fun j g1 g2 => ?_)
          by_cases e : j = k
          rotate_left
          · rcases hR j g1 g2 with ⟨q1, q2⟩ | ⟨q1, q2⟩
            · exact Or.inl ⟨⟨by omega, q1.2⟩, q2⟩
            · exact Or.inr ⟨fun q => q1 ⟨by omega, q.2⟩, q2⟩
          rcases hR k hk0 (by omega) with ⟨q1, q2⟩ | ⟨q1, q2⟩
          · exact absurd q1.1 (by omega)
          rw [e]
          exact Or.inr ⟨fun q => Bool.false_ne_true (h21.symm.trans (hb.mpr ((hR.tch (by omega) (by omega)).mpr q.2.2))), q2⟩
        · try simp only [decide_eq_true_eq, decide_eq_false_iff_not, Bool.not_eq_true] at h21
          refine V_aload_n dX0_addRing_24 0 rfl rfl ?_
          refine V_iload_n dX0_addRing_25 3 rfl rfl ?_
          refine V_iload_n dX0_addRing_26 2 rfl rfl ?_
          refine V_iast dX0_addRing_27 hu9.1 ⟨hk0, by omega⟩ ?_
          refine V_iinc dX0_addRing_28 rfl (by decide) ?_
          refine V_goto 2 dX0_addRing_31 (by decide) ?_
          refine ih (by omega) _ _ (UA.u hu9) (fun j g1 g2 => ?_)
          by_cases e : j = k
          rotate_left
          · rw [iu_n e]
            rcases hR j g1 g2 with ⟨q1, q2⟩ | ⟨q1, q2⟩
            · exact Or.inl ⟨⟨by omega, q1.2⟩, q2⟩
            · exact Or.inr ⟨fun q => q1 ⟨by omega, q.2⟩, q2⟩
          rcases hR k hk0 (by omega) with ⟨q1, q2⟩ | ⟨q1, q2⟩
          · exact absurd q1.1 (by omega)
          rw [e]
          rw [iu_s]
          exact Or.inl ⟨⟨by omega, q2.symm.trans h12, (hR.tch (by omega) (by omega)).mp (hb.mp h21)⟩, rfl⟩
  exact L2 (0) (by omega) (by omega) w f (UA.rf hv) (fun j g1 g2 => Or.inr ⟨fun q => by omega, rfl⟩)
/-- the level at a distance -/
def ilv (s d : Int) : Int := (100 * (s + 1 - d)) / (s + 1)
theorem ilv_0 {s : Int} (hs : 0 ≤ s) : ilv s 0 = 100 := by
  unfold ilv
  rw [show s + 1 - 0 = s + 1 by omega, Int.mul_ediv_cancel _ (by omega)]
theorem ilv_lt {s d d' : Int} (hs : 0 ≤ s ∧ s ≤ 4) (h0 : 0 ≤ d) (h1 : d < d') (h2 : d' ≤ s + 1) : 0 ≤ ilv s d' ∧ ilv s d' < ilv s d ∧ ilv s d ≤ 100 := by
  unfold ilv
  rcases (show s = 0 ∨ s = 1 ∨ s = 2 ∨ s = 3 ∨ s = 4 by omega) with rfl | rfl | rfl | rfl | rfl <;> omega
theorem ilst_le {A : Int → Bool} {c s d : Int} (h : d ≤ s) : ∀ n : Nat, nlst A c s n ≤ d ↔ ∃ j : Int, 0 ≤ j ∧ j < n ∧ A j = true ∧ ifar c j ≤ d
  | 0 => by
    constructor
    · intro g
      have : s + 1 ≤ d := g
      omega
    · rintro ⟨j, j0, j1, -⟩
      omega
  | n + 1 => by
    have ih := ilst_le (A := A) (c := c) h n
    show (if A n = true ∧ ifar c n < nlst A c s n then ifar c n else nlst A c s n) ≤ d ↔ _
    constructor
    · intro g
      split at g
      · rename_i q
        exact ⟨n, by omega, by omega, q.1, g⟩
      · obtain ⟨j, j0, j1, j2⟩ := ih.mp g
        exact ⟨j, j0, by omega, j2⟩
    · rintro ⟨j, j0, j1, j2, j3⟩
      by_cases e : j = n
      · rw [e] at j2 j3
        split
        · exact j3
        · rename_i q
          have : ¬ ifar c n < nlst A c s n := fun g => q ⟨j2, g⟩
          omega
      · have := ih.mpr ⟨j, j0, by omega, j2, j3⟩
        split
        · rename_i q
          have := q.2
          omega
        · exact this
abbrev idst (A : Int → Bool) (s c : Int) : Int := ilst A c s 160
theorem idst_b {A : Int → Bool} {c s : Int} (hs : 0 ≤ s) : 0 ≤ idst A s c ∧ idst A s c ≤ s + 1 := ilst_b hs (by omega)
theorem idst_le {A : Int → Bool} {c s d : Int} (h : d ≤ s) : idst A s c ≤ d ↔ ∃ j : Int, 0 ≤ j ∧ j < 160 ∧ A j = true ∧ ifar c j ≤ d := ilst_le h 160
/-- a distance is one more than that of the nearest neighbour -/
theorem idst_s {A : Int → Bool} {c s d : Int} (hc : 0 ≤ c ∧ c < 160) (h0 : 0 ≤ d) (h : d + 1 ≤ s) : idst A s c ≤ d + 1 ↔ ∃ i, 0 ≤ i ∧ i < 160 ∧ ifar c i ≤ 1 ∧ idst A s i ≤ d := by
  rw [idst_le h]
  constructor
  · rintro ⟨j, j0, j1, j2, j3⟩
    refine ⟨16 * (if c / 16 < j / 16 then c / 16 + 1 else if j / 16 < c / 16 then c / 16 - 1 else c / 16) + (if c % 16 < j % 16 then c % 16 + 1 else if j % 16 < c % 16 then c % 16 - 1 else c % 16), by omega, by omega, ?_, (idst_le (by omega)).mpr ⟨j, j0, j1, j2, ?_⟩⟩
    · unfold ifar iabs
      omega
    · unfold ifar iabs at *
      omega
  · rintro ⟨i, i0, i1, i2, i3⟩
    obtain ⟨j, j0, j1, j2, j3⟩ := (idst_le (by omega)).mp i3
    refine ⟨j, j0, j1, j2, ?_⟩
    unfold ifar iabs at *
    omega
/-- the levels of the cells nearer than k -/
def Lvl (A : Int → Bool) (s : Int) (f : Int → Int) (k : Int) : Prop := ∀ j, 0 ≤ j → j < 160 → (idst A s j < k ∧ f j = ilv s (idst A s j)) ∨ (k ≤ idst A s j ∧ f j = 0)
theorem Lvl.b {A : Int → Bool} {s k : Int} {f : Int → Int} (hs : 0 ≤ s ∧ s ≤ 4) (h : Lvl A s f k) : ∀ j, 0 ≤ j → j < 160 → 0 ≤ f j ∧ f j ≤ 100 := by
  intro j j0 j1
  have hb := idst_b (A := A) (c := j) hs.1
  rcases h j j0 j1 with ⟨-, e⟩ | ⟨-, e⟩
  · rw [e]
    by_cases q : idst A s j < s + 1
    · have := ilv_lt hs hb.1 q (Int.le_refl _)
      omega
    · have := ilv_lt hs (d := 0) (d' := idst A s j) (by omega) (by omega) hb.2
      omega
  · omega
theorem Lvl.step {A : Int → Bool} {s k : Int} {f g : Int → Int} (hs : 0 ≤ s ∧ s ≤ 4) (hk : 1 ≤ k) (hk1 : k ≤ s) (h : Lvl A s f k) (hR : Rng f g (ilv s (k - 1)) (ilv s k) 160) : Lvl A s g (k + 1) := by
  have key : ∀ j, 0 ≤ j → j < 160 → (f j = ilv s (k - 1) ↔ idst A s j = k - 1) := by
    intro j j0 j1
    have hb := idst_b (A := A) (c := j) hs.1
    have p := ilv_lt hs (d := k - 1) (d' := k) (by omega) (by omega) (by omega)
    rcases h j j0 j1 with ⟨q, e⟩ | ⟨q, e⟩
    · rw [e]
      constructor
      · intro e2
        by_cases q2 : idst A s j < k - 1
        · have := ilv_lt hs hb.1 q2 (by omega)
          omega
        · omega
      · intro e2; rw [e2]
    · constructor <;> intro <;> omega
  have kz : ∀ j, 0 ≤ j → j < 160 → (f j = 0 ↔ k ≤ idst A s j) := by
    intro j j0 j1
    have hb := idst_b (A := A) (c := j) hs.1
    rcases h j j0 j1 with ⟨q, e⟩ | ⟨q, e⟩
    · have := ilv_lt hs (d := idst A s j) (d' := k) hb.1 q (by omega)
      constructor <;> intro <;> omega
    · exact ⟨fun _ => q, fun _ => e⟩
  intro j j0 j1
  have ht : k ≤ idst A s j → (Tch f j (ilv s (k - 1)) ↔ idst A s j ≤ k) := by
    intro hkj
    have e := idst_s (A := A) (s := s) (c := j) (d := k - 1) ⟨j0, j1⟩ (by omega) (by omega)
    rw [show k - 1 + 1 = k by omega] at e
    rw [e]
    constructor
    · rintro ⟨i, i0, i1, i2, i3⟩
      exact ⟨i, i0, i1, i2, by have := (key i i0 i1).mp i3; omega⟩
    · rintro ⟨i, i0, i1, i2, i3⟩
      refine ⟨i, i0, i1, i2, (key i i0 i1).mpr ?_⟩
      by_cases q : idst A s i = k - 1
      · exact q
      · exfalso
        by_cases k1 : k = 1
        · have := (idst_b (A := A) (c := i) hs.1).1
          omega
        · have e2 := (idst_s (A := A) (s := s) (c := j) (d := k - 2) ⟨j0, j1⟩ (by omega) (by omega)).mpr ⟨i, i0, i1, i2, by omega⟩
          omega
  rcases hR j j0 j1 with ⟨⟨-, q1, q2⟩, q3⟩ | ⟨q1, q3⟩
  · have g1 := (kz j j0 j1).mp q1
    have g2 := (ht g1).mp q2
    left
    rw [show idst A s j = k by omega]
    exact ⟨by omega, q3⟩
  · rcases h j j0 j1 with ⟨q, e⟩ | ⟨q, e⟩
    · left
      exact ⟨by omega, q3.trans e⟩
    · right
      refine ⟨?_, q3.trans e⟩
      by_cases g : k + 1 ≤ idst A s j
      · exact g
      · exact absurd ⟨j1, e, (ht q).mpr (by omega)⟩ q1
theorem Lvl.start {A : Int → Bool} {s : Int} {f : Int → Int} (hs : 0 ≤ s ∧ s ≤ 4) (h : ∀ j, 0 ≤ j → j < 160 → f j = if A j = true then 100 else 0) : Lvl A s f 1 := by
  intro j j0 j1
  have e := idst_le (A := A) (c := j) (s := s) (d := 0) (by omega)
  have hb := (idst_b (A := A) (c := j) hs.1).1
  rw [h j j0 j1]
  by_cases q : A j = true
  · left
    have g := e.mpr ⟨j, j0, j1, q, by unfold ifar iabs; omega⟩
    rw [if_pos q, show idst A s j = 0 by omega, ilv_0 hs.1]
    exact ⟨by omega, rfl⟩
  · right
    rw [if_neg q]
    refine ⟨?_, rfl⟩
    by_cases g : idst A s j ≤ 0
    · obtain ⟨i, i0, i1, i2, i3⟩ := e.mp g
      have : i = j := by
        unfold ifar iabs at i3
        omega
      rw [this] at i2
      exact absurd i2 q
    · omega
theorem Lvl.fin {A : Int → Bool} {s k : Int} {f : Int → Int} (hs : 0 ≤ s) (hk : s < k) (hk2 : k ≤ s + 1) (h : Lvl A s f k) : ∀ j, 0 ≤ j → j < 160 → f j = ilev A j s := by
  intro j j0 j1
  show f j = ilv s (idst A s j)
  have hb := idst_b (A := A) (c := j) hs
  rcases h j j0 j1 with ⟨-, e⟩ | ⟨q, e⟩
  · exact e
  · rw [e, show idst A s j = s + 1 by omega]
    unfold ilv
    rw [show s + 1 - (s + 1) = 0 by omega, Int.mul_zero, Int.zero_ediv]
set_option maxRecDepth 100000 in
set_option maxHeartbeats 4000000 in
theorem c_softLevels {w0 w : WD} {sz φ : Nat} {T : FT} {s : Int} (hM : FW w0 w φ T) (hφ : φ + 6 ≤ sz) (hs : 0 ≤ s ∧ s ≤ 4) : CT iX0_softLevels 1 160 [.ref φ, xI s] w sz (fun v w' sz' => ∃ f, v = some (.ref sz) ∧ sz' = sz + 1 ∧ UA w w' sz (xIA 160 f) ∧ ∀ j, 0 ≤ j → j < 160 → f j = ilev T.2.2.2.1 j s) := by
  refine CT.ofZ (by decide) rfl (Nat.le_of_ble_eq_true rfl) (fun Z hE => ?_)
  refine V_sipush dX0_softLevels_0 (by decide) ?_
  refine V_newI (n := 160) rfl (xG_at 83 (by decide +kernel) rfl) dX0_softLevels_3 rfl (by omega) (Nat.le_refl _) (Nat.le_refl _) ?_
  refine V_astore_n dX0_softLevels_5 2 rfl (by decide) ?_
  refine V_iconst dX0_softLevels_6 ?_
  refine V_istore_n dX0_softLevels_7 3 rfl (by decide) ?_
  have L8 : ∀ k : Int, 0 ≤ k → k ≤ 160 → ∀ (w' : WD) (f : Int → Int), UA w w' sz (xIA 160 f) → (∀ j, 0 ≤ j → j < k → f j = if T.2.2.2.1 j = true then 100 else 0) → V iX0_softLevels Z 0 0 w' (sz + 1) 8 [some (.ref φ), some (xI s), some (.ref sz), some (xI k), none, none] [] := by
    refine up_ind ?_
    intro k hk0 hk1 ih w' f hu hf
    have hM9 := FW.mv hM (fun j g1 g2 => hu.2 j (by omega))
    refine V_iload_n dX0_softLevels_8 3 rfl rfl ?_
    refine V_sipush dX0_softLevels_9 (by decide) ?_
    refine V_icmp_ge 39 dX0_softLevels_12 (by decide) (by omega) (fun h12 => ?_) (fun h12 => ?_)
    · refine V_bipush dX0_softLevels_39 (by decide) ?_
      refine V_istore_n dX0_softLevels_41 3 rfl (by decide) ?_
      refine V_iconst dX0_softLevels_42 ?_
      refine V_istore dX0_softLevels_43 (by decide) ?_
      have L45 : ∀ k : Int, 1 ≤ k → k ≤ s + 1 → ∀ (w' : WD) (f : Int → Int) (i : Int), UA w w' sz (xIA 160 f) → Lvl T.2.2.2.1 s f k → i = ilv s (k - 1) → V iX0_softLevels Z 0 0 w' (sz + 1) 45 [some (.ref φ), some (xI s), some (.ref sz), some (xI i), some (xI k), none] [] := by
        refine up_ind ?_
        intro k hk0 hk1 ih w' f i hu hf hi
        refine V_iload dX0_softLevels_45 rfl ?_
        refine V_iload_n dX0_softLevels_47 1 rfl rfl ?_
        refine V_icmp_gt 82 dX0_softLevels_48 (by decide) (by omega) (fun h48 => ?_) (fun h48 => ?_)
        · refine V_aload_n dX0_softLevels_82 2 rfl rfl ?_
          exact V_aret hE rfl dX0_softLevels_83 ⟨f, rfl, rfl, hu, hf.fin hs.1 (by omega) hk1⟩
        · have hlv := ilv_lt hs (d := k - 1) (d' := k) (by omega) (by omega) (by omega)
          have hlv2 := ilv_lt hs (d := 0) (d' := k) (by omega) (by omega) (by omega)
          refine V_bipush dX0_softLevels_51 (by decide) ?_
          refine V_iload_n dX0_softLevels_53 1 rfl rfl ?_
          refine V_iconst dX0_softLevels_54 ?_
          refine V_iadd dX0_softLevels_55 ?_
          refine V_iload dX0_softLevels_56 rfl ?_
          refine V_isub dX0_softLevels_58 ?_
          refine V_imul dX0_softLevels_59 ?_
          refine V_iload_n dX0_softLevels_60 1 rfl rfl ?_
          refine V_iconst dX0_softLevels_61 ?_
          refine V_iadd dX0_softLevels_62 ?_
          refine V_idivN dX0_softLevels_63 (by omega) ?_
          have e64 : (100 * (s + 1 - k)) / (s + 1) = ilv s k := rfl
          rw [e64]
          refine V_istore dX0_softLevels_64 (by decide) ?_
          refine V_aload_n dX0_softLevels_66 2 rfl rfl ?_
          refine V_iload_n dX0_softLevels_67 3 rfl rfl ?_
          refine V_iload dX0_softLevels_68 rfl ?_
          refine V_c_X0_51 rfl (by decide) (c_addRing hu.1 ⟨by rw [hi]; omega, by rw [hi]; omega⟩ ⟨hlv.1, by rw [hi]; exact hlv.2.1⟩ (hf.b hs)) dX0_softLevels_70 rfl rfl (Nat.le_of_ble_eq_true rfl) (Nat.le_of_eq (Nat.zero_add _)) (Nat.le_of_eq (Nat.zero_add _)) (fun v w9 sz9 q => ?_)
          try dsimp only at q
          obtain ⟨rfl, rfl, g, hu2, hR⟩ := q
          replace hu := (⟨hu2.1, fun j hj => (hu2.2 j hj).trans (hu.2 j hj)⟩ : UA w w9 sz (xIA 160 g))
          refine V_iload dX0_softLevels_73 rfl ?_
          refine V_istore_n dX0_softLevels_75 3 rfl (by decide) ?_
          refine V_iinc dX0_softLevels_76 rfl (by decide) ?_
          refine V_goto 45 dX0_softLevels_79 (by decide) ?_
          refine V_fg [true, true, true, true, true, false] ?_
          refine ih (by omega) _ _ _ hu (Lvl.step hs hk0 (by omega) hf (by rw [← hi]; exact hR)) (by rw [show k + 1 - 1 = k by omega])
      refine V_fg [true, true, true, true, true, false] ?_
      exact L45 (1) (by omega) (by omega) _ _ _ hu (Lvl.start hs (fun j g1 g2 => hf j g1 (by omega))) (ilv_0 hs.1).symm
    · refine V_aload_n dX0_softLevels_15 2 rfl rfl ?_
      refine V_iload_n dX0_softLevels_16 3 rfl rfl ?_
      refine V_aload_n dX0_softLevels_17 0 rfl rfl ?_
      refine F_g_area hM9 rfl dX0_softLevels_18 ?_
      refine V_iload_n dX0_softLevels_21 3 rfl rfl ?_
      refine F_l_area hM9 dX0_softLevels_22 ⟨hk0, by omega⟩ ?_
      try dsimp only
      refine V_ifeqB 31 dX0_softLevels_23 (by decide) (fun h23 => ?_) (fun h23 => ?_)
      · try simp only [decide_eq_true_eq, decide_eq_false_iff_not, Bool.not_eq_true] at h23
        refine V_iconst dX0_softLevels_31 ?_
        refine V_iast dX0_softLevels_32 hu.1 ⟨hk0, by omega⟩ ?_
        try dsimp only at hM
        refine V_iinc dX0_softLevels_33 rfl (by decide) ?_
        refine V_goto 8 dX0_softLevels_36 (by decide) ?_
        refine V_fg [true, true, true, true, false, false] ?_
        refine ih (by omega) _ _ hu.u (fun j g1 g2 => ?_)
        by_cases e : j = k
        · rw [e, iu_s, if_neg (by rw [h23]; exact Bool.false_ne_true)]
        · rw [iu_n e]; exact hf j g1 (by omega)
      · try simp only [decide_eq_true_eq, decide_eq_false_iff_not, Bool.not_eq_true] at h23
        refine V_bipush dX0_softLevels_26 (by decide) ?_
        refine V_goto 32 dX0_softLevels_28 (by decide) ?_
        refine V_iast dX0_softLevels_32 hu.1 ⟨hk0, by omega⟩ ?_
        try dsimp only at hM
        refine V_iinc dX0_softLevels_33 rfl (by decide) ?_
        refine V_goto 8 dX0_softLevels_36 (by decide) ?_
        refine V_fg [true, true, true, true, false, false] ?_
        refine ih (by omega) _ _ hu.u (fun j g1 g2 => ?_)
        by_cases e : j = k
        · rw [e, iu_s, if_pos h23]
        · rw [iu_n e]; exact hf j g1 (by omega)
  refine V_fg [true, true, true, true, false, false] ?_
  exact L8 (0) (by omega) (by omega) _ _ ⟨xU_s, fun j hj => xU_n hj⟩ (fun j g1 g2 => by omega)
