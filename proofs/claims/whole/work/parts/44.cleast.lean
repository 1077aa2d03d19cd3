/-! the class: likenesses and gaps that part, areas counted -/
theorem arA_in {a : Int → Prop} {f w k : Int} (hw : 0 ≤ w) (hk : 0 ≤ k ∧ k < 160) (h : arA a f w k) : a k := by
  obtain ⟨q, q0, q1, q2, q3⟩ := h
  have hs : sqA a w q := q2 (fun i => sqA a w i) (fun i _ _ g _ => g) (fun i j _ _ _ _ _ g _ => g)
  have := hs.2.2 (k % 16 - q % 16) (k / 16 - q / 16) (by omega) (by omega) (by omega) (by omega)
  rw [show 16 * (q / 16 + (k / 16 - q / 16)) + (q % 16 + (k % 16 - q % 16)) = k by omega] at this
  exact this
theorem arI_in {z : Int → Int} {f l a g c : Int} (hc : 0 ≤ c ∧ c < 160) (h : arI z f l a g c) : aP z f l a c := by
  obtain ⟨u, h1, h2⟩ := h
  exact arA_in h1.1 hc h2
theorem arI_c {z : Int → Int} {f l l' a g c : Int} (h : ∀ k, 0 ≤ k → k < 160 → (aP z f l a k ↔ aP z f l' a k)) : arI z f l a g c → arI z f l' a g c := by
  rintro ⟨u, h1, h2⟩
  exact ⟨u, wiA_c h h1, (arA_c h h1.1).mp h2⟩
theorem Rch_m {z : Int → Int} {L L' : Int} {A : Int → Bool} {s k : Int} (h : L ≤ L') (g : Rch z L A s k) : Rch z L' A s k := fun X h1 h2 => g X h1 (fun i j g1 g2 g3 g4 g5 g6 g7 g8 => h2 i j g1 g2 g3 g4 g5 g6 g7 (by omega))
theorem aP_m {z : Int → Int} {f L L' a k : Int} (h : L ≤ L') (g : aP z f L a k) : aP z f L' a k := by
  unfold aP at g ⊢
  split
  · rename_i q; rw [if_pos q] at g; omega
  · rename_i q; rw [if_neg q] at g; exact Rch_m h g
theorem cnt_eq {A B : Int → Bool} (hm : ∀ j, 0 ≤ j → j < 160 → A j = true → B j = true) (he : cnt A = cnt B) : ∀ j, 0 ≤ j → j < 160 → (A j = true ↔ B j = true) := by
  intro j j0 j1
  refine ⟨hm j j0 j1, fun hb => ?_⟩
  cases ha : A j with
  | true => rfl
  | false =>
    exfalso
    have h1 : cnt (iu A j true) ≤ cnt B := by
      have key : ∀ m : Nat, (m : Int) ≤ 160 → nsum (fun k => b2i (iu A j true k)) m ≤ nsum (fun k => b2i (B k)) m := by
        intro m
        induction m with
        | zero => intro _; exact Int.le_refl _
        | succ m ih =>
          intro hm9
          have h2 : b2i (iu A j true m) ≤ b2i (B m) := by
            by_cases e : (m : Int) = j
            · rw [e, iu_s, hb]; exact Int.le_refl _
            · rw [iu_n e]
              cases e2 : A m with
              | false => exact (b2i_r _).1
              | true => rw [hm m (by omega) (by omega) e2]; exact Int.le_refl _
          have h3 := ih (by omega)
          show nsum _ m + b2i (iu A j true m) ≤ nsum _ m + b2i (B m)
          omega
      exact key _ (by omega)
    have h2 := cnt_iu (A := A) (b := true) j0 j1
    rw [ha, b2i_f, b2i_t] at h2
    omega
set_option maxRecDepth 100000 in
set_option maxHeartbeats 4000000 in
theorem c_leastReaching {w0 w : WD} {sz φ a9 : Nat} {T : FT} {z : Int → Int} {c e9 a g : Int} (hM : FW w0 w φ T) (hv : w0 a9 = some (xIA 160 z)) (ha : a9 < φ ∨ φ + 6 ≤ a9) (hz : ∀ k, 0 ≤ k → k < 160 → 0 ≤ z k ∧ z k ≤ 99) (hc : 0 ≤ c ∧ c < 160) (he : 0 ≤ e9 ∧ e9 < 160) (ha1 : 0 ≤ a ∧ a ≤ 1) (hg : 0 ≤ g ∧ g ≤ 5) : CT iX0_leastReaching 0 0 [.ref φ, .ref a9, xI c, xI e9, xI a, xI g] w sz (fun v w' sz' => sz' = sz ∧ ∃ r, v = some (xI r) ∧ likA z c e9 a g r ∧ ∃ T' : FT, FW w0 w' φ T') := by
  refine CT.ofZ (by decide) rfl (Nat.le_of_ble_eq_true rfl) (fun Z hE => ?_)
  refine V_iconst dX0_leastReaching_0 ?_
  refine V_istore dX0_leastReaching_1 (by decide) ?_
  refine V_iconst dX0_leastReaching_3 ?_
  refine V_istore dX0_leastReaching_4 (by decide) ?_
  have L6 : ∀ k : Int, 0 ≤ k → k ≤ 100 → ∀ (w : WD) (b : Int) (T : FT), FW w0 w φ T → (∀ l0, 0 ≤ l0 → l0 < k → ¬ arI z c l0 a g e9) → ((k = 0 ∧ b = 0) ∨ (0 < k ∧ ∃ A : Int → Bool, (∀ j, 0 ≤ j → j < 160 → (A j = true ↔ aP z c (k - 1) a j)) ∧ b = cnt A)) → V iX0_leastReaching Z 0 0 w sz 6 [some (.ref φ), some (.ref a9), some (xI c), some (xI e9), some (xI a), some (xI g), some (xI b), some (xI k), none] [] := by
    refine up_ind ?_
    intro k hk0 hk1 ih w b T hM hn hb
    have hb9 : 0 ≤ b ∧ b ≤ 160 := by
      rcases hb with ⟨g1, g2⟩ | ⟨g1, A, g2, g3⟩
      · omega
      · rw [g3]; exact cnt_b A
    refine V_iload dX0_leastReaching_6 rfl ?_
    refine V_bipush dX0_leastReaching_8 (by decide) ?_
    refine V_icmp_gt 71 dX0_leastReaching_10 (by decide) (by omega) (fun h10 => ?_) (fun h10 => ?_)
    · refine V_iconst dX0_leastReaching_71 ?_
      exact V_iret hE rfl dX0_leastReaching_72 ⟨rfl, -1, rfl, Or.inr ⟨rfl, fun l0 g1 g2 => hn l0 g1 (by omega)⟩, _, hM⟩
    · refine V_aload_n dX0_leastReaching_13 0 rfl rfl ?_
      refine V_aload_n dX0_leastReaching_14 1 rfl rfl ?_
      refine V_iload_n dX0_leastReaching_15 2 rfl rfl ?_
      refine V_iload dX0_leastReaching_16 rfl ?_
      refine V_iload dX0_leastReaching_18 rfl ?_
      refine V_c_X0_35 rfl (by decide) (c_findAlike hM hv ha hz hc ⟨hk0, by omega⟩ ha1) dX0_leastReaching_20 hM.1 rfl rfl (Nat.le_of_ble_eq_true rfl) (Nat.le_of_eq (Nat.zero_add _)) (Nat.le_of_eq (Nat.zero_add _)) (fun v w sz q => ?_)
      try dsimp only at q
      obtain ⟨rfl, A, l, n, hM, hA, rfl⟩ := q
      have hcb := cnt_b A
      refine V_istore dX0_leastReaching_23 (by decide) ?_
      refine V_iload dX0_leastReaching_25 rfl ?_
      refine V_iload dX0_leastReaching_27 rfl ?_
      refine V_icmp_eq 61 dX0_leastReaching_29 (by decide) (by omega) (fun h29 => ?_) (fun h29 => ?_)
      · refine V_iload dX0_leastReaching_61 rfl ?_
        refine V_istore dX0_leastReaching_63 (by decide) ?_
        refine V_iinc dX0_leastReaching_65 rfl (by decide) ?_
        refine V_goto 6 dX0_leastReaching_68 (by decide) ?_
        refine V_fg [true, true, true, true, true, true, true, true, false] ?_
        refine ih (by omega) _ _ _ hM (fun l0 g1 g2 => ?_) (Or.inr ⟨by omega, A, fun j g1 g2 => by rw [show k + 1 - 1 = k by omega]; exact hA j g1 g2, rfl⟩)
        by_cases e : l0 = k
        rotate_left
        · exact hn l0 g1 (by omega)
        rw [e]
        rcases hb with ⟨hk, hb⟩ | ⟨hk, A', hA', hb⟩
        · have := cnt_gt (A := A) hc.1 hc.2 ((hA c hc.1 hc.2).mpr (aP_self (by omega)))
          omega
        · have hq := cnt_eq (A := A') (B := A) (fun j j0 j1 g => (hA j j0 j1).mpr (aP_m (by omega) ((hA' j j0 j1).mp g))) (by omega)
          intro g
          exact hn (k - 1) (by omega) (by omega) (arI_c (fun j j0 j1 => by rw [← hA j j0 j1, ← hA' j j0 j1]; exact (hq j j0 j1).symm) g)
      · refine V_aload_n dX0_leastReaching_32 0 rfl rfl ?_
        refine F_g_alike hM rfl dX0_leastReaching_33 ?_
        refine V_iload_n dX0_leastReaching_36 3 rfl rfl ?_
        refine F_l_alike hM dX0_leastReaching_37 he ?_
        try dsimp only
        refine V_ifeqB 61 dX0_leastReaching_38 (by decide) (fun h38 => ?_) (fun h38 => ?_)
        · try simp only [decide_eq_true_eq, decide_eq_false_iff_not, Bool.not_eq_true] at h38
          refine V_iload dX0_leastReaching_61 rfl ?_
          refine V_istore dX0_leastReaching_63 (by decide) ?_
          refine V_iinc dX0_leastReaching_65 rfl (by decide) ?_
          refine V_goto 6 dX0_leastReaching_68 (by decide) ?_
          refine V_fg [true, true, true, true, true, true, true, true, false] ?_
          refine ih (by omega) _ _ _ hM (fun l0 g1 g2 => ?_) (Or.inr ⟨by omega, A, fun j g1 g2 => by rw [show k + 1 - 1 = k by omega]; exact hA j g1 g2, rfl⟩)
          by_cases e : l0 = k
          rotate_left
          · exact hn l0 g1 (by omega)
          rw [e]
          intro g
          exact Bool.false_ne_true (h38.symm.trans ((hA e9 he.1 he.2).mpr (arI_in he g)))
        · try simp only [decide_eq_true_eq, decide_eq_false_iff_not, Bool.not_eq_true] at h38
          refine V_aload_n dX0_leastReaching_41 0 rfl rfl ?_
          refine V_iload_n dX0_leastReaching_42 2 rfl rfl ?_
          refine V_iload dX0_leastReaching_43 rfl ?_
          refine V_c_X0_39 rfl (by decide) (c_spread hM hc hg ((hA c hc.1 hc.2).mpr (aP_self hk0))) dX0_leastReaching_45 hM.1 rfl rfl (Nat.le_of_ble_eq_true rfl) (Nat.le_of_eq (Nat.zero_add _)) (Nat.le_of_eq (Nat.zero_add _)) (fun v w sz q => ?_)
          try dsimp only at q
          obtain ⟨rfl, T1, hM, e1, hwi, hR, rfl⟩ := q
          replace hwi := wiA_c hA hwi
          replace hR := fun j (g1 : (0 : Int) ≤ j) (g2 : j < 160) => (hR j g1 g2).trans (arA_c hA hwi.1)
          refine V_pop dX0_leastReaching_48 rfl ?_
          refine V_aload_n dX0_leastReaching_49 0 rfl rfl ?_
          refine F_g_area hM rfl dX0_leastReaching_50 ?_
          refine V_iload_n dX0_leastReaching_53 3 rfl rfl ?_
          refine F_l_area hM dX0_leastReaching_54 he ?_
          try dsimp only
          refine V_ifeqB 61 dX0_leastReaching_55 (by decide) (fun h55 => ?_) (fun h55 => ?_)
          · try simp only [decide_eq_true_eq, decide_eq_false_iff_not, Bool.not_eq_true] at h55
            refine V_iload dX0_leastReaching_61 rfl ?_
            refine V_istore dX0_leastReaching_63 (by decide) ?_
            refine V_iinc dX0_leastReaching_65 rfl (by decide) ?_
            refine V_goto 6 dX0_leastReaching_68 (by decide) ?_
            refine V_fg [true, true, true, true, true, true, true, true, false] ?_
            refine ih (by omega) _ _ _ hM (fun l0 g1 g2 => ?_) (Or.inr ⟨by omega, A, fun j g1 g2 => by rw [show k + 1 - 1 = k by omega]; exact hA j g1 g2, rfl⟩)
            by_cases e : l0 = k
            rotate_left
            · exact hn l0 g1 (by omega)
            rw [e]
            intro g
            exact Bool.false_ne_true (h55.symm.trans ((hR e9 he.1 he.2).mpr ((arI_iff hwi).mp g)))
          · try simp only [decide_eq_true_eq, decide_eq_false_iff_not, Bool.not_eq_true] at h55
            refine V_iload dX0_leastReaching_58 rfl ?_
            exact V_iret hE rfl dX0_leastReaching_60 ⟨rfl, k, rfl, Or.inl ⟨⟨hk0, by omega⟩, (arI_iff hwi).mpr ((hR e9 he.1 he.2).mp h55), hn⟩, _, hM⟩
  refine V_fg [true, true, true, true, true, true, true, true, false] ?_
  exact L6 (0) (by omega) (by omega) _ _ _ hM (fun l0 g1 g2 => by omega) (Or.inl ⟨rfl, rfl⟩)
set_option maxRecDepth 100000 in
set_option maxHeartbeats 4000000 in
theorem c_leastParting {w0 w : WD} {sz φ a9 : Nat} {T : FT} {z : Int → Int} {c e9 l : Int} (hM : FW w0 w φ T) (hv : w0 a9 = some (xIA 160 z)) (ha : a9 < φ ∨ φ + 6 ≤ a9) (hz : ∀ k, 0 ≤ k → k < 160 → 0 ≤ z k ∧ z k ≤ 99) (hc : 0 ≤ c ∧ c < 160) (he : 0 ≤ e9 ∧ e9 < 160) (hl : 0 ≤ l ∧ l ≤ 99) : CT iX0_leastParting 0 0 [.ref φ, .ref a9, xI c, xI e9, xI l] w sz (fun v w' sz' => sz' = sz ∧ ∃ r, v = some (xI r) ∧ gapA z c e9 l r ∧ ∃ T' : FT, FW w0 w' φ T') := by
  refine CT.ofZ (by decide) rfl (Nat.le_of_ble_eq_true rfl) (fun Z hE => ?_)
  refine V_aload_n dX0_leastParting_0 0 rfl rfl ?_
  refine V_aload_n dX0_leastParting_1 1 rfl rfl ?_
  refine V_iload_n dX0_leastParting_2 2 rfl rfl ?_
  refine V_iload dX0_leastParting_3 rfl ?_
  refine V_iconst dX0_leastParting_5 ?_
  refine V_c_X0_35 rfl (by decide) (c_findAlike hM hv ha hz hc hl (show (0 : Int) ≤ 0 ∧ (0 : Int) ≤ 1 by omega)) dX0_leastParting_6 hM.1 rfl rfl (Nat.le_of_ble_eq_true rfl) (Nat.le_of_eq (Nat.zero_add _)) (Nat.le_of_eq (Nat.zero_add _)) (fun v w sz q => ?_)
  try dsimp only at q
  obtain ⟨rfl, A, l9, n, hM, hA, rfl⟩ := q
  refine V_pop dX0_leastParting_9 rfl ?_
  refine V_iconst dX0_leastParting_10 ?_
  refine V_istore dX0_leastParting_11 (by decide) ?_
  have L13 : ∀ k : Int, 0 ≤ k → k ≤ 6 → ∀ (w : WD) (T : FT), FW w0 w φ T → T.1 = A → (∀ g0, 0 ≤ g0 → g0 < k → arI z c l 0 g0 e9) → V iX0_leastParting Z 0 0 w sz 13 [some (.ref φ), some (.ref a9), some (xI c), some (xI e9), some (xI l), some (xI k)] [] := by
    refine up_ind ?_
    intro k hk0 hk1 ih w T hM hT hn
    refine V_iload dX0_leastParting_13 rfl ?_
    refine V_iconst dX0_leastParting_15 ?_
    refine V_icmp_gt 45 dX0_leastParting_16 (by decide) (by omega) (fun h16 => ?_) (fun h16 => ?_)
    · refine V_iconst dX0_leastParting_45 ?_
      exact V_iret hE rfl dX0_leastParting_46 ⟨rfl, -1, rfl, Or.inr ⟨rfl, fun l0 g1 g2 => hn l0 g1 (by omega)⟩, _, hM⟩
    · refine V_aload_n dX0_leastParting_19 0 rfl rfl ?_
      refine V_iload_n dX0_leastParting_20 2 rfl rfl ?_
      refine V_iload dX0_leastParting_21 rfl ?_
      refine V_c_X0_39 rfl (by decide) (c_spread hM hc ⟨hk0, by omega⟩ (by rw [hT]; exact (hA c hc.1 hc.2).mpr (aP_self hl.1))) dX0_leastParting_23 hM.1 rfl rfl (Nat.le_of_ble_eq_true rfl) (Nat.le_of_eq (Nat.zero_add _)) (Nat.le_of_eq (Nat.zero_add _)) (fun v w sz q => ?_)
      try dsimp only at q
      obtain ⟨rfl, T1, hM, e1, hwi, hR, rfl⟩ := q
      rw [hT] at hwi hR
      replace hwi := wiA_c hA hwi
      replace hR := fun j (g1 : (0 : Int) ≤ j) (g2 : j < 160) => (hR j g1 g2).trans (arA_c hA hwi.1)
      refine V_pop dX0_leastParting_26 rfl ?_
      refine V_aload_n dX0_leastParting_27 0 rfl rfl ?_
      refine F_g_area hM rfl dX0_leastParting_28 ?_
      refine V_iload_n dX0_leastParting_31 3 rfl rfl ?_
      refine F_l_area hM dX0_leastParting_32 he ?_
      try dsimp only
      refine V_ifneB 39 dX0_leastParting_33 (by decide) (fun h33 => ?_) (fun h33 => ?_)
      · try simp only [decide_eq_true_eq, decide_eq_false_iff_not, Bool.not_eq_true] at h33
        refine V_iinc dX0_leastParting_39 rfl (by decide) ?_
        refine V_goto 13 dX0_leastParting_42 (by decide) ?_
        refine ih (by omega) _ _ hM (by rw [e1, hT]) (fun g0 g1 g2 => ?_)
        by_cases e : g0 = k
        rotate_left
        · exact hn g0 g1 (by omega)
        rw [e]
        exact (arI_iff hwi).mpr ((hR e9 he.1 he.2).mp h33)
      · try simp only [decide_eq_true_eq, decide_eq_false_iff_not, Bool.not_eq_true] at h33
        refine V_iload dX0_leastParting_36 rfl ?_
        exact V_iret hE rfl dX0_leastParting_38 ⟨rfl, k, rfl, Or.inl ⟨⟨hk0, by omega⟩, fun g => Bool.false_ne_true (h33.symm.trans ((hR e9 he.1 he.2).mpr ((arI_iff hwi).mp g))), hn⟩, _, hM⟩
  exact L13 (0) (by omega) (by omega) _ _ hM rfl (fun g0 g1 g2 => by omega)
set_option maxRecDepth 100000 in
set_option maxHeartbeats 4000000 in
theorem c_parts {w0 w : WD} {sz φ a9 : Nat} {T : FT} {z : Int → Int} {L : Int} (hM : FW w0 w φ T) (hv : w0 a9 = some (xIA 160 z)) (ha : a9 < φ ∨ φ + 6 ≤ a9) (hz : ∀ k, 0 ≤ k → k < 160 → 0 ≤ z k ∧ z k ≤ 99) (hL : 0 ≤ L ∧ L ≤ 99) : CT iX0_parts 0 0 [.ref φ, .ref a9, xI L] w sz (fun v w' sz' => sz' = sz ∧ v = some (xI (iArs z L 160).2) ∧ ∃ T' : FT, FW w0 w' φ T') := by
  refine CT.ofZ (by decide) rfl (Nat.le_of_ble_eq_true rfl) (fun Z hE => ?_)
  refine V_aload_n dX0_parts_0 0 rfl rfl ?_
  refine F_g_alike hM rfl dX0_parts_1 ?_
  refine V_c_X0_43 rfl (by decide) (c_clear hM.2.1) dX0_parts_4 rfl rfl (Nat.le_of_ble_eq_true rfl) (Nat.le_of_eq (Nat.zero_add _)) (Nat.le_of_eq (Nat.zero_add _)) (fun v w sz q => ?_)
  try dsimp only at q
  obtain ⟨rfl, rfl, g9, hu9, hg9⟩ := q
  replace hM := FW.u_alike hM hu9
  refine V_iconst dX0_parts_7 ?_
  refine V_istore_n dX0_parts_8 3 rfl (by decide) ?_
  refine V_iconst dX0_parts_9 ?_
  refine V_istore dX0_parts_10 (by decide) ?_
  have L12 : ∀ k : Int, 0 ≤ k → k ≤ 160 → ∀ (w : WD) (T : FT), FW w0 w φ T → (∀ j, 0 ≤ j → j < 160 → T.1 j = (iArs z L k).1 j) → V iX0_parts Z 0 0 w sz 12 [some (.ref φ), some (.ref a9), some (xI L), some (xI (iArs z L k).2), some (xI k)] [] := by
    refine up_ind ?_
    intro k hk0 hk1 ih w T hM hA
    refine V_iload dX0_parts_12 rfl ?_
    refine V_sipush dX0_parts_14 (by decide) ?_
    refine V_icmp_ge 48 dX0_parts_17 (by decide) (by omega) (fun h17 => ?_) (fun h17 => ?_)
    · refine V_iload_n dX0_parts_48 3 rfl rfl ?_
      exact V_iret hE rfl dX0_parts_49 ⟨rfl, bE (by rw [show k = 160 by omega]), _, hM⟩
    · refine V_aload_n dX0_parts_20 0 rfl rfl ?_
      refine F_g_alike hM rfl dX0_parts_21 ?_
      refine V_iload dX0_parts_24 rfl ?_
      refine F_l_alike hM dX0_parts_26 (by first | omega | (dsimp only; omega) | (dsimp only at *; omega)) ?_
      try dsimp only
      refine V_ifneB 42 dX0_parts_27 (by decide) (fun h27 => ?_) (fun h27 => ?_)
      · try simp only [decide_eq_true_eq, decide_eq_false_iff_not, Bool.not_eq_true] at h27
        refine V_iinc dX0_parts_42 rfl (by decide) ?_
        refine V_goto 12 dX0_parts_45 (by decide) ?_
        rw [iArs_1 hk0 ((hA k hk0 (by omega)).symm.trans h27)] at ih
        exact ih (by omega) _ _ hM hA
      · try simp only [decide_eq_true_eq, decide_eq_false_iff_not, Bool.not_eq_true] at h27
        refine V_aload_n dX0_parts_30 0 rfl rfl ?_
        refine V_aload_n dX0_parts_31 1 rfl rfl ?_
        refine V_iload dX0_parts_32 rfl ?_
        refine V_iload_n dX0_parts_34 2 rfl rfl ?_
        refine V_c_X0_47 rfl (by decide) (c_flood hM hv ha hz ⟨hk0, by omega⟩ hL h27) dX0_parts_35 hM.1 rfl rfl (Nat.le_of_ble_eq_true rfl) (Nat.le_of_eq (Nat.zero_add _)) (Nat.le_of_eq (Nat.zero_add _)) (fun v w sz q => ?_)
        try dsimp only at q
        obtain ⟨rfl, B, l, n, hM, rfl, hn, hB⟩ := q
        refine V_pop dX0_parts_38 rfl ?_
        refine V_iinc dX0_parts_39 rfl (by decide) ?_
        refine V_iinc dX0_parts_42 rfl (by decide) ?_
        refine V_goto 12 dX0_parts_45 (by decide) ?_
        have ha9 := iArs_2 (z := z) (L := L) hk0 ((hA k hk0 (by omega)).symm.trans h27)
        rw [ha9.2] at ih
        refine ih (by omega) _ _ hM (fun j g1 g2 => ?_)
        have e9 := hB j g1 g2
        rw [hA j g1 g2, Rch_c hA, ← ha9.1 j] at e9
        exact Bool.eq_iff_iff.mpr e9
  exact L12 (0) (by omega) (by omega) _ _ hM (fun j g1 g2 => hg9 j g1 g2)
