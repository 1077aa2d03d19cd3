/-! the reference: likenesses and gaps that part, how many areas -/
set_option maxRecDepth 100000 in
set_option maxHeartbeats 4000000 in
theorem m_likenessAnswer {w0 w : WD} {sz μ : Nat} {P : MP} {K : MK} {c e a g : Int} (hM : MW w0 w μ P K) (hz : ∀ k, 0 ≤ k → k < 160 → 0 ≤ P.1 k ∧ P.1 k ≤ 99) (hc : 0 ≤ c ∧ c < 160) (he : 0 ≤ e ∧ e < 160) (ha : 0 ≤ a ∧ a ≤ 1) (hg : 0 ≤ g ∧ g ≤ 5) : CT iX7_likenessAnswer 0 0 [.ref μ, xI c, xI e, xI a, xI g] w sz (fun o9 w' sz' => sz' = sz ∧ ∃ r K', o9 = some (xI r) ∧ MW w0 w' μ P K' ∧ K'.thrown = K.1 ∧ K'.mask = K.2.2.2.2.2.2.1 ∧ K'.h = K.2.2.2.2.2.2.2.2.2.2 ∧ likA P.1 c e a g r) := by
  refine CT.ofZ (by decide) rfl (Nat.le_of_ble_eq_true rfl) (fun Z hE => ?_)
  refine V_iconst dX7_likenessAnswer_0 ?_
  refine V_istore dX7_likenessAnswer_1 (by decide) ?_
  have L3 : ∀ l : Int, 0 ≤ l → l ≤ 100 → ∀ (w : WD) (K1 : MK), MW w0 w μ P K1 → K1.1 = K.1 → K1.2.2.2.2.2.2.1 = K.2.2.2.2.2.2.1 → K1.2.2.2.2.2.2.2.2.2.2 = K.2.2.2.2.2.2.2.2.2.2 → (∀ l', 0 ≤ l' → l' < l → ¬ arI P.1 c l' a g e) → V iX7_likenessAnswer Z 0 0 w sz 3 [some (.ref μ), some (xI c), some (xI e), some (xI a), some (xI g), some (xI l)] [] := by
    refine up_ind ?_
    intro l hl0 hl1 ihl w K1 hM k0 k1 k3 hno
    refine V_iload dX7_likenessAnswer_3 rfl ?_
    refine V_bipush dX7_likenessAnswer_5 (by decide) ?_
    refine V_icmp_ge 38 dX7_likenessAnswer_7 (by decide) (by omega) (fun h7 => ?_) (fun h7 => ?_)
    · refine V_iconst dX7_likenessAnswer_38 ?_
      exact V_iret hE rfl dX7_likenessAnswer_39 ⟨rfl, _, _, rfl, hM, k0, k1, k3, Or.inr ⟨rfl, fun l q1 q2 => hno l q1 (by omega)⟩⟩
    · refine V_aload_n dX7_likenessAnswer_10 0 rfl rfl ?_
      refine V_iload_n dX7_likenessAnswer_11 1 rfl rfl ?_
      refine V_iload dX7_likenessAnswer_12 rfl ?_
      refine V_iload_n dX7_likenessAnswer_14 3 rfl rfl ?_
      refine V_iload dX7_likenessAnswer_15 rfl ?_
      refine V_c_X7_111 rfl (by decide) (m_layArea hM hz hc (by omega) ha hg) dX7_likenessAnswer_17 hM.1 rfl rfl (Nat.le_of_ble_eq_true rfl) (Nat.le_of_eq (Nat.zero_add _)) (Nat.le_of_eq (Nat.zero_add _)) (fun v w sz q => ?_)
      try dsimp only at q
      obtain ⟨rfl, rfl, K2, hM, g0, g1, -, g3, hwi, hA⟩ := q
      replace k0 := g0.trans k0
      replace k1 := g1.trans k1
      replace k3 := g3.trans k3
      have hin := (arI_iff (c := e) hwi).trans (hA e he.1 he.2).symm
      refine V_aload_n dX7_likenessAnswer_20 0 rfl rfl ?_
      refine M_g_isArea hM rfl dX7_likenessAnswer_21 ?_
      refine V_iload_n dX7_likenessAnswer_24 2 rfl rfl ?_
      refine M_l_isArea hM dX7_likenessAnswer_25 (by first | omega | (dsimp only; omega) | (dsimp only at *; omega)) ?_
      try dsimp only
      refine V_ifeqB 32 dX7_likenessAnswer_26 (by decide) (fun h26 => ?_) (fun h26 => ?_)
      · try simp only [decide_eq_true_eq, decide_eq_false_iff_not, Bool.not_eq_true] at h26
        refine V_iinc dX7_likenessAnswer_32 rfl (by decide) ?_
        refine V_goto 3 dX7_likenessAnswer_35 (by decide) ?_
        refine ihl (by omega) _ K2 hM k0 k1 k3 (fun l' q1 q2 => ?_)
        by_cases q : l' = l
        · rw [q]; intro q9; exact Bool.noConfusion ((hin.mp q9).symm.trans h26)
        · exact hno l' q1 (by omega)
      · try simp only [decide_eq_true_eq, decide_eq_false_iff_not, Bool.not_eq_true] at h26
        refine V_iload dX7_likenessAnswer_29 rfl ?_
        exact V_iret hE rfl dX7_likenessAnswer_31 ⟨rfl, _, _, rfl, hM, k0, k1, k3, Or.inl ⟨⟨hl0, by omega⟩, hin.mpr h26, hno⟩⟩
  exact L3 (0) (by omega) (by omega) w K hM rfl rfl rfl (fun l' q1 q2 => by omega)
set_option maxRecDepth 100000 in
set_option maxHeartbeats 4000000 in
theorem m_gapAnswer {w0 w : WD} {sz μ : Nat} {P : MP} {K : MK} {c e l : Int} (hM : MW w0 w μ P K) (hz : ∀ k, 0 ≤ k → k < 160 → 0 ≤ P.1 k ∧ P.1 k ≤ 99) (hc : 0 ≤ c ∧ c < 160) (he : 0 ≤ e ∧ e < 160) (hl : 0 ≤ l ∧ l ≤ 99) : CT iX7_gapAnswer 0 0 [.ref μ, xI c, xI e, xI l] w sz (fun o9 w' sz' => sz' = sz ∧ ∃ r K', o9 = some (xI r) ∧ MW w0 w' μ P K' ∧ K'.thrown = K.1 ∧ K'.mask = K.2.2.2.2.2.2.1 ∧ K'.h = K.2.2.2.2.2.2.2.2.2.2 ∧ gapA P.1 c e l r) := by
  refine CT.ofZ (by decide) rfl (Nat.le_of_ble_eq_true rfl) (fun Z hE => ?_)
  refine V_iconst dX7_gapAnswer_0 ?_
  refine V_istore dX7_gapAnswer_1 (by decide) ?_
  have L3 : ∀ g : Int, 0 ≤ g → g ≤ 6 → ∀ (w : WD) (K1 : MK), MW w0 w μ P K1 → K1.1 = K.1 → K1.2.2.2.2.2.2.1 = K.2.2.2.2.2.2.1 → K1.2.2.2.2.2.2.2.2.2.2 = K.2.2.2.2.2.2.2.2.2.2 → (∀ g', 0 ≤ g' → g' < g → arI P.1 c l 0 g' e) → V iX7_gapAnswer Z 0 0 w sz 3 [some (.ref μ), some (xI c), some (xI e), some (xI l), some (xI g)] [] := by
    refine up_ind ?_
    intro g hg0 hg1 ihg w K1 hM k0 k1 k3 hno
    refine V_iload dX7_gapAnswer_3 rfl ?_
    refine V_bipush dX7_gapAnswer_5 (by decide) ?_
    refine V_icmp_ge 37 dX7_gapAnswer_7 (by decide) (by omega) (fun h7 => ?_) (fun h7 => ?_)
    · refine V_iconst dX7_gapAnswer_37 ?_
      exact V_iret hE rfl dX7_gapAnswer_38 ⟨rfl, _, _, rfl, hM, k0, k1, k3, Or.inr ⟨rfl, fun l q1 q2 => hno l q1 (by omega)⟩⟩
    · refine V_aload_n dX7_gapAnswer_10 0 rfl rfl ?_
      refine V_iload_n dX7_gapAnswer_11 1 rfl rfl ?_
      refine V_iload_n dX7_gapAnswer_12 3 rfl rfl ?_
      refine V_iconst dX7_gapAnswer_13 ?_
      refine V_iload dX7_gapAnswer_14 rfl ?_
      refine V_c_X7_111 rfl (by decide) (m_layArea hM hz hc hl (by omega) (by omega)) dX7_gapAnswer_16 hM.1 rfl rfl (Nat.le_of_ble_eq_true rfl) (Nat.le_of_eq (Nat.zero_add _)) (Nat.le_of_eq (Nat.zero_add _)) (fun v w sz q => ?_)
      try dsimp only at q
      obtain ⟨rfl, rfl, K2, hM, g0, g1, -, g3, hwi, hA⟩ := q
      replace k0 := g0.trans k0
      replace k1 := g1.trans k1
      replace k3 := g3.trans k3
      have hin := (arI_iff (c := e) hwi).trans (hA e he.1 he.2).symm
      refine V_aload_n dX7_gapAnswer_19 0 rfl rfl ?_
      refine M_g_isArea hM rfl dX7_gapAnswer_20 ?_
      refine V_iload_n dX7_gapAnswer_23 2 rfl rfl ?_
      refine M_l_isArea hM dX7_gapAnswer_24 (by first | omega | (dsimp only; omega) | (dsimp only at *; omega)) ?_
      try dsimp only
      refine V_ifneB 31 dX7_gapAnswer_25 (by decide) (fun h25 => ?_) (fun h25 => ?_)
      · try simp only [decide_eq_true_eq, decide_eq_false_iff_not, Bool.not_eq_true] at h25
        refine V_iinc dX7_gapAnswer_31 rfl (by decide) ?_
        refine V_goto 3 dX7_gapAnswer_34 (by decide) ?_
        refine ihg (by omega) _ K2 hM k0 k1 k3 (fun g' q1 q2 => ?_)
        by_cases q : g' = g
        · rw [q]; exact hin.mpr h25
        · exact hno g' q1 (by omega)
      · try simp only [decide_eq_true_eq, decide_eq_false_iff_not, Bool.not_eq_true] at h25
        refine V_iload dX7_gapAnswer_28 rfl ?_
        exact V_iret hE rfl dX7_gapAnswer_30 ⟨rfl, _, _, rfl, hM, k0, k1, k3, Or.inl ⟨⟨hg0, by omega⟩, fun q9 => Bool.noConfusion ((hin.mp q9).symm.trans h25), hno⟩⟩
  exact L3 (0) (by omega) (by omega) w K hM rfl rfl rfl (fun g' q1 q2 => by omega)
set_option maxRecDepth 100000 in
set_option maxHeartbeats 4000000 in
theorem m_leastLikeness {w0 w : WD} {sz μ : Nat} {P : MP} {K : MK} {x y u v a g : Int} (hM : MW w0 w μ P K) (hv : VZ P.1) (r : -2147483648 ≤ x ∧ x < 2147483648 ∧ -2147483648 ≤ y ∧ y < 2147483648 ∧ -2147483648 ≤ u ∧ u < 2147483648 ∧ -2147483648 ≤ v ∧ v < 2147483648 ∧ -2147483648 ≤ a ∧ a < 2147483648 ∧ -2147483648 ≤ g ∧ g < 2147483648) : CT iX7_leastLikeness 0 0 [.ref μ, xI x, xI y, xI u, xI v, xI a, xI g] w sz (fun o9 w' sz' => sz' = sz ∧ ∃ r t P', o9 = some (xI r) ∧ MD w0 w' μ t P' ∧ likR P x y u v a g t r P') := by
  refine CT.ofZ (by decide) rfl (Nat.le_of_ble_eq_true rfl) (fun Z hE => ?_)
  refine V_aload_n dX7_leastLikeness_0 0 rfl rfl ?_
  refine V_iload_n dX7_leastLikeness_1 1 rfl rfl ?_
  refine V_iload_n dX7_leastLikeness_2 2 rfl rfl ?_
  refine V_c_X7_91 rfl (by decide) (m_isCell (by omega)) dX7_leastLikeness_3 rfl rfl (Nat.le_of_ble_eq_true rfl) (Nat.le_of_eq (Nat.zero_add _)) (Nat.le_of_eq (Nat.zero_add _)) (fun v w sz q => ?_)
  try dsimp only at q
  obtain ⟨rfl, rfl, rfl⟩ := q
  refine V_ifeqB 18 dX7_leastLikeness_6 (by decide) (fun h6 => ?_) (fun h6 => ?_)
  · try simp only [decide_eq_true_eq, decide_eq_false_iff_not, Bool.not_eq_true] at h6
    refine V_iconst dX7_leastLikeness_18 ?_
    refine V_goto 38 dX7_leastLikeness_19 (by decide) ?_
    refine M_p_thrown hM rfl dX7_leastLikeness_38 (fun w hM => ?_)
    try dsimp only at hM
    refine V_aload_n dX7_leastLikeness_41 0 rfl rfl ?_
    refine M_g_thrown hM rfl dX7_leastLikeness_42 ?_
    try dsimp only
    refine V_if_le 52 dX7_leastLikeness_45 (by decide) (by omega) (fun h45 => ?_) (fun h45 => ?_)
    · exact absurd h45 (by simp)
    · refine V_iconst dX7_leastLikeness_48 ?_
      refine V_goto 73 dX7_leastLikeness_49 (by decide) ?_
      exact V_iret hE rfl dX7_leastLikeness_73 ⟨rfl, 0, 1, _, rfl, ⟨_, hM, rfl⟩, rfl, Or.inl ⟨by omega, rfl⟩⟩
  · try simp only [decide_eq_true_eq, decide_eq_false_iff_not, Bool.not_eq_true] at h6
    refine V_iload_n dX7_leastLikeness_9 3 rfl rfl ?_
    refine V_iload dX7_leastLikeness_10 rfl ?_
    refine V_c_X7_91 rfl (by decide) (m_isCell (by omega)) dX7_leastLikeness_12 rfl rfl (Nat.le_of_ble_eq_true rfl) (Nat.le_of_eq (Nat.zero_add _)) (Nat.le_of_eq (Nat.zero_add _)) (fun v w sz q => ?_)
    try dsimp only at q
    obtain ⟨rfl, rfl, rfl⟩ := q
    refine V_ifneB 22 dX7_leastLikeness_15 (by decide) (fun h15 => ?_) (fun h15 => ?_)
    · try simp only [decide_eq_true_eq, decide_eq_false_iff_not, Bool.not_eq_true] at h15
      refine V_iconst dX7_leastLikeness_22 ?_
      refine V_iload dX7_leastLikeness_23 rfl ?_
      refine V_iload dX7_leastLikeness_25 rfl ?_
      refine V_c_X7_108 rfl (by decide) (m_isAsked (by omega)) dX7_leastLikeness_27 rfl rfl (Nat.le_of_ble_eq_true rfl) (Nat.le_of_eq (Nat.zero_add _)) (Nat.le_of_eq (Nat.zero_add _)) (fun v w sz q => ?_)
      try dsimp only at q
      obtain ⟨rfl, rfl, rfl⟩ := q
      refine V_ifeqB 37 dX7_leastLikeness_30 (by decide) (fun h30 => ?_) (fun h30 => ?_)
      · try simp only [decide_eq_true_eq, decide_eq_false_iff_not, Bool.not_eq_true] at h30
        refine V_iconst dX7_leastLikeness_37 ?_
        refine M_p_thrown hM rfl dX7_leastLikeness_38 (fun w hM => ?_)
        try dsimp only at hM
        refine V_aload_n dX7_leastLikeness_41 0 rfl rfl ?_
        refine M_g_thrown hM rfl dX7_leastLikeness_42 ?_
        try dsimp only
        refine V_if_le 52 dX7_leastLikeness_45 (by decide) (by omega) (fun h45 => ?_) (fun h45 => ?_)
        · exact absurd h45 (by simp)
        · refine V_iconst dX7_leastLikeness_48 ?_
          refine V_goto 73 dX7_leastLikeness_49 (by decide) ?_
          exact V_iret hE rfl dX7_leastLikeness_73 ⟨rfl, 0, 2, _, rfl, ⟨_, hM, rfl⟩, rfl, Or.inr (Or.inl ⟨by omega, by omega, rfl⟩)⟩
      · try simp only [decide_eq_true_eq, decide_eq_false_iff_not, Bool.not_eq_true] at h30
        refine V_iconst dX7_leastLikeness_33 ?_
        refine V_goto 38 dX7_leastLikeness_34 (by decide) ?_
        refine M_p_thrown hM rfl dX7_leastLikeness_38 (fun w hM => ?_)
        try dsimp only at hM
        refine V_aload_n dX7_leastLikeness_41 0 rfl rfl ?_
        refine M_g_thrown hM rfl dX7_leastLikeness_42 ?_
        try dsimp only
        refine V_if_le 52 dX7_leastLikeness_45 (by decide) (by omega) (fun h45 => ?_) (fun h45 => ?_)
        · refine V_aload_n dX7_leastLikeness_52 0 rfl rfl ?_
          refine V_bipush dX7_leastLikeness_53 (by decide) ?_
          refine V_iload_n dX7_leastLikeness_55 2 rfl rfl ?_
          refine V_imul dX7_leastLikeness_56 ?_
          refine V_iload_n dX7_leastLikeness_57 1 rfl rfl ?_
          refine V_iadd dX7_leastLikeness_58 ?_
          refine V_bipush dX7_leastLikeness_59 (by decide) ?_
          refine V_iload dX7_leastLikeness_61 rfl ?_
          refine V_imul dX7_leastLikeness_63 ?_
          refine V_iload_n dX7_leastLikeness_64 3 rfl rfl ?_
          refine V_iadd dX7_leastLikeness_65 ?_
          refine V_iload dX7_leastLikeness_66 rfl ?_
          refine V_iload dX7_leastLikeness_68 rfl ?_
          refine V_c_X7_179 rfl (by decide) (m_likenessAnswer hM hv.1 (by omega) (by omega) (by omega) (by omega)) dX7_leastLikeness_70 hM.1 rfl rfl (Nat.le_of_ble_eq_true rfl) (Nat.le_of_eq (Nat.zero_add _)) (Nat.le_of_eq (Nat.zero_add _)) (fun v w sz q => ?_)
          try dsimp only at q
          obtain ⟨rfl, r9, K', rfl, hM, hK0, -, -, hR⟩ := q
          exact V_iret hE rfl dX7_leastLikeness_73 ⟨rfl, _, 0, _, rfl, ⟨_, hM, hK0⟩, rfl, Or.inr (Or.inr ⟨by omega, by omega, rfl, hR⟩)⟩
        · exact absurd h45 (by simp)
    · try simp only [decide_eq_true_eq, decide_eq_false_iff_not, Bool.not_eq_true] at h15
      refine V_iconst dX7_leastLikeness_18 ?_
      refine V_goto 38 dX7_leastLikeness_19 (by decide) ?_
      refine M_p_thrown hM rfl dX7_leastLikeness_38 (fun w hM => ?_)
      try dsimp only at hM
      refine V_aload_n dX7_leastLikeness_41 0 rfl rfl ?_
      refine M_g_thrown hM rfl dX7_leastLikeness_42 ?_
      try dsimp only
      refine V_if_le 52 dX7_leastLikeness_45 (by decide) (by omega) (fun h45 => ?_) (fun h45 => ?_)
      · exact absurd h45 (by simp)
      · refine V_iconst dX7_leastLikeness_48 ?_
        refine V_goto 73 dX7_leastLikeness_49 (by decide) ?_
        exact V_iret hE rfl dX7_leastLikeness_73 ⟨rfl, 0, 1, _, rfl, ⟨_, hM, rfl⟩, rfl, Or.inl ⟨by omega, rfl⟩⟩
set_option maxRecDepth 100000 in
set_option maxHeartbeats 4000000 in
theorem m_partingGap {w0 w : WD} {sz μ : Nat} {P : MP} {K : MK} {x y u v l : Int} (hM : MW w0 w μ P K) (hv : VZ P.1) (r : -2147483648 ≤ x ∧ x < 2147483648 ∧ -2147483648 ≤ y ∧ y < 2147483648 ∧ -2147483648 ≤ u ∧ u < 2147483648 ∧ -2147483648 ≤ v ∧ v < 2147483648 ∧ -2147483648 ≤ l ∧ l < 2147483648) : CT iX7_partingGap 0 0 [.ref μ, xI x, xI y, xI u, xI v, xI l] w sz (fun o9 w' sz' => sz' = sz ∧ ∃ r t P', o9 = some (xI r) ∧ MD w0 w' μ t P' ∧ gapR P x y u v l t r P') := by
  refine CT.ofZ (by decide) rfl (Nat.le_of_ble_eq_true rfl) (fun Z hE => ?_)
  refine V_aload_n dX7_partingGap_0 0 rfl rfl ?_
  refine V_iload_n dX7_partingGap_1 1 rfl rfl ?_
  refine V_iload_n dX7_partingGap_2 2 rfl rfl ?_
  refine V_c_X7_91 rfl (by decide) (m_isCell (by omega)) dX7_partingGap_3 rfl rfl (Nat.le_of_ble_eq_true rfl) (Nat.le_of_eq (Nat.zero_add _)) (Nat.le_of_eq (Nat.zero_add _)) (fun v w sz q => ?_)
  try dsimp only at q
  obtain ⟨rfl, rfl, rfl⟩ := q
  refine V_ifeqB 18 dX7_partingGap_6 (by decide) (fun h6 => ?_) (fun h6 => ?_)
  · try simp only [decide_eq_true_eq, decide_eq_false_iff_not, Bool.not_eq_true] at h6
    refine V_iconst dX7_partingGap_18 ?_
    refine V_goto 35 dX7_partingGap_19 (by decide) ?_
    refine M_p_thrown hM rfl dX7_partingGap_35 (fun w hM => ?_)
    try dsimp only at hM
    refine V_aload_n dX7_partingGap_38 0 rfl rfl ?_
    refine M_g_thrown hM rfl dX7_partingGap_39 ?_
    try dsimp only
    refine V_if_le 49 dX7_partingGap_42 (by decide) (by omega) (fun h42 => ?_) (fun h42 => ?_)
    · exact absurd h42 (by simp)
    · refine V_iconst dX7_partingGap_45 ?_
      refine V_goto 68 dX7_partingGap_46 (by decide) ?_
      exact V_iret hE rfl dX7_partingGap_68 ⟨rfl, 0, 1, _, rfl, ⟨_, hM, rfl⟩, rfl, Or.inl ⟨by omega, rfl⟩⟩
  · try simp only [decide_eq_true_eq, decide_eq_false_iff_not, Bool.not_eq_true] at h6
    refine V_iload_n dX7_partingGap_9 3 rfl rfl ?_
    refine V_iload dX7_partingGap_10 rfl ?_
    refine V_c_X7_91 rfl (by decide) (m_isCell (by omega)) dX7_partingGap_12 rfl rfl (Nat.le_of_ble_eq_true rfl) (Nat.le_of_eq (Nat.zero_add _)) (Nat.le_of_eq (Nat.zero_add _)) (fun v w sz q => ?_)
    try dsimp only at q
    obtain ⟨rfl, rfl, rfl⟩ := q
    refine V_ifneB 22 dX7_partingGap_15 (by decide) (fun h15 => ?_) (fun h15 => ?_)
    · try simp only [decide_eq_true_eq, decide_eq_false_iff_not, Bool.not_eq_true] at h15
      refine V_iload dX7_partingGap_22 rfl ?_
      refine V_c_X7_94 rfl (by decide) (m_isShade (by omega)) dX7_partingGap_24 rfl rfl (Nat.le_of_ble_eq_true rfl) (Nat.le_of_eq (Nat.zero_add _)) (Nat.le_of_eq (Nat.zero_add _)) (fun v w sz q => ?_)
      try dsimp only at q
      obtain ⟨rfl, rfl, rfl⟩ := q
      refine V_ifeqB 34 dX7_partingGap_27 (by decide) (fun h27 => ?_) (fun h27 => ?_)
      · try simp only [decide_eq_true_eq, decide_eq_false_iff_not, Bool.not_eq_true] at h27
        refine V_iconst dX7_partingGap_34 ?_
        refine M_p_thrown hM rfl dX7_partingGap_35 (fun w hM => ?_)
        try dsimp only at hM
        refine V_aload_n dX7_partingGap_38 0 rfl rfl ?_
        refine M_g_thrown hM rfl dX7_partingGap_39 ?_
        try dsimp only
        refine V_if_le 49 dX7_partingGap_42 (by decide) (by omega) (fun h42 => ?_) (fun h42 => ?_)
        · exact absurd h42 (by simp)
        · refine V_iconst dX7_partingGap_45 ?_
          refine V_goto 68 dX7_partingGap_46 (by decide) ?_
          exact V_iret hE rfl dX7_partingGap_68 ⟨rfl, 0, 2, _, rfl, ⟨_, hM, rfl⟩, rfl, Or.inr (Or.inl ⟨by omega, by omega, rfl⟩)⟩
      · try simp only [decide_eq_true_eq, decide_eq_false_iff_not, Bool.not_eq_true] at h27
        refine V_iconst dX7_partingGap_30 ?_
        refine V_goto 35 dX7_partingGap_31 (by decide) ?_
        refine M_p_thrown hM rfl dX7_partingGap_35 (fun w hM => ?_)
        try dsimp only at hM
        refine V_aload_n dX7_partingGap_38 0 rfl rfl ?_
        refine M_g_thrown hM rfl dX7_partingGap_39 ?_
        try dsimp only
        refine V_if_le 49 dX7_partingGap_42 (by decide) (by omega) (fun h42 => ?_) (fun h42 => ?_)
        · refine V_aload_n dX7_partingGap_49 0 rfl rfl ?_
          refine V_bipush dX7_partingGap_50 (by decide) ?_
          refine V_iload_n dX7_partingGap_52 2 rfl rfl ?_
          refine V_imul dX7_partingGap_53 ?_
          refine V_iload_n dX7_partingGap_54 1 rfl rfl ?_
          refine V_iadd dX7_partingGap_55 ?_
          refine V_bipush dX7_partingGap_56 (by decide) ?_
          refine V_iload dX7_partingGap_58 rfl ?_
          refine V_imul dX7_partingGap_60 ?_
          refine V_iload_n dX7_partingGap_61 3 rfl rfl ?_
          refine V_iadd dX7_partingGap_62 ?_
          refine V_iload dX7_partingGap_63 rfl ?_
          refine V_c_X7_182 rfl (by decide) (m_gapAnswer hM hv.1 (by omega) (by omega) (by omega)) dX7_partingGap_65 hM.1 rfl rfl (Nat.le_of_ble_eq_true rfl) (Nat.le_of_eq (Nat.zero_add _)) (Nat.le_of_eq (Nat.zero_add _)) (fun v w sz q => ?_)
          try dsimp only at q
          obtain ⟨rfl, r9, K', rfl, hM, hK0, -, -, hR⟩ := q
          exact V_iret hE rfl dX7_partingGap_68 ⟨rfl, _, 0, _, rfl, ⟨_, hM, hK0⟩, rfl, Or.inr (Or.inr ⟨by omega, by omega, rfl, hR⟩)⟩
        · exact absurd h42 (by simp)
    · try simp only [decide_eq_true_eq, decide_eq_false_iff_not, Bool.not_eq_true] at h15
      refine V_iconst dX7_partingGap_18 ?_
      refine V_goto 35 dX7_partingGap_19 (by decide) ?_
      refine M_p_thrown hM rfl dX7_partingGap_35 (fun w hM => ?_)
      try dsimp only at hM
      refine V_aload_n dX7_partingGap_38 0 rfl rfl ?_
      refine M_g_thrown hM rfl dX7_partingGap_39 ?_
      try dsimp only
      refine V_if_le 49 dX7_partingGap_42 (by decide) (by omega) (fun h42 => ?_) (fun h42 => ?_)
      · exact absurd h42 (by simp)
      · refine V_iconst dX7_partingGap_45 ?_
        refine V_goto 68 dX7_partingGap_46 (by decide) ?_
        exact V_iret hE rfl dX7_partingGap_68 ⟨rfl, 0, 1, _, rfl, ⟨_, hM, rfl⟩, rfl, Or.inl ⟨by omega, rfl⟩⟩
set_option maxRecDepth 100000 in
set_option maxHeartbeats 4000000 in
theorem m_areasAnswer {w0 w : WD} {sz μ : Nat} {P : MP} {K : MK} {l : Int} (hM : MW w0 w μ P K) (hz : ∀ k, 0 ≤ k → k < 160 → 0 ≤ P.1 k ∧ P.1 k ≤ 99) (hl : 0 ≤ l ∧ l ≤ 99) : CT iX7_areasAnswer 0 0 [.ref μ, xI l] w sz (fun o9 w' sz' => sz' = sz ∧ ∃ r K', o9 = some (xI r) ∧ MW w0 w' μ P K' ∧ K'.thrown = K.1 ∧ K'.mask = K.2.2.2.2.2.2.1 ∧ K'.h = K.2.2.2.2.2.2.2.2.2.2 ∧ Eq (iArs P.1 l 160).2 r) := by
  refine CT.ofZ (by decide) rfl (Nat.le_of_ble_eq_true rfl) (fun Z hE => ?_)
  refine V_iconst dX7_areasAnswer_0 ?_
  refine V_istore_n dX7_areasAnswer_1 2 rfl (by decide) ?_
  have L2 : ∀ k : Int, 0 ≤ k → k ≤ 160 → ∀ (w : WD) (A : Int → Bool), MW w0 w μ P (K.1, A, K.2.2.1, K.2.2.2.1, K.2.2.2.2.1, K.2.2.2.2.2.1, K.2.2.2.2.2.2.1, K.2.2.2.2.2.2.2.1, K.2.2.2.2.2.2.2.2.1, K.2.2.2.2.2.2.2.2.2.1, K.2.2.2.2.2.2.2.2.2.2) → (∀ j, 0 ≤ j → j < k → A j = false) → V iX7_areasAnswer Z 0 0 w sz 2 [some (.ref μ), some (xI l), some (xI k), none] [] := by
    refine up_ind ?_
    intro k hk0 hk1 ih w A hM hA
    refine V_iload_n dX7_areasAnswer_2 2 rfl rfl ?_
    refine V_sipush dX7_areasAnswer_3 (by decide) ?_
    refine V_icmp_ge 22 dX7_areasAnswer_6 (by decide) (by omega) (fun h6 => ?_) (fun h6 => ?_)
    · refine V_iconst dX7_areasAnswer_22 ?_
      refine V_istore_n dX7_areasAnswer_23 2 rfl (by decide) ?_
      refine V_iconst dX7_areasAnswer_24 ?_
      refine V_istore_n dX7_areasAnswer_25 3 rfl (by decide) ?_
      have L26 : ∀ c : Int, 0 ≤ c → c ≤ 160 → ∀ (w : WD) (A : Int → Bool) (l1 : Int → Int), MW w0 w μ P (K.1, A, K.2.2.1, l1, K.2.2.2.2.1, K.2.2.2.2.2.1, K.2.2.2.2.2.2.1, K.2.2.2.2.2.2.2.1, K.2.2.2.2.2.2.2.2.1, K.2.2.2.2.2.2.2.2.2.1, K.2.2.2.2.2.2.2.2.2.2) → (∀ j, 0 ≤ j → j < 160 → A j = (iArs P.1 l c).1 j) → V iX7_areasAnswer Z 0 0 w sz 26 [some (.ref μ), some (xI l), some (xI (iArs P.1 l c).2), some (xI c)] [] := by
        refine up_ind ?_
        intro c hc0 hc1 ihc w A l1 hM hA
        refine V_iload_n dX7_areasAnswer_26 3 rfl rfl ?_
        refine V_sipush dX7_areasAnswer_27 (by decide) ?_
        refine V_icmp_ge 57 dX7_areasAnswer_30 (by decide) (by omega) (fun h30 => ?_) (fun h30 => ?_)
        · refine V_iload_n dX7_areasAnswer_57 2 rfl rfl ?_
          exact V_iret hE rfl dX7_areasAnswer_58 ⟨rfl, _, _, rfl, hM, rfl, rfl, rfl, by rw [show c = 160 by omega]⟩
        · refine V_aload_n dX7_areasAnswer_33 0 rfl rfl ?_
          refine M_g_isAlike hM rfl dX7_areasAnswer_34 ?_
          refine V_iload_n dX7_areasAnswer_37 3 rfl rfl ?_
          refine M_l_isAlike hM dX7_areasAnswer_38 (by first | omega | (dsimp only; omega) | (dsimp only at *; omega)) ?_
          try dsimp only
          refine V_ifneB 51 dX7_areasAnswer_39 (by decide) (fun h39 => ?_) (fun h39 => ?_)
          · try simp only [decide_eq_true_eq, decide_eq_false_iff_not, Bool.not_eq_true] at h39
            refine V_iinc dX7_areasAnswer_51 rfl (by decide) ?_
            refine V_goto 26 dX7_areasAnswer_54 (by decide) ?_
            have ea := hA c hc0 (by omega)
            rw [h39] at ea
            rw [iArs_1 hc0 ea.symm] at ihc
            exact ihc (by omega) _ _ _ hM hA
          · try simp only [decide_eq_true_eq, decide_eq_false_iff_not, Bool.not_eq_true] at h39
            refine V_aload_n dX7_areasAnswer_42 0 rfl rfl ?_
            refine V_iload_n dX7_areasAnswer_43 3 rfl rfl ?_
            refine V_iload_n dX7_areasAnswer_44 1 rfl rfl ?_
            refine V_c_X7_54 rfl (by decide) (m_reach hM hz ⟨hc0, by omega⟩ hl h39) dX7_areasAnswer_45 hM.1 rfl rfl (Nat.le_of_ble_eq_true rfl) (Nat.le_of_eq (Nat.zero_add _)) (Nat.le_of_eq (Nat.zero_add _)) (fun v w sz q => ?_)
            try dsimp only at q
            obtain ⟨rfl, rfl, A2, l2, hM, hA2⟩ := q
            refine V_iinc dX7_areasAnswer_48 rfl (by decide) ?_
            refine V_iinc dX7_areasAnswer_51 rfl (by decide) ?_
            refine V_goto 26 dX7_areasAnswer_54 (by decide) ?_
            have ea := hA c hc0 (by omega)
            rw [h39] at ea
            have e9 := iArs_2 hc0 ea.symm
            rw [e9.2] at ihc
            exact ihc (by omega) _ _ _ hM (fun j q1 q2 => Bool.eq_iff_iff.mpr ((hA2 j q1 q2).trans ((or_congr (by rw [hA j q1 q2]) (Rch_c hA)).trans (e9.1 j).symm)))
      exact L26 (0) (by omega) (by omega) w A K.2.2.2.1 hM (fun j q1 q2 => hA j q1 (by omega))
    · refine V_aload_n dX7_areasAnswer_9 0 rfl rfl ?_
      refine M_g_isAlike hM rfl dX7_areasAnswer_10 ?_
      refine V_iload_n dX7_areasAnswer_13 2 rfl rfl ?_
      refine V_iconst dX7_areasAnswer_14 ?_
      refine M_s_isAlike (b := false) hM dX7_areasAnswer_15 (by first | omega | (dsimp only; omega) | (dsimp only at *; omega)) (fun w hM => ?_)
      try dsimp only at hM
      refine V_iinc dX7_areasAnswer_16 rfl (by decide) ?_
      refine V_goto 2 dX7_areasAnswer_19 (by decide) ?_
      refine V_fg [true, true, true, false] ?_
      refine ih (by omega) _ _ hM (fun j q1 q2 => ?_)
      by_cases q : j = k
      · rw [q, iu_s]
      · rw [iu_n q]; exact hA j q1 (by omega)
  refine V_fg [true, true, true, false] ?_
  exact L2 (0) (by omega) (by omega) w K.2.1 hM (fun j q1 q2 => by omega)
set_option maxRecDepth 100000 in
set_option maxHeartbeats 4000000 in
theorem m_areas {w0 w : WD} {sz μ : Nat} {P : MP} {K : MK} {l : Int} (hM : MW w0 w μ P K) (hv : VZ P.1) (r : -2147483648 ≤ l ∧ l < 2147483648) : CT iX7_areas 0 0 [.ref μ, xI l] w sz (fun o9 w' sz' => sz' = sz ∧ ∃ r t P', o9 = some (xI r) ∧ MD w0 w' μ t P' ∧ arsR P l t r P') := by
  refine CT.ofZ (by decide) rfl (Nat.le_of_ble_eq_true rfl) (fun Z hE => ?_)
  refine V_aload_n dX7_areas_0 0 rfl rfl ?_
  refine V_iload_n dX7_areas_1 1 rfl rfl ?_
  refine V_c_X7_94 rfl (by decide) (m_isShade (by omega)) dX7_areas_2 rfl rfl (Nat.le_of_ble_eq_true rfl) (Nat.le_of_eq (Nat.zero_add _)) (Nat.le_of_eq (Nat.zero_add _)) (fun v w sz q => ?_)
  try dsimp only at q
  obtain ⟨rfl, rfl, rfl⟩ := q
  refine V_ifeqB 12 dX7_areas_5 (by decide) (fun h5 => ?_) (fun h5 => ?_)
  · try simp only [decide_eq_true_eq, decide_eq_false_iff_not, Bool.not_eq_true] at h5
    refine V_iconst dX7_areas_12 ?_
    refine M_p_thrown hM rfl dX7_areas_13 (fun w hM => ?_)
    try dsimp only at hM
    refine V_aload_n dX7_areas_16 0 rfl rfl ?_
    refine M_g_thrown hM rfl dX7_areas_17 ?_
    try dsimp only
    refine V_if_le 27 dX7_areas_20 (by decide) (by omega) (fun h20 => ?_) (fun h20 => ?_)
    · exact absurd h20 (by simp)
    · refine V_iconst dX7_areas_23 ?_
      refine V_goto 32 dX7_areas_24 (by decide) ?_
      exact V_iret hE rfl dX7_areas_32 ⟨rfl, 0, 1, _, rfl, ⟨_, hM, rfl⟩, rfl, Or.inl ⟨by omega, rfl⟩⟩
  · try simp only [decide_eq_true_eq, decide_eq_false_iff_not, Bool.not_eq_true] at h5
    refine V_iconst dX7_areas_8 ?_
    refine V_goto 13 dX7_areas_9 (by decide) ?_
    refine M_p_thrown hM rfl dX7_areas_13 (fun w hM => ?_)
    try dsimp only at hM
    refine V_aload_n dX7_areas_16 0 rfl rfl ?_
    refine M_g_thrown hM rfl dX7_areas_17 ?_
    try dsimp only
    refine V_if_le 27 dX7_areas_20 (by decide) (by omega) (fun h20 => ?_) (fun h20 => ?_)
    · refine V_aload_n dX7_areas_27 0 rfl rfl ?_
      refine V_iload_n dX7_areas_28 1 rfl rfl ?_
      refine V_c_X7_186 rfl (by decide) (m_areasAnswer hM hv.1 (by omega)) dX7_areas_29 hM.1 rfl rfl (Nat.le_of_ble_eq_true rfl) (Nat.le_of_eq (Nat.zero_add _)) (Nat.le_of_eq (Nat.zero_add _)) (fun v w sz q => ?_)
      try dsimp only at q
      obtain ⟨rfl, r9, K', rfl, hM, hK0, -, -, hR⟩ := q
      exact V_iret hE rfl dX7_areas_32 ⟨rfl, _, 0, _, rfl, ⟨_, hM, hK0⟩, rfl, Or.inr ⟨by omega, rfl, hR.symm⟩⟩
    · exact absurd h20 (by simp)
