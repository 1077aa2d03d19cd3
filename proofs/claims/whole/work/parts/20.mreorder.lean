/-! the reference: picks out and in, kinds, order, clean -/
set_option maxRecDepth 100000 in
set_option maxHeartbeats 4000000 in
theorem m_toggle {w0 w : WD} {sz μ : Nat} {P : MP} {K : MK} {p : Int} (hM : MW w0 w μ P K) (hv : VZ P.1) (hs : 0 ≤ P.2.1 ∧ P.2.1 ≤ 6) (r : -2147483648 ≤ p ∧ p < 2147483648) : CT iX7_toggle 0 0 [.ref μ, xI p] w sz (fun o9 w' sz' => sz' = sz ∧ ∃ r t P', o9 = some (xI r) ∧ MD w0 w' μ t P' ∧ togR P p t r P') := by
  have hzp := hv.2.1
  refine CT.ofZ (by decide) rfl (Nat.le_of_ble_eq_true rfl) (fun Z hE => ?_)
  refine V_aload_n dX7_toggle_0 0 rfl rfl ?_
  refine V_aload_n dX7_toggle_1 0 rfl rfl ?_
  refine V_iload_n dX7_toggle_2 1 rfl rfl ?_
  refine V_c_X7_121 rfl (by decide) (m_isPick hM (by omega) hzp) dX7_toggle_3 hM.1 rfl rfl (Nat.le_of_ble_eq_true rfl) (Nat.le_of_eq (Nat.zero_add _)) (Nat.le_of_eq (Nat.zero_add _)) (fun v w sz q => ?_)
  try dsimp only at q
  obtain ⟨rfl, rfl, rfl⟩ := q
  refine V_ifeqB 13 dX7_toggle_6 (by decide) (fun h6 => ?_) (fun h6 => ?_)
  · try simp only [decide_eq_true_eq, decide_eq_false_iff_not, Bool.not_eq_true] at h6
    refine V_iconst dX7_toggle_13 ?_
    refine M_p_thrown hM rfl dX7_toggle_14 (fun w hM => ?_)
    try dsimp only at hM
    refine V_aload_n dX7_toggle_17 0 rfl rfl ?_
    refine M_g_thrown hM rfl dX7_toggle_18 ?_
    try dsimp only
    refine V_if_le 26 dX7_toggle_21 (by decide) (by omega) (fun h21 => ?_) (fun h21 => ?_)
    · exact absurd h21 (by simp)
    · refine V_iconst dX7_toggle_24 ?_
      exact V_iret hE rfl dX7_toggle_25 ⟨rfl, 0, 1, _, rfl, ⟨_, hM, rfl⟩, Or.inl ⟨by omega, rfl, rfl⟩⟩
  · try simp only [decide_eq_true_eq, decide_eq_false_iff_not, Bool.not_eq_true] at h6
    refine V_iconst dX7_toggle_9 ?_
    refine V_goto 14 dX7_toggle_10 (by decide) ?_
    refine M_p_thrown hM rfl dX7_toggle_14 (fun w hM => ?_)
    try dsimp only at hM
    refine V_aload_n dX7_toggle_17 0 rfl rfl ?_
    refine M_g_thrown hM rfl dX7_toggle_18 ?_
    try dsimp only
    refine V_if_le 26 dX7_toggle_21 (by decide) (by omega) (fun h21 => ?_) (fun h21 => ?_)
    · refine V_aload_n dX7_toggle_26 0 rfl rfl ?_
      refine V_c_X7_98 rfl (by decide) (m_save hM hs) dX7_toggle_27 hM.1 rfl rfl (Nat.le_of_ble_eq_true rfl) (Nat.le_of_eq (Nat.zero_add _)) (Nat.le_of_eq (Nat.zero_add _)) (fun v w sz q => ?_)
      try dsimp only at q
      obtain ⟨rfl, rfl, S, hM, hS⟩ := q
      rw [show (if P.2.1 = 6 then 6 else P.2.1 + 1) = isv P.2.1 + 1 by unfold isv; omega] at hM
      have hi9 : 0 ≤ isv P.2.1 ∧ isv P.2.1 ≤ 5 := by unfold isv; omega
      refine V_aload_n dX7_toggle_30 0 rfl rfl ?_
      refine M_g_z hM rfl dX7_toggle_31 ?_
      refine V_sipush dX7_toggle_34 (by decide) ?_
      refine V_sipush dX7_toggle_37 (by decide) ?_
      refine V_iload_n dX7_toggle_40 1 rfl rfl ?_
      refine V_imul dX7_toggle_41 ?_
      refine V_iadd dX7_toggle_42 ?_
      refine V_bipush dX7_toggle_43 (by decide) ?_
      refine V_iadd dX7_toggle_45 ?_
      refine V_iconst dX7_toggle_46 ?_
      refine V_aload_n dX7_toggle_47 0 rfl rfl ?_
      refine V_iload_n dX7_toggle_48 1 rfl rfl ?_
      refine V_bipush dX7_toggle_49 (by decide) ?_
      refine V_c_X7_46 rfl (by decide) (m_of hM (by (try dsimp only); omega)) dX7_toggle_51 hM.1 rfl rfl (Nat.le_of_ble_eq_true rfl) (Nat.le_of_eq (Nat.zero_add _)) (Nat.le_of_eq (Nat.zero_add _)) (fun v w sz q => ?_)
      try dsimp only at q
      obtain ⟨rfl, rfl, rfl⟩ := q
      refine V_isub dX7_toggle_54 ?_
      refine M_s_z hM dX7_toggle_55 (by first | omega | (dsimp only; omega) | (dsimp only at *; omega)) (fun w hM => ?_)
      try dsimp only at hM
      refine V_aload_n dX7_toggle_56 0 rfl rfl ?_
      refine V_iload_n dX7_toggle_57 1 rfl rfl ?_
      refine V_bipush dX7_toggle_58 (by decide) ?_
      refine V_c_X7_46 rfl (by decide) (m_of hM (by (try dsimp only); omega)) dX7_toggle_60 hM.1 rfl rfl (Nat.le_of_ble_eq_true rfl) (Nat.le_of_eq (Nat.zero_add _)) (Nat.le_of_eq (Nat.zero_add _)) (fun v w sz q => ?_)
      try dsimp only at q
      obtain ⟨rfl, rfl, rfl⟩ := q
      exact V_iret hE rfl dX7_toggle_63 ⟨rfl, _, 0, _, rfl, ⟨_, hM, rfl⟩, Or.inr ⟨by omega, rfl, ⟨rfl, hS, rfl⟩, by rw [iu_s], by dsimp only, fun j j0 j1 j2 => by dsimp only; rw [iu_n j2]⟩⟩
    · exact absurd h21 (by simp)
set_option maxRecDepth 100000 in
set_option maxHeartbeats 4000000 in
theorem m_setKind {w0 w : WD} {sz μ : Nat} {P : MP} {K : MK} {p d : Int} (hM : MW w0 w μ P K) (hv : VZ P.1) (hs : 0 ≤ P.2.1 ∧ P.2.1 ≤ 6) (r : -2147483648 ≤ p ∧ p < 2147483648 ∧ -2147483648 ≤ d ∧ d < 2147483648) : CT iX7_setKind 0 0 [.ref μ, xI p, xI d] w sz (fun o9 w' sz' => sz' = sz ∧ ∃ r t P', o9 = some (xI r) ∧ MD w0 w' μ t P' ∧ kndR P p d t r P') := by
  have hzp := hv.2.1
  refine CT.ofZ (by decide) rfl (Nat.le_of_ble_eq_true rfl) (fun Z hE => ?_)
  refine V_aload_n dX7_setKind_0 0 rfl rfl ?_
  refine V_aload_n dX7_setKind_1 0 rfl rfl ?_
  refine V_iload_n dX7_setKind_2 1 rfl rfl ?_
  refine V_c_X7_121 rfl (by decide) (m_isPick hM (by omega) hzp) dX7_setKind_3 hM.1 rfl rfl (Nat.le_of_ble_eq_true rfl) (Nat.le_of_eq (Nat.zero_add _)) (Nat.le_of_eq (Nat.zero_add _)) (fun v w sz q => ?_)
  try dsimp only at q
  obtain ⟨rfl, rfl, rfl⟩ := q
  refine V_ifneB 13 dX7_setKind_6 (by decide) (fun h6 => ?_) (fun h6 => ?_)
  · try simp only [decide_eq_true_eq, decide_eq_false_iff_not, Bool.not_eq_true] at h6
    refine V_iload_n dX7_setKind_13 2 rfl rfl ?_
    refine V_iconst dX7_setKind_14 ?_
    refine V_iconst dX7_setKind_15 ?_
    refine V_c_X7_42 rfl (by decide) (m_within (by omega)) dX7_setKind_16 rfl rfl (Nat.le_of_ble_eq_true rfl) (Nat.le_of_eq (Nat.zero_add _)) (Nat.le_of_eq (Nat.zero_add _)) (fun v w sz q => ?_)
    try dsimp only at q
    obtain ⟨rfl, rfl, rfl⟩ := q
    refine V_ifeqB 26 dX7_setKind_19 (by decide) (fun h19 => ?_) (fun h19 => ?_)
    · try simp only [decide_eq_true_eq, decide_eq_false_iff_not, Bool.not_eq_true] at h19
      refine V_iconst dX7_setKind_26 ?_
      refine M_p_thrown hM rfl dX7_setKind_27 (fun w hM => ?_)
      try dsimp only at hM
      refine V_aload_n dX7_setKind_30 0 rfl rfl ?_
      refine M_g_thrown hM rfl dX7_setKind_31 ?_
      try dsimp only
      refine V_if_le 39 dX7_setKind_34 (by decide) (by omega) (fun h34 => ?_) (fun h34 => ?_)
      · exact absurd h34 (by simp)
      · refine V_iconst dX7_setKind_37 ?_
        exact V_iret hE rfl dX7_setKind_38 ⟨rfl, 0, 2, _, rfl, ⟨_, hM, rfl⟩, Or.inr (Or.inl ⟨by omega, by omega, rfl, rfl⟩)⟩
    · try simp only [decide_eq_true_eq, decide_eq_false_iff_not, Bool.not_eq_true] at h19
      refine V_iconst dX7_setKind_22 ?_
      refine V_goto 27 dX7_setKind_23 (by decide) ?_
      refine M_p_thrown hM rfl dX7_setKind_27 (fun w hM => ?_)
      try dsimp only at hM
      refine V_aload_n dX7_setKind_30 0 rfl rfl ?_
      refine M_g_thrown hM rfl dX7_setKind_31 ?_
      try dsimp only
      refine V_if_le 39 dX7_setKind_34 (by decide) (by omega) (fun h34 => ?_) (fun h34 => ?_)
      · refine V_aload_n dX7_setKind_39 0 rfl rfl ?_
        refine V_c_X7_98 rfl (by decide) (m_save hM hs) dX7_setKind_40 hM.1 rfl rfl (Nat.le_of_ble_eq_true rfl) (Nat.le_of_eq (Nat.zero_add _)) (Nat.le_of_eq (Nat.zero_add _)) (fun v w sz q => ?_)
        try dsimp only at q
        obtain ⟨rfl, rfl, S, hM, hS⟩ := q
        rw [show (if P.2.1 = 6 then 6 else P.2.1 + 1) = isv P.2.1 + 1 by unfold isv; omega] at hM
        have hi9 : 0 ≤ isv P.2.1 ∧ isv P.2.1 ≤ 5 := by unfold isv; omega
        refine V_aload_n dX7_setKind_43 0 rfl rfl ?_
        refine V_iload_n dX7_setKind_44 1 rfl rfl ?_
        refine V_iconst dX7_setKind_45 ?_
        refine V_c_X7_46 rfl (by decide) (m_of hM (by (try dsimp only); omega)) dX7_setKind_46 hM.1 rfl rfl (Nat.le_of_ble_eq_true rfl) (Nat.le_of_eq (Nat.zero_add _)) (Nat.le_of_eq (Nat.zero_add _)) (fun v w sz q => ?_)
        try dsimp only at q
        obtain ⟨rfl, rfl, rfl⟩ := q
        refine V_istore_n dX7_setKind_49 3 rfl (by decide) ?_
        refine V_aload_n dX7_setKind_50 0 rfl rfl ?_
        refine M_g_z hM rfl dX7_setKind_51 ?_
        refine V_sipush dX7_setKind_54 (by decide) ?_
        refine V_sipush dX7_setKind_57 (by decide) ?_
        refine V_iload_n dX7_setKind_60 1 rfl rfl ?_
        refine V_imul dX7_setKind_61 ?_
        refine V_iadd dX7_setKind_62 ?_
        refine V_iconst dX7_setKind_63 ?_
        refine V_iadd dX7_setKind_64 ?_
        refine V_iload_n dX7_setKind_65 2 rfl rfl ?_
        refine M_s_z hM dX7_setKind_66 (by first | omega | (dsimp only; omega) | (dsimp only at *; omega)) (fun w hM => ?_)
        try dsimp only at hM
        refine V_iload_n dX7_setKind_67 3 rfl rfl ?_
        exact V_iret hE rfl dX7_setKind_68 ⟨rfl, _, 0, _, rfl, ⟨_, hM, rfl⟩, Or.inr (Or.inr ⟨by omega, by omega, rfl, ⟨rfl, hS, rfl⟩, rfl, by dsimp only; rw [iu_s], fun j j0 j1 j2 => by dsimp only; rw [iu_n j2]⟩)⟩
      · exact absurd h34 (by simp)
  · try simp only [decide_eq_true_eq, decide_eq_false_iff_not, Bool.not_eq_true] at h6
    refine V_iconst dX7_setKind_9 ?_
    refine V_goto 27 dX7_setKind_10 (by decide) ?_
    refine M_p_thrown hM rfl dX7_setKind_27 (fun w hM => ?_)
    try dsimp only at hM
    refine V_aload_n dX7_setKind_30 0 rfl rfl ?_
    refine M_g_thrown hM rfl dX7_setKind_31 ?_
    try dsimp only
    refine V_if_le 39 dX7_setKind_34 (by decide) (by omega) (fun h34 => ?_) (fun h34 => ?_)
    · exact absurd h34 (by simp)
    · refine V_iconst dX7_setKind_37 ?_
      exact V_iret hE rfl dX7_setKind_38 ⟨rfl, 0, 1, _, rfl, ⟨_, hM, rfl⟩, Or.inl ⟨by omega, rfl, rfl⟩⟩
set_option maxRecDepth 100000 in
set_option maxHeartbeats 4000000 in
theorem m_reorder {w0 w : WD} {sz μ : Nat} {P : MP} {K : MK} {p u : Int} (hM : MW w0 w μ P K) (hv : VZ P.1) (hs : 0 ≤ P.2.1 ∧ P.2.1 ≤ 6) (r : -2147483648 ≤ p ∧ p < 2147483648 ∧ -2147483648 ≤ u ∧ u < 2147483648) : CT iX7_reorder 0 0 [.ref μ, xI p, xI u] w sz (fun o9 w' sz' => sz' = sz ∧ ∃ r t P', o9 = some (xI r) ∧ MD w0 w' μ t P' ∧ ordR P p u t r P') := by
  have hzp := hv.2.1
  refine CT.ofZ (by decide) rfl (Nat.le_of_ble_eq_true rfl) (fun Z hE => ?_)
  refine V_aload_n dX7_reorder_0 0 rfl rfl ?_
  refine V_aload_n dX7_reorder_1 0 rfl rfl ?_
  refine V_iload_n dX7_reorder_2 1 rfl rfl ?_
  refine V_c_X7_121 rfl (by decide) (m_isPick hM (by omega) hzp) dX7_reorder_3 hM.1 rfl rfl (Nat.le_of_ble_eq_true rfl) (Nat.le_of_eq (Nat.zero_add _)) (Nat.le_of_eq (Nat.zero_add _)) (fun v w sz q => ?_)
  try dsimp only at q
  obtain ⟨rfl, rfl, rfl⟩ := q
  refine V_ifeqB 21 dX7_reorder_6 (by decide) (fun h6 => ?_) (fun h6 => ?_)
  · try simp only [decide_eq_true_eq, decide_eq_false_iff_not, Bool.not_eq_true] at h6
    refine V_iconst dX7_reorder_21 ?_
    refine M_p_thrown hM rfl dX7_reorder_22 (fun w hM => ?_)
    try dsimp only at hM
    refine V_aload_n dX7_reorder_25 0 rfl rfl ?_
    refine M_g_thrown hM rfl dX7_reorder_26 ?_
    try dsimp only
    refine V_if_le 34 dX7_reorder_29 (by decide) (by first | omega | (have gk9 := gm9 (by omega); omega)) (fun h29 => ?_) (fun h29 => ?_)
    · exact absurd h29 (by simp)
    · refine V_iconst dX7_reorder_32 ?_
      exact V_iret hE rfl dX7_reorder_33 ⟨rfl, 0, 1, _, rfl, ⟨_, hM, rfl⟩, Or.inl ⟨by omega, rfl, rfl⟩⟩
  · try simp only [decide_eq_true_eq, decide_eq_false_iff_not, Bool.not_eq_true] at h6
    refine V_aload_n dX7_reorder_9 0 rfl rfl ?_
    refine V_iload_n dX7_reorder_10 2 rfl rfl ?_
    refine V_c_X7_121 rfl (by decide) (m_isPick hM (by omega) hzp) dX7_reorder_11 hM.1 rfl rfl (Nat.le_of_ble_eq_true rfl) (Nat.le_of_eq (Nat.zero_add _)) (Nat.le_of_eq (Nat.zero_add _)) (fun v w sz q => ?_)
    try dsimp only at q
    obtain ⟨rfl, rfl, rfl⟩ := q
    refine V_ifeqB 21 dX7_reorder_14 (by decide) (fun h14 => ?_) (fun h14 => ?_)
    · try simp only [decide_eq_true_eq, decide_eq_false_iff_not, Bool.not_eq_true] at h14
      refine V_iconst dX7_reorder_21 ?_
      refine M_p_thrown hM rfl dX7_reorder_22 (fun w hM => ?_)
      try dsimp only at hM
      refine V_aload_n dX7_reorder_25 0 rfl rfl ?_
      refine M_g_thrown hM rfl dX7_reorder_26 ?_
      try dsimp only
      refine V_if_le 34 dX7_reorder_29 (by decide) (by first | omega | (have gk9 := gm9 (by omega); omega)) (fun h29 => ?_) (fun h29 => ?_)
      · exact absurd h29 (by simp)
      · refine V_iconst dX7_reorder_32 ?_
        exact V_iret hE rfl dX7_reorder_33 ⟨rfl, 0, 1, _, rfl, ⟨_, hM, rfl⟩, Or.inl ⟨by omega, rfl, rfl⟩⟩
    · try simp only [decide_eq_true_eq, decide_eq_false_iff_not, Bool.not_eq_true] at h14
      refine V_iconst dX7_reorder_17 ?_
      refine V_goto 22 dX7_reorder_18 (by decide) ?_
      refine M_p_thrown hM rfl dX7_reorder_22 (fun w hM => ?_)
      try dsimp only at hM
      refine V_aload_n dX7_reorder_25 0 rfl rfl ?_
      refine M_g_thrown hM rfl dX7_reorder_26 ?_
      try dsimp only
      refine V_if_le 34 dX7_reorder_29 (by decide) (by first | omega | (have gk9 := gm9 (by omega); omega)) (fun h29 => ?_) (fun h29 => ?_)
      · refine V_aload_n dX7_reorder_34 0 rfl rfl ?_
        refine V_c_X7_98 rfl (by decide) (m_save hM hs) dX7_reorder_35 hM.1 rfl rfl (Nat.le_of_ble_eq_true rfl) (Nat.le_of_eq (Nat.zero_add _)) (Nat.le_of_eq (Nat.zero_add _)) (fun v w sz q => ?_)
        try dsimp only at q
        obtain ⟨rfl, rfl, S, hM, hS⟩ := q
        rw [show (if P.2.1 = 6 then 6 else P.2.1 + 1) = isv P.2.1 + 1 by unfold isv; omega] at hM
        have hi9 : 0 ≤ isv P.2.1 ∧ isv P.2.1 ≤ 5 := by unfold isv; omega
        refine V_aload_n dX7_reorder_38 0 rfl rfl ?_
        refine V_c_X7_105 rfl (by decide) (m_layMask hM hv) dX7_reorder_39 hM.1 rfl rfl (Nat.le_of_ble_eq_true rfl) (Nat.le_of_eq (Nat.zero_add _)) (Nat.le_of_eq (Nat.zero_add _)) (fun v w sz q => ?_)
        try dsimp only at q
        obtain ⟨rfl, rfl, m, hM, hm⟩ := q
        refine V_iconst dX7_reorder_42 ?_
        refine V_istore_n dX7_reorder_43 3 rfl (by decide) ?_
        have L44 : ∀ k : Int, 0 ≤ k → k ≤ 160 → ∀ (w : WD) (b : Int → Int), MW w0 w μ (P.1, isv P.2.1 + 1, S, P.2.2.2) (0, K.2.1, K.2.2.1, K.2.2.2.1, K.2.2.2.2.1, K.2.2.2.2.2.1, m, b, K.2.2.2.2.2.2.2.2.1, K.2.2.2.2.2.2.2.2.2.1, K.2.2.2.2.2.2.2.2.2.2) → (∀ j, 0 ≤ j → j < k → b j = imS P.1 j) → V iX7_reorder Z 0 0 w sz 44 [some (.ref μ), some (xI p), some (xI u), some (xI k), none] [] := by
          refine up_ind ?_
          intro k hk0 hk1 ih w b hM hb
          refine V_iload_n dX7_reorder_44 3 rfl rfl ?_
          refine V_sipush dX7_reorder_45 (by decide) ?_
          refine V_icmp_ge 69 dX7_reorder_48 (by decide) (by first | omega | (have gk9 := gm9 (by omega); omega)) (fun h48 => ?_) (fun h48 => ?_)
          · refine V_iload_n dX7_reorder_69 1 rfl rfl ?_
            refine V_istore_n dX7_reorder_70 3 rfl (by decide) ?_
            have L71 : ∀ k : Int, p ≤ k → k ≤ (if p < u then u else p) → ∀ (w : WD) (f : Int → Int), MW w0 w μ (f, isv P.2.1 + 1, S, P.2.2.2) (0, K.2.1, K.2.2.1, K.2.2.2.1, K.2.2.2.2.1, K.2.2.2.2.2.1, m, b, K.2.2.2.2.2.2.2.2.1, K.2.2.2.2.2.2.2.2.2.1, K.2.2.2.2.2.2.2.2.2.2) → Moved P.1 f (imv p k) → V iX7_reorder Z 0 0 w sz 71 [some (.ref μ), some (xI p), some (xI u), some (xI k), none] [] := by
              refine up_ind ?_
              intro k hk0 hk1 ih w f hM hf
              refine V_iload_n dX7_reorder_71 3 rfl rfl ?_
              refine V_iload_n dX7_reorder_72 2 rfl rfl ?_
              refine V_icmp_ge 87 dX7_reorder_73 (by decide) (by first | omega | (have gk9 := gm9 (by omega); omega)) (fun h73 => ?_) (fun h73 => ?_)
              · refine V_iload_n dX7_reorder_87 1 rfl rfl ?_
                refine V_istore_n dX7_reorder_88 3 rfl (by decide) ?_
                have L89 : ∀ k : Int, (if p < u then p else u) ≤ k → k ≤ p → ∀ (w : WD) (f : Int → Int), MW w0 w μ (f, isv P.2.1 + 1, S, P.2.2.2) (0, K.2.1, K.2.2.1, K.2.2.2.1, K.2.2.2.2.1, K.2.2.2.2.2.1, m, b, K.2.2.2.2.2.2.2.2.1, K.2.2.2.2.2.2.2.2.2.1, K.2.2.2.2.2.2.2.2.2.2) → Moved P.1 f (imv p (if p < u then u else k)) → V iX7_reorder Z 0 0 w sz 89 [some (.ref μ), some (xI p), some (xI u), some (xI k), none] [] := by
                  refine down_ind ?_
                  intro k hk0 hk1 ih w f hM hf
                  refine V_iload_n dX7_reorder_89 3 rfl rfl ?_
                  refine V_iload_n dX7_reorder_90 2 rfl rfl ?_
                  refine V_icmp_le 107 dX7_reorder_91 (by decide) (by first | omega | (have gk9 := gm9 (by omega); omega)) (fun h91 => ?_) (fun h91 => ?_)
                  · refine V_aload_n dX7_reorder_107 0 rfl rfl ?_
                    have e9 : (if p < u then u else k) = u := by omega
                    rw [e9] at hf
                    have hvf : VZ f := hv.mv (m := imv p u) (fun q g1 g2 => by unfold imv; omega) hf
                    refine V_c_X7_105 rfl (by decide) (m_layMask hM hvf) dX7_reorder_108 hM.1 rfl rfl (Nat.le_of_ble_eq_true rfl) (Nat.le_of_eq (Nat.zero_add _)) (Nat.le_of_eq (Nat.zero_add _)) (fun v w sz q => ?_)
                    try dsimp only at q
                    obtain ⟨rfl, rfl, m2, hM, hm2⟩ := q
                    refine V_iconst dX7_reorder_111 ?_
                    refine V_istore_n dX7_reorder_112 3 rfl (by decide) ?_
                    refine V_iconst dX7_reorder_113 ?_
                    refine V_istore dX7_reorder_114 (by decide) ?_
                    have L116 : ∀ k : Int, 0 ≤ k → k ≤ 160 → V iX7_reorder Z 0 0 w sz 116 [some (.ref μ), some (xI p), some (xI u), some (xI (isum (fun k => if m2 k ≠ b k then 1 else 0) k)), some (xI k)] [] := by
                      refine up_ind ?_
                      intro k hk0 hk1 ih
                      have gm9 : k < 160 → (0 ≤ m2 k ∧ m2 k ≤ 100) ∧ 0 ≤ b k ∧ b k ≤ 100 := fun h => by
                        rw [hm2 k hk0 h, hb k hk0 (by omega)]
                        exact ⟨imsk_b hvf ⟨hk0, h⟩ _ hvf.2.1.1 (Int.le_refl _), imsk_b hv ⟨hk0, h⟩ _ hv.2.1.1 (Int.le_refl _)⟩
                      refine V_iload dX7_reorder_116 rfl ?_
                      refine V_sipush dX7_reorder_118 (by decide) ?_
                      refine V_icmp_ge 155 dX7_reorder_121 (by decide) (by first | omega | (have gk9 := gm9 (by omega); omega)) (fun h121 => ?_) (fun h121 => ?_)
                      · refine V_iload_n dX7_reorder_155 3 rfl rfl ?_
                        exact V_iret hE rfl dX7_reorder_156 ⟨rfl, _, 0, _, rfl, ⟨_, hM, rfl⟩, Or.inr ⟨by omega, rfl, ⟨rfl, hS, rfl⟩, hf, by rw [show k = 160 by omega]; exact isum_c (fun j g1 g2 => by rw [hm2 j g1 g2, hb j g1 (by omega)])⟩⟩
                      · refine V_iload_n dX7_reorder_124 3 rfl rfl ?_
                        refine V_aload_n dX7_reorder_125 0 rfl rfl ?_
                        refine M_g_mask hM rfl dX7_reorder_126 ?_
                        refine V_iload dX7_reorder_129 rfl ?_
                        refine M_l_mask hM dX7_reorder_131 (by first | omega | (dsimp only; omega) | (dsimp only at *; omega)) ?_
                        try dsimp only
                        refine V_aload_n dX7_reorder_132 0 rfl rfl ?_
                        refine M_g_before hM rfl dX7_reorder_133 ?_
                        refine V_iload dX7_reorder_136 rfl ?_
                        refine M_l_before hM dX7_reorder_138 (by first | omega | (dsimp only; omega) | (dsimp only at *; omega)) ?_
                        try dsimp only
                        refine V_icmp_eq 146 dX7_reorder_139 (by decide) (by first | omega | (have gk9 := gm9 (by omega); omega)) (fun h139 => ?_) (fun h139 => ?_)
                        · refine V_iconst dX7_reorder_146 ?_
                          refine V_iadd dX7_reorder_147 ?_
                          refine V_istore_n dX7_reorder_148 3 rfl (by decide) ?_
                          refine V_iinc dX7_reorder_149 rfl (by decide) ?_
                          refine V_goto 116 dX7_reorder_152 (by decide) ?_
                          rw [isum_s hk0] at ih
                          first | (rw [if_pos (by omega)] at ih; exact ih (by omega)) | (rw [if_neg (by omega)] at ih; exact ih (by omega))
                        · refine V_iconst dX7_reorder_142 ?_
                          refine V_goto 147 dX7_reorder_143 (by decide) ?_
                          refine V_iadd dX7_reorder_147 ?_
                          refine V_istore_n dX7_reorder_148 3 rfl (by decide) ?_
                          refine V_iinc dX7_reorder_149 rfl (by decide) ?_
                          refine V_goto 116 dX7_reorder_152 (by decide) ?_
                          rw [isum_s hk0] at ih
                          first | (rw [if_pos (by omega)] at ih; exact ih (by omega)) | (rw [if_neg (by omega)] at ih; exact ih (by omega))
                    exact L116 (0) (by omega) (by omega)
                  · refine V_aload_n dX7_reorder_94 0 rfl rfl ?_
                    refine V_iload_n dX7_reorder_95 3 rfl rfl ?_
                    refine V_iconst dX7_reorder_96 ?_
                    refine V_isub dX7_reorder_97 ?_
                    refine V_c_X7_124 rfl (by decide) (m_exchange hM (by omega)) dX7_reorder_98 hM.1 rfl rfl (Nat.le_of_ble_eq_true rfl) (Nat.le_of_eq (Nat.zero_add _)) (Nat.le_of_eq (Nat.zero_add _)) (fun v w sz q => ?_)
                    try dsimp only at q
                    obtain ⟨rfl, rfl, f2, hM, hq⟩ := q
                    refine V_iinc dX7_reorder_101 rfl (by decide) ?_
                    refine V_goto 89 dX7_reorder_104 (by decide) ?_
                    refine V_fg [true, true, true, true, false] ?_
                    refine ih (by omega) _ _ hM (hf.xch (by omega) hq (by unfold imv; omega) (by unfold imv; omega) (fun q g1 g2 => by unfold imv; omega))
                refine V_fg [true, true, true, true, false] ?_
                exact L89 (p) (by omega) (by omega) w f hM (by rw [show (if p < u then u else p) = k by omega]; exact hf)
              · refine V_aload_n dX7_reorder_76 0 rfl rfl ?_
                refine V_iload_n dX7_reorder_77 3 rfl rfl ?_
                refine V_c_X7_124 rfl (by decide) (m_exchange hM (by omega)) dX7_reorder_78 hM.1 rfl rfl (Nat.le_of_ble_eq_true rfl) (Nat.le_of_eq (Nat.zero_add _)) (Nat.le_of_eq (Nat.zero_add _)) (fun v w sz q => ?_)
                try dsimp only at q
                obtain ⟨rfl, rfl, f2, hM, hq⟩ := q
                refine V_iinc dX7_reorder_81 rfl (by decide) ?_
                refine V_goto 71 dX7_reorder_84 (by decide) ?_
                refine V_fg [true, true, true, true, false] ?_
                refine ih (by omega) _ _ hM (hf.xch (by omega) hq (by unfold imv; omega) (by unfold imv; omega) (fun q g1 g2 => by unfold imv; omega))
            refine V_fg [true, true, true, true, false] ?_
            exact L71 (p) (by omega) (by omega) w P.1 hM ⟨fun _ _ _ => rfl, fun q i _ _ _ _ => by rw [show imv p p q = q by unfold imv; omega]⟩
          · refine V_aload_n dX7_reorder_51 0 rfl rfl ?_
            refine M_g_before hM rfl dX7_reorder_52 ?_
            refine V_iload_n dX7_reorder_55 3 rfl rfl ?_
            refine V_aload_n dX7_reorder_56 0 rfl rfl ?_
            refine M_g_mask hM rfl dX7_reorder_57 ?_
            refine V_iload_n dX7_reorder_60 3 rfl rfl ?_
            refine M_l_mask hM dX7_reorder_61 (by first | omega | (dsimp only; omega) | (dsimp only at *; omega)) ?_
            try dsimp only
            refine M_s_before hM dX7_reorder_62 (by first | omega | (dsimp only; omega) | (dsimp only at *; omega)) (fun w hM => ?_)
            try dsimp only at hM
            refine V_iinc dX7_reorder_63 rfl (by decide) ?_
            refine V_goto 44 dX7_reorder_66 (by decide) ?_
            refine V_fg [true, true, true, true, false] ?_
            refine ih (by omega) _ _ hM (fun j g1 g2 => ?_)
            by_cases e : j = k
            · rw [e, iu_s, hm k hk0 (by omega)]
            · rw [iu_n e]; exact hb j g1 (by omega)
        refine V_fg [true, true, true, true, false] ?_
        exact L44 (0) (by omega) (by omega) w K.2.2.2.2.2.2.2.1 hM (fun j h1 h2 => by omega)
      · exact absurd h29 (by simp)
