/-! the reference: sums -/
set_option maxRecDepth 100000 in
set_option maxHeartbeats 4000000 in
theorem m_maskSum {w0 w : WD} {sz μ : Nat} {P : MP} {K : MK} (hM : MW w0 w μ P K) : CT iX7_maskSum 0 0 [.ref μ] w sz (pR (some (xI (isum K.2.2.2.2.2.2.1 160))) w sz) := by
  refine CT.ofZ (by decide) rfl (Nat.le_of_ble_eq_true rfl) (fun Z hE => ?_)
  refine V_iconst dX7_maskSum_0 ?_
  refine V_istore_n dX7_maskSum_1 1 rfl (by decide) ?_
  refine V_iconst dX7_maskSum_2 ?_
  refine V_istore_n dX7_maskSum_3 2 rfl (by decide) ?_
  have L4 : ∀ k : Int, 0 ≤ k → k ≤ 160 → V iX7_maskSum Z 0 0 w sz 4 [some (.ref μ), some (xI (isum K.2.2.2.2.2.2.1 k)), some (xI k)] [] := by
    refine up_ind ?_
    intro k hk0 hk1 ih
    refine V_iload_n dX7_maskSum_4 2 rfl rfl ?_
    refine V_sipush dX7_maskSum_5 (by decide) ?_
    refine V_icmp_ge 26 dX7_maskSum_8 (by decide) (by omega) (fun h8 => ?_) (fun h8 => ?_)
    · refine V_iload_n dX7_maskSum_26 1 rfl rfl ?_
      exact V_iret hE rfl dX7_maskSum_27 ⟨bE (by rw [show k = 160 by omega]), rfl, rfl⟩
    · refine V_iload_n dX7_maskSum_11 1 rfl rfl ?_
      refine V_aload_n dX7_maskSum_12 0 rfl rfl ?_
      refine M_g_mask hM rfl dX7_maskSum_13 ?_
      refine V_iload_n dX7_maskSum_16 2 rfl rfl ?_
      refine M_l_mask hM dX7_maskSum_17 (by first | omega | (dsimp only; omega) | (dsimp only at *; omega)) ?_
      refine V_iadd dX7_maskSum_18 ?_
      refine V_istore_n dX7_maskSum_19 1 rfl (by decide) ?_
      refine V_iinc dX7_maskSum_20 rfl (by decide) ?_
      refine V_goto 4 dX7_maskSum_23 (by decide) ?_
      rw [isum_s hk0] at ih
      exact ih (by omega)
  exact L4 (0) (by omega) (by omega)
set_option maxRecDepth 100000 in
set_option maxHeartbeats 4000000 in
theorem m_shadeSum {w0 w : WD} {sz μ : Nat} {P : MP} {K : MK} (hM : MW w0 w μ P K) : CT iX7_shadeSum 0 0 [.ref μ] w sz (pR (some (xI (isum P.1 160))) w sz) := by
  refine CT.ofZ (by decide) rfl (Nat.le_of_ble_eq_true rfl) (fun Z hE => ?_)
  refine V_iconst dX7_shadeSum_0 ?_
  refine V_istore_n dX7_shadeSum_1 1 rfl (by decide) ?_
  refine V_iconst dX7_shadeSum_2 ?_
  refine V_istore_n dX7_shadeSum_3 2 rfl (by decide) ?_
  have L4 : ∀ k : Int, 0 ≤ k → k ≤ 160 → V iX7_shadeSum Z 0 0 w sz 4 [some (.ref μ), some (xI (isum P.1 k)), some (xI k)] [] := by
    refine up_ind ?_
    intro k hk0 hk1 ih
    refine V_iload_n dX7_shadeSum_4 2 rfl rfl ?_
    refine V_sipush dX7_shadeSum_5 (by decide) ?_
    refine V_icmp_ge 26 dX7_shadeSum_8 (by decide) (by omega) (fun h8 => ?_) (fun h8 => ?_)
    · refine V_iload_n dX7_shadeSum_26 1 rfl rfl ?_
      exact V_iret hE rfl dX7_shadeSum_27 ⟨bE (by rw [show k = 160 by omega]), rfl, rfl⟩
    · refine V_iload_n dX7_shadeSum_11 1 rfl rfl ?_
      refine V_aload_n dX7_shadeSum_12 0 rfl rfl ?_
      refine M_g_z hM rfl dX7_shadeSum_13 ?_
      refine V_iload_n dX7_shadeSum_16 2 rfl rfl ?_
      refine M_l_z hM dX7_shadeSum_17 (by first | omega | (dsimp only; omega) | (dsimp only at *; omega)) ?_
      refine V_iadd dX7_shadeSum_18 ?_
      refine V_istore_n dX7_shadeSum_19 1 rfl (by decide) ?_
      refine V_iinc dX7_shadeSum_20 rfl (by decide) ?_
      refine V_goto 4 dX7_shadeSum_23 (by decide) ?_
      rw [isum_s hk0] at ih
      exact ih (by omega)
  exact L4 (0) (by omega) (by omega)
set_option maxRecDepth 100000 in
set_option maxHeartbeats 4000000 in
theorem m_maskFrom {w0 w : WD} {sz μ : Nat} {P : MP} {K : MK} {a : Int} (hM : MW w0 w μ P K) (ha : 0 ≤ a ∧ a ≤ 100) (hr : ∀ k, 0 ≤ k → k < 160 → 0 ≤ K.2.2.2.2.2.2.1 k ∧ K.2.2.2.2.2.2.1 k ≤ 100) : CT iX7_maskFrom 0 0 [.ref μ, xI a] w sz (pR (some (xI (isum (fun k => if a ≤ K.2.2.2.2.2.2.1 k then 1 else 0) 160))) w sz) := by
  refine CT.ofZ (by decide) rfl (Nat.le_of_ble_eq_true rfl) (fun Z hE => ?_)
  refine V_iconst dX7_maskFrom_0 ?_
  refine V_istore_n dX7_maskFrom_1 2 rfl (by decide) ?_
  refine V_iconst dX7_maskFrom_2 ?_
  refine V_istore_n dX7_maskFrom_3 3 rfl (by decide) ?_
  have L4 : ∀ k : Int, 0 ≤ k → k ≤ 160 → V iX7_maskFrom Z 0 0 w sz 4 [some (.ref μ), some (xI a), some (xI (isum (fun k => if a ≤ K.2.2.2.2.2.2.1 k then 1 else 0) k)), some (xI k)] [] := by
    refine up_ind ?_
    intro k hk0 hk1 ih
    refine V_iload_n dX7_maskFrom_4 3 rfl rfl ?_
    refine V_sipush dX7_maskFrom_5 (by decide) ?_
    refine V_icmp_ge 35 dX7_maskFrom_8 (by decide) (by first | omega | (have := hr k hk0 (by omega); omega)) (fun h8 => ?_) (fun h8 => ?_)
    · refine V_iload_n dX7_maskFrom_35 2 rfl rfl ?_
      exact V_iret hE rfl dX7_maskFrom_36 ⟨bE (by rw [show k = 160 by omega]), rfl, rfl⟩
    · refine V_iload_n dX7_maskFrom_11 2 rfl rfl ?_
      refine V_aload_n dX7_maskFrom_12 0 rfl rfl ?_
      refine M_g_mask hM rfl dX7_maskFrom_13 ?_
      refine V_iload_n dX7_maskFrom_16 3 rfl rfl ?_
      refine M_l_mask hM dX7_maskFrom_17 (by first | omega | (dsimp only; omega) | (dsimp only at *; omega)) ?_
      refine V_iload_n dX7_maskFrom_18 1 rfl rfl ?_
      refine V_icmp_lt 26 dX7_maskFrom_19 (by decide) (by first | omega | (have := hr k hk0 (by omega); omega)) (fun h19 => ?_) (fun h19 => ?_)
      · refine V_iconst dX7_maskFrom_26 ?_
        refine V_iadd dX7_maskFrom_27 ?_
        refine V_istore_n dX7_maskFrom_28 2 rfl (by decide) ?_
        refine V_iinc dX7_maskFrom_29 rfl (by decide) ?_
        refine V_goto 4 dX7_maskFrom_32 (by decide) ?_
        rw [isum_s hk0] at ih
        first | rw [if_pos (by omega)] at ih | rw [if_neg (by omega)] at ih
        exact ih (by omega)
      · refine V_iconst dX7_maskFrom_22 ?_
        refine V_goto 27 dX7_maskFrom_23 (by decide) ?_
        refine V_iadd dX7_maskFrom_27 ?_
        refine V_istore_n dX7_maskFrom_28 2 rfl (by decide) ?_
        refine V_iinc dX7_maskFrom_29 rfl (by decide) ?_
        refine V_goto 4 dX7_maskFrom_32 (by decide) ?_
        rw [isum_s hk0] at ih
        first | rw [if_pos (by omega)] at ih | rw [if_neg (by omega)] at ih
        exact ih (by omega)
  exact L4 (0) (by omega) (by omega)
set_option maxRecDepth 100000 in
set_option maxHeartbeats 4000000 in
theorem m_areaSize {w0 w : WD} {sz μ : Nat} {P : MP} {K : MK} (hM : MW w0 w μ P K) : CT iX7_areaSize 0 0 [.ref μ] w sz (pR (some (xI (isum (fun k => b2i (K.2.2.1 k)) 160))) w sz) := by
  refine CT.ofZ (by decide) rfl (Nat.le_of_ble_eq_true rfl) (fun Z hE => ?_)
  refine V_iconst dX7_areaSize_0 ?_
  refine V_istore_n dX7_areaSize_1 1 rfl (by decide) ?_
  refine V_iconst dX7_areaSize_2 ?_
  refine V_istore_n dX7_areaSize_3 2 rfl (by decide) ?_
  have L4 : ∀ k : Int, 0 ≤ k → k ≤ 160 → V iX7_areaSize Z 0 0 w sz 4 [some (.ref μ), some (xI (isum (fun k => b2i (K.2.2.1 k)) k)), some (xI k)] [] := by
    refine up_ind ?_
    intro k hk0 hk1 ih
    refine V_iload_n dX7_areaSize_4 2 rfl rfl ?_
    refine V_sipush dX7_areaSize_5 (by decide) ?_
    refine V_icmp_ge 34 dX7_areaSize_8 (by decide) (by omega) (fun h8 => ?_) (fun h8 => ?_)
    · refine V_iload_n dX7_areaSize_34 1 rfl rfl ?_
      exact V_iret hE rfl dX7_areaSize_35 ⟨bE (by rw [show k = 160 by omega]), rfl, rfl⟩
    · refine V_iload_n dX7_areaSize_11 1 rfl rfl ?_
      refine V_aload_n dX7_areaSize_12 0 rfl rfl ?_
      refine M_g_isArea hM rfl dX7_areaSize_13 ?_
      refine V_iload_n dX7_areaSize_16 2 rfl rfl ?_
      refine M_l_isArea hM dX7_areaSize_17 (by first | omega | (dsimp only; omega) | (dsimp only at *; omega)) ?_
      refine V_ifeqB 25 dX7_areaSize_18 (by decide) (fun h18 => ?_) (fun h18 => ?_)
      · try simp only [decide_eq_true_eq, decide_eq_false_iff_not, Bool.not_eq_true] at h18
        refine V_iconst dX7_areaSize_25 ?_
        refine V_iadd dX7_areaSize_26 ?_
        refine V_istore_n dX7_areaSize_27 1 rfl (by decide) ?_
        refine V_iinc dX7_areaSize_28 rfl (by decide) ?_
        refine V_goto 4 dX7_areaSize_31 (by decide) ?_
        rw [isum_s hk0, h18] at ih
        exact ih (by omega)
      · try simp only [decide_eq_true_eq, decide_eq_false_iff_not, Bool.not_eq_true] at h18
        refine V_iconst dX7_areaSize_21 ?_
        refine V_goto 26 dX7_areaSize_22 (by decide) ?_
        refine V_iadd dX7_areaSize_26 ?_
        refine V_istore_n dX7_areaSize_27 1 rfl (by decide) ?_
        refine V_iinc dX7_areaSize_28 rfl (by decide) ?_
        refine V_goto 4 dX7_areaSize_31 (by decide) ?_
        rw [isum_s hk0, h18] at ih
        exact ih (by omega)
  exact L4 (0) (by omega) (by omega)
set_option maxRecDepth 100000 in
set_option maxHeartbeats 4000000 in
theorem m_picksIn {w0 w : WD} {sz μ : Nat} {P : MP} {K : MK} (hM : MW w0 w μ P K) (hp : 0 ≤ P.1 160 ∧ P.1 160 ≤ 12) : CT iX7_picksIn 0 0 [.ref μ] w sz (pR (some (xI (isum (fun p => P.1 (161 + 169 * p + 7)) (P.1 160)))) w sz) := by
  refine CT.ofZ (by decide) rfl (Nat.le_of_ble_eq_true rfl) (fun Z hE => ?_)
  refine V_iconst dX7_picksIn_0 ?_
  refine V_istore_n dX7_picksIn_1 1 rfl (by decide) ?_
  refine V_iconst dX7_picksIn_2 ?_
  refine V_istore_n dX7_picksIn_3 2 rfl (by decide) ?_
  have L4 : ∀ k : Int, 0 ≤ k → k ≤ P.1 160 → V iX7_picksIn Z 0 0 w sz 4 [some (.ref μ), some (xI (isum (fun p => P.1 (161 + 169 * p + 7)) k)), some (xI k)] [] := by
    refine up_ind ?_
    intro k hk0 hk1 ih
    refine V_iload_n dX7_picksIn_4 2 rfl rfl ?_
    refine V_aload_n dX7_picksIn_5 0 rfl rfl ?_
    refine M_g_z hM rfl dX7_picksIn_6 ?_
    refine V_sipush dX7_picksIn_9 (by decide) ?_
    refine M_l_z hM dX7_picksIn_12 (by first | omega | (dsimp only; omega) | (dsimp only at *; omega)) ?_
    refine V_icmp_ge 32 dX7_picksIn_13 (by decide) (by omega) (fun h13 => ?_) (fun h13 => ?_)
    · refine V_iload_n dX7_picksIn_32 1 rfl rfl ?_
      exact V_iret hE rfl dX7_picksIn_33 ⟨bE (by rw [show k = P.1 160 by omega]), rfl, rfl⟩
    · refine V_iload_n dX7_picksIn_16 1 rfl rfl ?_
      refine V_aload_n dX7_picksIn_17 0 rfl rfl ?_
      refine V_iload_n dX7_picksIn_18 2 rfl rfl ?_
      refine V_bipush dX7_picksIn_19 (by decide) ?_
      refine V_c_X7_46 rfl (by decide) (m_of hM (by omega)) dX7_picksIn_21 hM.1 rfl rfl (Nat.le_of_ble_eq_true rfl) (Nat.le_of_eq (Nat.zero_add _)) (Nat.le_of_eq (Nat.zero_add _)) (fun v w sz q => ?_)
      obtain ⟨rfl, rfl, rfl⟩ := q
      refine V_iadd dX7_picksIn_24 ?_
      refine V_istore_n dX7_picksIn_25 1 rfl (by decide) ?_
      refine V_iinc dX7_picksIn_26 rfl (by decide) ?_
      refine V_goto 4 dX7_picksIn_29 (by decide) ?_
      rw [isum_s hk0] at ih
      exact ih (by omega)
  exact L4 (0) (by omega) (by omega)
set_option maxRecDepth 100000 in
set_option maxHeartbeats 4000000 in
theorem m_picksAt {w0 w : WD} {sz μ : Nat} {P : MP} {K : MK} {c : Int} (hM : MW w0 w μ P K) (hp : 0 ≤ P.1 160 ∧ P.1 160 ≤ 12) (hc : 0 ≤ c ∧ c < 160) (hr : ∀ p, 0 ≤ p → p < P.1 160 → 0 ≤ P.1 (161 + 169 * p + (9 + c)) ∧ P.1 (161 + 169 * p + (9 + c)) ≤ 100) : CT iX7_picksAt 0 0 [.ref μ, xI c] w sz (pR (some (xI (isum (fun p => if 0 < P.1 (161 + 169 * p + (9 + c)) then 1 else 0) (P.1 160)))) w sz) := by
  refine CT.ofZ (by decide) rfl (Nat.le_of_ble_eq_true rfl) (fun Z hE => ?_)
  refine V_iconst dX7_picksAt_0 ?_
  refine V_istore_n dX7_picksAt_1 2 rfl (by decide) ?_
  refine V_iconst dX7_picksAt_2 ?_
  refine V_istore_n dX7_picksAt_3 3 rfl (by decide) ?_
  have L4 : ∀ k : Int, 0 ≤ k → k ≤ P.1 160 → V iX7_picksAt Z 0 0 w sz 4 [some (.ref μ), some (xI c), some (xI (isum (fun p => if 0 < P.1 (161 + 169 * p + (9 + c)) then 1 else 0) k)), some (xI k)] [] := by
    refine up_ind ?_
    intro k hk0 hk1 ih
    refine V_iload_n dX7_picksAt_4 3 rfl rfl ?_
    refine V_aload_n dX7_picksAt_5 0 rfl rfl ?_
    refine M_g_z hM rfl dX7_picksAt_6 ?_
    refine V_sipush dX7_picksAt_9 (by decide) ?_
    refine M_l_z hM dX7_picksAt_12 (by first | omega | (dsimp only; omega) | (dsimp only at *; omega)) ?_
    refine V_icmp_ge 39 dX7_picksAt_13 (by decide) (by first | omega | (have := hr k hk0 (by omega); omega)) (fun h13 => ?_) (fun h13 => ?_)
    · refine V_iload_n dX7_picksAt_39 2 rfl rfl ?_
      exact V_iret hE rfl dX7_picksAt_40 ⟨bE (by rw [show k = P.1 160 by omega]), rfl, rfl⟩
    · refine V_iload_n dX7_picksAt_16 2 rfl rfl ?_
      refine V_aload_n dX7_picksAt_17 0 rfl rfl ?_
      refine V_iload_n dX7_picksAt_18 3 rfl rfl ?_
      refine V_iload_n dX7_picksAt_19 1 rfl rfl ?_
      refine V_c_X7_85 rfl (by decide) (m_levelOf hM (by omega)) dX7_picksAt_20 hM.1 rfl rfl (Nat.le_of_ble_eq_true rfl) (Nat.le_of_eq (Nat.zero_add _)) (Nat.le_of_eq (Nat.zero_add _)) (fun v w sz q => ?_)
      obtain ⟨rfl, rfl, rfl⟩ := q
      refine V_if_le 30 dX7_picksAt_23 (by decide) (by first | omega | (have := hr k hk0 (by omega); omega)) (fun h23 => ?_) (fun h23 => ?_)
      · refine V_iconst dX7_picksAt_30 ?_
        refine V_iadd dX7_picksAt_31 ?_
        refine V_istore_n dX7_picksAt_32 2 rfl (by decide) ?_
        refine V_iinc dX7_picksAt_33 rfl (by decide) ?_
        refine V_goto 4 dX7_picksAt_36 (by decide) ?_
        rw [isum_s hk0] at ih
        first | rw [if_pos (by omega)] at ih | rw [if_neg (by omega)] at ih
        exact ih (by omega)
      · refine V_iconst dX7_picksAt_26 ?_
        refine V_goto 31 dX7_picksAt_27 (by decide) ?_
        refine V_iadd dX7_picksAt_31 ?_
        refine V_istore_n dX7_picksAt_32 2 rfl (by decide) ?_
        refine V_iinc dX7_picksAt_33 rfl (by decide) ?_
        refine V_goto 4 dX7_picksAt_36 (by decide) ?_
        rw [isum_s hk0] at ih
        first | rw [if_pos (by omega)] at ih | rw [if_neg (by omega)] at ih
        exact ih (by omega)
  exact L4 (0) (by omega) (by omega)
set_option maxRecDepth 100000 in
set_option maxHeartbeats 4000000 in
theorem m_altered {w0 w : WD} {sz μ : Nat} {P : MP} {K : MK} (hM : MW w0 w μ P K) (hs : 1 ≤ P.2.1 ∧ P.2.1 ≤ 6) (hr : ∀ k, 0 ≤ k → k < 160 → (0 ≤ P.1 k ∧ P.1 k ≤ 99) ∧ 0 ≤ P.2.2.1 (2189 * (P.2.1 - 1) + k) ∧ P.2.2.1 (2189 * (P.2.1 - 1) + k) ≤ 99) : CT iX7_altered 0 0 [.ref μ] w sz (pR (some (xI (isum (fun k => if P.1 k ≠ P.2.2.1 (2189 * (P.2.1 - 1) + k) then 1 else 0) 160))) w sz) := by
  refine CT.ofZ (by decide) rfl (Nat.le_of_ble_eq_true rfl) (fun Z hE => ?_)
  refine V_iconst dX7_altered_0 ?_
  refine V_istore_n dX7_altered_1 1 rfl (by decide) ?_
  refine V_iconst dX7_altered_2 ?_
  refine V_istore_n dX7_altered_3 2 rfl (by decide) ?_
  have L4 : ∀ k : Int, 0 ≤ k → k ≤ 160 → V iX7_altered Z 0 0 w sz 4 [some (.ref μ), some (xI (isum (fun k => if P.1 k ≠ P.2.2.1 (2189 * (P.2.1 - 1) + k) then 1 else 0) k)), some (xI k)] [] := by
    refine up_ind ?_
    intro k hk0 hk1 ih
    refine V_iload_n dX7_altered_4 2 rfl rfl ?_
    refine V_sipush dX7_altered_5 (by decide) ?_
    refine V_icmp_ge 51 dX7_altered_8 (by decide) (by first | omega | (have := hr k hk0 (by omega); omega)) (fun h8 => ?_) (fun h8 => ?_)
    · refine V_iload_n dX7_altered_51 1 rfl rfl ?_
      exact V_iret hE rfl dX7_altered_52 ⟨bE (by rw [show k = 160 by omega]), rfl, rfl⟩
    · refine V_iload_n dX7_altered_11 1 rfl rfl ?_
      refine V_aload_n dX7_altered_12 0 rfl rfl ?_
      refine M_g_z hM rfl dX7_altered_13 ?_
      refine V_iload_n dX7_altered_16 2 rfl rfl ?_
      refine M_l_z hM dX7_altered_17 (by first | omega | (dsimp only; omega) | (dsimp only at *; omega)) ?_
      refine V_aload_n dX7_altered_18 0 rfl rfl ?_
      refine M_g_saved hM rfl dX7_altered_19 ?_
      refine V_sipush dX7_altered_22 (by decide) ?_
      refine V_aload_n dX7_altered_25 0 rfl rfl ?_
      refine M_g_saves hM rfl dX7_altered_26 ?_
      refine V_iconst dX7_altered_29 ?_
      refine V_isub dX7_altered_30 ?_
      refine V_imul dX7_altered_31 ?_
      refine V_iload_n dX7_altered_32 2 rfl rfl ?_
      refine V_iadd dX7_altered_33 ?_
      refine M_l_saved hM dX7_altered_34 (by first | omega | (dsimp only; omega) | (dsimp only at *; omega)) ?_
      refine V_icmp_eq 42 dX7_altered_35 (by decide) (by first | omega | (have := hr k hk0 (by omega); omega)) (fun h35 => ?_) (fun h35 => ?_)
      · refine V_iconst dX7_altered_42 ?_
        refine V_iadd dX7_altered_43 ?_
        refine V_istore_n dX7_altered_44 1 rfl (by decide) ?_
        refine V_iinc dX7_altered_45 rfl (by decide) ?_
        refine V_goto 4 dX7_altered_48 (by decide) ?_
        rw [isum_s hk0] at ih
        first | rw [if_pos (by omega)] at ih | rw [if_neg (by omega)] at ih
        exact ih (by omega)
      · refine V_iconst dX7_altered_38 ?_
        refine V_goto 43 dX7_altered_39 (by decide) ?_
        refine V_iadd dX7_altered_43 ?_
        refine V_istore_n dX7_altered_44 1 rfl (by decide) ?_
        refine V_iinc dX7_altered_45 rfl (by decide) ?_
        refine V_goto 4 dX7_altered_48 (by decide) ?_
        rw [isum_s hk0] at ih
        first | rw [if_pos (by omega)] at ih | rw [if_neg (by omega)] at ih
        exact ih (by omega)
  exact L4 (0) (by omega) (by omega)
set_option maxRecDepth 100000 in
set_option maxHeartbeats 4000000 in
theorem m_isMasked {w0 w : WD} {sz μ : Nat} {P : MP} {K : MK} {x y : Int} (hM : MW w0 w μ P K) (r : -2 ≤ x ∧ x ≤ 20 ∧ -2 ≤ y ∧ y ≤ 20) (hr : ∀ k, 0 ≤ k → k < 160 → 0 ≤ K.2.2.2.2.2.2.1 k ∧ K.2.2.2.2.2.2.1 k ≤ 100) : CT iX7_isMasked 0 0 [.ref μ, xI x, xI y] w sz (pR (some (xB (decide (iCell x y ∧ 50 ≤ K.2.2.2.2.2.2.1 (16 * y + x))))) w sz) := by
  refine CT.ofZ (by decide) rfl (Nat.le_of_ble_eq_true rfl) (fun Z hE => ?_)
  refine V_iload_n dX7_isMasked_0 1 rfl rfl ?_
  refine V_iload_n dX7_isMasked_1 2 rfl rfl ?_
  refine V_c_X7_91 rfl (by decide) (m_isCell (by omega)) dX7_isMasked_2 rfl rfl (Nat.le_of_ble_eq_true rfl) (Nat.le_of_eq (Nat.zero_add _)) (Nat.le_of_eq (Nat.zero_add _)) (fun v w sz q => ?_)
  obtain ⟨rfl, rfl, rfl⟩ := q
  refine V_ifeqB 28 dX7_isMasked_5 (by decide) (fun h5 => ?_) (fun h5 => ?_)
  · try simp only [decide_eq_true_eq, decide_eq_false_iff_not, Bool.not_eq_true] at h5
    refine V_iconst dX7_isMasked_28 ?_
    exact V_zret (b := false) hE rfl dX7_isMasked_29 ⟨bF (by omega), rfl, rfl⟩
  · try simp only [decide_eq_true_eq, decide_eq_false_iff_not, Bool.not_eq_true] at h5
    refine V_aload_n dX7_isMasked_8 0 rfl rfl ?_
    refine M_g_mask hM rfl dX7_isMasked_9 ?_
    refine V_bipush dX7_isMasked_12 (by decide) ?_
    refine V_iload_n dX7_isMasked_14 2 rfl rfl ?_
    refine V_imul dX7_isMasked_15 ?_
    refine V_iload_n dX7_isMasked_16 1 rfl rfl ?_
    refine V_iadd dX7_isMasked_17 ?_
    refine M_l_mask hM dX7_isMasked_18 (by first | omega | (dsimp only; omega) | (dsimp only at *; omega)) ?_
    refine V_bipush dX7_isMasked_19 (by decide) ?_
    refine V_icmp_lt 28 dX7_isMasked_21 (by decide) (by first | omega | (have := hr (16 * y + x) (by omega) (by omega); omega)) (fun h21 => ?_) (fun h21 => ?_)
    · refine V_iconst dX7_isMasked_28 ?_
      exact V_zret (b := false) hE rfl dX7_isMasked_29 ⟨bF (by omega), rfl, rfl⟩
    · refine V_iconst dX7_isMasked_24 ?_
      refine V_goto 29 dX7_isMasked_25 (by decide) ?_
      exact V_zret (b := true) hE rfl dX7_isMasked_29 ⟨bT (by omega), rfl, rfl⟩
