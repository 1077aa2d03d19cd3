/-! the class: sums over rows of cells -/
set_option maxRecDepth 100000 in
set_option maxHeartbeats 4000000 in
theorem c_sum {w : WD} {sz a : Nat} {f : Int → Int} (hw : w a = some (xIA 160 f)) : CT iX6_sum 0 0 [.ref a] w sz (pR (some (xI (isum f 160))) w sz) := by
  refine CT.ofZ (by decide) rfl (Nat.le_of_ble_eq_true rfl) (fun Z hE => ?_)
  refine V_iconst dX6_sum_0 ?_
  refine V_istore_n dX6_sum_1 1 rfl (by decide) ?_
  refine V_iconst dX6_sum_2 ?_
  refine V_istore_n dX6_sum_3 2 rfl (by decide) ?_
  have L4 : ∀ k : Int, 0 ≤ k → k ≤ 160 → V iX6_sum Z 0 0 w sz 4 [some (.ref a), some (xI (isum f k)), some (xI k)] [] := by
    refine up_ind ?_
    intro k hk0 hk1 ih
    refine V_iload_n dX6_sum_4 2 rfl rfl ?_
    refine V_sipush dX6_sum_5 (by decide) ?_
    refine V_icmp_ge 23 dX6_sum_8 (by decide) (by omega) (fun h8 => ?_) (fun h8 => ?_)
    · refine V_iload_n dX6_sum_23 1 rfl rfl ?_
      exact V_iret hE rfl dX6_sum_24 ⟨bE (by rw [show k = 160 by omega]), rfl, rfl⟩
    · refine V_iload_n dX6_sum_11 1 rfl rfl ?_
      refine V_aload_n dX6_sum_12 0 rfl rfl ?_
      refine V_iload_n dX6_sum_13 2 rfl rfl ?_
      refine V_iald dX6_sum_14 hw ⟨hk0, by omega⟩ ?_
      refine V_iadd dX6_sum_15 ?_
      refine V_istore_n dX6_sum_16 1 rfl (by decide) ?_
      refine V_iinc dX6_sum_17 rfl (by decide) ?_
      refine V_goto 4 dX6_sum_20 (by decide) ?_
      rw [isum_s hk0] at ih
      exact ih (by omega)
  exact L4 (0) (by omega) (by omega)
set_option maxRecDepth 100000 in
set_option maxHeartbeats 4000000 in
theorem c_atLeast {w : WD} {sz a : Nat} {f : Int → Int} (hw : w a = some (xIA 160 f)) {l : Int} (hl : 0 ≤ l ∧ l ≤ 100) (hf : ∀ k, 0 ≤ k → k < 160 → 0 ≤ f k ∧ f k ≤ 100) : CT iX6_atLeast 0 0 [.ref a, xI l] w sz (pR (some (xI (isum (fun k => if l ≤ f k then 1 else 0) 160))) w sz) := by
  refine CT.ofZ (by decide) rfl (Nat.le_of_ble_eq_true rfl) (fun Z hE => ?_)
  refine V_iconst dX6_atLeast_0 ?_
  refine V_istore_n dX6_atLeast_1 2 rfl (by decide) ?_
  refine V_iconst dX6_atLeast_2 ?_
  refine V_istore_n dX6_atLeast_3 3 rfl (by decide) ?_
  have L4 : ∀ k : Int, 0 ≤ k → k ≤ 160 → V iX6_atLeast Z 0 0 w sz 4 [some (.ref a), some (xI l), some (xI (isum (fun k => if l ≤ f k then 1 else 0) k)), some (xI k)] [] := by
    refine up_ind ?_
    intro k hk0 hk1 ih
    refine V_iload_n dX6_atLeast_4 3 rfl rfl ?_
    refine V_sipush dX6_atLeast_5 (by decide) ?_
    refine V_icmp_ge 27 dX6_atLeast_8 (by decide) (by first | omega | (have gk9 := hf k hk0 (by omega); omega)) (fun h8 => ?_) (fun h8 => ?_)
    · refine V_iload_n dX6_atLeast_27 2 rfl rfl ?_
      exact V_iret hE rfl dX6_atLeast_28 ⟨bE (by rw [show k = 160 by omega]), rfl, rfl⟩
    · refine V_aload_n dX6_atLeast_11 0 rfl rfl ?_
      refine V_iload_n dX6_atLeast_12 3 rfl rfl ?_
      refine V_iald dX6_atLeast_13 hw ⟨hk0, by omega⟩ ?_
      refine V_iload_n dX6_atLeast_14 1 rfl rfl ?_
      refine V_icmp_lt 21 dX6_atLeast_15 (by decide) (by first | omega | (have gk9 := hf k hk0 (by omega); omega)) (fun h15 => ?_) (fun h15 => ?_)
      · refine V_iinc dX6_atLeast_21 rfl (by decide) ?_
        refine V_goto 4 dX6_atLeast_24 (by decide) ?_
        rw [isum_s hk0] at ih
        first | (rw [if_pos (by omega)] at ih; exact ih (by omega)) | (rw [if_neg (by omega), Int.add_zero] at ih; exact ih (by omega))
      · refine V_iinc dX6_atLeast_18 rfl (by decide) ?_
        refine V_iinc dX6_atLeast_21 rfl (by decide) ?_
        refine V_goto 4 dX6_atLeast_24 (by decide) ?_
        rw [isum_s hk0] at ih
        first | (rw [if_pos (by omega)] at ih; exact ih (by omega)) | (rw [if_neg (by omega), Int.add_zero] at ih; exact ih (by omega))
  exact L4 (0) (by omega) (by omega)
set_option maxRecDepth 100000 in
set_option maxHeartbeats 4000000 in
theorem c_differences {w : WD} {sz a : Nat} {f : Int → Int} (hw : w a = some (xIA 160 f)) {b : Nat} {g : Int → Int} (hv : w b = some (xIA 160 g)) (hf : ∀ k, 0 ≤ k → k < 160 → 0 ≤ f k ∧ f k ≤ 100) (hg : ∀ k, 0 ≤ k → k < 160 → 0 ≤ g k ∧ g k ≤ 100) : CT iX6_differences 0 0 [.ref a, .ref b] w sz (pR (some (xI (isum (fun k => if f k ≠ g k then 1 else 0) 160))) w sz) := by
  refine CT.ofZ (by decide) rfl (Nat.le_of_ble_eq_true rfl) (fun Z hE => ?_)
  refine V_iconst dX6_differences_0 ?_
  refine V_istore_n dX6_differences_1 2 rfl (by decide) ?_
  refine V_iconst dX6_differences_2 ?_
  refine V_istore_n dX6_differences_3 3 rfl (by decide) ?_
  have L4 : ∀ k : Int, 0 ≤ k → k ≤ 160 → V iX6_differences Z 0 0 w sz 4 [some (.ref a), some (.ref b), some (xI (isum (fun k => if f k ≠ g k then 1 else 0) k)), some (xI k)] [] := by
    refine up_ind ?_
    intro k hk0 hk1 ih
    refine V_iload_n dX6_differences_4 3 rfl rfl ?_
    refine V_sipush dX6_differences_5 (by decide) ?_
    refine V_icmp_ge 29 dX6_differences_8 (by decide) (by first | omega | (have gk9 := hf k hk0 (by omega); have gk8 := hg k hk0 (by omega); omega)) (fun h8 => ?_) (fun h8 => ?_)
    · refine V_iload_n dX6_differences_29 2 rfl rfl ?_
      exact V_iret hE rfl dX6_differences_30 ⟨bE (by rw [show k = 160 by omega]), rfl, rfl⟩
    · refine V_aload_n dX6_differences_11 0 rfl rfl ?_
      refine V_iload_n dX6_differences_12 3 rfl rfl ?_
      refine V_iald dX6_differences_13 hw ⟨hk0, by omega⟩ ?_
      refine V_aload_n dX6_differences_14 1 rfl rfl ?_
      refine V_iload_n dX6_differences_15 3 rfl rfl ?_
      refine V_iald dX6_differences_16 hv ⟨hk0, by omega⟩ ?_
      refine V_icmp_eq 23 dX6_differences_17 (by decide) (by first | omega | (have gk9 := hf k hk0 (by omega); have gk8 := hg k hk0 (by omega); omega)) (fun h17 => ?_) (fun h17 => ?_)
      · refine V_iinc dX6_differences_23 rfl (by decide) ?_
        refine V_goto 4 dX6_differences_26 (by decide) ?_
        rw [isum_s hk0] at ih
        first | (rw [if_pos (by omega)] at ih; exact ih (by omega)) | (rw [if_neg (by omega), Int.add_zero] at ih; exact ih (by omega))
      · refine V_iinc dX6_differences_20 rfl (by decide) ?_
        refine V_iinc dX6_differences_23 rfl (by decide) ?_
        refine V_goto 4 dX6_differences_26 (by decide) ?_
        rw [isum_s hk0] at ih
        first | (rw [if_pos (by omega)] at ih; exact ih (by omega)) | (rw [if_neg (by omega), Int.add_zero] at ih; exact ih (by omega))
  exact L4 (0) (by omega) (by omega)
