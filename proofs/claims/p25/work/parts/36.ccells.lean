/-! the class: cells -/
/-- the cell beyond a side, or -1 -/
def inb (c s : Int) : Int := if iCell (c % 16 + (if s = 0 then -1 else if s = 1 then 1 else 0)) (c / 16 + (if s = 2 then -1 else if s = 3 then 1 else 0)) then 16 * (c / 16 + (if s = 2 then -1 else if s = 3 then 1 else 0)) + (c % 16 + (if s = 0 then -1 else if s = 1 then 1 else 0)) else -1
set_option maxRecDepth 100000 in
set_option maxHeartbeats 4000000 in
theorem c_isCell {w : WD} {sz : Nat} {x y : Int} (r : -2147483648 ≤ x ∧ x < 2147483648 ∧ -2147483648 ≤ y ∧ y < 2147483648) : CT iX6_isCell 0 0 [xI x, xI y] w sz (pR (some (xB (decide (iCell x y)))) w sz) := by
  refine CT.ofZ (by decide) rfl (Nat.le_of_ble_eq_true rfl) (fun Z hE => ?_)
  refine V_iload_n dX6_isCell_0 0 rfl rfl ?_
  refine V_if_lt 24 dX6_isCell_1 (by decide) (by omega) (fun h1 => ?_) (fun h1 => ?_)
  · refine V_iconst dX6_isCell_24 ?_
    exact V_zret (b := false) hE rfl dX6_isCell_25 ⟨bF (by omega), rfl, rfl⟩
  · refine V_iload_n dX6_isCell_4 0 rfl rfl ?_
    refine V_bipush dX6_isCell_5 (by decide) ?_
    refine V_icmp_ge 24 dX6_isCell_7 (by decide) (by omega) (fun h7 => ?_) (fun h7 => ?_)
    · refine V_iconst dX6_isCell_24 ?_
      exact V_zret (b := false) hE rfl dX6_isCell_25 ⟨bF (by omega), rfl, rfl⟩
    · refine V_iload_n dX6_isCell_10 1 rfl rfl ?_
      refine V_if_lt 24 dX6_isCell_11 (by decide) (by omega) (fun h11 => ?_) (fun h11 => ?_)
      · refine V_iconst dX6_isCell_24 ?_
        exact V_zret (b := false) hE rfl dX6_isCell_25 ⟨bF (by omega), rfl, rfl⟩
      · refine V_iload_n dX6_isCell_14 1 rfl rfl ?_
        refine V_bipush dX6_isCell_15 (by decide) ?_
        refine V_icmp_ge 24 dX6_isCell_17 (by decide) (by omega) (fun h17 => ?_) (fun h17 => ?_)
        · refine V_iconst dX6_isCell_24 ?_
          exact V_zret (b := false) hE rfl dX6_isCell_25 ⟨bF (by omega), rfl, rfl⟩
        · refine V_iconst dX6_isCell_20 ?_
          refine V_goto 25 dX6_isCell_21 (by decide) ?_
          exact V_zret (b := true) hE rfl dX6_isCell_25 ⟨bT (by omega), rfl, rfl⟩
set_option maxRecDepth 100000 in
set_option maxHeartbeats 4000000 in
theorem c_cellAt {w : WD} {sz : Nat} {x y : Int} : CT iX6_cellAt 0 0 [xI x, xI y] w sz (pR (some (xI (16 * y + x))) w sz) := by
  refine CT.ofZ (by decide) rfl (Nat.le_of_ble_eq_true rfl) (fun Z hE => ?_)
  refine V_iload_n dX6_cellAt_0 1 rfl rfl ?_
  refine V_bipush dX6_cellAt_1 (by decide) ?_
  refine V_imul dX6_cellAt_3 ?_
  refine V_iload_n dX6_cellAt_4 0 rfl rfl ?_
  refine V_iadd dX6_cellAt_5 ?_
  exact V_iret hE rfl dX6_cellAt_6 ⟨bE (by omega), rfl, rfl⟩
set_option maxRecDepth 100000 in
set_option maxHeartbeats 4000000 in
theorem c_neighbor {w : WD} {sz : Nat} {c s : Int} (hc : 0 ≤ c ∧ c < 160) (hs : 0 ≤ s ∧ s ≤ 3) : CT iX6_neighbor 0 0 [xI c, xI s] w sz (pR (some (xI (inb c s))) w sz) := by
  refine CT.ofZ (by decide) rfl (Nat.le_of_ble_eq_true rfl) (fun Z hE => ?_)
  refine V_iload_n dX6_neighbor_0 0 rfl rfl ?_
  refine V_bipush dX6_neighbor_1 (by decide) ?_
  refine V_iremN dX6_neighbor_3 (by omega) ?_
  refine V_iload_n dX6_neighbor_4 1 rfl rfl ?_
  refine V_if_ne 12 dX6_neighbor_5 (by decide) (by omega) (fun h5 => ?_) (fun h5 => ?_)
  · refine V_iload_n dX6_neighbor_12 1 rfl rfl ?_
    refine V_iconst dX6_neighbor_13 ?_
    refine V_icmp_ne 21 dX6_neighbor_14 (by decide) (by omega) (fun h14 => ?_) (fun h14 => ?_)
    · refine V_iconst dX6_neighbor_21 ?_
      refine V_iadd dX6_neighbor_22 ?_
      refine V_istore_n dX6_neighbor_23 2 rfl (by decide) ?_
      refine V_iload_n dX6_neighbor_24 0 rfl rfl ?_
      refine V_bipush dX6_neighbor_25 (by decide) ?_
      refine V_idivN dX6_neighbor_27 (by omega) ?_
      refine V_iload_n dX6_neighbor_28 1 rfl rfl ?_
      refine V_iconst dX6_neighbor_29 ?_
      refine V_icmp_ne 37 dX6_neighbor_30 (by decide) (by omega) (fun h30 => ?_) (fun h30 => ?_)
      · refine V_iload_n dX6_neighbor_37 1 rfl rfl ?_
        refine V_iconst dX6_neighbor_38 ?_
        refine V_icmp_ne 46 dX6_neighbor_39 (by decide) (by omega) (fun h39 => ?_) (fun h39 => ?_)
        · refine V_iconst dX6_neighbor_46 ?_
          refine V_iadd dX6_neighbor_47 ?_
          refine V_istore_n dX6_neighbor_48 3 rfl (by decide) ?_
          refine V_iload_n dX6_neighbor_49 2 rfl rfl ?_
          refine V_iload_n dX6_neighbor_50 3 rfl rfl ?_
          refine V_c_X6_274 rfl (by decide) (c_isCell (by omega)) dX6_neighbor_51 rfl rfl (Nat.le_of_ble_eq_true rfl) (Nat.le_of_eq (Nat.zero_add _)) (Nat.le_of_eq (Nat.zero_add _)) (fun v w sz q => ?_)
          obtain ⟨rfl, rfl, rfl⟩ := q
          refine V_ifeqB 65 dX6_neighbor_54 (by decide) (fun h54 => ?_) (fun h54 => ?_)
          · try simp only [decide_eq_true_eq, decide_eq_false_iff_not, Bool.not_eq_true] at h54
            refine V_iconst dX6_neighbor_65 ?_
            exact V_iret hE rfl dX6_neighbor_66 ⟨bE (by unfold inb; omega), rfl, rfl⟩
          · try simp only [decide_eq_true_eq, decide_eq_false_iff_not, Bool.not_eq_true] at h54
            refine V_iload_n dX6_neighbor_57 2 rfl rfl ?_
            refine V_iload_n dX6_neighbor_58 3 rfl rfl ?_
            refine V_c_X6_77 rfl (by decide) (c_cellAt) dX6_neighbor_59 rfl rfl (Nat.le_of_ble_eq_true rfl) (Nat.le_of_eq (Nat.zero_add _)) (Nat.le_of_eq (Nat.zero_add _)) (fun v w sz q => ?_)
            obtain ⟨rfl, rfl, rfl⟩ := q
            refine V_goto 66 dX6_neighbor_62 (by decide) ?_
            exact V_iret hE rfl dX6_neighbor_66 ⟨bE (by unfold inb; omega), rfl, rfl⟩
        · refine V_iconst dX6_neighbor_42 ?_
          refine V_goto 47 dX6_neighbor_43 (by decide) ?_
          refine V_iadd dX6_neighbor_47 ?_
          refine V_istore_n dX6_neighbor_48 3 rfl (by decide) ?_
          refine V_iload_n dX6_neighbor_49 2 rfl rfl ?_
          refine V_iload_n dX6_neighbor_50 3 rfl rfl ?_
          refine V_c_X6_274 rfl (by decide) (c_isCell (by omega)) dX6_neighbor_51 rfl rfl (Nat.le_of_ble_eq_true rfl) (Nat.le_of_eq (Nat.zero_add _)) (Nat.le_of_eq (Nat.zero_add _)) (fun v w sz q => ?_)
          obtain ⟨rfl, rfl, rfl⟩ := q
          refine V_ifeqB 65 dX6_neighbor_54 (by decide) (fun h54 => ?_) (fun h54 => ?_)
          · try simp only [decide_eq_true_eq, decide_eq_false_iff_not, Bool.not_eq_true] at h54
            refine V_iconst dX6_neighbor_65 ?_
            exact V_iret hE rfl dX6_neighbor_66 ⟨bE (by unfold inb; omega), rfl, rfl⟩
          · try simp only [decide_eq_true_eq, decide_eq_false_iff_not, Bool.not_eq_true] at h54
            refine V_iload_n dX6_neighbor_57 2 rfl rfl ?_
            refine V_iload_n dX6_neighbor_58 3 rfl rfl ?_
            refine V_c_X6_77 rfl (by decide) (c_cellAt) dX6_neighbor_59 rfl rfl (Nat.le_of_ble_eq_true rfl) (Nat.le_of_eq (Nat.zero_add _)) (Nat.le_of_eq (Nat.zero_add _)) (fun v w sz q => ?_)
            obtain ⟨rfl, rfl, rfl⟩ := q
            refine V_goto 66 dX6_neighbor_62 (by decide) ?_
            exact V_iret hE rfl dX6_neighbor_66 ⟨bE (by unfold inb; omega), rfl, rfl⟩
      · refine V_iconst dX6_neighbor_33 ?_
        refine V_goto 47 dX6_neighbor_34 (by decide) ?_
        refine V_iadd dX6_neighbor_47 ?_
        refine V_istore_n dX6_neighbor_48 3 rfl (by decide) ?_
        refine V_iload_n dX6_neighbor_49 2 rfl rfl ?_
        refine V_iload_n dX6_neighbor_50 3 rfl rfl ?_
        refine V_c_X6_274 rfl (by decide) (c_isCell (by omega)) dX6_neighbor_51 rfl rfl (Nat.le_of_ble_eq_true rfl) (Nat.le_of_eq (Nat.zero_add _)) (Nat.le_of_eq (Nat.zero_add _)) (fun v w sz q => ?_)
        obtain ⟨rfl, rfl, rfl⟩ := q
        refine V_ifeqB 65 dX6_neighbor_54 (by decide) (fun h54 => ?_) (fun h54 => ?_)
        · try simp only [decide_eq_true_eq, decide_eq_false_iff_not, Bool.not_eq_true] at h54
          refine V_iconst dX6_neighbor_65 ?_
          exact V_iret hE rfl dX6_neighbor_66 ⟨bE (by unfold inb; omega), rfl, rfl⟩
        · try simp only [decide_eq_true_eq, decide_eq_false_iff_not, Bool.not_eq_true] at h54
          refine V_iload_n dX6_neighbor_57 2 rfl rfl ?_
          refine V_iload_n dX6_neighbor_58 3 rfl rfl ?_
          refine V_c_X6_77 rfl (by decide) (c_cellAt) dX6_neighbor_59 rfl rfl (Nat.le_of_ble_eq_true rfl) (Nat.le_of_eq (Nat.zero_add _)) (Nat.le_of_eq (Nat.zero_add _)) (fun v w sz q => ?_)
          obtain ⟨rfl, rfl, rfl⟩ := q
          refine V_goto 66 dX6_neighbor_62 (by decide) ?_
          exact V_iret hE rfl dX6_neighbor_66 ⟨bE (by unfold inb; omega), rfl, rfl⟩
    · refine V_iconst dX6_neighbor_17 ?_
      refine V_goto 22 dX6_neighbor_18 (by decide) ?_
      refine V_iadd dX6_neighbor_22 ?_
      refine V_istore_n dX6_neighbor_23 2 rfl (by decide) ?_
      refine V_iload_n dX6_neighbor_24 0 rfl rfl ?_
      refine V_bipush dX6_neighbor_25 (by decide) ?_
      refine V_idivN dX6_neighbor_27 (by omega) ?_
      refine V_iload_n dX6_neighbor_28 1 rfl rfl ?_
      refine V_iconst dX6_neighbor_29 ?_
      refine V_icmp_ne 37 dX6_neighbor_30 (by decide) (by omega) (fun h30 => ?_) (fun h30 => ?_)
      · refine V_iload_n dX6_neighbor_37 1 rfl rfl ?_
        refine V_iconst dX6_neighbor_38 ?_
        refine V_icmp_ne 46 dX6_neighbor_39 (by decide) (by omega) (fun h39 => ?_) (fun h39 => ?_)
        · refine V_iconst dX6_neighbor_46 ?_
          refine V_iadd dX6_neighbor_47 ?_
          refine V_istore_n dX6_neighbor_48 3 rfl (by decide) ?_
          refine V_iload_n dX6_neighbor_49 2 rfl rfl ?_
          refine V_iload_n dX6_neighbor_50 3 rfl rfl ?_
          refine V_c_X6_274 rfl (by decide) (c_isCell (by omega)) dX6_neighbor_51 rfl rfl (Nat.le_of_ble_eq_true rfl) (Nat.le_of_eq (Nat.zero_add _)) (Nat.le_of_eq (Nat.zero_add _)) (fun v w sz q => ?_)
          obtain ⟨rfl, rfl, rfl⟩ := q
          refine V_ifeqB 65 dX6_neighbor_54 (by decide) (fun h54 => ?_) (fun h54 => ?_)
          · try simp only [decide_eq_true_eq, decide_eq_false_iff_not, Bool.not_eq_true] at h54
            refine V_iconst dX6_neighbor_65 ?_
            exact V_iret hE rfl dX6_neighbor_66 ⟨bE (by unfold inb; omega), rfl, rfl⟩
          · try simp only [decide_eq_true_eq, decide_eq_false_iff_not, Bool.not_eq_true] at h54
            refine V_iload_n dX6_neighbor_57 2 rfl rfl ?_
            refine V_iload_n dX6_neighbor_58 3 rfl rfl ?_
            refine V_c_X6_77 rfl (by decide) (c_cellAt) dX6_neighbor_59 rfl rfl (Nat.le_of_ble_eq_true rfl) (Nat.le_of_eq (Nat.zero_add _)) (Nat.le_of_eq (Nat.zero_add _)) (fun v w sz q => ?_)
            obtain ⟨rfl, rfl, rfl⟩ := q
            refine V_goto 66 dX6_neighbor_62 (by decide) ?_
            exact V_iret hE rfl dX6_neighbor_66 ⟨bE (by unfold inb; omega), rfl, rfl⟩
        · refine V_iconst dX6_neighbor_42 ?_
          refine V_goto 47 dX6_neighbor_43 (by decide) ?_
          refine V_iadd dX6_neighbor_47 ?_
          refine V_istore_n dX6_neighbor_48 3 rfl (by decide) ?_
          refine V_iload_n dX6_neighbor_49 2 rfl rfl ?_
          refine V_iload_n dX6_neighbor_50 3 rfl rfl ?_
          refine V_c_X6_274 rfl (by decide) (c_isCell (by omega)) dX6_neighbor_51 rfl rfl (Nat.le_of_ble_eq_true rfl) (Nat.le_of_eq (Nat.zero_add _)) (Nat.le_of_eq (Nat.zero_add _)) (fun v w sz q => ?_)
          obtain ⟨rfl, rfl, rfl⟩ := q
          refine V_ifeqB 65 dX6_neighbor_54 (by decide) (fun h54 => ?_) (fun h54 => ?_)
          · try simp only [decide_eq_true_eq, decide_eq_false_iff_not, Bool.not_eq_true] at h54
            refine V_iconst dX6_neighbor_65 ?_
            exact V_iret hE rfl dX6_neighbor_66 ⟨bE (by unfold inb; omega), rfl, rfl⟩
          · try simp only [decide_eq_true_eq, decide_eq_false_iff_not, Bool.not_eq_true] at h54
            refine V_iload_n dX6_neighbor_57 2 rfl rfl ?_
            refine V_iload_n dX6_neighbor_58 3 rfl rfl ?_
            refine V_c_X6_77 rfl (by decide) (c_cellAt) dX6_neighbor_59 rfl rfl (Nat.le_of_ble_eq_true rfl) (Nat.le_of_eq (Nat.zero_add _)) (Nat.le_of_eq (Nat.zero_add _)) (fun v w sz q => ?_)
            obtain ⟨rfl, rfl, rfl⟩ := q
            refine V_goto 66 dX6_neighbor_62 (by decide) ?_
            exact V_iret hE rfl dX6_neighbor_66 ⟨bE (by unfold inb; omega), rfl, rfl⟩
      · refine V_iconst dX6_neighbor_33 ?_
        refine V_goto 47 dX6_neighbor_34 (by decide) ?_
        refine V_iadd dX6_neighbor_47 ?_
        refine V_istore_n dX6_neighbor_48 3 rfl (by decide) ?_
        refine V_iload_n dX6_neighbor_49 2 rfl rfl ?_
        refine V_iload_n dX6_neighbor_50 3 rfl rfl ?_
        refine V_c_X6_274 rfl (by decide) (c_isCell (by omega)) dX6_neighbor_51 rfl rfl (Nat.le_of_ble_eq_true rfl) (Nat.le_of_eq (Nat.zero_add _)) (Nat.le_of_eq (Nat.zero_add _)) (fun v w sz q => ?_)
        obtain ⟨rfl, rfl, rfl⟩ := q
        refine V_ifeqB 65 dX6_neighbor_54 (by decide) (fun h54 => ?_) (fun h54 => ?_)
        · try simp only [decide_eq_true_eq, decide_eq_false_iff_not, Bool.not_eq_true] at h54
          refine V_iconst dX6_neighbor_65 ?_
          exact V_iret hE rfl dX6_neighbor_66 ⟨bE (by unfold inb; omega), rfl, rfl⟩
        · try simp only [decide_eq_true_eq, decide_eq_false_iff_not, Bool.not_eq_true] at h54
          refine V_iload_n dX6_neighbor_57 2 rfl rfl ?_
          refine V_iload_n dX6_neighbor_58 3 rfl rfl ?_
          refine V_c_X6_77 rfl (by decide) (c_cellAt) dX6_neighbor_59 rfl rfl (Nat.le_of_ble_eq_true rfl) (Nat.le_of_eq (Nat.zero_add _)) (Nat.le_of_eq (Nat.zero_add _)) (fun v w sz q => ?_)
          obtain ⟨rfl, rfl, rfl⟩ := q
          refine V_goto 66 dX6_neighbor_62 (by decide) ?_
          exact V_iret hE rfl dX6_neighbor_66 ⟨bE (by unfold inb; omega), rfl, rfl⟩
  · refine V_iconst dX6_neighbor_8 ?_
    refine V_goto 22 dX6_neighbor_9 (by decide) ?_
    refine V_iadd dX6_neighbor_22 ?_
    refine V_istore_n dX6_neighbor_23 2 rfl (by decide) ?_
    refine V_iload_n dX6_neighbor_24 0 rfl rfl ?_
    refine V_bipush dX6_neighbor_25 (by decide) ?_
    refine V_idivN dX6_neighbor_27 (by omega) ?_
    refine V_iload_n dX6_neighbor_28 1 rfl rfl ?_
    refine V_iconst dX6_neighbor_29 ?_
    refine V_icmp_ne 37 dX6_neighbor_30 (by decide) (by omega) (fun h30 => ?_) (fun h30 => ?_)
    · refine V_iload_n dX6_neighbor_37 1 rfl rfl ?_
      refine V_iconst dX6_neighbor_38 ?_
      refine V_icmp_ne 46 dX6_neighbor_39 (by decide) (by omega) (fun h39 => ?_) (fun h39 => ?_)
      · refine V_iconst dX6_neighbor_46 ?_
        refine V_iadd dX6_neighbor_47 ?_
        refine V_istore_n dX6_neighbor_48 3 rfl (by decide) ?_
        refine V_iload_n dX6_neighbor_49 2 rfl rfl ?_
        refine V_iload_n dX6_neighbor_50 3 rfl rfl ?_
        refine V_c_X6_274 rfl (by decide) (c_isCell (by omega)) dX6_neighbor_51 rfl rfl (Nat.le_of_ble_eq_true rfl) (Nat.le_of_eq (Nat.zero_add _)) (Nat.le_of_eq (Nat.zero_add _)) (fun v w sz q => ?_)
        obtain ⟨rfl, rfl, rfl⟩ := q
        refine V_ifeqB 65 dX6_neighbor_54 (by decide) (fun h54 => ?_) (fun h54 => ?_)
        · try simp only [decide_eq_true_eq, decide_eq_false_iff_not, Bool.not_eq_true] at h54
          refine V_iconst dX6_neighbor_65 ?_
          exact V_iret hE rfl dX6_neighbor_66 ⟨bE (by unfold inb; omega), rfl, rfl⟩
        · try simp only [decide_eq_true_eq, decide_eq_false_iff_not, Bool.not_eq_true] at h54
          refine V_iload_n dX6_neighbor_57 2 rfl rfl ?_
          refine V_iload_n dX6_neighbor_58 3 rfl rfl ?_
          refine V_c_X6_77 rfl (by decide) (c_cellAt) dX6_neighbor_59 rfl rfl (Nat.le_of_ble_eq_true rfl) (Nat.le_of_eq (Nat.zero_add _)) (Nat.le_of_eq (Nat.zero_add _)) (fun v w sz q => ?_)
          obtain ⟨rfl, rfl, rfl⟩ := q
          refine V_goto 66 dX6_neighbor_62 (by decide) ?_
          exact V_iret hE rfl dX6_neighbor_66 ⟨bE (by unfold inb; omega), rfl, rfl⟩
      · refine V_iconst dX6_neighbor_42 ?_
        refine V_goto 47 dX6_neighbor_43 (by decide) ?_
        refine V_iadd dX6_neighbor_47 ?_
        refine V_istore_n dX6_neighbor_48 3 rfl (by decide) ?_
        refine V_iload_n dX6_neighbor_49 2 rfl rfl ?_
        refine V_iload_n dX6_neighbor_50 3 rfl rfl ?_
        refine V_c_X6_274 rfl (by decide) (c_isCell (by omega)) dX6_neighbor_51 rfl rfl (Nat.le_of_ble_eq_true rfl) (Nat.le_of_eq (Nat.zero_add _)) (Nat.le_of_eq (Nat.zero_add _)) (fun v w sz q => ?_)
        obtain ⟨rfl, rfl, rfl⟩ := q
        refine V_ifeqB 65 dX6_neighbor_54 (by decide) (fun h54 => ?_) (fun h54 => ?_)
        · try simp only [decide_eq_true_eq, decide_eq_false_iff_not, Bool.not_eq_true] at h54
          refine V_iconst dX6_neighbor_65 ?_
          exact V_iret hE rfl dX6_neighbor_66 ⟨bE (by unfold inb; omega), rfl, rfl⟩
        · try simp only [decide_eq_true_eq, decide_eq_false_iff_not, Bool.not_eq_true] at h54
          refine V_iload_n dX6_neighbor_57 2 rfl rfl ?_
          refine V_iload_n dX6_neighbor_58 3 rfl rfl ?_
          refine V_c_X6_77 rfl (by decide) (c_cellAt) dX6_neighbor_59 rfl rfl (Nat.le_of_ble_eq_true rfl) (Nat.le_of_eq (Nat.zero_add _)) (Nat.le_of_eq (Nat.zero_add _)) (fun v w sz q => ?_)
          obtain ⟨rfl, rfl, rfl⟩ := q
          refine V_goto 66 dX6_neighbor_62 (by decide) ?_
          exact V_iret hE rfl dX6_neighbor_66 ⟨bE (by unfold inb; omega), rfl, rfl⟩
    · refine V_iconst dX6_neighbor_33 ?_
      refine V_goto 47 dX6_neighbor_34 (by decide) ?_
      refine V_iadd dX6_neighbor_47 ?_
      refine V_istore_n dX6_neighbor_48 3 rfl (by decide) ?_
      refine V_iload_n dX6_neighbor_49 2 rfl rfl ?_
      refine V_iload_n dX6_neighbor_50 3 rfl rfl ?_
      refine V_c_X6_274 rfl (by decide) (c_isCell (by omega)) dX6_neighbor_51 rfl rfl (Nat.le_of_ble_eq_true rfl) (Nat.le_of_eq (Nat.zero_add _)) (Nat.le_of_eq (Nat.zero_add _)) (fun v w sz q => ?_)
      obtain ⟨rfl, rfl, rfl⟩ := q
      refine V_ifeqB 65 dX6_neighbor_54 (by decide) (fun h54 => ?_) (fun h54 => ?_)
      · try simp only [decide_eq_true_eq, decide_eq_false_iff_not, Bool.not_eq_true] at h54
        refine V_iconst dX6_neighbor_65 ?_
        exact V_iret hE rfl dX6_neighbor_66 ⟨bE (by unfold inb; omega), rfl, rfl⟩
      · try simp only [decide_eq_true_eq, decide_eq_false_iff_not, Bool.not_eq_true] at h54
        refine V_iload_n dX6_neighbor_57 2 rfl rfl ?_
        refine V_iload_n dX6_neighbor_58 3 rfl rfl ?_
        refine V_c_X6_77 rfl (by decide) (c_cellAt) dX6_neighbor_59 rfl rfl (Nat.le_of_ble_eq_true rfl) (Nat.le_of_eq (Nat.zero_add _)) (Nat.le_of_eq (Nat.zero_add _)) (fun v w sz q => ?_)
        obtain ⟨rfl, rfl, rfl⟩ := q
        refine V_goto 66 dX6_neighbor_62 (by decide) ?_
        exact V_iret hE rfl dX6_neighbor_66 ⟨bE (by unfold inb; omega), rfl, rfl⟩
