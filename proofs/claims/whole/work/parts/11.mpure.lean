/-! the reference: pure methods -/
abbrev pR (v : Option Value) (w : WD) (sz : Nat) : XQ := fun v' w' sz' => v' = v ∧ w' = w ∧ sz' = sz
theorem bT {p : Prop} [Decidable p] (h : p) : (some (xB true) : Option Value) = some (xB (decide p)) := by rw [decide_eq_true h]
theorem bF {p : Prop} [Decidable p] (h : ¬ p) : (some (xB false) : Option Value) = some (xB (decide p)) := by rw [decide_eq_false h]
theorem bE {x y : Int} (h : x = y) : (some (xI x) : Option Value) = some (xI y) := by rw [h]
abbrev iabs (x : Int) : Int := if x < 0 then -x else x
abbrev stp (c o : Int) : Int := iabs (c % 16 - o % 16) + iabs (c / 16 - o / 16)
abbrev ifar (c o : Int) : Int := if iabs (c / 16 - o / 16) < iabs (c % 16 - o % 16) then iabs (c % 16 - o % 16) else iabs (c / 16 - o / 16)
abbrev iCell (x y : Int) : Prop := (0 ≤ x ∧ x ≤ 15) ∧ (0 ≤ y ∧ y ≤ 9)
abbrev iLies (c q w : Int) : Prop := (0 ≤ c % 16 - q % 16 ∧ c % 16 - q % 16 ≤ w) ∧ (0 ≤ c / 16 - q / 16 ∧ c / 16 - q / 16 ≤ w)
set_option maxRecDepth 100000 in
set_option maxHeartbeats 4000000 in
theorem m_within {w : WD} {sz : Nat} {v lo hi : Int} (r : -2147483648 ≤ v ∧ v < 2147483648 ∧ -2147483648 ≤ lo ∧ lo < 2147483648 ∧ -2147483648 ≤ hi ∧ hi < 2147483648) : CT iX7_within 0 0 [xI v, xI lo, xI hi] w sz (pR (some (xB (decide (lo ≤ v ∧ v ≤ hi)))) w sz) := by
  refine CT.ofZ (by decide) rfl (Nat.le_of_ble_eq_true rfl) (fun Z hE => ?_)
  refine V_iload_n dX7_within_0 0 rfl rfl ?_
  refine V_iload_n dX7_within_1 1 rfl rfl ?_
  refine V_icmp_lt 14 dX7_within_2 (by decide) (by omega) (fun h2 => ?_) (fun h2 => ?_)
  · refine V_iconst dX7_within_14 ?_
    exact V_zret (b := false) hE rfl dX7_within_15 ⟨bF (by omega), rfl, rfl⟩
  · refine V_iload_n dX7_within_5 0 rfl rfl ?_
    refine V_iload_n dX7_within_6 2 rfl rfl ?_
    refine V_icmp_gt 14 dX7_within_7 (by decide) (by omega) (fun h7 => ?_) (fun h7 => ?_)
    · refine V_iconst dX7_within_14 ?_
      exact V_zret (b := false) hE rfl dX7_within_15 ⟨bF (by omega), rfl, rfl⟩
    · refine V_iconst dX7_within_10 ?_
      refine V_goto 15 dX7_within_11 (by decide) ?_
      exact V_zret (b := true) hE rfl dX7_within_15 ⟨bT (by omega), rfl, rfl⟩
set_option maxRecDepth 100000 in
set_option maxHeartbeats 4000000 in
theorem m_size {w : WD} {sz : Nat} {v : Int} (r : -1000000 ≤ v ∧ v < 1000000) : CT iX7_size 0 0 [xI v] w sz (pR (some (xI (iabs v))) w sz) := by
  refine CT.ofZ (by decide) rfl (Nat.le_of_ble_eq_true rfl) (fun Z hE => ?_)
  refine V_iload_n dX7_size_0 0 rfl rfl ?_
  refine V_if_ge 9 dX7_size_1 (by decide) (by omega) (fun h1 => ?_) (fun h1 => ?_)
  · refine V_iload_n dX7_size_9 0 rfl rfl ?_
    exact V_iret hE rfl dX7_size_10 ⟨bE (by (try simp only [iabs, ifar, stp] at *); omega), rfl, rfl⟩
  · refine V_iload_n dX7_size_4 0 rfl rfl ?_
    refine V_ineg dX7_size_5 ?_
    refine V_goto 10 dX7_size_6 (by decide) ?_
    exact V_iret hE rfl dX7_size_10 ⟨bE (by (try simp only [iabs, ifar, stp] at *); omega), rfl, rfl⟩
set_option maxRecDepth 100000 in
set_option maxHeartbeats 4000000 in
theorem m_isCell {w : WD} {sz : Nat} {x y : Int} (r : -2147483648 ≤ x ∧ x < 2147483648 ∧ -2147483648 ≤ y ∧ y < 2147483648) : CT iX7_isCell 0 0 [xI x, xI y] w sz (pR (some (xB (decide (iCell x y)))) w sz) := by
  refine CT.ofZ (by decide) rfl (Nat.le_of_ble_eq_true rfl) (fun Z hE => ?_)
  refine V_iload_n dX7_isCell_0 0 rfl rfl ?_
  refine V_iconst dX7_isCell_1 ?_
  refine V_bipush dX7_isCell_2 (by decide) ?_
  refine V_c_X7_42 rfl (by decide) (m_within (by omega)) dX7_isCell_4 rfl rfl (Nat.le_of_ble_eq_true rfl) (Nat.le_of_eq (Nat.zero_add _)) (Nat.le_of_eq (Nat.zero_add _)) (fun v w sz q => ?_)
  obtain ⟨rfl, rfl, rfl⟩ := q
  refine V_ifeqB 24 dX7_isCell_7 (by decide) (fun h7 => ?_) (fun h7 => ?_)
  · try simp only [decide_eq_true_eq, decide_eq_false_iff_not, Bool.not_eq_true] at h7
    refine V_iconst dX7_isCell_24 ?_
    exact V_zret (b := false) hE rfl dX7_isCell_25 ⟨bF (by omega), rfl, rfl⟩
  · try simp only [decide_eq_true_eq, decide_eq_false_iff_not, Bool.not_eq_true] at h7
    refine V_iload_n dX7_isCell_10 1 rfl rfl ?_
    refine V_iconst dX7_isCell_11 ?_
    refine V_bipush dX7_isCell_12 (by decide) ?_
    refine V_c_X7_42 rfl (by decide) (m_within (by omega)) dX7_isCell_14 rfl rfl (Nat.le_of_ble_eq_true rfl) (Nat.le_of_eq (Nat.zero_add _)) (Nat.le_of_eq (Nat.zero_add _)) (fun v w sz q => ?_)
    obtain ⟨rfl, rfl, rfl⟩ := q
    refine V_ifeqB 24 dX7_isCell_17 (by decide) (fun h17 => ?_) (fun h17 => ?_)
    · try simp only [decide_eq_true_eq, decide_eq_false_iff_not, Bool.not_eq_true] at h17
      refine V_iconst dX7_isCell_24 ?_
      exact V_zret (b := false) hE rfl dX7_isCell_25 ⟨bF (by omega), rfl, rfl⟩
    · try simp only [decide_eq_true_eq, decide_eq_false_iff_not, Bool.not_eq_true] at h17
      refine V_iconst dX7_isCell_20 ?_
      refine V_goto 25 dX7_isCell_21 (by decide) ?_
      exact V_zret (b := true) hE rfl dX7_isCell_25 ⟨bT (by omega), rfl, rfl⟩
set_option maxRecDepth 100000 in
set_option maxHeartbeats 4000000 in
theorem m_isShade {w : WD} {sz : Nat} {x : Int} (r : -2147483648 ≤ x ∧ x < 2147483648) : CT iX7_isShade 0 0 [xI x] w sz (pR (some (xB (decide (0 ≤ x ∧ x ≤ 99)))) w sz) := by
  refine CT.ofZ (by decide) rfl (Nat.le_of_ble_eq_true rfl) (fun Z hE => ?_)
  refine V_iload_n dX7_isShade_0 0 rfl rfl ?_
  refine V_iconst dX7_isShade_1 ?_
  refine V_bipush dX7_isShade_2 (by decide) ?_
  refine V_c_X7_42 rfl (by decide) (m_within (by omega)) dX7_isShade_4 rfl rfl (Nat.le_of_ble_eq_true rfl) (Nat.le_of_eq (Nat.zero_add _)) (Nat.le_of_eq (Nat.zero_add _)) (fun v w sz q => ?_)
  obtain ⟨rfl, rfl, rfl⟩ := q
  exact V_zret hE rfl dX7_isShade_7 ⟨rfl, rfl, rfl⟩
set_option maxRecDepth 100000 in
set_option maxHeartbeats 4000000 in
theorem m_isAsked {w : WD} {sz : Nat} {l a g : Int} (r : -2147483648 ≤ l ∧ l < 2147483648 ∧ -2147483648 ≤ a ∧ a < 2147483648 ∧ -2147483648 ≤ g ∧ g < 2147483648) : CT iX7_isAsked 0 0 [xI l, xI a, xI g] w sz (pR (some (xB (decide ((0 ≤ l ∧ l ≤ 99) ∧ (0 ≤ a ∧ a ≤ 1) ∧ (0 ≤ g ∧ g ≤ 5))))) w sz) := by
  refine CT.ofZ (by decide) rfl (Nat.le_of_ble_eq_true rfl) (fun Z hE => ?_)
  refine V_iload_n dX7_isAsked_0 0 rfl rfl ?_
  refine V_c_X7_94 rfl (by decide) (m_isShade (by omega)) dX7_isAsked_1 rfl rfl (Nat.le_of_ble_eq_true rfl) (Nat.le_of_eq (Nat.zero_add _)) (Nat.le_of_eq (Nat.zero_add _)) (fun v w sz q => ?_)
  obtain ⟨rfl, rfl, rfl⟩ := q
  refine V_ifeqB 29 dX7_isAsked_4 (by decide) (fun h4 => ?_) (fun h4 => ?_)
  · try simp only [decide_eq_true_eq, decide_eq_false_iff_not, Bool.not_eq_true] at h4
    refine V_iconst dX7_isAsked_29 ?_
    exact V_zret (b := false) hE rfl dX7_isAsked_30 ⟨bF (by omega), rfl, rfl⟩
  · try simp only [decide_eq_true_eq, decide_eq_false_iff_not, Bool.not_eq_true] at h4
    refine V_iload_n dX7_isAsked_7 1 rfl rfl ?_
    refine V_iconst dX7_isAsked_8 ?_
    refine V_iconst dX7_isAsked_9 ?_
    refine V_c_X7_42 rfl (by decide) (m_within (by omega)) dX7_isAsked_10 rfl rfl (Nat.le_of_ble_eq_true rfl) (Nat.le_of_eq (Nat.zero_add _)) (Nat.le_of_eq (Nat.zero_add _)) (fun v w sz q => ?_)
    obtain ⟨rfl, rfl, rfl⟩ := q
    refine V_ifeqB 29 dX7_isAsked_13 (by decide) (fun h13 => ?_) (fun h13 => ?_)
    · try simp only [decide_eq_true_eq, decide_eq_false_iff_not, Bool.not_eq_true] at h13
      refine V_iconst dX7_isAsked_29 ?_
      exact V_zret (b := false) hE rfl dX7_isAsked_30 ⟨bF (by omega), rfl, rfl⟩
    · try simp only [decide_eq_true_eq, decide_eq_false_iff_not, Bool.not_eq_true] at h13
      refine V_iload_n dX7_isAsked_16 2 rfl rfl ?_
      refine V_iconst dX7_isAsked_17 ?_
      refine V_iconst dX7_isAsked_18 ?_
      refine V_c_X7_42 rfl (by decide) (m_within (by omega)) dX7_isAsked_19 rfl rfl (Nat.le_of_ble_eq_true rfl) (Nat.le_of_eq (Nat.zero_add _)) (Nat.le_of_eq (Nat.zero_add _)) (fun v w sz q => ?_)
      obtain ⟨rfl, rfl, rfl⟩ := q
      refine V_ifeqB 29 dX7_isAsked_22 (by decide) (fun h22 => ?_) (fun h22 => ?_)
      · try simp only [decide_eq_true_eq, decide_eq_false_iff_not, Bool.not_eq_true] at h22
        refine V_iconst dX7_isAsked_29 ?_
        exact V_zret (b := false) hE rfl dX7_isAsked_30 ⟨bF (by omega), rfl, rfl⟩
      · try simp only [decide_eq_true_eq, decide_eq_false_iff_not, Bool.not_eq_true] at h22
        refine V_iconst dX7_isAsked_25 ?_
        refine V_goto 30 dX7_isAsked_26 (by decide) ?_
        exact V_zret (b := true) hE rfl dX7_isAsked_30 ⟨bT (by omega), rfl, rfl⟩
set_option maxRecDepth 100000 in
set_option maxHeartbeats 4000000 in
theorem m_steps {w : WD} {sz : Nat} {c q : Int} (r : 0 ≤ c ∧ c < 160 ∧ 0 ≤ q ∧ q < 160) : CT iX7_steps 0 0 [xI c, xI q] w sz (pR (some (xI (stp c q))) w sz) := by
  refine CT.ofZ (by decide) rfl (Nat.le_of_ble_eq_true rfl) (fun Z hE => ?_)
  refine V_iload_n dX7_steps_0 0 rfl rfl ?_
  refine V_bipush dX7_steps_1 (by decide) ?_
  refine V_iremN dX7_steps_3 (by omega) ?_
  refine V_iload_n dX7_steps_4 1 rfl rfl ?_
  refine V_bipush dX7_steps_5 (by decide) ?_
  refine V_iremN dX7_steps_7 (by omega) ?_
  refine V_isub dX7_steps_8 ?_
  refine V_c_X7_50 rfl (by decide) (m_size (by omega)) dX7_steps_9 rfl rfl (Nat.le_of_ble_eq_true rfl) (Nat.le_of_eq (Nat.zero_add _)) (Nat.le_of_eq (Nat.zero_add _)) (fun v w sz q => ?_)
  obtain ⟨rfl, rfl, rfl⟩ := q
  refine V_iload_n dX7_steps_12 0 rfl rfl ?_
  refine V_bipush dX7_steps_13 (by decide) ?_
  refine V_idivN dX7_steps_15 (by omega) ?_
  refine V_iload_n dX7_steps_16 1 rfl rfl ?_
  refine V_bipush dX7_steps_17 (by decide) ?_
  refine V_idivN dX7_steps_19 (by omega) ?_
  refine V_isub dX7_steps_20 ?_
  refine V_c_X7_50 rfl (by decide) (m_size (by omega)) dX7_steps_21 rfl rfl (Nat.le_of_ble_eq_true rfl) (Nat.le_of_eq (Nat.zero_add _)) (Nat.le_of_eq (Nat.zero_add _)) (fun v w sz q => ?_)
  obtain ⟨rfl, rfl, rfl⟩ := q
  refine V_iadd dX7_steps_24 ?_
  exact V_iret hE rfl dX7_steps_25 ⟨rfl, rfl, rfl⟩
set_option maxRecDepth 100000 in
set_option maxHeartbeats 4000000 in
theorem m_far {w : WD} {sz : Nat} {c q : Int} (r : 0 ≤ c ∧ c < 160 ∧ 0 ≤ q ∧ q < 160) : CT iX7_far 0 0 [xI c, xI q] w sz (pR (some (xI (ifar c q))) w sz) := by
  refine CT.ofZ (by decide) rfl (Nat.le_of_ble_eq_true rfl) (fun Z hE => ?_)
  refine V_iload_n dX7_far_0 0 rfl rfl ?_
  refine V_bipush dX7_far_1 (by decide) ?_
  refine V_iremN dX7_far_3 (by omega) ?_
  refine V_iload_n dX7_far_4 1 rfl rfl ?_
  refine V_bipush dX7_far_5 (by decide) ?_
  refine V_iremN dX7_far_7 (by omega) ?_
  refine V_isub dX7_far_8 ?_
  refine V_c_X7_50 rfl (by decide) (m_size (by omega)) dX7_far_9 rfl rfl (Nat.le_of_ble_eq_true rfl) (Nat.le_of_eq (Nat.zero_add _)) (Nat.le_of_eq (Nat.zero_add _)) (fun v w sz q => ?_)
  obtain ⟨rfl, rfl, rfl⟩ := q
  refine V_istore_n dX7_far_12 2 rfl (by decide) ?_
  refine V_iload_n dX7_far_13 0 rfl rfl ?_
  refine V_bipush dX7_far_14 (by decide) ?_
  refine V_idivN dX7_far_16 (by omega) ?_
  refine V_iload_n dX7_far_17 1 rfl rfl ?_
  refine V_bipush dX7_far_18 (by decide) ?_
  refine V_idivN dX7_far_20 (by omega) ?_
  refine V_isub dX7_far_21 ?_
  refine V_c_X7_50 rfl (by decide) (m_size (by omega)) dX7_far_22 rfl rfl (Nat.le_of_ble_eq_true rfl) (Nat.le_of_eq (Nat.zero_add _)) (Nat.le_of_eq (Nat.zero_add _)) (fun v w sz q => ?_)
  obtain ⟨rfl, rfl, rfl⟩ := q
  refine V_istore_n dX7_far_25 3 rfl (by decide) ?_
  refine V_iload_n dX7_far_26 2 rfl rfl ?_
  refine V_iload_n dX7_far_27 3 rfl rfl ?_
  refine V_icmp_le 35 dX7_far_28 (by decide) (by simp only [iabs]; omega) (fun h28 => ?_) (fun h28 => ?_)
  · refine V_iload_n dX7_far_35 3 rfl rfl ?_
    exact V_iret hE rfl dX7_far_36 ⟨bE (by (try simp only [iabs, ifar, stp] at *); omega), rfl, rfl⟩
  · refine V_iload_n dX7_far_31 2 rfl rfl ?_
    refine V_goto 36 dX7_far_32 (by decide) ?_
    exact V_iret hE rfl dX7_far_36 ⟨bE (by (try simp only [iabs, ifar, stp] at *); omega), rfl, rfl⟩
set_option maxRecDepth 100000 in
set_option maxHeartbeats 4000000 in
theorem m_liesIn {w : WD} {sz : Nat} {c q b : Int} (r : 0 ≤ c ∧ c < 160 ∧ 0 ≤ q ∧ q < 160 ∧ 0 ≤ b ∧ b < 100) : CT iX7_liesIn 0 0 [xI c, xI q, xI b] w sz (pR (some (xB (decide (iLies c q b)))) w sz) := by
  refine CT.ofZ (by decide) rfl (Nat.le_of_ble_eq_true rfl) (fun Z hE => ?_)
  refine V_iload_n dX7_liesIn_0 0 rfl rfl ?_
  refine V_bipush dX7_liesIn_1 (by decide) ?_
  refine V_iremN dX7_liesIn_3 (by omega) ?_
  refine V_iload_n dX7_liesIn_4 1 rfl rfl ?_
  refine V_bipush dX7_liesIn_5 (by decide) ?_
  refine V_iremN dX7_liesIn_7 (by omega) ?_
  refine V_isub dX7_liesIn_8 ?_
  refine V_iconst dX7_liesIn_9 ?_
  refine V_iload_n dX7_liesIn_10 2 rfl rfl ?_
  refine V_c_X7_42 rfl (by decide) (m_within (by omega)) dX7_liesIn_11 rfl rfl (Nat.le_of_ble_eq_true rfl) (Nat.le_of_eq (Nat.zero_add _)) (Nat.le_of_eq (Nat.zero_add _)) (fun v w sz q => ?_)
  obtain ⟨rfl, rfl, rfl⟩ := q
  refine V_ifeqB 38 dX7_liesIn_14 (by decide) (fun h14 => ?_) (fun h14 => ?_)
  · try simp only [decide_eq_true_eq, decide_eq_false_iff_not, Bool.not_eq_true] at h14
    refine V_iconst dX7_liesIn_38 ?_
    exact V_zret (b := false) hE rfl dX7_liesIn_39 ⟨bF (by omega), rfl, rfl⟩
  · try simp only [decide_eq_true_eq, decide_eq_false_iff_not, Bool.not_eq_true] at h14
    refine V_iload_n dX7_liesIn_17 0 rfl rfl ?_
    refine V_bipush dX7_liesIn_18 (by decide) ?_
    refine V_idivN dX7_liesIn_20 (by omega) ?_
    refine V_iload_n dX7_liesIn_21 1 rfl rfl ?_
    refine V_bipush dX7_liesIn_22 (by decide) ?_
    refine V_idivN dX7_liesIn_24 (by omega) ?_
    refine V_isub dX7_liesIn_25 ?_
    refine V_iconst dX7_liesIn_26 ?_
    refine V_iload_n dX7_liesIn_27 2 rfl rfl ?_
    refine V_c_X7_42 rfl (by decide) (m_within (by omega)) dX7_liesIn_28 rfl rfl (Nat.le_of_ble_eq_true rfl) (Nat.le_of_eq (Nat.zero_add _)) (Nat.le_of_eq (Nat.zero_add _)) (fun v w sz q => ?_)
    obtain ⟨rfl, rfl, rfl⟩ := q
    refine V_ifeqB 38 dX7_liesIn_31 (by decide) (fun h31 => ?_) (fun h31 => ?_)
    · try simp only [decide_eq_true_eq, decide_eq_false_iff_not, Bool.not_eq_true] at h31
      refine V_iconst dX7_liesIn_38 ?_
      exact V_zret (b := false) hE rfl dX7_liesIn_39 ⟨bF (by omega), rfl, rfl⟩
    · try simp only [decide_eq_true_eq, decide_eq_false_iff_not, Bool.not_eq_true] at h31
      refine V_iconst dX7_liesIn_34 ?_
      refine V_goto 39 dX7_liesIn_35 (by decide) ?_
      exact V_zret (b := true) hE rfl dX7_liesIn_39 ⟨bT (by omega), rfl, rfl⟩
set_option maxRecDepth 100000 in
set_option maxHeartbeats 4000000 in
theorem m_thrown {w0 w : WD} {sz μ : Nat} {P : MP} {K : MK} (hM : MW w0 w μ P K) : CT iX7_thrown 0 0 [.ref μ] w sz (pR (some (xI K.1)) w sz) := by
  refine CT.ofZ (by decide) rfl (Nat.le_of_ble_eq_true rfl) (fun Z hE => ?_)
  refine V_aload_n dX7_thrown_0 0 rfl rfl ?_
  refine M_g_thrown hM rfl dX7_thrown_1 ?_
  exact V_iret hE rfl dX7_thrown_4 ⟨rfl, rfl, rfl⟩
set_option maxRecDepth 100000 in
set_option maxHeartbeats 4000000 in
theorem m_of {w0 w : WD} {sz μ : Nat} {P : MP} {K : MK} {p q : Int} (hM : MW w0 w μ P K) (r : 0 ≤ p ∧ p < 12 ∧ 0 ≤ q ∧ q < 169) : CT iX7_of 0 0 [.ref μ, xI p, xI q] w sz (pR (some (xI (P.1 (161 + 169 * p + q)))) w sz) := by
  refine CT.ofZ (by decide) rfl (Nat.le_of_ble_eq_true rfl) (fun Z hE => ?_)
  refine V_aload_n dX7_of_0 0 rfl rfl ?_
  refine M_g_z hM rfl dX7_of_1 ?_
  refine V_sipush dX7_of_4 (by decide) ?_
  refine V_sipush dX7_of_7 (by decide) ?_
  refine V_iload_n dX7_of_10 1 rfl rfl ?_
  refine V_imul dX7_of_11 ?_
  refine V_iadd dX7_of_12 ?_
  refine V_iload_n dX7_of_13 2 rfl rfl ?_
  refine V_iadd dX7_of_14 ?_
  refine M_l_z hM dX7_of_15 (by first | omega | (dsimp only; omega) | (dsimp only at *; omega)) ?_
  exact V_iret hE rfl dX7_of_16 ⟨rfl, rfl, rfl⟩
set_option maxRecDepth 100000 in
set_option maxHeartbeats 4000000 in
theorem m_levelOf {w0 w : WD} {sz μ : Nat} {P : MP} {K : MK} {p q : Int} (hM : MW w0 w μ P K) (r : 0 ≤ p ∧ p < 12 ∧ 0 ≤ q ∧ q < 160) : CT iX7_levelOf 0 0 [.ref μ, xI p, xI q] w sz (pR (some (xI (P.1 (161 + 169 * p + (9 + q))))) w sz) := by
  refine CT.ofZ (by decide) rfl (Nat.le_of_ble_eq_true rfl) (fun Z hE => ?_)
  refine V_aload_n dX7_levelOf_0 0 rfl rfl ?_
  refine V_iload_n dX7_levelOf_1 1 rfl rfl ?_
  refine V_bipush dX7_levelOf_2 (by decide) ?_
  refine V_iload_n dX7_levelOf_4 2 rfl rfl ?_
  refine V_iadd dX7_levelOf_5 ?_
  refine V_c_X7_46 rfl (by decide) (m_of hM (by omega)) dX7_levelOf_6 hM.1 rfl rfl (Nat.le_of_ble_eq_true rfl) (Nat.le_of_eq (Nat.zero_add _)) (Nat.le_of_eq (Nat.zero_add _)) (fun v w sz q => ?_)
  obtain ⟨rfl, rfl, rfl⟩ := q
  exact V_iret hE rfl dX7_levelOf_9 ⟨rfl, rfl, rfl⟩
set_option maxRecDepth 100000 in
set_option maxHeartbeats 4000000 in
theorem m_isPick {w0 w : WD} {sz μ : Nat} {P : MP} {K : MK} {p : Int} (hM : MW w0 w μ P K) (r : -2147483648 ≤ p ∧ p < 2147483648) (h : 0 ≤ P.1 160 ∧ P.1 160 ≤ 12) : CT iX7_isPick 0 0 [.ref μ, xI p] w sz (pR (some (xB (decide (0 ≤ p ∧ p ≤ P.1 160 - 1)))) w sz) := by
  refine CT.ofZ (by decide) rfl (Nat.le_of_ble_eq_true rfl) (fun Z hE => ?_)
  refine V_iload_n dX7_isPick_0 1 rfl rfl ?_
  refine V_iconst dX7_isPick_1 ?_
  refine V_aload_n dX7_isPick_2 0 rfl rfl ?_
  refine M_g_z hM rfl dX7_isPick_3 ?_
  refine V_sipush dX7_isPick_6 (by decide) ?_
  refine M_l_z hM dX7_isPick_9 (by first | omega | (dsimp only; omega) | (dsimp only at *; omega)) ?_
  refine V_iconst dX7_isPick_10 ?_
  refine V_isub dX7_isPick_11 ?_
  refine V_c_X7_42 rfl (by decide) (m_within (by omega)) dX7_isPick_12 rfl rfl (Nat.le_of_ble_eq_true rfl) (Nat.le_of_eq (Nat.zero_add _)) (Nat.le_of_eq (Nat.zero_add _)) (fun v w sz q => ?_)
  obtain ⟨rfl, rfl, rfl⟩ := q
  exact V_zret hE rfl dX7_isPick_15 ⟨rfl, rfl, rfl⟩
