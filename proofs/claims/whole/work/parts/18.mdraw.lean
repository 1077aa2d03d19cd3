/-! the reference: draw and fill -/
abbrev idiff (f g : Int → Int) : Int := isum (fun k => if f k ≠ g k then 1 else 0) 160
theorem alt_eq {z sv S f : Int → Int} {s : Int} (h : Svd z s sv S) : isum (fun k => if f k ≠ S (2189 * (isv s + 1 - 1) + k) then 1 else 0) 160 = idiff f z := isum_c (fun j h1 h2 => by rw [show isv s + 1 - 1 = isv s by omega, h.1 j h1 (by omega)])
def MD (w0 w : WD) (μ : Nat) (t : Int) (P : MP) : Prop := ∃ K : MK, MW w0 w μ P K ∧ K.1 = t
/-- a state is saved -/
def SavR (P P' : MP) : Prop := P'.2.1 = isv P.2.1 + 1 ∧ Svd P.1 P.2.1 P.2.2.1 P'.2.2.1 ∧ P'.2.2.2 = P.2.2.2
abbrev irect (x y u v k : Int) : Prop := ((x ≤ k % 16 ∧ k % 16 ≤ u) ∨ (u ≤ k % 16 ∧ k % 16 ≤ x)) ∧ ((y ≤ k / 16 ∧ k / 16 ≤ v) ∨ (v ≤ k / 16 ∧ k / 16 ≤ y))
/-- shades as they were up to the places of picks -/
def Rst (z z' : Int → Int) : Prop := ∀ k, 160 ≤ k → k < 2189 → z' k = z k
theorem VZ.rst {z z' : Int → Int} (h : VZ z) (hr : Rst z z') (hs : ∀ k, 0 ≤ k → k < 160 → 0 ≤ z' k ∧ z' k ≤ 99) : VZ z' := by
  have h160 := hr 160 (by omega) (by omega)
  refine ⟨hs, by rw [h160]; exact h.2.1, fun p p0 p1 => ?_⟩
  rw [h160] at p1
  have g := h.2.2 p p0 p1
  have g0 := h.2.1
  refine ⟨?_, ?_, ?_, ?_, ?_, ?_, ?_, ?_, ?_, fun c c0 c1 => ?_⟩
  · rw [hr _ (by omega) (by omega)]; exact g.1
  · rw [hr _ (by omega) (by omega)]; exact g.2.1
  · rw [hr _ (by omega) (by omega)]; exact g.2.2.1
  · rw [hr _ (by omega) (by omega)]; exact g.2.2.2.1
  · rw [hr _ (by omega) (by omega)]; exact g.2.2.2.2.1
  · rw [hr _ (by omega) (by omega)]; exact g.2.2.2.2.2.1
  · rw [hr _ (by omega) (by omega)]; exact g.2.2.2.2.2.2.1
  · rw [hr _ (by omega) (by omega)]; exact g.2.2.2.2.2.2.2.1
  · rw [hr _ (by omega) (by omega)]; exact g.2.2.2.2.2.2.2.2.1
  · rw [hr _ (by omega) (by omega)]; exact g.2.2.2.2.2.2.2.2.2 c c0 c1
theorem mul_b {a m : Int} (h1 : -99 ≤ a) (h2 : a ≤ 99) (h3 : 0 ≤ m) (h4 : m ≤ 100) : -9900 ≤ a * m ∧ a * m ≤ 9900 := by
  have e1 : a * m ≤ 99 * m := Int.mul_le_mul_of_nonneg_right h2 h3
  have e2 : -99 * m ≤ a * m := Int.mul_le_mul_of_nonneg_right h1 h3
  omega
/-- a cell's shade behind a fill with s through the level m -/
abbrev ifil (z s m : Int) : Int := z + ((s - z) * m).tdiv 100
theorem ifil_b {z s m : Int} (h1 : 0 ≤ z ∧ z ≤ 99) (h2 : 0 ≤ s ∧ s ≤ 99) (h3 : 0 ≤ m ∧ m ≤ 100) : 0 ≤ ifil z s m ∧ ifil z s m ≤ 99 := by
  unfold ifil
  rcases Int.le_total z s with h | h
  · have e1 : 0 ≤ (s - z) * m := Int.mul_nonneg (by omega) h3.1
    have e2 : (s - z) * m ≤ (s - z) * 100 := Int.mul_le_mul_of_nonneg_left h3.2 (by omega)
    rw [Int.tdiv_eq_ediv_of_nonneg e1]
    omega
  · have e1 : 0 ≤ (z - s) * m := Int.mul_nonneg (by omega) h3.1
    have e2 : (z - s) * m ≤ (z - s) * 100 := Int.mul_le_mul_of_nonneg_left h3.2 (by omega)
    have e3 : (s - z) * m = -((z - s) * m) := by rw [← Int.neg_mul]; congr 1; omega
    rw [e3, Int.neg_tdiv, Int.tdiv_eq_ediv_of_nonneg e1]
    omega
def drawR (P : MP) (x y u v s t r : Int) (P' : MP) : Prop := (¬ (iCell x y ∧ iCell u v) ∧ t = 1 ∧ P' = P) ∨ ((iCell x y ∧ iCell u v) ∧ ¬ (0 ≤ s ∧ s ≤ 99) ∧ t = 2 ∧ P' = P) ∨ ((iCell x y ∧ iCell u v) ∧ (0 ≤ s ∧ s ≤ 99) ∧ t = 0 ∧ SavR P P' ∧ (∀ k, 0 ≤ k → k < 160 → P'.1 k = if irect x y u v k then s else P.1 k) ∧ Rst P.1 P'.1 ∧ r = idiff P'.1 P.1)
def fillR (P : MP) (s t r : Int) (P' : MP) : Prop := (¬ (0 ≤ s ∧ s ≤ 99) ∧ t = 1 ∧ P' = P) ∨ ((0 ≤ s ∧ s ≤ 99) ∧ t = 0 ∧ SavR P P' ∧ (∀ k, 0 ≤ k → k < 160 → P'.1 k = ifil (P.1 k) s (imS P.1 k)) ∧ Rst P.1 P'.1 ∧ r = idiff P'.1 P.1)
set_option maxRecDepth 100000 in
set_option maxHeartbeats 4000000 in
theorem m_draw {w0 w : WD} {sz μ : Nat} {P : MP} {K : MK} {x y u v s : Int} (hM : MW w0 w μ P K) (hv : VZ P.1) (hs : 0 ≤ P.2.1 ∧ P.2.1 ≤ 6) (r : -2147483648 ≤ x ∧ x < 2147483648 ∧ -2147483648 ≤ y ∧ y < 2147483648 ∧ -2147483648 ≤ u ∧ u < 2147483648 ∧ -2147483648 ≤ v ∧ v < 2147483648 ∧ -2147483648 ≤ s ∧ s < 2147483648) : CT iX7_draw 0 0 [.ref μ, xI x, xI y, xI u, xI v, xI s] w sz (fun o9 w' sz' => sz' = sz ∧ ∃ r t P', o9 = some (xI r) ∧ MD w0 w' μ t P' ∧ drawR P x y u v s t r P') := by
  refine CT.ofZ (by decide) rfl (Nat.le_of_ble_eq_true rfl) (fun Z hE => ?_)
  refine V_aload_n dX7_draw_0 0 rfl rfl ?_
  refine V_iload_n dX7_draw_1 1 rfl rfl ?_
  refine V_iload_n dX7_draw_2 2 rfl rfl ?_
  refine V_c_X7_91 rfl (by decide) (m_isCell (by omega)) dX7_draw_3 rfl rfl (Nat.le_of_ble_eq_true rfl) (Nat.le_of_eq (Nat.zero_add _)) (Nat.le_of_eq (Nat.zero_add _)) (fun v w sz q => ?_)
  try dsimp only at q
  obtain ⟨rfl, rfl, rfl⟩ := q
  refine V_ifeqB 18 dX7_draw_6 (by decide) (fun h6 => ?_) (fun h6 => ?_)
  · try simp only [decide_eq_true_eq, decide_eq_false_iff_not, Bool.not_eq_true] at h6
    refine V_iconst dX7_draw_18 ?_
    refine V_goto 35 dX7_draw_19 (by decide) ?_
    refine M_p_thrown hM rfl dX7_draw_35 (fun w hM => ?_)
    try dsimp only at hM
    refine V_aload_n dX7_draw_38 0 rfl rfl ?_
    refine M_g_thrown hM rfl dX7_draw_39 ?_
    try dsimp only
    refine V_if_le 47 dX7_draw_42 (by decide) (by omega) (fun h42 => ?_) (fun h42 => ?_)
    · exact absurd h42 (by simp)
    · refine V_iconst dX7_draw_45 ?_
      exact V_iret hE rfl dX7_draw_46 ⟨rfl, 0, 1, _, rfl, ⟨_, hM, rfl⟩, Or.inl ⟨by omega, rfl, rfl⟩⟩
  · try simp only [decide_eq_true_eq, decide_eq_false_iff_not, Bool.not_eq_true] at h6
    refine V_iload_n dX7_draw_9 3 rfl rfl ?_
    refine V_iload dX7_draw_10 rfl ?_
    refine V_c_X7_91 rfl (by decide) (m_isCell (by omega)) dX7_draw_12 rfl rfl (Nat.le_of_ble_eq_true rfl) (Nat.le_of_eq (Nat.zero_add _)) (Nat.le_of_eq (Nat.zero_add _)) (fun v w sz q => ?_)
    try dsimp only at q
    obtain ⟨rfl, rfl, rfl⟩ := q
    refine V_ifneB 22 dX7_draw_15 (by decide) (fun h15 => ?_) (fun h15 => ?_)
    · try simp only [decide_eq_true_eq, decide_eq_false_iff_not, Bool.not_eq_true] at h15
      refine V_iload dX7_draw_22 rfl ?_
      refine V_c_X7_94 rfl (by decide) (m_isShade (by omega)) dX7_draw_24 rfl rfl (Nat.le_of_ble_eq_true rfl) (Nat.le_of_eq (Nat.zero_add _)) (Nat.le_of_eq (Nat.zero_add _)) (fun v w sz q => ?_)
      try dsimp only at q
      obtain ⟨rfl, rfl, rfl⟩ := q
      refine V_ifeqB 34 dX7_draw_27 (by decide) (fun h27 => ?_) (fun h27 => ?_)
      · try simp only [decide_eq_true_eq, decide_eq_false_iff_not, Bool.not_eq_true] at h27
        refine V_iconst dX7_draw_34 ?_
        refine M_p_thrown hM rfl dX7_draw_35 (fun w hM => ?_)
        try dsimp only at hM
        refine V_aload_n dX7_draw_38 0 rfl rfl ?_
        refine M_g_thrown hM rfl dX7_draw_39 ?_
        try dsimp only
        refine V_if_le 47 dX7_draw_42 (by decide) (by omega) (fun h42 => ?_) (fun h42 => ?_)
        · exact absurd h42 (by simp)
        · refine V_iconst dX7_draw_45 ?_
          exact V_iret hE rfl dX7_draw_46 ⟨rfl, 0, 2, _, rfl, ⟨_, hM, rfl⟩, Or.inr (Or.inl ⟨by omega, by omega, rfl, rfl⟩)⟩
      · try simp only [decide_eq_true_eq, decide_eq_false_iff_not, Bool.not_eq_true] at h27
        refine V_iconst dX7_draw_30 ?_
        refine V_goto 35 dX7_draw_31 (by decide) ?_
        refine M_p_thrown hM rfl dX7_draw_35 (fun w hM => ?_)
        try dsimp only at hM
        refine V_aload_n dX7_draw_38 0 rfl rfl ?_
        refine M_g_thrown hM rfl dX7_draw_39 ?_
        try dsimp only
        refine V_if_le 47 dX7_draw_42 (by decide) (by omega) (fun h42 => ?_) (fun h42 => ?_)
        · refine V_aload_n dX7_draw_47 0 rfl rfl ?_
          refine V_c_X7_98 rfl (by decide) (m_save hM hs) dX7_draw_48 hM.1 rfl rfl (Nat.le_of_ble_eq_true rfl) (Nat.le_of_eq (Nat.zero_add _)) (Nat.le_of_eq (Nat.zero_add _)) (fun v w sz q => ?_)
          try dsimp only at q
          obtain ⟨rfl, rfl, S, hM, hS⟩ := q
          rw [show (if P.2.1 = 6 then 6 else P.2.1 + 1) = isv P.2.1 + 1 by unfold isv; omega] at hM
          have hi9 : 0 ≤ isv P.2.1 ∧ isv P.2.1 ≤ 5 := by unfold isv; omega
          refine V_iconst dX7_draw_51 ?_
          refine V_istore dX7_draw_52 (by decide) ?_
          have L54 : ∀ k : Int, 0 ≤ k → k ≤ 160 → ∀ (w : WD) (f : Int → Int), MW w0 w μ (f, isv P.2.1 + 1, S, P.2.2.2) (0, K.2) → (∀ j, 0 ≤ j → j < 160 → f j = if j < k ∧ irect x y u v j then s else P.1 j) → Rst P.1 f → V iX7_draw Z 0 0 w sz 54 [some (.ref μ), some (xI x), some (xI y), some (xI u), some (xI v), some (xI s), some (xI k), none, none, none, none] [] := by
            refine up_ind ?_
            intro k hk0 hk1 ih w f hM hf hr
            refine V_iload dX7_draw_54 rfl ?_
            refine V_sipush dX7_draw_56 (by decide) ?_
            refine V_icmp_ge 167 dX7_draw_59 (by decide) (by omega) (fun h59 => ?_) (fun h59 => ?_)
            · have hz2 : ∀ k, 0 ≤ k → k < 160 → 0 ≤ f k ∧ f k ≤ 99 := by
                intro j g1 g2
                rw [hf j g1 g2]
                have := hv.1 j g1 g2
                split <;> omega
              refine V_aload_n dX7_draw_167 0 rfl rfl ?_
              have hq : CT iX7_altered 0 0 [.ref μ] w sz _ := m_altered hM (by dsimp only; omega) (fun k h1 h2 => by
                dsimp only
                rw [show isv P.2.1 + 1 - 1 = isv P.2.1 by omega, hS.1 k h1 (by omega)]
                exact ⟨hz2 k h1 h2, hv.1 k h1 h2⟩)
              refine V_c_X7_101 rfl (by decide) (hq) dX7_draw_168 hM.1 rfl rfl (Nat.le_of_ble_eq_true rfl) (Nat.le_of_eq (Nat.zero_add _)) (Nat.le_of_eq (Nat.zero_add _)) (fun v w sz q => ?_)
              try dsimp only at q
              obtain ⟨rfl, rfl, rfl⟩ := q
              exact V_iret hE rfl dX7_draw_171 ⟨rfl, _, 0, _, rfl, ⟨_, hM, rfl⟩, Or.inr (Or.inr ⟨by omega, by omega, rfl, ⟨rfl, hS, rfl⟩, fun j g1 g2 => by dsimp only; rw [hf j g1 g2]; split <;> split <;> first | rfl | omega, hr, alt_eq hS⟩)⟩
            · refine V_iload dX7_draw_62 rfl ?_
              refine V_bipush dX7_draw_64 (by decide) ?_
              refine V_iremN dX7_draw_66 (by omega) ?_
              refine V_istore dX7_draw_67 (by decide) ?_
              refine V_iload dX7_draw_69 rfl ?_
              refine V_bipush dX7_draw_71 (by decide) ?_
              refine V_idivN dX7_draw_73 (by omega) ?_
              refine V_istore dX7_draw_74 (by decide) ?_
              refine V_iload dX7_draw_76 rfl ?_
              refine V_iload_n dX7_draw_78 1 rfl rfl ?_
              refine V_iload_n dX7_draw_79 3 rfl rfl ?_
              refine V_c_X7_42 rfl (by decide) (m_within (by omega)) dX7_draw_80 rfl rfl (Nat.le_of_ble_eq_true rfl) (Nat.le_of_eq (Nat.zero_add _)) (Nat.le_of_eq (Nat.zero_add _)) (fun v w sz q => ?_)
              try dsimp only at q
              obtain ⟨rfl, rfl, rfl⟩ := q
              refine V_ifneB 96 dX7_draw_83 (by decide) (fun h83 => ?_) (fun h83 => ?_)
              · try simp only [decide_eq_true_eq, decide_eq_false_iff_not, Bool.not_eq_true] at h83
                refine V_iconst dX7_draw_96 ?_
                refine V_goto 101 dX7_draw_97 (by decide) ?_
                refine V_istore dX7_draw_101 (by decide) ?_
                refine V_iload dX7_draw_103 rfl ?_
                refine V_iload_n dX7_draw_105 2 rfl rfl ?_
                refine V_iload dX7_draw_106 rfl ?_
                refine V_c_X7_42 rfl (by decide) (m_within (by omega)) dX7_draw_108 rfl rfl (Nat.le_of_ble_eq_true rfl) (Nat.le_of_eq (Nat.zero_add _)) (Nat.le_of_eq (Nat.zero_add _)) (fun v w sz q => ?_)
                try dsimp only at q
                obtain ⟨rfl, rfl, rfl⟩ := q
                refine V_ifneB 125 dX7_draw_111 (by decide) (fun h111 => ?_) (fun h111 => ?_)
                · try simp only [decide_eq_true_eq, decide_eq_false_iff_not, Bool.not_eq_true] at h111
                  refine V_iconst dX7_draw_125 ?_
                  refine V_goto 130 dX7_draw_126 (by decide) ?_
                  refine V_istore dX7_draw_130 (by decide) ?_
                  refine V_aload_n dX7_draw_132 0 rfl rfl ?_
                  refine M_g_z hM rfl dX7_draw_133 ?_
                  refine V_iload dX7_draw_136 rfl ?_
                  refine V_iload dX7_draw_138 rfl ?_
                  refine V_if_eq 153 dX7_draw_140 (by decide) (by omega) (fun h140 => ?_) (fun h140 => ?_)
                  · exact absurd h140 (by simp)
                  · refine V_iload dX7_draw_143 rfl ?_
                    refine V_if_eq 153 dX7_draw_145 (by decide) (by omega) (fun h145 => ?_) (fun h145 => ?_)
                    · exact absurd h145 (by simp)
                    · refine V_iload dX7_draw_148 rfl ?_
                      refine V_goto 160 dX7_draw_150 (by decide) ?_
                      refine M_s_z hM dX7_draw_160 (by first | omega | (dsimp only; omega) | (dsimp only at *; omega)) (fun w hM => ?_)
                      try dsimp only at hM
                      refine V_iinc dX7_draw_161 rfl (by decide) ?_
                      refine V_goto 54 dX7_draw_164 (by decide) ?_
                      refine V_fg [true, true, true, true, true, true, true, false, false, false, false] ?_
                      refine ih (by omega) _ _ hM (fun j g1 g2 => ?_) (fun j g1 g2 => ?_)
                      · by_cases e : j = k
                        · rw [e, iu_s]
                          first | rw [if_pos (by omega)] | (rw [if_neg (by omega)]; (try rw [hf k hk0 (by omega), if_neg (by omega)]))
                        · rw [iu_n e, hf j g1 g2]
                          split <;> split <;> first | rfl | omega
                      · rw [iu_n (by omega)]; exact hr j g1 g2
                · try simp only [decide_eq_true_eq, decide_eq_false_iff_not, Bool.not_eq_true] at h111
                  refine V_iload dX7_draw_114 rfl ?_
                  refine V_iload dX7_draw_116 rfl ?_
                  refine V_iload_n dX7_draw_118 2 rfl rfl ?_
                  refine V_c_X7_42 rfl (by decide) (m_within (by omega)) dX7_draw_119 rfl rfl (Nat.le_of_ble_eq_true rfl) (Nat.le_of_eq (Nat.zero_add _)) (Nat.le_of_eq (Nat.zero_add _)) (fun v w sz q => ?_)
                  try dsimp only at q
                  obtain ⟨rfl, rfl, rfl⟩ := q
                  refine V_ifeqB 129 dX7_draw_122 (by decide) (fun h122 => ?_) (fun h122 => ?_)
                  · try simp only [decide_eq_true_eq, decide_eq_false_iff_not, Bool.not_eq_true] at h122
                    refine V_iconst dX7_draw_129 ?_
                    refine V_istore dX7_draw_130 (by decide) ?_
                    refine V_aload_n dX7_draw_132 0 rfl rfl ?_
                    refine M_g_z hM rfl dX7_draw_133 ?_
                    refine V_iload dX7_draw_136 rfl ?_
                    refine V_iload dX7_draw_138 rfl ?_
                    refine V_if_eq 153 dX7_draw_140 (by decide) (by omega) (fun h140 => ?_) (fun h140 => ?_)
                    · exact absurd h140 (by simp)
                    · refine V_iload dX7_draw_143 rfl ?_
                      refine V_if_eq 153 dX7_draw_145 (by decide) (by omega) (fun h145 => ?_) (fun h145 => ?_)
                      · refine V_aload_n dX7_draw_153 0 rfl rfl ?_
                        refine M_g_z hM rfl dX7_draw_154 ?_
                        refine V_iload dX7_draw_157 rfl ?_
                        refine M_l_z hM dX7_draw_159 (by first | omega | (dsimp only; omega) | (dsimp only at *; omega)) ?_
                        try dsimp only
                        refine M_s_z hM dX7_draw_160 (by first | omega | (dsimp only; omega) | (dsimp only at *; omega)) (fun w hM => ?_)
                        try dsimp only at hM
                        refine V_iinc dX7_draw_161 rfl (by decide) ?_
                        refine V_goto 54 dX7_draw_164 (by decide) ?_
                        refine V_fg [true, true, true, true, true, true, true, false, false, false, false] ?_
                        refine ih (by omega) _ _ hM (fun j g1 g2 => ?_) (fun j g1 g2 => ?_)
                        · by_cases e : j = k
                          · rw [e, iu_s]
                            first | rw [if_pos (by omega)] | (rw [if_neg (by omega)]; (try rw [hf k hk0 (by omega), if_neg (by omega)]))
                          · rw [iu_n e, hf j g1 g2]
                            split <;> split <;> first | rfl | omega
                        · rw [iu_n (by omega)]; exact hr j g1 g2
                      · exact absurd h145 (by simp)
                  · try simp only [decide_eq_true_eq, decide_eq_false_iff_not, Bool.not_eq_true] at h122
                    refine V_iconst dX7_draw_125 ?_
                    refine V_goto 130 dX7_draw_126 (by decide) ?_
                    refine V_istore dX7_draw_130 (by decide) ?_
                    refine V_aload_n dX7_draw_132 0 rfl rfl ?_
                    refine M_g_z hM rfl dX7_draw_133 ?_
                    refine V_iload dX7_draw_136 rfl ?_
                    refine V_iload dX7_draw_138 rfl ?_
                    refine V_if_eq 153 dX7_draw_140 (by decide) (by omega) (fun h140 => ?_) (fun h140 => ?_)
                    · exact absurd h140 (by simp)
                    · refine V_iload dX7_draw_143 rfl ?_
                      refine V_if_eq 153 dX7_draw_145 (by decide) (by omega) (fun h145 => ?_) (fun h145 => ?_)
                      · exact absurd h145 (by simp)
                      · refine V_iload dX7_draw_148 rfl ?_
                        refine V_goto 160 dX7_draw_150 (by decide) ?_
                        refine M_s_z hM dX7_draw_160 (by first | omega | (dsimp only; omega) | (dsimp only at *; omega)) (fun w hM => ?_)
                        try dsimp only at hM
                        refine V_iinc dX7_draw_161 rfl (by decide) ?_
                        refine V_goto 54 dX7_draw_164 (by decide) ?_
                        refine V_fg [true, true, true, true, true, true, true, false, false, false, false] ?_
                        refine ih (by omega) _ _ hM (fun j g1 g2 => ?_) (fun j g1 g2 => ?_)
                        · by_cases e : j = k
                          · rw [e, iu_s]
                            first | rw [if_pos (by omega)] | (rw [if_neg (by omega)]; (try rw [hf k hk0 (by omega), if_neg (by omega)]))
                          · rw [iu_n e, hf j g1 g2]
                            split <;> split <;> first | rfl | omega
                        · rw [iu_n (by omega)]; exact hr j g1 g2
              · try simp only [decide_eq_true_eq, decide_eq_false_iff_not, Bool.not_eq_true] at h83
                refine V_iload dX7_draw_86 rfl ?_
                refine V_iload_n dX7_draw_88 3 rfl rfl ?_
                refine V_iload_n dX7_draw_89 1 rfl rfl ?_
                refine V_c_X7_42 rfl (by decide) (m_within (by omega)) dX7_draw_90 rfl rfl (Nat.le_of_ble_eq_true rfl) (Nat.le_of_eq (Nat.zero_add _)) (Nat.le_of_eq (Nat.zero_add _)) (fun v w sz q => ?_)
                try dsimp only at q
                obtain ⟨rfl, rfl, rfl⟩ := q
                refine V_ifeqB 100 dX7_draw_93 (by decide) (fun h93 => ?_) (fun h93 => ?_)
                · try simp only [decide_eq_true_eq, decide_eq_false_iff_not, Bool.not_eq_true] at h93
                  refine V_iconst dX7_draw_100 ?_
                  refine V_istore dX7_draw_101 (by decide) ?_
                  refine V_iload dX7_draw_103 rfl ?_
                  refine V_iload_n dX7_draw_105 2 rfl rfl ?_
                  refine V_iload dX7_draw_106 rfl ?_
                  refine V_c_X7_42 rfl (by decide) (m_within (by omega)) dX7_draw_108 rfl rfl (Nat.le_of_ble_eq_true rfl) (Nat.le_of_eq (Nat.zero_add _)) (Nat.le_of_eq (Nat.zero_add _)) (fun v w sz q => ?_)
                  try dsimp only at q
                  obtain ⟨rfl, rfl, rfl⟩ := q
                  refine V_ifneB 125 dX7_draw_111 (by decide) (fun h111 => ?_) (fun h111 => ?_)
                  · try simp only [decide_eq_true_eq, decide_eq_false_iff_not, Bool.not_eq_true] at h111
                    refine V_iconst dX7_draw_125 ?_
                    refine V_goto 130 dX7_draw_126 (by decide) ?_
                    refine V_istore dX7_draw_130 (by decide) ?_
                    refine V_aload_n dX7_draw_132 0 rfl rfl ?_
                    refine M_g_z hM rfl dX7_draw_133 ?_
                    refine V_iload dX7_draw_136 rfl ?_
                    refine V_iload dX7_draw_138 rfl ?_
                    refine V_if_eq 153 dX7_draw_140 (by decide) (by omega) (fun h140 => ?_) (fun h140 => ?_)
                    · refine V_aload_n dX7_draw_153 0 rfl rfl ?_
                      refine M_g_z hM rfl dX7_draw_154 ?_
                      refine V_iload dX7_draw_157 rfl ?_
                      refine M_l_z hM dX7_draw_159 (by first | omega | (dsimp only; omega) | (dsimp only at *; omega)) ?_
                      try dsimp only
                      refine M_s_z hM dX7_draw_160 (by first | omega | (dsimp only; omega) | (dsimp only at *; omega)) (fun w hM => ?_)
                      try dsimp only at hM
                      refine V_iinc dX7_draw_161 rfl (by decide) ?_
                      refine V_goto 54 dX7_draw_164 (by decide) ?_
                      refine V_fg [true, true, true, true, true, true, true, false, false, false, false] ?_
                      refine ih (by omega) _ _ hM (fun j g1 g2 => ?_) (fun j g1 g2 => ?_)
                      · by_cases e : j = k
                        · rw [e, iu_s]
                          first | rw [if_pos (by omega)] | (rw [if_neg (by omega)]; (try rw [hf k hk0 (by omega), if_neg (by omega)]))
                        · rw [iu_n e, hf j g1 g2]
                          split <;> split <;> first | rfl | omega
                      · rw [iu_n (by omega)]; exact hr j g1 g2
                    · exact absurd h140 (by simp)
                  · try simp only [decide_eq_true_eq, decide_eq_false_iff_not, Bool.not_eq_true] at h111
                    refine V_iload dX7_draw_114 rfl ?_
                    refine V_iload dX7_draw_116 rfl ?_
                    refine V_iload_n dX7_draw_118 2 rfl rfl ?_
                    refine V_c_X7_42 rfl (by decide) (m_within (by omega)) dX7_draw_119 rfl rfl (Nat.le_of_ble_eq_true rfl) (Nat.le_of_eq (Nat.zero_add _)) (Nat.le_of_eq (Nat.zero_add _)) (fun v w sz q => ?_)
                    try dsimp only at q
                    obtain ⟨rfl, rfl, rfl⟩ := q
                    refine V_ifeqB 129 dX7_draw_122 (by decide) (fun h122 => ?_) (fun h122 => ?_)
                    · try simp only [decide_eq_true_eq, decide_eq_false_iff_not, Bool.not_eq_true] at h122
                      refine V_iconst dX7_draw_129 ?_
                      refine V_istore dX7_draw_130 (by decide) ?_
                      refine V_aload_n dX7_draw_132 0 rfl rfl ?_
                      refine M_g_z hM rfl dX7_draw_133 ?_
                      refine V_iload dX7_draw_136 rfl ?_
                      refine V_iload dX7_draw_138 rfl ?_
                      refine V_if_eq 153 dX7_draw_140 (by decide) (by omega) (fun h140 => ?_) (fun h140 => ?_)
                      · refine V_aload_n dX7_draw_153 0 rfl rfl ?_
                        refine M_g_z hM rfl dX7_draw_154 ?_
                        refine V_iload dX7_draw_157 rfl ?_
                        refine M_l_z hM dX7_draw_159 (by first | omega | (dsimp only; omega) | (dsimp only at *; omega)) ?_
                        try dsimp only
                        refine M_s_z hM dX7_draw_160 (by first | omega | (dsimp only; omega) | (dsimp only at *; omega)) (fun w hM => ?_)
                        try dsimp only at hM
                        refine V_iinc dX7_draw_161 rfl (by decide) ?_
                        refine V_goto 54 dX7_draw_164 (by decide) ?_
                        refine V_fg [true, true, true, true, true, true, true, false, false, false, false] ?_
                        refine ih (by omega) _ _ hM (fun j g1 g2 => ?_) (fun j g1 g2 => ?_)
                        · by_cases e : j = k
                          · rw [e, iu_s]
                            first | rw [if_pos (by omega)] | (rw [if_neg (by omega)]; (try rw [hf k hk0 (by omega), if_neg (by omega)]))
                          · rw [iu_n e, hf j g1 g2]
                            split <;> split <;> first | rfl | omega
                        · rw [iu_n (by omega)]; exact hr j g1 g2
                      · exact absurd h140 (by simp)
                    · try simp only [decide_eq_true_eq, decide_eq_false_iff_not, Bool.not_eq_true] at h122
                      refine V_iconst dX7_draw_125 ?_
                      refine V_goto 130 dX7_draw_126 (by decide) ?_
                      refine V_istore dX7_draw_130 (by decide) ?_
                      refine V_aload_n dX7_draw_132 0 rfl rfl ?_
                      refine M_g_z hM rfl dX7_draw_133 ?_
                      refine V_iload dX7_draw_136 rfl ?_
                      refine V_iload dX7_draw_138 rfl ?_
                      refine V_if_eq 153 dX7_draw_140 (by decide) (by omega) (fun h140 => ?_) (fun h140 => ?_)
                      · refine V_aload_n dX7_draw_153 0 rfl rfl ?_
                        refine M_g_z hM rfl dX7_draw_154 ?_
                        refine V_iload dX7_draw_157 rfl ?_
                        refine M_l_z hM dX7_draw_159 (by first | omega | (dsimp only; omega) | (dsimp only at *; omega)) ?_
                        try dsimp only
                        refine M_s_z hM dX7_draw_160 (by first | omega | (dsimp only; omega) | (dsimp only at *; omega)) (fun w hM => ?_)
                        try dsimp only at hM
                        refine V_iinc dX7_draw_161 rfl (by decide) ?_
                        refine V_goto 54 dX7_draw_164 (by decide) ?_
                        refine V_fg [true, true, true, true, true, true, true, false, false, false, false] ?_
                        refine ih (by omega) _ _ hM (fun j g1 g2 => ?_) (fun j g1 g2 => ?_)
                        · by_cases e : j = k
                          · rw [e, iu_s]
                            first | rw [if_pos (by omega)] | (rw [if_neg (by omega)]; (try rw [hf k hk0 (by omega), if_neg (by omega)]))
                          · rw [iu_n e, hf j g1 g2]
                            split <;> split <;> first | rfl | omega
                        · rw [iu_n (by omega)]; exact hr j g1 g2
                      · exact absurd h140 (by simp)
                · try simp only [decide_eq_true_eq, decide_eq_false_iff_not, Bool.not_eq_true] at h93
                  refine V_iconst dX7_draw_96 ?_
                  refine V_goto 101 dX7_draw_97 (by decide) ?_
                  refine V_istore dX7_draw_101 (by decide) ?_
                  refine V_iload dX7_draw_103 rfl ?_
                  refine V_iload_n dX7_draw_105 2 rfl rfl ?_
                  refine V_iload dX7_draw_106 rfl ?_
                  refine V_c_X7_42 rfl (by decide) (m_within (by omega)) dX7_draw_108 rfl rfl (Nat.le_of_ble_eq_true rfl) (Nat.le_of_eq (Nat.zero_add _)) (Nat.le_of_eq (Nat.zero_add _)) (fun v w sz q => ?_)
                  try dsimp only at q
                  obtain ⟨rfl, rfl, rfl⟩ := q
                  refine V_ifneB 125 dX7_draw_111 (by decide) (fun h111 => ?_) (fun h111 => ?_)
                  · try simp only [decide_eq_true_eq, decide_eq_false_iff_not, Bool.not_eq_true] at h111
                    refine V_iconst dX7_draw_125 ?_
                    refine V_goto 130 dX7_draw_126 (by decide) ?_
                    refine V_istore dX7_draw_130 (by decide) ?_
                    refine V_aload_n dX7_draw_132 0 rfl rfl ?_
                    refine M_g_z hM rfl dX7_draw_133 ?_
                    refine V_iload dX7_draw_136 rfl ?_
                    refine V_iload dX7_draw_138 rfl ?_
                    refine V_if_eq 153 dX7_draw_140 (by decide) (by omega) (fun h140 => ?_) (fun h140 => ?_)
                    · exact absurd h140 (by simp)
                    · refine V_iload dX7_draw_143 rfl ?_
                      refine V_if_eq 153 dX7_draw_145 (by decide) (by omega) (fun h145 => ?_) (fun h145 => ?_)
                      · exact absurd h145 (by simp)
                      · refine V_iload dX7_draw_148 rfl ?_
                        refine V_goto 160 dX7_draw_150 (by decide) ?_
                        refine M_s_z hM dX7_draw_160 (by first | omega | (dsimp only; omega) | (dsimp only at *; omega)) (fun w hM => ?_)
                        try dsimp only at hM
                        refine V_iinc dX7_draw_161 rfl (by decide) ?_
                        refine V_goto 54 dX7_draw_164 (by decide) ?_
                        refine V_fg [true, true, true, true, true, true, true, false, false, false, false] ?_
                        refine ih (by omega) _ _ hM (fun j g1 g2 => ?_) (fun j g1 g2 => ?_)
                        · by_cases e : j = k
                          · rw [e, iu_s]
                            first | rw [if_pos (by omega)] | (rw [if_neg (by omega)]; (try rw [hf k hk0 (by omega), if_neg (by omega)]))
                          · rw [iu_n e, hf j g1 g2]
                            split <;> split <;> first | rfl | omega
                        · rw [iu_n (by omega)]; exact hr j g1 g2
                  · try simp only [decide_eq_true_eq, decide_eq_false_iff_not, Bool.not_eq_true] at h111
                    refine V_iload dX7_draw_114 rfl ?_
                    refine V_iload dX7_draw_116 rfl ?_
                    refine V_iload_n dX7_draw_118 2 rfl rfl ?_
                    refine V_c_X7_42 rfl (by decide) (m_within (by omega)) dX7_draw_119 rfl rfl (Nat.le_of_ble_eq_true rfl) (Nat.le_of_eq (Nat.zero_add _)) (Nat.le_of_eq (Nat.zero_add _)) (fun v w sz q => ?_)
                    try dsimp only at q
                    obtain ⟨rfl, rfl, rfl⟩ := q
                    refine V_ifeqB 129 dX7_draw_122 (by decide) (fun h122 => ?_) (fun h122 => ?_)
                    · try simp only [decide_eq_true_eq, decide_eq_false_iff_not, Bool.not_eq_true] at h122
                      refine V_iconst dX7_draw_129 ?_
                      refine V_istore dX7_draw_130 (by decide) ?_
                      refine V_aload_n dX7_draw_132 0 rfl rfl ?_
                      refine M_g_z hM rfl dX7_draw_133 ?_
                      refine V_iload dX7_draw_136 rfl ?_
                      refine V_iload dX7_draw_138 rfl ?_
                      refine V_if_eq 153 dX7_draw_140 (by decide) (by omega) (fun h140 => ?_) (fun h140 => ?_)
                      · exact absurd h140 (by simp)
                      · refine V_iload dX7_draw_143 rfl ?_
                        refine V_if_eq 153 dX7_draw_145 (by decide) (by omega) (fun h145 => ?_) (fun h145 => ?_)
                        · refine V_aload_n dX7_draw_153 0 rfl rfl ?_
                          refine M_g_z hM rfl dX7_draw_154 ?_
                          refine V_iload dX7_draw_157 rfl ?_
                          refine M_l_z hM dX7_draw_159 (by first | omega | (dsimp only; omega) | (dsimp only at *; omega)) ?_
                          try dsimp only
                          refine M_s_z hM dX7_draw_160 (by first | omega | (dsimp only; omega) | (dsimp only at *; omega)) (fun w hM => ?_)
                          try dsimp only at hM
                          refine V_iinc dX7_draw_161 rfl (by decide) ?_
                          refine V_goto 54 dX7_draw_164 (by decide) ?_
                          refine V_fg [true, true, true, true, true, true, true, false, false, false, false] ?_
                          refine ih (by omega) _ _ hM (fun j g1 g2 => ?_) (fun j g1 g2 => ?_)
                          · by_cases e : j = k
                            · rw [e, iu_s]
                              first | rw [if_pos (by omega)] | (rw [if_neg (by omega)]; (try rw [hf k hk0 (by omega), if_neg (by omega)]))
                            · rw [iu_n e, hf j g1 g2]
                              split <;> split <;> first | rfl | omega
                          · rw [iu_n (by omega)]; exact hr j g1 g2
                        · exact absurd h145 (by simp)
                    · try simp only [decide_eq_true_eq, decide_eq_false_iff_not, Bool.not_eq_true] at h122
                      refine V_iconst dX7_draw_125 ?_
                      refine V_goto 130 dX7_draw_126 (by decide) ?_
                      refine V_istore dX7_draw_130 (by decide) ?_
                      refine V_aload_n dX7_draw_132 0 rfl rfl ?_
                      refine M_g_z hM rfl dX7_draw_133 ?_
                      refine V_iload dX7_draw_136 rfl ?_
                      refine V_iload dX7_draw_138 rfl ?_
                      refine V_if_eq 153 dX7_draw_140 (by decide) (by omega) (fun h140 => ?_) (fun h140 => ?_)
                      · exact absurd h140 (by simp)
                      · refine V_iload dX7_draw_143 rfl ?_
                        refine V_if_eq 153 dX7_draw_145 (by decide) (by omega) (fun h145 => ?_) (fun h145 => ?_)
                        · exact absurd h145 (by simp)
                        · refine V_iload dX7_draw_148 rfl ?_
                          refine V_goto 160 dX7_draw_150 (by decide) ?_
                          refine M_s_z hM dX7_draw_160 (by first | omega | (dsimp only; omega) | (dsimp only at *; omega)) (fun w hM => ?_)
                          try dsimp only at hM
                          refine V_iinc dX7_draw_161 rfl (by decide) ?_
                          refine V_goto 54 dX7_draw_164 (by decide) ?_
                          refine V_fg [true, true, true, true, true, true, true, false, false, false, false] ?_
                          refine ih (by omega) _ _ hM (fun j g1 g2 => ?_) (fun j g1 g2 => ?_)
                          · by_cases e : j = k
                            · rw [e, iu_s]
                              first | rw [if_pos (by omega)] | (rw [if_neg (by omega)]; (try rw [hf k hk0 (by omega), if_neg (by omega)]))
                            · rw [iu_n e, hf j g1 g2]
                              split <;> split <;> first | rfl | omega
                          · rw [iu_n (by omega)]; exact hr j g1 g2
          refine V_fg [true, true, true, true, true, true, true, false, false, false, false] ?_
          exact L54 (0) (by omega) (by omega) w P.1 hM (fun j h1 h2 => by rw [if_neg (by omega)]) (fun _ _ _ => rfl)
        · exact absurd h42 (by simp)
    · try simp only [decide_eq_true_eq, decide_eq_false_iff_not, Bool.not_eq_true] at h15
      refine V_iconst dX7_draw_18 ?_
      refine V_goto 35 dX7_draw_19 (by decide) ?_
      refine M_p_thrown hM rfl dX7_draw_35 (fun w hM => ?_)
      try dsimp only at hM
      refine V_aload_n dX7_draw_38 0 rfl rfl ?_
      refine M_g_thrown hM rfl dX7_draw_39 ?_
      try dsimp only
      refine V_if_le 47 dX7_draw_42 (by decide) (by omega) (fun h42 => ?_) (fun h42 => ?_)
      · exact absurd h42 (by simp)
      · refine V_iconst dX7_draw_45 ?_
        exact V_iret hE rfl dX7_draw_46 ⟨rfl, 0, 1, _, rfl, ⟨_, hM, rfl⟩, Or.inl ⟨by omega, rfl, rfl⟩⟩
set_option maxRecDepth 100000 in
set_option maxHeartbeats 4000000 in
theorem m_fill {w0 w : WD} {sz μ : Nat} {P : MP} {K : MK} {s : Int} (hM : MW w0 w μ P K) (hv : VZ P.1) (hs : 0 ≤ P.2.1 ∧ P.2.1 ≤ 6) (r : -2147483648 ≤ s ∧ s < 2147483648) : CT iX7_fill 0 0 [.ref μ, xI s] w sz (fun o9 w' sz' => sz' = sz ∧ ∃ r t P', o9 = some (xI r) ∧ MD w0 w' μ t P' ∧ fillR P s t r P') := by
  refine CT.ofZ (by decide) rfl (Nat.le_of_ble_eq_true rfl) (fun Z hE => ?_)
  refine V_aload_n dX7_fill_0 0 rfl rfl ?_
  refine V_iload_n dX7_fill_1 1 rfl rfl ?_
  refine V_c_X7_94 rfl (by decide) (m_isShade (by omega)) dX7_fill_2 rfl rfl (Nat.le_of_ble_eq_true rfl) (Nat.le_of_eq (Nat.zero_add _)) (Nat.le_of_eq (Nat.zero_add _)) (fun v w sz q => ?_)
  try dsimp only at q
  obtain ⟨rfl, rfl, rfl⟩ := q
  refine V_ifeqB 12 dX7_fill_5 (by decide) (fun h5 => ?_) (fun h5 => ?_)
  · try simp only [decide_eq_true_eq, decide_eq_false_iff_not, Bool.not_eq_true] at h5
    refine V_iconst dX7_fill_12 ?_
    refine M_p_thrown hM rfl dX7_fill_13 (fun w hM => ?_)
    try dsimp only at hM
    refine V_aload_n dX7_fill_16 0 rfl rfl ?_
    refine M_g_thrown hM rfl dX7_fill_17 ?_
    try dsimp only
    refine V_if_le 25 dX7_fill_20 (by decide) (by omega) (fun h20 => ?_) (fun h20 => ?_)
    · exact absurd h20 (by simp)
    · refine V_iconst dX7_fill_23 ?_
      exact V_iret hE rfl dX7_fill_24 ⟨rfl, 0, 1, _, rfl, ⟨_, hM, rfl⟩, Or.inl ⟨by omega, rfl, rfl⟩⟩
  · try simp only [decide_eq_true_eq, decide_eq_false_iff_not, Bool.not_eq_true] at h5
    refine V_iconst dX7_fill_8 ?_
    refine V_goto 13 dX7_fill_9 (by decide) ?_
    refine M_p_thrown hM rfl dX7_fill_13 (fun w hM => ?_)
    try dsimp only at hM
    refine V_aload_n dX7_fill_16 0 rfl rfl ?_
    refine M_g_thrown hM rfl dX7_fill_17 ?_
    try dsimp only
    refine V_if_le 25 dX7_fill_20 (by decide) (by omega) (fun h20 => ?_) (fun h20 => ?_)
    · refine V_aload_n dX7_fill_25 0 rfl rfl ?_
      refine V_c_X7_98 rfl (by decide) (m_save hM hs) dX7_fill_26 hM.1 rfl rfl (Nat.le_of_ble_eq_true rfl) (Nat.le_of_eq (Nat.zero_add _)) (Nat.le_of_eq (Nat.zero_add _)) (fun v w sz q => ?_)
      try dsimp only at q
      obtain ⟨rfl, rfl, S, hM, hS⟩ := q
      rw [show (if P.2.1 = 6 then 6 else P.2.1 + 1) = isv P.2.1 + 1 by unfold isv; omega] at hM
      have hi9 : 0 ≤ isv P.2.1 ∧ isv P.2.1 ≤ 5 := by unfold isv; omega
      refine V_aload_n dX7_fill_29 0 rfl rfl ?_
      refine V_c_X7_105 rfl (by decide) (m_layMask hM hv) dX7_fill_30 hM.1 rfl rfl (Nat.le_of_ble_eq_true rfl) (Nat.le_of_eq (Nat.zero_add _)) (Nat.le_of_eq (Nat.zero_add _)) (fun v w sz q => ?_)
      try dsimp only at q
      obtain ⟨rfl, rfl, m, hM, hm⟩ := q
      refine V_iconst dX7_fill_33 ?_
      refine V_istore_n dX7_fill_34 2 rfl (by decide) ?_
      have L35 : ∀ k : Int, 0 ≤ k → k ≤ 160 → ∀ (w : WD) (f : Int → Int), MW w0 w μ (f, isv P.2.1 + 1, S, P.2.2.2) (0, K.2.1, K.2.2.1, K.2.2.2.1, K.2.2.2.2.1, K.2.2.2.2.2.1, m, K.2.2.2.2.2.2.2.1, K.2.2.2.2.2.2.2.2.1, K.2.2.2.2.2.2.2.2.2.1, K.2.2.2.2.2.2.2.2.2.2) → (∀ j, 0 ≤ j → j < 160 → f j = if j < k then ifil (P.1 j) s (imS P.1 j) else P.1 j) → Rst P.1 f → V iX7_fill Z 0 0 w sz 35 [some (.ref μ), some (xI s), some (xI k)] [] := by
        refine up_ind ?_
        intro k hk0 hk1 ih w f hM hf hr
        have hfk : k < 160 → f k = P.1 k := fun h => by rw [hf k hk0 h, if_neg (by omega)]
        have hmk : k < 160 → m k = imS P.1 k := fun h => hm k hk0 h
        have hzk : k < 160 → 0 ≤ P.1 k ∧ P.1 k ≤ 99 := fun h => hv.1 k hk0 h
        have hik : k < 160 → 0 ≤ imS P.1 k ∧ imS P.1 k ≤ 100 := fun h => imsk_b hv ⟨hk0, h⟩ _ hv.2.1.1 (Int.le_refl _)
        refine V_iload_n dX7_fill_35 2 rfl rfl ?_
        refine V_sipush dX7_fill_36 (by decide) ?_
        refine V_icmp_ge 75 dX7_fill_39 (by decide) (by omega) (fun h39 => ?_) (fun h39 => ?_)
        · have hz2 : ∀ k, 0 ≤ k → k < 160 → 0 ≤ f k ∧ f k ≤ 99 := by
            intro j g1 g2
            rw [hf j g1 g2, if_pos (by omega)]
            exact ifil_b (hv.1 j g1 g2) (by omega) (imsk_b hv ⟨g1, g2⟩ _ hv.2.1.1 (Int.le_refl _))
          refine V_aload_n dX7_fill_75 0 rfl rfl ?_
          have hq : CT iX7_altered 0 0 [.ref μ] w sz _ := m_altered hM (by dsimp only; omega) (fun k h1 h2 => by
            dsimp only
            rw [show isv P.2.1 + 1 - 1 = isv P.2.1 by omega, hS.1 k h1 (by omega)]
            exact ⟨hz2 k h1 h2, hv.1 k h1 h2⟩)
          refine V_c_X7_101 rfl (by decide) (hq) dX7_fill_76 hM.1 rfl rfl (Nat.le_of_ble_eq_true rfl) (Nat.le_of_eq (Nat.zero_add _)) (Nat.le_of_eq (Nat.zero_add _)) (fun v w sz q => ?_)
          try dsimp only at q
          obtain ⟨rfl, rfl, rfl⟩ := q
          exact V_iret hE rfl dX7_fill_79 ⟨rfl, _, 0, _, rfl, ⟨_, hM, rfl⟩, Or.inr ⟨by omega, rfl, ⟨rfl, hS, rfl⟩, fun j g1 g2 => by dsimp only; rw [hf j g1 g2, if_pos (by omega)], hr, alt_eq hS⟩⟩
        · refine V_aload_n dX7_fill_42 0 rfl rfl ?_
          refine M_g_z hM rfl dX7_fill_43 ?_
          refine V_iload_n dX7_fill_46 2 rfl rfl ?_
          refine V_dup2 dX7_fill_47 rfl rfl ?_
          refine M_l_z hM dX7_fill_48 (by first | omega | (dsimp only; omega) | (dsimp only at *; omega)) ?_
          try dsimp only
          refine V_iload_n dX7_fill_49 1 rfl rfl ?_
          refine V_aload_n dX7_fill_50 0 rfl rfl ?_
          refine M_g_z hM rfl dX7_fill_51 ?_
          refine V_iload_n dX7_fill_54 2 rfl rfl ?_
          refine M_l_z hM dX7_fill_55 (by first | omega | (dsimp only; omega) | (dsimp only at *; omega)) ?_
          try dsimp only
          refine V_isub dX7_fill_56 ?_
          refine V_aload_n dX7_fill_57 0 rfl rfl ?_
          refine M_g_mask hM rfl dX7_fill_58 ?_
          refine V_iload_n dX7_fill_61 2 rfl rfl ?_
          refine M_l_mask hM dX7_fill_62 (by first | omega | (dsimp only; omega) | (dsimp only at *; omega)) ?_
          try dsimp only
          refine V_imul dX7_fill_63 ?_
          refine V_bipush dX7_fill_64 (by decide) ?_
          refine V_idiv dX7_fill_66 (by have g1 := hfk (by omega); have g2 := hmk (by omega); have g3 := hzk (by omega); have g4 := hik (by omega); rw [g1, g2]; have g5 := mul_b (a := s - P.1 k) (m := imS P.1 k) (by omega) (by omega) g4.1 g4.2; omega) (by omega) ?_
          refine V_iadd dX7_fill_67 ?_
          refine M_s_z hM dX7_fill_68 (by first | omega | (dsimp only; omega) | (dsimp only at *; omega)) (fun w hM => ?_)
          try dsimp only at hM
          refine V_iinc dX7_fill_69 rfl (by decide) ?_
          refine V_goto 35 dX7_fill_72 (by decide) ?_
          refine ih (by omega) _ _ hM (fun j g1 g2 => ?_) (fun j g1 g2 => ?_)
          · by_cases e : j = k
            · rw [e, iu_s, if_pos (by omega), hfk (by omega), hmk (by omega)]
            · rw [iu_n e, hf j g1 g2]
              split <;> split <;> first | rfl | omega
          · rw [iu_n (by omega)]; exact hr j g1 g2
      exact L35 (0) (by omega) (by omega) w P.1 hM (fun j h1 h2 => by rw [if_neg (by omega)]) (fun _ _ _ => rfl)
    · exact absurd h20 (by simp)
