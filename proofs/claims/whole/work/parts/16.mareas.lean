/-! the reference: areas -/
theorem Rch_c {z : Int → Int} {L : Int} {A A' : Int → Bool} {s k : Int} (h : ∀ j, 0 ≤ j → j < 160 → A j = A' j) : Rch z L A s k ↔ Rch z L A' s k := by
  constructor
  · intro hk X h1 h2
    exact hk X h1 (fun i j g1 g2 g3 g4 g5 g6 => h2 i j g1 g2 g3 g4 g5 (by rw [← h j g4 g5]; exact g6))
  · intro hk X h1 h2
    exact hk X h1 (fun i j g1 g2 g3 g4 g5 g6 => h2 i j g1 g2 g3 g4 g5 (by rw [h j g4 g5]; exact g6))
set_option maxRecDepth 100000 in
set_option maxHeartbeats 4000000 in
theorem m_reach {w0 w : WD} {sz μ : Nat} {P : MP} {K : MK} {s L : Int} (hM : MW w0 w μ P K) (hz : ∀ k, 0 ≤ k → k < 160 → 0 ≤ P.1 k ∧ P.1 k ≤ 99) (hs : 0 ≤ s ∧ s < 160) (hL : 0 ≤ L ∧ L ≤ 99) (hA : K.2.1 s = false) : CT iX7_reach 0 0 [.ref μ, xI s, xI L] w sz (fun v w' sz' => v = none ∧ sz' = sz ∧ ∃ A l, MW w0 w' μ P (K.1, A, K.2.2.1, l, K.2.2.2.2.1, K.2.2.2.2.2.1, K.2.2.2.2.2.2.1, K.2.2.2.2.2.2.2.1, K.2.2.2.2.2.2.2.2.1, K.2.2.2.2.2.2.2.2.2.1, K.2.2.2.2.2.2.2.2.2.2) ∧ ∀ k, 0 ≤ k → k < 160 → (A k = true ↔ K.2.1 k = true ∨ Rch P.1 L K.2.1 s k)) := by
  refine CT.ofZ (by decide) rfl (Nat.le_of_ble_eq_true rfl) (fun Z hE => ?_)
  refine V_iconst dX7_reach_0 ?_
  refine V_istore_n dX7_reach_1 3 rfl (by decide) ?_
  refine V_aload_n dX7_reach_2 0 rfl rfl ?_
  refine M_g_line hM rfl dX7_reach_3 ?_
  refine V_iconst dX7_reach_6 ?_
  refine V_iload_n dX7_reach_7 1 rfl rfl ?_
  refine M_s_line hM dX7_reach_8 (by first | omega | (dsimp only; omega) | (dsimp only at *; omega)) (fun w hM => ?_)
  try dsimp only at hM
  refine V_aload_n dX7_reach_9 0 rfl rfl ?_
  refine M_g_isAlike hM rfl dX7_reach_10 ?_
  refine V_iload_n dX7_reach_13 1 rfl rfl ?_
  refine V_iconst dX7_reach_14 ?_
  refine M_s_isAlike (b := true) hM dX7_reach_15 (by first | omega | (dsimp only; omega) | (dsimp only at *; omega)) (fun w hM => ?_)
  try dsimp only at hM
  refine V_iconst dX7_reach_16 ?_
  refine V_istore dX7_reach_17 (by decide) ?_
  have L19 : ∀ h : Int, 0 ≤ h → h ≤ 160 → ∀ (w : WD) (n : Int) (l : Int → Int) (A : Int → Bool), MW w0 w μ P (K.1, A, K.2.2.1, l, K.2.2.2.2.1, K.2.2.2.2.2.1, K.2.2.2.2.2.2.1, K.2.2.2.2.2.2.2.1, K.2.2.2.2.2.2.2.2.1, K.2.2.2.2.2.2.2.2.2.1, K.2.2.2.2.2.2.2.2.2.2) → RI P.1 L K.2.1 s l A n → RC P.1 L l A h → h ≤ n → V iX7_reach Z 0 0 w sz 19 [some (.ref μ), some (xI s), some (xI L), some (xI n), some (xI h), none, none] [] := by
    refine up_ind ?_
    intro h hh0 hh1 ihh w n l A hM R C hhn
    have hn9 := R.le
    refine V_iload dX7_reach_19 rfl ?_
    refine V_iload_n dX7_reach_21 3 rfl rfl ?_
    refine V_icmp_ge 119 dX7_reach_22 (by decide) (by first | omega | (have g9 := hz k hk0 (by omega); simp only [stp, iabs] at *; omega)) (fun h22 => ?_) (fun h22 => ?_)
    · exact V_vret hE rfl dX7_reach_119 ⟨rfl, rfl, _, _, hM, R.fin C (by omega) hs.1 hs.2 hA⟩
    · refine V_aload_n dX7_reach_25 0 rfl rfl ?_
      refine M_g_line hM rfl dX7_reach_26 ?_
      refine V_iload dX7_reach_29 rfl ?_
      refine M_l_line hM dX7_reach_31 (by first | omega | (dsimp only; omega) | (dsimp only at *; omega)) ?_
      try dsimp only
      refine V_istore dX7_reach_32 (by decide) ?_
      refine V_iconst dX7_reach_34 ?_
      refine V_istore dX7_reach_35 (by decide) ?_
      have L37 : ∀ k : Int, 0 ≤ k → k ≤ 160 → ∀ (w : WD) (n1 : Int) (l1 : Int → Int) (A1 : Int → Bool), MW w0 w μ P (K.1, A1, K.2.2.1, l1, K.2.2.2.2.1, K.2.2.2.2.2.1, K.2.2.2.2.2.2.1, K.2.2.2.2.2.2.2.1, K.2.2.2.2.2.2.2.2.1, K.2.2.2.2.2.2.2.2.2.1, K.2.2.2.2.2.2.2.2.2.2) → RI P.1 L K.2.1 s l1 A1 n1 → RC P.1 L l1 A1 h → h < n1 → l1 h = l h → (∀ j, 0 ≤ j → j < k → stp (l h) j = 1 → iabs (P.1 (l h) - P.1 j) ≤ L → A1 j = true) → V iX7_reach Z 0 0 w sz 37 [some (.ref μ), some (xI s), some (xI L), some (xI n1), some (xI h), some (xI (l h)), some (xI k)] [] := by
        refine up_ind ?_
        intro k hk0 hk1 ih w n1 l1 A1 hM R1 C1 hlt heq hp
        have gc := R1.2.1 h hh0 hlt
        rw [heq] at gc
        have gz := hz (l h) gc.1 gc.2.1
        have hn9 := R1.le
        refine V_iload dX7_reach_37 rfl ?_
        refine V_sipush dX7_reach_39 (by decide) ?_
        refine V_icmp_ge 113 dX7_reach_42 (by decide) (by first | omega | (have g9 := hz k hk0 (by omega); simp only [stp, iabs] at *; omega)) (fun h42 => ?_) (fun h42 => ?_)
        · refine V_iinc dX7_reach_113 rfl (by decide) ?_
          refine V_goto 19 dX7_reach_116 (by decide) ?_
          refine V_fg [true, true, true, true, true, false, false] ?_
          refine ihh (by omega) _ _ _ _ hM R1 (fun q g1 g2 j g3 g4 g5 g6 => ?_) (by omega)
          by_cases e : q = h
          · rw [e, heq] at g5 g6
            exact hp j g3 (by omega) g5 g6
          · exact C1 q g1 (by omega) j g3 g4 g5 g6
        · refine V_aload_n dX7_reach_45 0 rfl rfl ?_
          refine M_g_isAlike hM rfl dX7_reach_46 ?_
          refine V_iload dX7_reach_49 rfl ?_
          refine M_l_isAlike hM dX7_reach_51 (by first | omega | (dsimp only; omega) | (dsimp only at *; omega)) ?_
          try dsimp only
          refine V_ifneB 107 dX7_reach_52 (by decide) (fun h52 => ?_) (fun h52 => ?_)
          · try simp only [decide_eq_true_eq, decide_eq_false_iff_not, Bool.not_eq_true] at h52
            refine V_iinc dX7_reach_107 rfl (by decide) ?_
            refine V_goto 37 dX7_reach_110 (by decide) ?_
            refine ih (by omega) _ _ _ _ hM R1 C1 hlt heq (fun j g1 g2 g3 g4 => ?_)
            by_cases e : j = k
            · rw [e] at g3 g4 ⊢
              first | exact h52 | exact absurd g3 h63 | omega
            · exact hp j g1 (by omega) g3 g4
          · try simp only [decide_eq_true_eq, decide_eq_false_iff_not, Bool.not_eq_true] at h52
            refine V_iload dX7_reach_55 rfl ?_
            refine V_iload dX7_reach_57 rfl ?_
            refine V_c_X7_58 rfl (by decide) (m_steps (by omega)) dX7_reach_59 rfl rfl (Nat.le_of_ble_eq_true rfl) (Nat.le_of_eq (Nat.zero_add _)) (Nat.le_of_eq (Nat.zero_add _)) (fun v w sz q => ?_)
            try dsimp only at q
            obtain ⟨rfl, rfl, rfl⟩ := q
            refine V_iconst dX7_reach_62 ?_
            refine V_icmp_ne 107 dX7_reach_63 (by decide) (by first | omega | (have g9 := hz k hk0 (by omega); simp only [stp, iabs] at *; omega)) (fun h63 => ?_) (fun h63 => ?_)
            · refine V_iinc dX7_reach_107 rfl (by decide) ?_
              refine V_goto 37 dX7_reach_110 (by decide) ?_
              refine ih (by omega) _ _ _ _ hM R1 C1 hlt heq (fun j g1 g2 g3 g4 => ?_)
              by_cases e : j = k
              · rw [e] at g3 g4 ⊢
                first | exact h52 | exact absurd g3 h63 | omega
              · exact hp j g1 (by omega) g3 g4
            · refine V_aload_n dX7_reach_66 0 rfl rfl ?_
              refine M_g_z hM rfl dX7_reach_67 ?_
              refine V_iload dX7_reach_70 rfl ?_
              refine M_l_z hM dX7_reach_72 (by first | omega | (dsimp only; omega) | (dsimp only at *; omega)) ?_
              try dsimp only
              refine V_aload_n dX7_reach_73 0 rfl rfl ?_
              refine M_g_z hM rfl dX7_reach_74 ?_
              refine V_iload dX7_reach_77 rfl ?_
              refine M_l_z hM dX7_reach_79 (by first | omega | (dsimp only; omega) | (dsimp only at *; omega)) ?_
              try dsimp only
              refine V_isub dX7_reach_80 ?_
              refine V_c_X7_50 rfl (by decide) (m_size (by have g9 := hz k hk0 (by omega); omega)) dX7_reach_81 rfl rfl (Nat.le_of_ble_eq_true rfl) (Nat.le_of_eq (Nat.zero_add _)) (Nat.le_of_eq (Nat.zero_add _)) (fun v w sz q => ?_)
              try dsimp only at q
              obtain ⟨rfl, rfl, rfl⟩ := q
              refine V_iload_n dX7_reach_84 2 rfl rfl ?_
              refine V_icmp_gt 107 dX7_reach_85 (by decide) (by first | omega | (have g9 := hz k hk0 (by omega); simp only [stp, iabs] at *; omega)) (fun h85 => ?_) (fun h85 => ?_)
              · refine V_iinc dX7_reach_107 rfl (by decide) ?_
                refine V_goto 37 dX7_reach_110 (by decide) ?_
                refine ih (by omega) _ _ _ _ hM R1 C1 hlt heq (fun j g1 g2 g3 g4 => ?_)
                by_cases e : j = k
                · rw [e] at g3 g4 ⊢
                  first | exact h52 | exact absurd g3 h63 | omega
                · exact hp j g1 (by omega) g3 g4
              · refine V_aload_n dX7_reach_88 0 rfl rfl ?_
                refine M_g_isAlike hM rfl dX7_reach_89 ?_
                refine V_iload dX7_reach_92 rfl ?_
                refine V_iconst dX7_reach_94 ?_
                refine M_s_isAlike (b := true) hM dX7_reach_95 (by first | omega | (dsimp only; omega) | (dsimp only at *; omega)) (fun w hM => ?_)
                try dsimp only at hM
                refine V_aload_n dX7_reach_96 0 rfl rfl ?_
                refine M_g_line hM rfl dX7_reach_97 ?_
                refine V_iload_n dX7_reach_100 3 rfl rfl ?_
                refine V_iload dX7_reach_101 rfl ?_
                refine M_s_line hM dX7_reach_103 (by have g9 := R1.lt hk0 (by omega) h52; omega) (fun w hM => ?_)
                try dsimp only at hM
                refine V_iinc dX7_reach_104 rfl (by decide) ?_
                refine V_iinc dX7_reach_107 rfl (by decide) ?_
                refine V_goto 37 dX7_reach_110 (by decide) ?_
                refine ih (by omega) _ _ _ _ hM (R1.add hk0 (by omega) h52 hh0 hlt (by rw [heq]; exact h63) (by rw [heq]; exact h85)) (C1.add (by omega)) (by omega) (by rw [iu_n (by omega)]; exact heq) (fun j g1 g2 g3 g4 => ?_)
                by_cases e : j = k
                · rw [e, iu_s]
                · rw [iu_n e]
                  exact hp j g1 (by omega) g3 g4
      exact L37 (0) (by omega) (by omega) w n l A hM R C (by omega) rfl (fun j g1 g2 => by omega)
  refine V_fg [true, true, true, true, true, false, false] ?_
  exact L19 (0) (by omega) (by omega) w 1 _ _ hM (RI.start hs.1 hs.2 hA) (fun q g1 g2 => by omega) (by omega)
set_option maxRecDepth 100000 in
set_option maxHeartbeats 4000000 in
theorem m_layAlike {w0 w : WD} {sz μ : Nat} {P : MP} {K : MK} {f L a : Int} (hM : MW w0 w μ P K) (hz : ∀ k, 0 ≤ k → k < 160 → 0 ≤ P.1 k ∧ P.1 k ≤ 99) (hf : 0 ≤ f ∧ f < 160) (hL : 0 ≤ L ∧ L ≤ 99) (ha : 0 ≤ a ∧ a ≤ 1) : CT iX7_layAlike 0 0 [.ref μ, xI f, xI L, xI a] w sz (fun v w' sz' => v = none ∧ sz' = sz ∧ ∃ A l, MW w0 w' μ P (K.1, A, K.2.2.1, l, K.2.2.2.2.1, K.2.2.2.2.2.1, K.2.2.2.2.2.2.1, K.2.2.2.2.2.2.2.1, K.2.2.2.2.2.2.2.2.1, K.2.2.2.2.2.2.2.2.2.1, K.2.2.2.2.2.2.2.2.2.2) ∧ ∀ k, 0 ≤ k → k < 160 → (A k = true ↔ aP P.1 f L a k)) := by
  refine CT.ofZ (by decide) rfl (Nat.le_of_ble_eq_true rfl) (fun Z hE => ?_)
  refine V_iconst dX7_layAlike_0 ?_
  refine V_istore dX7_layAlike_1 (by decide) ?_
  have L3 : ∀ k : Int, 0 ≤ k → k ≤ 160 → ∀ (w : WD) (A : Int → Bool), MW w0 w μ P (K.1, A, K.2.2) → (∀ j, 0 ≤ j → j < k → A j = decide (a = 0 ∧ iabs (P.1 j - P.1 f) ≤ L)) → V iX7_layAlike Z 0 0 w sz 3 [some (.ref μ), some (xI f), some (xI L), some (xI a), some (xI k)] [] := by
    refine up_ind ?_
    intro k hk0 hk1 ih w A hM hA
    have gz := hz f hf.1 hf.2
    refine V_iload dX7_layAlike_3 rfl ?_
    refine V_sipush dX7_layAlike_5 (by decide) ?_
    refine V_icmp_ge 54 dX7_layAlike_8 (by decide) (by first | omega | (have g9 := hz k hk0 (by omega); simp only [iabs]; omega)) (fun h8 => ?_) (fun h8 => ?_)
    · refine V_iload_n dX7_layAlike_54 3 rfl rfl ?_
      refine V_iconst dX7_layAlike_55 ?_
      refine V_icmp_ne 65 dX7_layAlike_56 (by decide) (by first | omega | (have g9 := hz k hk0 (by omega); simp only [iabs]; omega)) (fun h56 => ?_) (fun h56 => ?_)
      · exact V_vret hE rfl dX7_layAlike_65 ⟨rfl, rfl, A, K.2.2.2.1, hM, fun j g1 g2 => by rw [hA j g1 (by omega), decide_eq_true_eq]; unfold aP; rw [if_pos (show a = 0 by omega)]; exact ⟨fun h => h.2, fun h => ⟨by omega, h⟩⟩⟩
      · refine V_aload_n dX7_layAlike_59 0 rfl rfl ?_
        refine V_iload_n dX7_layAlike_60 1 rfl rfl ?_
        refine V_iload_n dX7_layAlike_61 2 rfl rfl ?_
        refine V_c_X7_54 rfl (by decide) (m_reach hM hz hf hL (show A f = false by rw [hA f hf.1 (by omega)]; exact decide_eq_false (by omega))) dX7_layAlike_62 hM.1 rfl rfl (Nat.le_of_ble_eq_true rfl) (Nat.le_of_eq (Nat.zero_add _)) (Nat.le_of_eq (Nat.zero_add _)) (fun v w sz q => ?_)
        try dsimp only at q
        obtain ⟨rfl, rfl, A2, l2, hM2, hA2⟩ := q
        exact V_vret hE rfl dX7_layAlike_65 ⟨rfl, rfl, _, _, hM2, fun j g1 g2 => by rw [hA2 j g1 g2]; unfold aP; rw [if_neg (show ¬ a = 0 by omega)]; exact ⟨fun h => h.elim (fun h => by rw [hA j g1 (by omega), decide_eq_true_eq] at h; omega) (fun h => (Rch_c (fun j h1 h2 => by rw [hA j h1 (by omega)]; exact decide_eq_false (by omega))).mp h), fun h => Or.inr ((Rch_c (fun j h1 h2 => by rw [hA j h1 (by omega)]; exact decide_eq_false (by omega))).mpr h)⟩⟩
    · refine V_aload_n dX7_layAlike_11 0 rfl rfl ?_
      refine M_g_isAlike hM rfl dX7_layAlike_12 ?_
      refine V_iload dX7_layAlike_15 rfl ?_
      refine V_iload_n dX7_layAlike_17 3 rfl rfl ?_
      refine V_if_ne 46 dX7_layAlike_18 (by decide) (by first | omega | (have g9 := hz k hk0 (by omega); simp only [iabs]; omega)) (fun h18 => ?_) (fun h18 => ?_)
      · refine V_iconst dX7_layAlike_46 ?_
        refine M_s_isAlike (b := false) hM dX7_layAlike_47 (by first | omega | (dsimp only; omega) | (dsimp only at *; omega)) (fun w hM => ?_)
        try dsimp only at hM
        refine V_iinc dX7_layAlike_48 rfl (by decide) ?_
        refine V_goto 3 dX7_layAlike_51 (by decide) ?_
        refine ih (by omega) _ _ hM (fun j g1 g2 => ?_)
        try dsimp only
        by_cases e : j = k
        · rw [e, iu_s]
          first | rw [decide_eq_true (by omega)] | rw [decide_eq_false (by omega)]
        · rw [iu_n e, hA j g1 (by omega)]
      · refine V_aload_n dX7_layAlike_21 0 rfl rfl ?_
        refine M_g_z hM rfl dX7_layAlike_22 ?_
        refine V_iload dX7_layAlike_25 rfl ?_
        refine M_l_z hM dX7_layAlike_27 (by first | omega | (dsimp only; omega) | (dsimp only at *; omega)) ?_
        try dsimp only
        refine V_aload_n dX7_layAlike_28 0 rfl rfl ?_
        refine M_g_z hM rfl dX7_layAlike_29 ?_
        refine V_iload_n dX7_layAlike_32 1 rfl rfl ?_
        refine M_l_z hM dX7_layAlike_33 (by first | omega | (dsimp only; omega) | (dsimp only at *; omega)) ?_
        try dsimp only
        refine V_isub dX7_layAlike_34 ?_
        refine V_c_X7_50 rfl (by decide) (m_size (by have g9 := hz k hk0 (by omega); omega)) dX7_layAlike_35 rfl rfl (Nat.le_of_ble_eq_true rfl) (Nat.le_of_eq (Nat.zero_add _)) (Nat.le_of_eq (Nat.zero_add _)) (fun v w sz q => ?_)
        try dsimp only at q
        obtain ⟨rfl, rfl, rfl⟩ := q
        refine V_iload_n dX7_layAlike_38 2 rfl rfl ?_
        refine V_icmp_gt 46 dX7_layAlike_39 (by decide) (by first | omega | (have g9 := hz k hk0 (by omega); simp only [iabs]; omega)) (fun h39 => ?_) (fun h39 => ?_)
        · refine V_iconst dX7_layAlike_46 ?_
          refine M_s_isAlike (b := false) hM dX7_layAlike_47 (by first | omega | (dsimp only; omega) | (dsimp only at *; omega)) (fun w hM => ?_)
          try dsimp only at hM
          refine V_iinc dX7_layAlike_48 rfl (by decide) ?_
          refine V_goto 3 dX7_layAlike_51 (by decide) ?_
          refine ih (by omega) _ _ hM (fun j g1 g2 => ?_)
          try dsimp only
          by_cases e : j = k
          · rw [e, iu_s]
            first | rw [decide_eq_true (by omega)] | rw [decide_eq_false (by omega)]
          · rw [iu_n e, hA j g1 (by omega)]
        · refine V_iconst dX7_layAlike_42 ?_
          refine V_goto 47 dX7_layAlike_43 (by decide) ?_
          refine M_s_isAlike (b := true) hM dX7_layAlike_47 (by first | omega | (dsimp only; omega) | (dsimp only at *; omega)) (fun w hM => ?_)
          try dsimp only at hM
          refine V_iinc dX7_layAlike_48 rfl (by decide) ?_
          refine V_goto 3 dX7_layAlike_51 (by decide) ?_
          refine ih (by omega) _ _ hM (fun j g1 g2 => ?_)
          try dsimp only
          by_cases e : j = k
          · rw [e, iu_s]
            first | rw [decide_eq_true (by omega)] | rw [decide_eq_false (by omega)]
          · rw [iu_n e, hA j g1 (by omega)]
  exact L3 (0) (by omega) (by omega) w K.2.1 hM (fun j g1 g2 => by omega)
set_option maxRecDepth 100000 in
set_option maxHeartbeats 4000000 in
theorem m_hasSquare {w0 w : WD} {sz μ : Nat} {P : MP} {K : MK} {c w9 : Int} (hM : MW w0 w μ P K) (hc : 0 ≤ c ∧ c < 160) (hw : 0 ≤ w9 ∧ w9 ≤ 5) : CT iX7_hasSquare 0 0 [.ref μ, xI c, xI w9] w sz (fun v w' sz' => w' = w ∧ sz' = sz ∧ ∃ b, v = some (xB b) ∧ (b = true ↔ sqA (fun k => K.2.1 k = true) w9 c)) := by
  refine CT.ofZ (by decide) rfl (Nat.le_of_ble_eq_true rfl) (fun Z hE => ?_)
  have hww : (w9 + 1) * (w9 + 1) ≤ 36 ∧ 1 ≤ (w9 + 1) * (w9 + 1) := by
    rcases (show w9 = 0 ∨ w9 = 1 ∨ w9 = 2 ∨ w9 = 3 ∨ w9 = 4 ∨ w9 = 5 by omega) with rfl | rfl | rfl | rfl | rfl | rfl <;> decide
  refine V_iload_n dX7_hasSquare_0 1 rfl rfl ?_
  refine V_bipush dX7_hasSquare_1 (by decide) ?_
  refine V_iremN dX7_hasSquare_3 (by omega) ?_
  refine V_istore_n dX7_hasSquare_4 3 rfl (by decide) ?_
  refine V_iload_n dX7_hasSquare_5 1 rfl rfl ?_
  refine V_bipush dX7_hasSquare_6 (by decide) ?_
  refine V_idivN dX7_hasSquare_8 (by omega) ?_
  refine V_istore dX7_hasSquare_9 (by decide) ?_
  refine V_iload_n dX7_hasSquare_11 3 rfl rfl ?_
  refine V_iload_n dX7_hasSquare_12 2 rfl rfl ?_
  refine V_iadd dX7_hasSquare_13 ?_
  refine V_bipush dX7_hasSquare_14 (by decide) ?_
  refine V_icmp_ge 32 dX7_hasSquare_16 (by decide) (by first | omega | (have g8 := hd (by omega); omega)) (fun h16 => ?_) (fun h16 => ?_)
  · refine V_iconst dX7_hasSquare_32 ?_
    refine V_istore dX7_hasSquare_33 (by decide) ?_
    refine V_iconst dX7_hasSquare_35 ?_
    refine V_istore dX7_hasSquare_36 (by decide) ?_
    have L38 : ∀ k : Int, 0 ≤ k → k ≤ (w9 + 1) * (w9 + 1) → ∀ b : Bool, (b = true ↔ sqB K.2.1 w9 c k) → V iX7_hasSquare Z 0 0 w sz 38 [some (.ref μ), some (xI c), some (xI w9), some (xI (c % 16)), some (xI (c / 16)), some (xB b), some (xI k)] [] := by
      refine up_ind ?_
      intro k hk0 hk1 ih b hb
      have hd := fun g => sq_dm (w := w9) (k := k) (by omega) hk0 g
      refine V_iload dX7_hasSquare_38 rfl ?_
      refine V_iload_n dX7_hasSquare_40 2 rfl rfl ?_
      refine V_iconst dX7_hasSquare_41 ?_
      refine V_iadd dX7_hasSquare_42 ?_
      refine V_iload_n dX7_hasSquare_43 2 rfl rfl ?_
      refine V_iconst dX7_hasSquare_44 ?_
      refine V_iadd dX7_hasSquare_45 ?_
      refine V_imul dX7_hasSquare_46 ?_
      refine V_icmp_ge 89 dX7_hasSquare_47 (by decide) (by first | omega | (have g8 := hd (by omega); omega)) (fun h47 => ?_) (fun h47 => ?_)
      · refine V_iload dX7_hasSquare_89 rfl ?_
        exact V_zret hE rfl dX7_hasSquare_91 ⟨rfl, rfl, b, rfl, ⟨fun g => sqB_fin (by omega) (by omega) (hb.mp g), fun g => hb.mpr (sqB_of (by omega) (by omega) g)⟩⟩
      · refine V_iload dX7_hasSquare_50 rfl ?_
        refine V_ifeqB 89 dX7_hasSquare_52 (by decide) (fun h52 => ?_) (fun h52 => ?_)
        · try simp only [decide_eq_true_eq, decide_eq_false_iff_not, Bool.not_eq_true] at h52
          refine V_iload dX7_hasSquare_89 rfl ?_
          exact V_zret hE rfl dX7_hasSquare_91 ⟨rfl, rfl, b, rfl, ⟨fun g => absurd (h52.symm.trans g) Bool.false_ne_true, fun g => hb.mpr (sqB_of (by omega) (by omega) g)⟩⟩
        · try simp only [decide_eq_true_eq, decide_eq_false_iff_not, Bool.not_eq_true] at h52
          refine V_aload_n dX7_hasSquare_55 0 rfl rfl ?_
          refine M_g_isAlike hM rfl dX7_hasSquare_56 ?_
          refine V_bipush dX7_hasSquare_59 (by decide) ?_
          refine V_iload dX7_hasSquare_61 rfl ?_
          refine V_iload dX7_hasSquare_63 rfl ?_
          refine V_iload_n dX7_hasSquare_65 2 rfl rfl ?_
          refine V_iconst dX7_hasSquare_66 ?_
          refine V_iadd dX7_hasSquare_67 ?_
          refine V_idivN dX7_hasSquare_68 (by omega) ?_
          refine V_iadd dX7_hasSquare_69 ?_
          refine V_imul dX7_hasSquare_70 ?_
          refine V_iload_n dX7_hasSquare_71 3 rfl rfl ?_
          refine V_iadd dX7_hasSquare_72 ?_
          refine V_iload dX7_hasSquare_73 rfl ?_
          refine V_iload_n dX7_hasSquare_75 2 rfl rfl ?_
          refine V_iconst dX7_hasSquare_76 ?_
          refine V_iadd dX7_hasSquare_77 ?_
          refine V_iremN dX7_hasSquare_78 (by omega) ?_
          refine V_iadd dX7_hasSquare_79 ?_
          refine M_l_isAlike hM dX7_hasSquare_80 (by have g8 := hd (by omega); have g9 := hb.mp h52; have g10 := g9.1; have g11 := g9.2.1; first | omega | (dsimp only; omega) | (dsimp only at *; omega)) ?_
          try dsimp only
          refine V_istore dX7_hasSquare_81 (by decide) ?_
          refine V_iinc dX7_hasSquare_83 rfl (by decide) ?_
          refine V_goto 38 dX7_hasSquare_86 (by decide) ?_
          refine ih (by omega) _ ?_
          have gb := hb.mp h52
          constructor
          · intro g
            refine ⟨gb.1, gb.2.1, fun j g1 g2 => ?_⟩
            by_cases e : j = k
            · rw [e]; exact g
            · exact gb.2.2 j g1 (by omega)
          · intro g
            exact g.2.2 k hk0 (by omega)
    refine L38 (0) (by omega) (by omega) false ?_
    constructor
    · intro g; first | exact ⟨by omega, by omega, fun j g1 g2 => by omega⟩ | cases g
    · intro g; first | rfl | exact absurd g.1 (by omega) | exact absurd g.2.1 (by omega)
  · refine V_iload dX7_hasSquare_19 rfl ?_
    refine V_iload_n dX7_hasSquare_21 2 rfl rfl ?_
    refine V_iadd dX7_hasSquare_22 ?_
    refine V_bipush dX7_hasSquare_23 (by decide) ?_
    refine V_icmp_ge 32 dX7_hasSquare_25 (by decide) (by first | omega | (have g8 := hd (by omega); omega)) (fun h25 => ?_) (fun h25 => ?_)
    · refine V_iconst dX7_hasSquare_32 ?_
      refine V_istore dX7_hasSquare_33 (by decide) ?_
      refine V_iconst dX7_hasSquare_35 ?_
      refine V_istore dX7_hasSquare_36 (by decide) ?_
      have L38 : ∀ k : Int, 0 ≤ k → k ≤ (w9 + 1) * (w9 + 1) → ∀ b : Bool, (b = true ↔ sqB K.2.1 w9 c k) → V iX7_hasSquare Z 0 0 w sz 38 [some (.ref μ), some (xI c), some (xI w9), some (xI (c % 16)), some (xI (c / 16)), some (xB b), some (xI k)] [] := by
        refine up_ind ?_
        intro k hk0 hk1 ih b hb
        have hd := fun g => sq_dm (w := w9) (k := k) (by omega) hk0 g
        refine V_iload dX7_hasSquare_38 rfl ?_
        refine V_iload_n dX7_hasSquare_40 2 rfl rfl ?_
        refine V_iconst dX7_hasSquare_41 ?_
        refine V_iadd dX7_hasSquare_42 ?_
        refine V_iload_n dX7_hasSquare_43 2 rfl rfl ?_
        refine V_iconst dX7_hasSquare_44 ?_
        refine V_iadd dX7_hasSquare_45 ?_
        refine V_imul dX7_hasSquare_46 ?_
        refine V_icmp_ge 89 dX7_hasSquare_47 (by decide) (by first | omega | (have g8 := hd (by omega); omega)) (fun h47 => ?_) (fun h47 => ?_)
        · refine V_iload dX7_hasSquare_89 rfl ?_
          exact V_zret hE rfl dX7_hasSquare_91 ⟨rfl, rfl, b, rfl, ⟨fun g => sqB_fin (by omega) (by omega) (hb.mp g), fun g => hb.mpr (sqB_of (by omega) (by omega) g)⟩⟩
        · refine V_iload dX7_hasSquare_50 rfl ?_
          refine V_ifeqB 89 dX7_hasSquare_52 (by decide) (fun h52 => ?_) (fun h52 => ?_)
          · try simp only [decide_eq_true_eq, decide_eq_false_iff_not, Bool.not_eq_true] at h52
            refine V_iload dX7_hasSquare_89 rfl ?_
            exact V_zret hE rfl dX7_hasSquare_91 ⟨rfl, rfl, b, rfl, ⟨fun g => absurd (h52.symm.trans g) Bool.false_ne_true, fun g => hb.mpr (sqB_of (by omega) (by omega) g)⟩⟩
          · try simp only [decide_eq_true_eq, decide_eq_false_iff_not, Bool.not_eq_true] at h52
            refine V_aload_n dX7_hasSquare_55 0 rfl rfl ?_
            refine M_g_isAlike hM rfl dX7_hasSquare_56 ?_
            refine V_bipush dX7_hasSquare_59 (by decide) ?_
            refine V_iload dX7_hasSquare_61 rfl ?_
            refine V_iload dX7_hasSquare_63 rfl ?_
            refine V_iload_n dX7_hasSquare_65 2 rfl rfl ?_
            refine V_iconst dX7_hasSquare_66 ?_
            refine V_iadd dX7_hasSquare_67 ?_
            refine V_idivN dX7_hasSquare_68 (by omega) ?_
            refine V_iadd dX7_hasSquare_69 ?_
            refine V_imul dX7_hasSquare_70 ?_
            refine V_iload_n dX7_hasSquare_71 3 rfl rfl ?_
            refine V_iadd dX7_hasSquare_72 ?_
            refine V_iload dX7_hasSquare_73 rfl ?_
            refine V_iload_n dX7_hasSquare_75 2 rfl rfl ?_
            refine V_iconst dX7_hasSquare_76 ?_
            refine V_iadd dX7_hasSquare_77 ?_
            refine V_iremN dX7_hasSquare_78 (by omega) ?_
            refine V_iadd dX7_hasSquare_79 ?_
            refine M_l_isAlike hM dX7_hasSquare_80 (by have g8 := hd (by omega); have g9 := hb.mp h52; have g10 := g9.1; have g11 := g9.2.1; first | omega | (dsimp only; omega) | (dsimp only at *; omega)) ?_
            try dsimp only
            refine V_istore dX7_hasSquare_81 (by decide) ?_
            refine V_iinc dX7_hasSquare_83 rfl (by decide) ?_
            refine V_goto 38 dX7_hasSquare_86 (by decide) ?_
            refine ih (by omega) _ ?_
            have gb := hb.mp h52
            constructor
            · intro g
              refine ⟨gb.1, gb.2.1, fun j g1 g2 => ?_⟩
              by_cases e : j = k
              · rw [e]; exact g
              · exact gb.2.2 j g1 (by omega)
            · intro g
              exact g.2.2 k hk0 (by omega)
      refine L38 (0) (by omega) (by omega) false ?_
      constructor
      · intro g; first | exact ⟨by omega, by omega, fun j g1 g2 => by omega⟩ | cases g
      · intro g; first | rfl | exact absurd g.1 (by omega) | exact absurd g.2.1 (by omega)
    · refine V_iconst dX7_hasSquare_28 ?_
      refine V_goto 33 dX7_hasSquare_29 (by decide) ?_
      refine V_istore dX7_hasSquare_33 (by decide) ?_
      refine V_iconst dX7_hasSquare_35 ?_
      refine V_istore dX7_hasSquare_36 (by decide) ?_
      have L38 : ∀ k : Int, 0 ≤ k → k ≤ (w9 + 1) * (w9 + 1) → ∀ b : Bool, (b = true ↔ sqB K.2.1 w9 c k) → V iX7_hasSquare Z 0 0 w sz 38 [some (.ref μ), some (xI c), some (xI w9), some (xI (c % 16)), some (xI (c / 16)), some (xB b), some (xI k)] [] := by
        refine up_ind ?_
        intro k hk0 hk1 ih b hb
        have hd := fun g => sq_dm (w := w9) (k := k) (by omega) hk0 g
        refine V_iload dX7_hasSquare_38 rfl ?_
        refine V_iload_n dX7_hasSquare_40 2 rfl rfl ?_
        refine V_iconst dX7_hasSquare_41 ?_
        refine V_iadd dX7_hasSquare_42 ?_
        refine V_iload_n dX7_hasSquare_43 2 rfl rfl ?_
        refine V_iconst dX7_hasSquare_44 ?_
        refine V_iadd dX7_hasSquare_45 ?_
        refine V_imul dX7_hasSquare_46 ?_
        refine V_icmp_ge 89 dX7_hasSquare_47 (by decide) (by first | omega | (have g8 := hd (by omega); omega)) (fun h47 => ?_) (fun h47 => ?_)
        · refine V_iload dX7_hasSquare_89 rfl ?_
          exact V_zret hE rfl dX7_hasSquare_91 ⟨rfl, rfl, b, rfl, ⟨fun g => sqB_fin (by omega) (by omega) (hb.mp g), fun g => hb.mpr (sqB_of (by omega) (by omega) g)⟩⟩
        · refine V_iload dX7_hasSquare_50 rfl ?_
          refine V_ifeqB 89 dX7_hasSquare_52 (by decide) (fun h52 => ?_) (fun h52 => ?_)
          · try simp only [decide_eq_true_eq, decide_eq_false_iff_not, Bool.not_eq_true] at h52
            refine V_iload dX7_hasSquare_89 rfl ?_
            exact V_zret hE rfl dX7_hasSquare_91 ⟨rfl, rfl, b, rfl, ⟨fun g => absurd (h52.symm.trans g) Bool.false_ne_true, fun g => hb.mpr (sqB_of (by omega) (by omega) g)⟩⟩
          · try simp only [decide_eq_true_eq, decide_eq_false_iff_not, Bool.not_eq_true] at h52
            refine V_aload_n dX7_hasSquare_55 0 rfl rfl ?_
            refine M_g_isAlike hM rfl dX7_hasSquare_56 ?_
            refine V_bipush dX7_hasSquare_59 (by decide) ?_
            refine V_iload dX7_hasSquare_61 rfl ?_
            refine V_iload dX7_hasSquare_63 rfl ?_
            refine V_iload_n dX7_hasSquare_65 2 rfl rfl ?_
            refine V_iconst dX7_hasSquare_66 ?_
            refine V_iadd dX7_hasSquare_67 ?_
            refine V_idivN dX7_hasSquare_68 (by omega) ?_
            refine V_iadd dX7_hasSquare_69 ?_
            refine V_imul dX7_hasSquare_70 ?_
            refine V_iload_n dX7_hasSquare_71 3 rfl rfl ?_
            refine V_iadd dX7_hasSquare_72 ?_
            refine V_iload dX7_hasSquare_73 rfl ?_
            refine V_iload_n dX7_hasSquare_75 2 rfl rfl ?_
            refine V_iconst dX7_hasSquare_76 ?_
            refine V_iadd dX7_hasSquare_77 ?_
            refine V_iremN dX7_hasSquare_78 (by omega) ?_
            refine V_iadd dX7_hasSquare_79 ?_
            refine M_l_isAlike hM dX7_hasSquare_80 (by have g8 := hd (by omega); have g9 := hb.mp h52; have g10 := g9.1; have g11 := g9.2.1; first | omega | (dsimp only; omega) | (dsimp only at *; omega)) ?_
            try dsimp only
            refine V_istore dX7_hasSquare_81 (by decide) ?_
            refine V_iinc dX7_hasSquare_83 rfl (by decide) ?_
            refine V_goto 38 dX7_hasSquare_86 (by decide) ?_
            refine ih (by omega) _ ?_
            have gb := hb.mp h52
            constructor
            · intro g
              refine ⟨gb.1, gb.2.1, fun j g1 g2 => ?_⟩
              by_cases e : j = k
              · rw [e]; exact g
              · exact gb.2.2 j g1 (by omega)
            · intro g
              exact g.2.2 k hk0 (by omega)
      refine L38 (0) (by omega) (by omega) true ?_
      constructor
      · intro g; first | exact ⟨by omega, by omega, fun j g1 g2 => by omega⟩ | cases g
      · intro g; first | rfl | exact absurd g.1 (by omega) | exact absurd g.2.1 (by omega)
set_option maxRecDepth 100000 in
set_option maxHeartbeats 4000000 in
theorem m_laySquares {w0 w : WD} {sz μ : Nat} {P : MP} {K : MK} {w9 : Int} (hM : MW w0 w μ P K) (hw : 0 ≤ w9 ∧ w9 ≤ 5) : CT iX7_laySquares 0 0 [.ref μ, xI w9] w sz (fun v w' sz' => v = none ∧ sz' = sz ∧ ∃ S, MW w0 w' μ P (K.1, K.2.1, K.2.2.1, K.2.2.2.1, S, K.2.2.2.2.2) ∧ ∀ k, 0 ≤ k → k < 160 → (S k = true ↔ sqA (fun k => K.2.1 k = true) w9 k)) := by
  refine CT.ofZ (by decide) rfl (Nat.le_of_ble_eq_true rfl) (fun Z hE => ?_)
  refine V_iconst dX7_laySquares_0 ?_
  refine V_istore_n dX7_laySquares_1 2 rfl (by decide) ?_
  have L2 : ∀ k : Int, 0 ≤ k → k ≤ 160 → ∀ (w : WD) (S : Int → Bool), MW w0 w μ P (K.1, K.2.1, K.2.2.1, K.2.2.2.1, S, K.2.2.2.2.2) → (∀ j, 0 ≤ j → j < k → (S j = true ↔ sqA (fun k => K.2.1 k = true) w9 j)) → V iX7_laySquares Z 0 0 w sz 2 [some (.ref μ), some (xI w9), some (xI k)] [] := by
    refine up_ind ?_
    intro k hk0 hk1 ih w S hM hS
    refine V_iload_n dX7_laySquares_2 2 rfl rfl ?_
    refine V_sipush dX7_laySquares_3 (by decide) ?_
    refine V_icmp_ge 27 dX7_laySquares_6 (by decide) (by omega) (fun h6 => ?_) (fun h6 => ?_)
    · exact V_vret hE rfl dX7_laySquares_27 ⟨rfl, rfl, S, hM, fun j g1 g2 => hS j g1 (by omega)⟩
    · refine V_aload_n dX7_laySquares_9 0 rfl rfl ?_
      refine M_g_isSquare hM rfl dX7_laySquares_10 ?_
      refine V_iload_n dX7_laySquares_13 2 rfl rfl ?_
      refine V_aload_n dX7_laySquares_14 0 rfl rfl ?_
      refine V_iload_n dX7_laySquares_15 2 rfl rfl ?_
      refine V_iload_n dX7_laySquares_16 1 rfl rfl ?_
      refine V_c_X7_61 rfl (by decide) (m_hasSquare hM (by omega) hw) dX7_laySquares_17 hM.1 rfl rfl (Nat.le_of_ble_eq_true rfl) (Nat.le_of_eq (Nat.zero_add _)) (Nat.le_of_eq (Nat.zero_add _)) (fun v w sz q => ?_)
      try dsimp only at q
      obtain ⟨rfl, rfl, b, rfl, hb⟩ := q
      refine M_s_isSquare hM dX7_laySquares_20 (by first | omega | (dsimp only; omega) | (dsimp only at *; omega)) (fun w hM => ?_)
      try dsimp only at hM
      refine V_iinc dX7_laySquares_21 rfl (by decide) ?_
      refine V_goto 2 dX7_laySquares_24 (by decide) ?_
      refine ih (by omega) _ _ hM (fun j g1 g2 => ?_)
      try dsimp only
      by_cases e : j = k
      · rw [e, iu_s]; exact hb
      · rw [iu_n e]; exact hS j g1 (by omega)
  exact L2 (0) (by omega) (by omega) w K.2.2.2.2.1 hM (fun j g1 g2 => by omega)
set_option maxRecDepth 100000 in
set_option maxHeartbeats 4000000 in
theorem m_liesInAny {w0 w : WD} {sz μ : Nat} {P : MP} {K : MK} {c w9 : Int} (hM : MW w0 w μ P K) (hc : 0 ≤ c ∧ c < 160) (hw : 0 ≤ w9 ∧ w9 ≤ 5) : CT iX7_liesInAny 0 0 [.ref μ, xI c, xI w9] w sz (pR (some (xB (iex (fun j => K.2.2.2.2.1 j && decide (iLies c j w9)) 160))) w sz) := by
  refine CT.ofZ (by decide) rfl (Nat.le_of_ble_eq_true rfl) (fun Z hE => ?_)
  refine V_iconst dX7_liesInAny_0 ?_
  refine V_istore_n dX7_liesInAny_1 3 rfl (by decide) ?_
  refine V_iconst dX7_liesInAny_2 ?_
  refine V_istore dX7_liesInAny_3 (by decide) ?_
  have L5 : ∀ k : Int, 0 ≤ k → k ≤ 160 → V iX7_liesInAny Z 0 0 w sz 5 [some (.ref μ), some (xI c), some (xI w9), some (xB (iex (fun j => K.2.2.2.2.1 j && decide (iLies c j w9)) k)), some (xI k)] [] := by
    refine up_ind ?_
    intro k hk0 hk1 ih
    refine V_iload dX7_liesInAny_5 rfl ?_
    refine V_sipush dX7_liesInAny_7 (by decide) ?_
    refine V_icmp_ge 49 dX7_liesInAny_10 (by decide) (by omega) (fun h10 => ?_) (fun h10 => ?_)
    · refine V_iload_n dX7_liesInAny_49 3 rfl rfl ?_
      exact V_zret hE rfl dX7_liesInAny_50 ⟨by rw [show k = 160 by omega], rfl, rfl⟩
    · refine V_iload_n dX7_liesInAny_13 3 rfl rfl ?_
      refine V_ifneB 37 dX7_liesInAny_14 (by decide) (fun h14 => ?_) (fun h14 => ?_)
      · try simp only [decide_eq_true_eq, decide_eq_false_iff_not, Bool.not_eq_true] at h14
        refine V_iconst dX7_liesInAny_37 ?_
        refine V_goto 42 dX7_liesInAny_38 (by decide) ?_
        refine V_istore_n dX7_liesInAny_42 3 rfl (by decide) ?_
        refine V_iinc dX7_liesInAny_43 rfl (by decide) ?_
        refine V_goto 5 dX7_liesInAny_46 (by decide) ?_
        rw [iex_s hk0, h14] at ih
        (first | rw [Bool.true_or] at ih | (rw [h24, Bool.false_or, Bool.false_and] at ih) | (rw [h24, Bool.false_or, Bool.true_and] at ih; first | rw [decide_eq_true h34] at ih | rw [decide_eq_false h34] at ih))
        exact ih (by omega)
      · try simp only [decide_eq_true_eq, decide_eq_false_iff_not, Bool.not_eq_true] at h14
        refine V_aload_n dX7_liesInAny_17 0 rfl rfl ?_
        refine M_g_isSquare hM rfl dX7_liesInAny_18 ?_
        refine V_iload dX7_liesInAny_21 rfl ?_
        refine M_l_isSquare hM dX7_liesInAny_23 (by first | omega | (dsimp only; omega) | (dsimp only at *; omega)) ?_
        try dsimp only
        refine V_ifeqB 41 dX7_liesInAny_24 (by decide) (fun h24 => ?_) (fun h24 => ?_)
        · try simp only [decide_eq_true_eq, decide_eq_false_iff_not, Bool.not_eq_true] at h24
          refine V_iconst dX7_liesInAny_41 ?_
          refine V_istore_n dX7_liesInAny_42 3 rfl (by decide) ?_
          refine V_iinc dX7_liesInAny_43 rfl (by decide) ?_
          refine V_goto 5 dX7_liesInAny_46 (by decide) ?_
          rw [iex_s hk0, h14] at ih
          (first | rw [Bool.true_or] at ih | (rw [h24, Bool.false_or, Bool.false_and] at ih) | (rw [h24, Bool.false_or, Bool.true_and] at ih; first | rw [decide_eq_true h34] at ih | rw [decide_eq_false h34] at ih))
          exact ih (by omega)
        · try simp only [decide_eq_true_eq, decide_eq_false_iff_not, Bool.not_eq_true] at h24
          refine V_iload_n dX7_liesInAny_27 1 rfl rfl ?_
          refine V_iload dX7_liesInAny_28 rfl ?_
          refine V_iload_n dX7_liesInAny_30 2 rfl rfl ?_
          refine V_c_X7_65 rfl (by decide) (m_liesIn (by omega)) dX7_liesInAny_31 rfl rfl (Nat.le_of_ble_eq_true rfl) (Nat.le_of_eq (Nat.zero_add _)) (Nat.le_of_eq (Nat.zero_add _)) (fun v w sz q => ?_)
          try dsimp only at q
          obtain ⟨rfl, rfl, rfl⟩ := q
          refine V_ifeqB 41 dX7_liesInAny_34 (by decide) (fun h34 => ?_) (fun h34 => ?_)
          · try simp only [decide_eq_true_eq, decide_eq_false_iff_not, Bool.not_eq_true] at h34
            refine V_iconst dX7_liesInAny_41 ?_
            refine V_istore_n dX7_liesInAny_42 3 rfl (by decide) ?_
            refine V_iinc dX7_liesInAny_43 rfl (by decide) ?_
            refine V_goto 5 dX7_liesInAny_46 (by decide) ?_
            rw [iex_s hk0, h14] at ih
            (first | rw [Bool.true_or] at ih | (rw [h24, Bool.false_or, Bool.false_and] at ih) | (rw [h24, Bool.false_or, Bool.true_and] at ih; first | rw [decide_eq_true h34] at ih | rw [decide_eq_false h34] at ih))
            exact ih (by omega)
          · try simp only [decide_eq_true_eq, decide_eq_false_iff_not, Bool.not_eq_true] at h34
            refine V_iconst dX7_liesInAny_37 ?_
            refine V_goto 42 dX7_liesInAny_38 (by decide) ?_
            refine V_istore_n dX7_liesInAny_42 3 rfl (by decide) ?_
            refine V_iinc dX7_liesInAny_43 rfl (by decide) ?_
            refine V_goto 5 dX7_liesInAny_46 (by decide) ?_
            rw [iex_s hk0, h14] at ih
            (first | rw [Bool.true_or] at ih | (rw [h24, Bool.false_or, Bool.false_and] at ih) | (rw [h24, Bool.false_or, Bool.true_and] at ih; first | rw [decide_eq_true h34] at ih | rw [decide_eq_false h34] at ih))
            exact ih (by omega)
  exact L5 (0) (by omega) (by omega)
