/-! the reference: load -/
theorem ld_no {tx : Int → Int} {n k s h : Int} (hr : rdx tx n k s h) (hn : ¬ (k = n ∧ s = 2 ∧ 0 < h)) : ¬ ldOk tx n := by
  rintro ⟨q1, q2, q3⟩
  rcases hr.2.2 with ⟨e1, e2⟩ | ⟨e1, e2⟩
  · rw [e2] at q2 q3
    exact hn ⟨e1, q2, q3⟩
  · rw [ird_f (n := n) (by have := hr.1.1; omega) (by omega) e2] at q1
    cases q1
theorem ld_yes {tx : Int → Int} {n k s h : Int} (hr : rdx tx n k s h) (e1 : k = n) (e2 : s = 2) (e3 : 0 < h) : ldOk tx n := by
  rcases hr.2.2 with ⟨g1, g2⟩ | ⟨g1, g2⟩
  · unfold ldOk
    rw [g2]
    exact ⟨rfl, e2, e3⟩
  · omega
theorem ird_e {tx : Int → Int} {k n : Int} (hk : 0 ≤ k) (hn : k ≤ n) (h : (ird tx n).1 = true) : ∃ s h, ird tx k = (true, s, h) := by
  have := ird_t hk hn h
  rcases e : ird tx k with ⟨a, s, h⟩
  rw [e] at this
  exact ⟨s, h, by rw [show a = true from this]⟩
set_option maxRecDepth 100000 in
set_option maxHeartbeats 4000000 in
theorem m_load {w0 w : WD} {sz μ : Nat} {P : MP} {K : MK} (hM : MW w0 w μ P K) (hv : VZ P.1) (hs : 0 ≤ P.2.1 ∧ P.2.1 ≤ 6) (ht : VT P) : CT iX7_load 0 0 [.ref μ] w sz (fun o9 w' sz' => sz' = sz ∧ ∃ r t P', o9 = some (xI r) ∧ MD w0 w' μ t P' ∧ ldR P t r P') := by
  have hl0 := ht.1
  refine CT.ofZ (by decide) rfl (Nat.le_of_ble_eq_true rfl) (fun Z hE => ?_)
  refine V_aload_n dX7_load_0 0 rfl rfl ?_
  refine V_c_X7_139 rfl (by decide) (m_readText hM ht) dX7_load_1 hM.1 rfl rfl (Nat.le_of_ble_eq_true rfl) (Nat.le_of_eq (Nat.zero_add _)) (Nat.le_of_eq (Nat.zero_add _)) (fun v w sz q => ?_)
  try dsimp only at q
  obtain ⟨rfl, k0, s0, h0, rfl, hM, hrd⟩ := q
  have hrb := hrd.1
  have hsb : k0 = P.2.2.2.1 → (0 ≤ s0 ∧ s0 ≤ 2) ∧ 0 ≤ h0 ∧ h0 ≤ 16 := fun e => by
    rcases hrd.2.2 with ⟨_, g⟩ | ⟨g, _⟩
    · exact ird_b g
    · omega
  refine V_aload_n dX7_load_4 0 rfl rfl ?_
  refine M_g_length hM rfl dX7_load_5 ?_
  try dsimp only
  refine V_icmp_ne 30 dX7_load_8 (by decide) (by first | omega | (have gsb := hsb (by omega); omega)) (fun h8 => ?_) (fun h8 => ?_)
  · refine V_iconst dX7_load_30 ?_
    refine V_istore_n dX7_load_31 1 rfl (by decide) ?_
    refine V_aload_n dX7_load_32 0 rfl rfl ?_
    refine V_iload_n dX7_load_33 1 rfl rfl ?_
    refine V_if_eq 41 dX7_load_34 (by decide) (by first | omega | (have gsb := hsb (by omega); omega)) (fun h34 => ?_) (fun h34 => ?_)
    · refine V_iconst dX7_load_41 ?_
      refine M_p_thrown hM rfl dX7_load_42 (fun w hM => ?_)
      try dsimp only at hM
      refine V_aload_n dX7_load_45 0 rfl rfl ?_
      refine M_g_thrown hM rfl dX7_load_46 ?_
      try dsimp only
      refine V_if_le 54 dX7_load_49 (by decide) (by first | omega | (have gsb := hsb (by omega); omega)) (fun h49 => ?_) (fun h49 => ?_)
      · exact absurd h49 (by simp)
      · refine V_iconst dX7_load_52 ?_
        exact V_iret hE rfl dX7_load_53 ⟨rfl, 0, 1, _, rfl, ⟨_, hM, rfl⟩, Or.inl ⟨ld_no hrd (by omega), rfl, rfl⟩⟩
    · exact absurd h34 (by simp)
  · refine V_aload_n dX7_load_11 0 rfl rfl ?_
    refine M_g_step hM rfl dX7_load_12 ?_
    try dsimp only
    refine V_iconst dX7_load_15 ?_
    refine V_icmp_ne 30 dX7_load_16 (by decide) (by first | omega | (have gsb := hsb (by omega); omega)) (fun h16 => ?_) (fun h16 => ?_)
    · refine V_iconst dX7_load_30 ?_
      refine V_istore_n dX7_load_31 1 rfl (by decide) ?_
      refine V_aload_n dX7_load_32 0 rfl rfl ?_
      refine V_iload_n dX7_load_33 1 rfl rfl ?_
      refine V_if_eq 41 dX7_load_34 (by decide) (by first | omega | (have gsb := hsb (by omega); omega)) (fun h34 => ?_) (fun h34 => ?_)
      · refine V_iconst dX7_load_41 ?_
        refine M_p_thrown hM rfl dX7_load_42 (fun w hM => ?_)
        try dsimp only at hM
        refine V_aload_n dX7_load_45 0 rfl rfl ?_
        refine M_g_thrown hM rfl dX7_load_46 ?_
        try dsimp only
        refine V_if_le 54 dX7_load_49 (by decide) (by first | omega | (have gsb := hsb (by omega); omega)) (fun h49 => ?_) (fun h49 => ?_)
        · exact absurd h49 (by simp)
        · refine V_iconst dX7_load_52 ?_
          exact V_iret hE rfl dX7_load_53 ⟨rfl, 0, 1, _, rfl, ⟨_, hM, rfl⟩, Or.inl ⟨ld_no hrd (by omega), rfl, rfl⟩⟩
      · exact absurd h34 (by simp)
    · refine V_aload_n dX7_load_19 0 rfl rfl ?_
      refine M_g_shades hM rfl dX7_load_20 ?_
      try dsimp only
      refine V_if_le 30 dX7_load_23 (by decide) (by first | omega | (have gsb := hsb (by omega); omega)) (fun h23 => ?_) (fun h23 => ?_)
      · refine V_iconst dX7_load_30 ?_
        refine V_istore_n dX7_load_31 1 rfl (by decide) ?_
        refine V_aload_n dX7_load_32 0 rfl rfl ?_
        refine V_iload_n dX7_load_33 1 rfl rfl ?_
        refine V_if_eq 41 dX7_load_34 (by decide) (by first | omega | (have gsb := hsb (by omega); omega)) (fun h34 => ?_) (fun h34 => ?_)
        · refine V_iconst dX7_load_41 ?_
          refine M_p_thrown hM rfl dX7_load_42 (fun w hM => ?_)
          try dsimp only at hM
          refine V_aload_n dX7_load_45 0 rfl rfl ?_
          refine M_g_thrown hM rfl dX7_load_46 ?_
          try dsimp only
          refine V_if_le 54 dX7_load_49 (by decide) (by first | omega | (have gsb := hsb (by omega); omega)) (fun h49 => ?_) (fun h49 => ?_)
          · exact absurd h49 (by simp)
          · refine V_iconst dX7_load_52 ?_
            exact V_iret hE rfl dX7_load_53 ⟨rfl, 0, 1, _, rfl, ⟨_, hM, rfl⟩, Or.inl ⟨ld_no hrd (by omega), rfl, rfl⟩⟩
        · exact absurd h34 (by simp)
      · refine V_iconst dX7_load_26 ?_
        refine V_goto 31 dX7_load_27 (by decide) ?_
        refine V_istore_n dX7_load_31 1 rfl (by decide) ?_
        refine V_aload_n dX7_load_32 0 rfl rfl ?_
        refine V_iload_n dX7_load_33 1 rfl rfl ?_
        refine V_if_eq 41 dX7_load_34 (by decide) (by first | omega | (have gsb := hsb (by omega); omega)) (fun h34 => ?_) (fun h34 => ?_)
        · exact absurd h34 (by simp)
        · refine V_iconst dX7_load_37 ?_
          refine V_goto 42 dX7_load_38 (by decide) ?_
          refine M_p_thrown hM rfl dX7_load_42 (fun w hM => ?_)
          try dsimp only at hM
          refine V_aload_n dX7_load_45 0 rfl rfl ?_
          refine M_g_thrown hM rfl dX7_load_46 ?_
          try dsimp only
          refine V_if_le 54 dX7_load_49 (by decide) (by first | omega | (have gsb := hsb (by omega); omega)) (fun h49 => ?_) (fun h49 => ?_)
          · refine V_aload_n dX7_load_54 0 rfl rfl ?_
            refine V_c_X7_98 rfl (by decide) (m_save hM hs) dX7_load_55 hM.1 rfl rfl (Nat.le_of_ble_eq_true rfl) (Nat.le_of_eq (Nat.zero_add _)) (Nat.le_of_eq (Nat.zero_add _)) (fun v w sz q => ?_)
            try dsimp only at q
            obtain ⟨rfl, rfl, S, hM, hS⟩ := q
            rw [show (if P.2.1 = 6 then 6 else P.2.1 + 1) = isv P.2.1 + 1 by unfold isv; omega] at hM
            have hi9 : 0 ≤ isv P.2.1 ∧ isv P.2.1 ≤ 5 := by unfold isv; omega
            have hok : ldOk P.2.2.2.2 P.2.2.2.1 := ld_yes hrd (by omega) (by omega) (by omega)
            refine V_iconst dX7_load_58 ?_
            refine V_istore_n dX7_load_59 2 rfl (by decide) ?_
            refine V_iconst dX7_load_60 ?_
            refine V_istore_n dX7_load_61 3 rfl (by decide) ?_
            refine V_iconst dX7_load_62 ?_
            refine V_istore dX7_load_63 (by decide) ?_
            have L65 : ∀ k : Int, 0 ≤ k → k ≤ P.2.2.2.1 → ∀ (w : WD) (r9 d9 : Int) (f : Int → Int), MW w0 w μ (f, isv P.2.1 + 1, S, P.2.2.2) (0, K.2.1, K.2.2.1, K.2.2.2.1, K.2.2.2.2.1, K.2.2.2.2.2.1, K.2.2.2.2.2.2.1, K.2.2.2.2.2.2.2.1, s0, h0, K.2.2.2.2.2.2.2.2.2.2) → ild P.1 P.2.2.2.2 k = (r9, d9, f) → V iX7_load Z 0 0 w sz 65 [some (.ref μ), none, some (xI r9), some (xI d9), some (xI k), none] [] := by
              refine up_ind ?_
              intro k hk0 hk1 ih w r9 d9 f hM hld
              obtain ⟨s1, h1, hi1⟩ := ird_e hk0 hk1 hok.1
              have li := ild_inv hv.1 hk0 hi1 hld
              have hb9 := ird_b hi1
              obtain ⟨lf, lr, l3⟩ := li
              have htk : k < P.2.2.2.1 → 33 ≤ P.2.2.2.2 k ∧ P.2.2.2.2 k ≤ 126 := fun h => ht.2 k hk0 h
              have htp : 0 < k → 33 ≤ P.2.2.2.2 (k - 1) ∧ P.2.2.2.2 (k - 1) ≤ 126 := fun h => ht.2 (k - 1) (by omega) (by omega)
              have h16 : k < P.2.2.2.1 → s1 = 2 → dig (P.2.2.2.2 k) → h1 < 16 := fun g1 g2 g3 => by
                have q := ird_t (k := k + 1) (by omega) (by omega) hok.1
                rw [ird_s hk0 hi1] at q
                exact itk_h q g2 g3
              refine V_iload dX7_load_65 rfl ?_
              refine V_aload_n dX7_load_67 0 rfl rfl ?_
              refine M_g_length hM rfl dX7_load_68 ?_
              try dsimp only
              refine V_icmp_ge 157 dX7_load_71 (by decide) (by first | omega | (have gsb := hsb (by omega); omega)) (fun h71 => ?_) (fun h71 => ?_)
              · have hz2 : ∀ k, 0 ≤ k → k < 160 → 0 ≤ f k ∧ f k ≤ 99 := lf
                have kn : k = P.2.2.2.1 := by omega
                rw [kn] at hld
                refine V_aload_n dX7_load_157 0 rfl rfl ?_
                refine V_iconst dX7_load_158 ?_
                refine M_p_length hM rfl dX7_load_159 (fun w hM => ?_)
                try dsimp only at hM
                refine V_aload_n dX7_load_162 0 rfl rfl ?_
                have hq : CT iX7_altered 0 0 [.ref μ] w sz _ := m_altered hM (by dsimp only; omega) (fun k h1 h2 => by
                  dsimp only
                  rw [show isv P.2.1 + 1 - 1 = isv P.2.1 by omega, hS.1 k h1 (by omega)]
                  exact ⟨hz2 k h1 h2, hv.1 k h1 h2⟩)
                refine V_c_X7_101 rfl (by decide) (hq) dX7_load_163 hM.1 rfl rfl (Nat.le_of_ble_eq_true rfl) (Nat.le_of_eq (Nat.zero_add _)) (Nat.le_of_eq (Nat.zero_add _)) (fun v w sz q => ?_)
                try dsimp only at q
                obtain ⟨rfl, rfl, rfl⟩ := q
                exact V_iret hE rfl dX7_load_166 ⟨rfl, _, 0, _, rfl, ⟨_, hM, rfl⟩, Or.inr ⟨hok, rfl, rfl, hS, rfl, by dsimp only; rw [hld], alt_eq hS⟩⟩
              · refine V_aload_n dX7_load_74 0 rfl rfl ?_
                refine M_g_text hM rfl dX7_load_75 ?_
                refine V_iload dX7_load_78 rfl ?_
                refine M_l_text hM dX7_load_80 (by first | omega | (dsimp only; omega) | (dsimp only at *; omega)) ?_
                try dsimp only
                refine V_istore dX7_load_81 (by decide) ?_
                refine V_iload dX7_load_83 rfl ?_
                refine V_if_eq 102 dX7_load_85 (by decide) (by first | omega | (have gsb := hsb (by omega); omega)) (fun h85 => ?_) (fun h85 => ?_)
                · refine V_iload dX7_load_102 rfl ?_
                  refine V_bipush dX7_load_104 (by decide) ?_
                  refine V_isub dX7_load_106 ?_
                  refine V_istore_n dX7_load_107 2 rfl (by decide) ?_
                  refine V_iconst dX7_load_108 ?_
                  refine V_istore_n dX7_load_109 3 rfl (by decide) ?_
                  refine V_goto 151 dX7_load_110 (by decide) ?_
                  refine V_iinc dX7_load_151 rfl (by decide) ?_
                  refine V_goto 65 dX7_load_154 (by decide) ?_
                  refine V_fg [true, false, true, true, true, false] ?_
                  have e9 := ild_s hk0 hld
                  refine ih (by omega) _ _ _ _ hM (e9.trans ?_)
                  first | (rw [if_pos (by omega)]; done) | (rw [if_neg (by omega), if_pos (by omega)]; done) | (rw [if_neg (by omega), if_neg (by omega)]; done)
                · refine V_aload_n dX7_load_88 0 rfl rfl ?_
                  refine M_g_text hM rfl dX7_load_89 ?_
                  refine V_iload dX7_load_92 rfl ?_
                  refine V_iconst dX7_load_94 ?_
                  refine V_isub dX7_load_95 ?_
                  refine M_l_text hM dX7_load_96 (by first | omega | (dsimp only; omega) | (dsimp only at *; omega)) ?_
                  try dsimp only
                  refine V_bipush dX7_load_97 (by decide) ?_
                  refine V_icmp_ne 113 dX7_load_99 (by decide) (by first | omega | (have gsb := hsb (by omega); omega)) (fun h99 => ?_) (fun h99 => ?_)
                  · refine V_iload_n dX7_load_113 3 rfl rfl ?_
                    refine V_if_lt 148 dX7_load_114 (by decide) (by first | omega | (have gsb := hsb (by omega); omega)) (fun h114 => ?_) (fun h114 => ?_)
                    · refine V_iinc dX7_load_148 rfl (by decide) ?_
                      refine V_iinc dX7_load_151 rfl (by decide) ?_
                      refine V_goto 65 dX7_load_154 (by decide) ?_
                      refine V_fg [true, false, true, true, true, false] ?_
                      have e9 := ild_s hk0 hld
                      refine ih (by omega) _ _ _ _ hM (e9.trans ?_)
                      first | (rw [if_pos (by omega)]; done) | (rw [if_neg (by omega), if_pos (by omega)]; done) | (rw [if_neg (by omega), if_neg (by omega)]; done)
                    · refine V_iload dX7_load_117 rfl ?_
                      refine V_bipush dX7_load_119 (by decide) ?_
                      refine V_bipush dX7_load_121 (by decide) ?_
                      refine V_c_X7_42 rfl (by decide) (m_within (by omega)) dX7_load_123 rfl rfl (Nat.le_of_ble_eq_true rfl) (Nat.le_of_eq (Nat.zero_add _)) (Nat.le_of_eq (Nat.zero_add _)) (fun v w sz q => ?_)
                      try dsimp only at q
                      obtain ⟨rfl, rfl, rfl⟩ := q
                      refine V_ifeqB 148 dX7_load_126 (by decide) (fun h126 => ?_) (fun h126 => ?_)
                      · try simp only [decide_eq_true_eq, decide_eq_false_iff_not, Bool.not_eq_true] at h126
                        refine V_iinc dX7_load_148 rfl (by decide) ?_
                        refine V_iinc dX7_load_151 rfl (by decide) ?_
                        refine V_goto 65 dX7_load_154 (by decide) ?_
                        refine V_fg [true, false, true, true, true, false] ?_
                        have e9 := ild_s hk0 hld
                        refine ih (by omega) _ _ _ _ hM (e9.trans ?_)
                        first | (rw [if_pos (by omega)]; done) | (rw [if_neg (by omega), if_pos (by omega)]; done) | (rw [if_neg (by omega), if_neg (by omega)]; done)
                      · try simp only [decide_eq_true_eq, decide_eq_false_iff_not, Bool.not_eq_true] at h126
                        refine V_aload_n dX7_load_129 0 rfl rfl ?_
                        refine M_g_z hM rfl dX7_load_130 ?_
                        refine V_bipush dX7_load_133 (by decide) ?_
                        refine V_iload_n dX7_load_135 2 rfl rfl ?_
                        refine V_imul dX7_load_136 ?_
                        refine V_iload_n dX7_load_137 3 rfl rfl ?_
                        refine V_iadd dX7_load_138 ?_
                        refine V_bipush dX7_load_139 (by decide) ?_
                        refine V_iload dX7_load_141 rfl ?_
                        refine V_bipush dX7_load_143 (by decide) ?_
                        refine V_isub dX7_load_145 ?_
                        refine V_imul dX7_load_146 ?_
                        refine M_s_z hM dX7_load_147 (by first | omega | (dsimp only; omega) | (dsimp only at *; omega)) (fun w hM => ?_)
                        try dsimp only at hM
                        refine V_iinc dX7_load_148 rfl (by decide) ?_
                        refine V_iinc dX7_load_151 rfl (by decide) ?_
                        refine V_goto 65 dX7_load_154 (by decide) ?_
                        refine V_fg [true, false, true, true, true, false] ?_
                        have e9 := ild_s hk0 hld
                        refine ih (by omega) _ _ _ _ hM (e9.trans ?_)
                        first | (rw [if_pos (by omega)]; done) | (rw [if_neg (by omega), if_pos (by omega)]; done) | (rw [if_neg (by omega), if_neg (by omega)]; done)
                  · refine V_iload dX7_load_102 rfl ?_
                    refine V_bipush dX7_load_104 (by decide) ?_
                    refine V_isub dX7_load_106 ?_
                    refine V_istore_n dX7_load_107 2 rfl (by decide) ?_
                    refine V_iconst dX7_load_108 ?_
                    refine V_istore_n dX7_load_109 3 rfl (by decide) ?_
                    refine V_goto 151 dX7_load_110 (by decide) ?_
                    refine V_iinc dX7_load_151 rfl (by decide) ?_
                    refine V_goto 65 dX7_load_154 (by decide) ?_
                    refine V_fg [true, false, true, true, true, false] ?_
                    have e9 := ild_s hk0 hld
                    refine ih (by omega) _ _ _ _ hM (e9.trans ?_)
                    first | (rw [if_pos (by omega)]; done) | (rw [if_neg (by omega), if_pos (by omega)]; done) | (rw [if_neg (by omega), if_neg (by omega)]; done)
            refine V_fg [true, false, true, true, true, false] ?_
            exact L65 (0) (by omega) (by omega) w 0 0 P.1 hM rfl
          · exact absurd h49 (by simp)
