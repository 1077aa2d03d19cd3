/-! the reference: texts -/
set_option maxRecDepth 100000 in
set_option maxHeartbeats 4000000 in
theorem m_append {w0 w : WD} {sz μ : Nat} {P : MP} {K : MK} {c : Int} (hM : MW w0 w μ P K) (ht : VT P) (r : -2147483648 ≤ c ∧ c < 2147483648) : CT iX7_append 0 0 [.ref μ, xI c] w sz (fun o9 w' sz' => sz' = sz ∧ ∃ r t P', o9 = some (xI r) ∧ MD w0 w' μ t P' ∧ appR P c t r P') := by
  have hl9 := ht.1
  refine CT.ofZ (by decide) rfl (Nat.le_of_ble_eq_true rfl) (fun Z hE => ?_)
  refine V_aload_n dX7_append_0 0 rfl rfl ?_
  refine V_iload_n dX7_append_1 1 rfl rfl ?_
  refine V_bipush dX7_append_2 (by decide) ?_
  refine V_bipush dX7_append_4 (by decide) ?_
  refine V_c_X7_42 rfl (by decide) (m_within (by omega)) dX7_append_6 rfl rfl (Nat.le_of_ble_eq_true rfl) (Nat.le_of_eq (Nat.zero_add _)) (Nat.le_of_eq (Nat.zero_add _)) (fun v w sz q => ?_)
  try dsimp only at q
  obtain ⟨rfl, rfl, rfl⟩ := q
  refine V_ifneB 16 dX7_append_9 (by decide) (fun h9 => ?_) (fun h9 => ?_)
  · try simp only [decide_eq_true_eq, decide_eq_false_iff_not, Bool.not_eq_true] at h9
    refine V_aload_n dX7_append_16 0 rfl rfl ?_
    refine M_g_length hM rfl dX7_append_17 ?_
    try dsimp only
    refine V_bipush dX7_append_20 (by decide) ?_
    refine V_icmp_ne 29 dX7_append_22 (by decide) (by omega) (fun h22 => ?_) (fun h22 => ?_)
    · refine V_iconst dX7_append_29 ?_
      refine M_p_thrown hM rfl dX7_append_30 (fun w hM => ?_)
      try dsimp only at hM
      refine V_aload_n dX7_append_33 0 rfl rfl ?_
      refine M_g_thrown hM rfl dX7_append_34 ?_
      try dsimp only
      refine V_if_le 42 dX7_append_37 (by decide) (by omega) (fun h37 => ?_) (fun h37 => ?_)
      · refine V_aload_n dX7_append_42 0 rfl rfl ?_
        refine M_g_text hM rfl dX7_append_43 ?_
        refine V_aload_n dX7_append_46 0 rfl rfl ?_
        refine M_g_length hM rfl dX7_append_47 ?_
        try dsimp only
        refine V_iload_n dX7_append_50 1 rfl rfl ?_
        refine M_s_text hM dX7_append_51 (by first | omega | (dsimp only; omega) | (dsimp only at *; omega)) (fun w hM => ?_)
        try dsimp only at hM
        refine V_aload_n dX7_append_52 0 rfl rfl ?_
        refine V_dup dX7_append_53 rfl ?_
        refine M_g_length hM rfl dX7_append_54 ?_
        try dsimp only
        refine V_iconst dX7_append_57 ?_
        refine V_iadd dX7_append_58 ?_
        refine M_p_length hM rfl dX7_append_59 (fun w hM => ?_)
        try dsimp only at hM
        refine V_aload_n dX7_append_62 0 rfl rfl ?_
        refine M_g_length hM rfl dX7_append_63 ?_
        try dsimp only
        exact V_iret hE rfl dX7_append_66 ⟨rfl, _, 0, _, rfl, ⟨_, hM, rfl⟩, Or.inr (Or.inr ⟨by omega, by omega, rfl, rfl, rfl⟩)⟩
      · exact absurd h37 (by simp)
    · refine V_iconst dX7_append_25 ?_
      refine V_goto 30 dX7_append_26 (by decide) ?_
      refine M_p_thrown hM rfl dX7_append_30 (fun w hM => ?_)
      try dsimp only at hM
      refine V_aload_n dX7_append_33 0 rfl rfl ?_
      refine M_g_thrown hM rfl dX7_append_34 ?_
      try dsimp only
      refine V_if_le 42 dX7_append_37 (by decide) (by omega) (fun h37 => ?_) (fun h37 => ?_)
      · exact absurd h37 (by simp)
      · refine V_iconst dX7_append_40 ?_
        exact V_iret hE rfl dX7_append_41 ⟨rfl, 0, 2, _, rfl, ⟨_, hM, rfl⟩, Or.inr (Or.inl ⟨by omega, by omega, rfl, rfl⟩)⟩
  · try simp only [decide_eq_true_eq, decide_eq_false_iff_not, Bool.not_eq_true] at h9
    refine V_iconst dX7_append_12 ?_
    refine V_goto 30 dX7_append_13 (by decide) ?_
    refine M_p_thrown hM rfl dX7_append_30 (fun w hM => ?_)
    try dsimp only at hM
    refine V_aload_n dX7_append_33 0 rfl rfl ?_
    refine M_g_thrown hM rfl dX7_append_34 ?_
    try dsimp only
    refine V_if_le 42 dX7_append_37 (by decide) (by omega) (fun h37 => ?_) (fun h37 => ?_)
    · exact absurd h37 (by simp)
    · refine V_iconst dX7_append_40 ?_
      exact V_iret hE rfl dX7_append_41 ⟨rfl, 0, 1, _, rfl, ⟨_, hM, rfl⟩, Or.inl ⟨by omega, rfl, rfl⟩⟩
set_option maxRecDepth 100000 in
set_option maxHeartbeats 4000000 in
theorem m_clearBuffer {w0 w : WD} {sz μ : Nat} {P : MP} {K : MK} (hM : MW w0 w μ P K) : CT iX7_clearBuffer 0 0 [.ref μ] w sz (fun o9 w' sz' => sz' = sz ∧ ∃ r t P', o9 = some (xI r) ∧ MD w0 w' μ t P' ∧ clbR P t r P') := by
  refine CT.ofZ (by decide) rfl (Nat.le_of_ble_eq_true rfl) (fun Z hE => ?_)
  refine V_aload_n dX7_clearBuffer_0 0 rfl rfl ?_
  refine V_iconst dX7_clearBuffer_1 ?_
  refine M_p_thrown hM rfl dX7_clearBuffer_2 (fun w hM => ?_)
  try dsimp only at hM
  refine V_aload_n dX7_clearBuffer_5 0 rfl rfl ?_
  refine M_g_length hM rfl dX7_clearBuffer_6 ?_
  try dsimp only
  refine V_istore_n dX7_clearBuffer_9 1 rfl (by decide) ?_
  refine V_aload_n dX7_clearBuffer_10 0 rfl rfl ?_
  refine V_iconst dX7_clearBuffer_11 ?_
  refine M_p_length hM rfl dX7_clearBuffer_12 (fun w hM => ?_)
  try dsimp only at hM
  refine V_iload_n dX7_clearBuffer_15 1 rfl rfl ?_
  exact V_iret hE rfl dX7_clearBuffer_16 ⟨rfl, _, 0, _, rfl, ⟨_, hM, rfl⟩, rfl, rfl, rfl⟩
theorem tk_post {w0 w' : WD} {sz μ : Nat} {P : MP} {K : MK} {c s' h' : Int} {b : Bool} (E : itk K.2.2.2.2.2.2.2.2.1 K.2.2.2.2.2.2.2.2.2.1 c = (b, s', h')) (hM : MW w0 w' μ P (K.1, K.2.1, K.2.2.1, K.2.2.2.1, K.2.2.2.2.1, K.2.2.2.2.2.1, K.2.2.2.2.2.2.1, K.2.2.2.2.2.2.2.1, s', h', K.2.2.2.2.2.2.2.2.2.2)) : sz = sz ∧ some (xB b) = some (xB (itk K.2.2.2.2.2.2.2.2.1 K.2.2.2.2.2.2.2.2.2.1 c).1) ∧ MW w0 w' μ P (K.1, K.2.1, K.2.2.1, K.2.2.2.1, K.2.2.2.2.1, K.2.2.2.2.2.1, K.2.2.2.2.2.2.1, K.2.2.2.2.2.2.2.1, (itk K.2.2.2.2.2.2.2.2.1 K.2.2.2.2.2.2.2.2.2.1 c).2.1, (itk K.2.2.2.2.2.2.2.2.1 K.2.2.2.2.2.2.2.2.2.1 c).2.2, K.2.2.2.2.2.2.2.2.2.2) := by
  rw [E]
  exact ⟨rfl, rfl, hM⟩
set_option maxRecDepth 100000 in
set_option maxHeartbeats 4000000 in
theorem m_takes {w0 w : WD} {sz μ : Nat} {P : MP} {K : MK} {c : Int} (hM : MW w0 w μ P K) (hc : 33 ≤ c ∧ c ≤ 126) (h1 : 0 ≤ K.2.2.2.2.2.2.2.2.1 ∧ K.2.2.2.2.2.2.2.2.1 ≤ 2) (h2 : 0 ≤ K.2.2.2.2.2.2.2.2.2.1 ∧ K.2.2.2.2.2.2.2.2.2.1 ≤ 16) : CT iX7_takes 0 0 [.ref μ, xI c] w sz (fun o9 w' sz' => sz' = sz ∧ o9 = some (xB (itk K.2.2.2.2.2.2.2.2.1 K.2.2.2.2.2.2.2.2.2.1 c).1) ∧ MW w0 w' μ P (K.1, K.2.1, K.2.2.1, K.2.2.2.1, K.2.2.2.2.1, K.2.2.2.2.2.1, K.2.2.2.2.2.2.1, K.2.2.2.2.2.2.2.1, (itk K.2.2.2.2.2.2.2.2.1 K.2.2.2.2.2.2.2.2.2.1 c).2.1, (itk K.2.2.2.2.2.2.2.2.1 K.2.2.2.2.2.2.2.2.2.1 c).2.2, K.2.2.2.2.2.2.2.2.2.2)) := by
  refine CT.ofZ (by decide) rfl (Nat.le_of_ble_eq_true rfl) (fun Z hE => ?_)
  refine V_iload_n dX7_takes_0 1 rfl rfl ?_
  refine V_bipush dX7_takes_1 (by decide) ?_
  refine V_bipush dX7_takes_3 (by decide) ?_
  refine V_c_X7_42 rfl (by decide) (m_within (by omega)) dX7_takes_5 rfl rfl (Nat.le_of_ble_eq_true rfl) (Nat.le_of_eq (Nat.zero_add _)) (Nat.le_of_eq (Nat.zero_add _)) (fun v w sz q => ?_)
  try dsimp only at q
  obtain ⟨rfl, rfl, rfl⟩ := q
  refine V_istore_n dX7_takes_8 2 rfl (by decide) ?_
  refine V_aload_n dX7_takes_9 0 rfl rfl ?_
  refine M_g_step hM rfl dX7_takes_10 ?_
  try dsimp only
  refine V_iconst dX7_takes_13 ?_
  refine V_icmp_ge 65 dX7_takes_14 (by decide) (by omega) (fun h14 => ?_) (fun h14 => ?_)
  · refine V_iload_n dX7_takes_65 1 rfl rfl ?_
    refine V_bipush dX7_takes_66 (by decide) ?_
    refine V_icmp_ne 85 dX7_takes_68 (by decide) (by omega) (fun h68 => ?_) (fun h68 => ?_)
    · refine V_iload_n dX7_takes_85 2 rfl rfl ?_
      refine V_ifneB 95 dX7_takes_86 (by decide) (fun h86 => ?_) (fun h86 => ?_)
      · try simp only [decide_eq_true_eq, decide_eq_false_iff_not, Bool.not_eq_true] at h86
        refine V_aload_n dX7_takes_95 0 rfl rfl ?_
        refine M_g_shades hM rfl dX7_takes_96 ?_
        try dsimp only
        refine V_bipush dX7_takes_99 (by decide) ?_
        refine V_icmp_ge 108 dX7_takes_101 (by decide) (by omega) (fun h101 => ?_) (fun h101 => ?_)
        · refine V_iconst dX7_takes_108 ?_
          refine V_istore_n dX7_takes_109 3 rfl (by decide) ?_
          refine V_aload_n dX7_takes_110 0 rfl rfl ?_
          refine V_dup dX7_takes_111 rfl ?_
          refine M_g_shades hM rfl dX7_takes_112 ?_
          try dsimp only
          refine V_iload_n dX7_takes_115 3 rfl rfl ?_
          refine V_if_eq 123 dX7_takes_116 (by decide) (by omega) (fun h116 => ?_) (fun h116 => ?_)
          · refine V_iconst dX7_takes_123 ?_
            refine V_iadd dX7_takes_124 ?_
            refine M_p_shades hM rfl dX7_takes_125 (fun w hM => ?_)
            try dsimp only at hM
            refine V_iload_n dX7_takes_128 3 rfl rfl ?_
            exact V_zret (b := false) hE rfl dX7_takes_129 (tk_post (by unfold itk; rw [if_neg (by omega), if_neg (by omega), if_neg (by omega), Int.add_zero]) hM)
          · exact absurd h116 (by simp)
        · refine V_iconst dX7_takes_104 ?_
          refine V_goto 109 dX7_takes_105 (by decide) ?_
          refine V_istore_n dX7_takes_109 3 rfl (by decide) ?_
          refine V_aload_n dX7_takes_110 0 rfl rfl ?_
          refine V_dup dX7_takes_111 rfl ?_
          refine M_g_shades hM rfl dX7_takes_112 ?_
          try dsimp only
          refine V_iload_n dX7_takes_115 3 rfl rfl ?_
          refine V_if_eq 123 dX7_takes_116 (by decide) (by omega) (fun h116 => ?_) (fun h116 => ?_)
          · exact absurd h116 (by simp)
          · refine V_iconst dX7_takes_119 ?_
            refine V_goto 124 dX7_takes_120 (by decide) ?_
            refine V_iadd dX7_takes_124 ?_
            refine M_p_shades hM rfl dX7_takes_125 (fun w hM => ?_)
            try dsimp only at hM
            refine V_iload_n dX7_takes_128 3 rfl rfl ?_
            exact V_zret (b := true) hE rfl dX7_takes_129 (tk_post (by unfold itk; rw [if_neg (by omega), if_neg (by omega), if_pos (by omega)]) hM)
      · try simp only [decide_eq_true_eq, decide_eq_false_iff_not, Bool.not_eq_true] at h86
        refine V_iload_n dX7_takes_89 1 rfl rfl ?_
        refine V_bipush dX7_takes_90 (by decide) ?_
        refine V_icmp_ne 108 dX7_takes_92 (by decide) (by omega) (fun h92 => ?_) (fun h92 => ?_)
        · refine V_iconst dX7_takes_108 ?_
          refine V_istore_n dX7_takes_109 3 rfl (by decide) ?_
          refine V_aload_n dX7_takes_110 0 rfl rfl ?_
          refine V_dup dX7_takes_111 rfl ?_
          refine M_g_shades hM rfl dX7_takes_112 ?_
          try dsimp only
          refine V_iload_n dX7_takes_115 3 rfl rfl ?_
          refine V_if_eq 123 dX7_takes_116 (by decide) (by omega) (fun h116 => ?_) (fun h116 => ?_)
          · refine V_iconst dX7_takes_123 ?_
            refine V_iadd dX7_takes_124 ?_
            refine M_p_shades hM rfl dX7_takes_125 (fun w hM => ?_)
            try dsimp only at hM
            refine V_iload_n dX7_takes_128 3 rfl rfl ?_
            exact V_zret (b := false) hE rfl dX7_takes_129 (tk_post (by unfold itk; rw [if_neg (by omega), if_neg (by omega), if_neg (by omega), Int.add_zero]) hM)
          · exact absurd h116 (by simp)
        · refine V_aload_n dX7_takes_95 0 rfl rfl ?_
          refine M_g_shades hM rfl dX7_takes_96 ?_
          try dsimp only
          refine V_bipush dX7_takes_99 (by decide) ?_
          refine V_icmp_ge 108 dX7_takes_101 (by decide) (by omega) (fun h101 => ?_) (fun h101 => ?_)
          · refine V_iconst dX7_takes_108 ?_
            refine V_istore_n dX7_takes_109 3 rfl (by decide) ?_
            refine V_aload_n dX7_takes_110 0 rfl rfl ?_
            refine V_dup dX7_takes_111 rfl ?_
            refine M_g_shades hM rfl dX7_takes_112 ?_
            try dsimp only
            refine V_iload_n dX7_takes_115 3 rfl rfl ?_
            refine V_if_eq 123 dX7_takes_116 (by decide) (by omega) (fun h116 => ?_) (fun h116 => ?_)
            · refine V_iconst dX7_takes_123 ?_
              refine V_iadd dX7_takes_124 ?_
              refine M_p_shades hM rfl dX7_takes_125 (fun w hM => ?_)
              try dsimp only at hM
              refine V_iload_n dX7_takes_128 3 rfl rfl ?_
              exact V_zret (b := false) hE rfl dX7_takes_129 (tk_post (by unfold itk; rw [if_neg (by omega), if_neg (by omega), if_neg (by omega), Int.add_zero]) hM)
            · exact absurd h116 (by simp)
          · refine V_iconst dX7_takes_104 ?_
            refine V_goto 109 dX7_takes_105 (by decide) ?_
            refine V_istore_n dX7_takes_109 3 rfl (by decide) ?_
            refine V_aload_n dX7_takes_110 0 rfl rfl ?_
            refine V_dup dX7_takes_111 rfl ?_
            refine M_g_shades hM rfl dX7_takes_112 ?_
            try dsimp only
            refine V_iload_n dX7_takes_115 3 rfl rfl ?_
            refine V_if_eq 123 dX7_takes_116 (by decide) (by omega) (fun h116 => ?_) (fun h116 => ?_)
            · exact absurd h116 (by simp)
            · refine V_iconst dX7_takes_119 ?_
              refine V_goto 124 dX7_takes_120 (by decide) ?_
              refine V_iadd dX7_takes_124 ?_
              refine M_p_shades hM rfl dX7_takes_125 (fun w hM => ?_)
              try dsimp only at hM
              refine V_iload_n dX7_takes_128 3 rfl rfl ?_
              exact V_zret (b := true) hE rfl dX7_takes_129 (tk_post (by unfold itk; rw [if_neg (by omega), if_neg (by omega), if_pos (by omega)]) hM)
    · refine V_aload_n dX7_takes_71 0 rfl rfl ?_
      refine M_g_shades hM rfl dX7_takes_72 ?_
      try dsimp only
      refine V_if_le 85 dX7_takes_75 (by decide) (by omega) (fun h75 => ?_) (fun h75 => ?_)
      · refine V_iload_n dX7_takes_85 2 rfl rfl ?_
        refine V_ifneB 95 dX7_takes_86 (by decide) (fun h86 => ?_) (fun h86 => ?_)
        · try simp only [decide_eq_true_eq, decide_eq_false_iff_not, Bool.not_eq_true] at h86
          refine V_aload_n dX7_takes_95 0 rfl rfl ?_
          refine M_g_shades hM rfl dX7_takes_96 ?_
          try dsimp only
          refine V_bipush dX7_takes_99 (by decide) ?_
          refine V_icmp_ge 108 dX7_takes_101 (by decide) (by omega) (fun h101 => ?_) (fun h101 => ?_)
          · refine V_iconst dX7_takes_108 ?_
            refine V_istore_n dX7_takes_109 3 rfl (by decide) ?_
            refine V_aload_n dX7_takes_110 0 rfl rfl ?_
            refine V_dup dX7_takes_111 rfl ?_
            refine M_g_shades hM rfl dX7_takes_112 ?_
            try dsimp only
            refine V_iload_n dX7_takes_115 3 rfl rfl ?_
            refine V_if_eq 123 dX7_takes_116 (by decide) (by omega) (fun h116 => ?_) (fun h116 => ?_)
            · refine V_iconst dX7_takes_123 ?_
              refine V_iadd dX7_takes_124 ?_
              refine M_p_shades hM rfl dX7_takes_125 (fun w hM => ?_)
              try dsimp only at hM
              refine V_iload_n dX7_takes_128 3 rfl rfl ?_
              exact V_zret (b := false) hE rfl dX7_takes_129 (tk_post (by unfold itk; rw [if_neg (by omega), if_neg (by omega), if_neg (by omega), Int.add_zero]) hM)
            · exact absurd h116 (by simp)
          · refine V_iconst dX7_takes_104 ?_
            refine V_goto 109 dX7_takes_105 (by decide) ?_
            refine V_istore_n dX7_takes_109 3 rfl (by decide) ?_
            refine V_aload_n dX7_takes_110 0 rfl rfl ?_
            refine V_dup dX7_takes_111 rfl ?_
            refine M_g_shades hM rfl dX7_takes_112 ?_
            try dsimp only
            refine V_iload_n dX7_takes_115 3 rfl rfl ?_
            refine V_if_eq 123 dX7_takes_116 (by decide) (by omega) (fun h116 => ?_) (fun h116 => ?_)
            · exact absurd h116 (by simp)
            · refine V_iconst dX7_takes_119 ?_
              refine V_goto 124 dX7_takes_120 (by decide) ?_
              refine V_iadd dX7_takes_124 ?_
              refine M_p_shades hM rfl dX7_takes_125 (fun w hM => ?_)
              try dsimp only at hM
              refine V_iload_n dX7_takes_128 3 rfl rfl ?_
              exact V_zret (b := true) hE rfl dX7_takes_129 (tk_post (by unfold itk; rw [if_neg (by omega), if_neg (by omega), if_pos (by omega)]) hM)
        · try simp only [decide_eq_true_eq, decide_eq_false_iff_not, Bool.not_eq_true] at h86
          refine V_iload_n dX7_takes_89 1 rfl rfl ?_
          refine V_bipush dX7_takes_90 (by decide) ?_
          refine V_icmp_ne 108 dX7_takes_92 (by decide) (by omega) (fun h92 => ?_) (fun h92 => ?_)
          · refine V_iconst dX7_takes_108 ?_
            refine V_istore_n dX7_takes_109 3 rfl (by decide) ?_
            refine V_aload_n dX7_takes_110 0 rfl rfl ?_
            refine V_dup dX7_takes_111 rfl ?_
            refine M_g_shades hM rfl dX7_takes_112 ?_
            try dsimp only
            refine V_iload_n dX7_takes_115 3 rfl rfl ?_
            refine V_if_eq 123 dX7_takes_116 (by decide) (by omega) (fun h116 => ?_) (fun h116 => ?_)
            · refine V_iconst dX7_takes_123 ?_
              refine V_iadd dX7_takes_124 ?_
              refine M_p_shades hM rfl dX7_takes_125 (fun w hM => ?_)
              try dsimp only at hM
              refine V_iload_n dX7_takes_128 3 rfl rfl ?_
              exact V_zret (b := false) hE rfl dX7_takes_129 (tk_post (by unfold itk; rw [if_neg (by omega), if_neg (by omega), if_neg (by omega), Int.add_zero]) hM)
            · exact absurd h116 (by simp)
          · refine V_aload_n dX7_takes_95 0 rfl rfl ?_
            refine M_g_shades hM rfl dX7_takes_96 ?_
            try dsimp only
            refine V_bipush dX7_takes_99 (by decide) ?_
            refine V_icmp_ge 108 dX7_takes_101 (by decide) (by omega) (fun h101 => ?_) (fun h101 => ?_)
            · refine V_iconst dX7_takes_108 ?_
              refine V_istore_n dX7_takes_109 3 rfl (by decide) ?_
              refine V_aload_n dX7_takes_110 0 rfl rfl ?_
              refine V_dup dX7_takes_111 rfl ?_
              refine M_g_shades hM rfl dX7_takes_112 ?_
              try dsimp only
              refine V_iload_n dX7_takes_115 3 rfl rfl ?_
              refine V_if_eq 123 dX7_takes_116 (by decide) (by omega) (fun h116 => ?_) (fun h116 => ?_)
              · refine V_iconst dX7_takes_123 ?_
                refine V_iadd dX7_takes_124 ?_
                refine M_p_shades hM rfl dX7_takes_125 (fun w hM => ?_)
                try dsimp only at hM
                refine V_iload_n dX7_takes_128 3 rfl rfl ?_
                exact V_zret (b := false) hE rfl dX7_takes_129 (tk_post (by unfold itk; rw [if_neg (by omega), if_neg (by omega), if_neg (by omega), Int.add_zero]) hM)
              · exact absurd h116 (by simp)
            · refine V_iconst dX7_takes_104 ?_
              refine V_goto 109 dX7_takes_105 (by decide) ?_
              refine V_istore_n dX7_takes_109 3 rfl (by decide) ?_
              refine V_aload_n dX7_takes_110 0 rfl rfl ?_
              refine V_dup dX7_takes_111 rfl ?_
              refine M_g_shades hM rfl dX7_takes_112 ?_
              try dsimp only
              refine V_iload_n dX7_takes_115 3 rfl rfl ?_
              refine V_if_eq 123 dX7_takes_116 (by decide) (by omega) (fun h116 => ?_) (fun h116 => ?_)
              · exact absurd h116 (by simp)
              · refine V_iconst dX7_takes_119 ?_
                refine V_goto 124 dX7_takes_120 (by decide) ?_
                refine V_iadd dX7_takes_124 ?_
                refine M_p_shades hM rfl dX7_takes_125 (fun w hM => ?_)
                try dsimp only at hM
                refine V_iload_n dX7_takes_128 3 rfl rfl ?_
                exact V_zret (b := true) hE rfl dX7_takes_129 (tk_post (by unfold itk; rw [if_neg (by omega), if_neg (by omega), if_pos (by omega)]) hM)
      · refine V_aload_n dX7_takes_78 0 rfl rfl ?_
        refine V_iconst dX7_takes_79 ?_
        refine M_p_step hM rfl dX7_takes_80 (fun w hM => ?_)
        try dsimp only at hM
        refine V_iconst dX7_takes_83 ?_
        exact V_zret (b := true) hE rfl dX7_takes_84 (tk_post (by unfold itk; rw [if_neg (by omega), if_pos (by omega)]) hM)
  · refine V_aload_n dX7_takes_17 0 rfl rfl ?_
    refine M_g_step hM rfl dX7_takes_18 ?_
    try dsimp only
    refine V_if_ne 28 dX7_takes_21 (by decide) (by omega) (fun h21 => ?_) (fun h21 => ?_)
    · refine V_iload_n dX7_takes_28 1 rfl rfl ?_
      refine V_bipush dX7_takes_29 (by decide) ?_
      refine V_icmp_ne 38 dX7_takes_31 (by decide) (by omega) (fun h31 => ?_) (fun h31 => ?_)
      · refine V_iconst dX7_takes_38 ?_
        refine V_istore_n dX7_takes_39 3 rfl (by decide) ?_
        refine V_aload_n dX7_takes_40 0 rfl rfl ?_
        refine V_dup dX7_takes_41 rfl ?_
        refine M_g_step hM rfl dX7_takes_42 ?_
        try dsimp only
        refine V_iload_n dX7_takes_45 3 rfl rfl ?_
        refine V_if_eq 53 dX7_takes_46 (by decide) (by omega) (fun h46 => ?_) (fun h46 => ?_)
        · refine V_iconst dX7_takes_53 ?_
          refine V_iadd dX7_takes_54 ?_
          refine M_p_step hM rfl dX7_takes_55 (fun w hM => ?_)
          try dsimp only at hM
          refine V_aload_n dX7_takes_58 0 rfl rfl ?_
          refine V_iconst dX7_takes_59 ?_
          refine M_p_shades hM rfl dX7_takes_60 (fun w hM => ?_)
          try dsimp only at hM
          refine V_iload_n dX7_takes_63 3 rfl rfl ?_
          exact V_zret (b := false) hE rfl dX7_takes_64 (tk_post (by unfold itk; rw [if_pos (by omega), if_neg (by omega), Int.add_zero]) hM)
        · exact absurd h46 (by simp)
      · refine V_iconst dX7_takes_34 ?_
        refine V_goto 39 dX7_takes_35 (by decide) ?_
        refine V_istore_n dX7_takes_39 3 rfl (by decide) ?_
        refine V_aload_n dX7_takes_40 0 rfl rfl ?_
        refine V_dup dX7_takes_41 rfl ?_
        refine M_g_step hM rfl dX7_takes_42 ?_
        try dsimp only
        refine V_iload_n dX7_takes_45 3 rfl rfl ?_
        refine V_if_eq 53 dX7_takes_46 (by decide) (by omega) (fun h46 => ?_) (fun h46 => ?_)
        · exact absurd h46 (by simp)
        · refine V_iconst dX7_takes_49 ?_
          refine V_goto 54 dX7_takes_50 (by decide) ?_
          refine V_iadd dX7_takes_54 ?_
          refine M_p_step hM rfl dX7_takes_55 (fun w hM => ?_)
          try dsimp only at hM
          refine V_aload_n dX7_takes_58 0 rfl rfl ?_
          refine V_iconst dX7_takes_59 ?_
          refine M_p_shades hM rfl dX7_takes_60 (fun w hM => ?_)
          try dsimp only at hM
          refine V_iload_n dX7_takes_63 3 rfl rfl ?_
          exact V_zret (b := true) hE rfl dX7_takes_64 (tk_post (by unfold itk; rw [if_pos (by omega), if_pos (by omega)]) hM)
    · refine V_iload_n dX7_takes_24 2 rfl rfl ?_
      refine V_goto 39 dX7_takes_25 (by decide) ?_
      refine V_istore_n dX7_takes_39 3 rfl (by decide) ?_
      refine V_aload_n dX7_takes_40 0 rfl rfl ?_
      refine V_dup dX7_takes_41 rfl ?_
      refine M_g_step hM rfl dX7_takes_42 ?_
      try dsimp only
      refine V_iload_n dX7_takes_45 3 rfl rfl ?_
      refine V_ifeqB 53 dX7_takes_46 (by decide) (fun h46 => ?_) (fun h46 => ?_)
      · try simp only [decide_eq_true_eq, decide_eq_false_iff_not, Bool.not_eq_true] at h46
        refine V_iconst dX7_takes_53 ?_
        refine V_iadd dX7_takes_54 ?_
        refine M_p_step hM rfl dX7_takes_55 (fun w hM => ?_)
        try dsimp only at hM
        refine V_aload_n dX7_takes_58 0 rfl rfl ?_
        refine V_iconst dX7_takes_59 ?_
        refine M_p_shades hM rfl dX7_takes_60 (fun w hM => ?_)
        try dsimp only at hM
        refine V_iload_n dX7_takes_63 3 rfl rfl ?_
        exact V_zret hE rfl dX7_takes_64 (tk_post (by unfold itk; rw [if_pos (by omega), if_neg (by omega), Int.add_zero, decide_eq_false (by omega)]) hM)
      · try simp only [decide_eq_true_eq, decide_eq_false_iff_not, Bool.not_eq_true] at h46
        refine V_iconst dX7_takes_49 ?_
        refine V_goto 54 dX7_takes_50 (by decide) ?_
        refine V_iadd dX7_takes_54 ?_
        refine M_p_step hM rfl dX7_takes_55 (fun w hM => ?_)
        try dsimp only at hM
        refine V_aload_n dX7_takes_58 0 rfl rfl ?_
        refine V_iconst dX7_takes_59 ?_
        refine M_p_shades hM rfl dX7_takes_60 (fun w hM => ?_)
        try dsimp only at hM
        refine V_iload_n dX7_takes_63 3 rfl rfl ?_
        exact V_zret hE rfl dX7_takes_64 (tk_post (by unfold itk; rw [if_pos (by omega), if_pos (by omega), decide_eq_true (by omega)]) hM)
set_option maxRecDepth 100000 in
set_option maxHeartbeats 4000000 in
theorem m_readText {w0 w : WD} {sz μ : Nat} {P : MP} {K : MK} (hM : MW w0 w μ P K) (ht : VT P) : CT iX7_readText 0 0 [.ref μ] w sz (fun o9 w' sz' => sz' = sz ∧ ∃ k s h, o9 = some (xI k) ∧ MW w0 w' μ P (K.1, K.2.1, K.2.2.1, K.2.2.2.1, K.2.2.2.2.1, K.2.2.2.2.2.1, K.2.2.2.2.2.2.1, K.2.2.2.2.2.2.2.1, s, h, K.2.2.2.2.2.2.2.2.2.2) ∧ rdx P.2.2.2.2 P.2.2.2.1 k s h) := by
  have hl0 := ht.1
  refine CT.ofZ (by decide) rfl (Nat.le_of_ble_eq_true rfl) (fun Z hE => ?_)
  refine V_aload_n dX7_readText_0 0 rfl rfl ?_
  refine V_iconst dX7_readText_1 ?_
  refine M_p_step hM rfl dX7_readText_2 (fun w hM => ?_)
  try dsimp only at hM
  refine V_aload_n dX7_readText_5 0 rfl rfl ?_
  refine V_iconst dX7_readText_6 ?_
  refine M_p_shades hM rfl dX7_readText_7 (fun w hM => ?_)
  try dsimp only at hM
  refine V_iconst dX7_readText_10 ?_
  refine V_istore_n dX7_readText_11 1 rfl (by decide) ?_
  have L12 : ∀ k : Int, 0 ≤ k → k ≤ P.2.2.2.1 → ∀ (w : WD) (s h : Int), MW w0 w μ P (K.1, K.2.1, K.2.2.1, K.2.2.2.1, K.2.2.2.2.1, K.2.2.2.2.2.1, K.2.2.2.2.2.2.1, K.2.2.2.2.2.2.2.1, s, h, K.2.2.2.2.2.2.2.2.2.2) → ird P.2.2.2.2 k = (true, s, h) → V iX7_readText Z 0 0 w sz 12 [some (.ref μ), some (xI k)] [] := by
    refine up_ind ?_
    intro k hk0 hk1 ih w s h hM hrd
    have hb9 := ird_b hrd
    have hl9 := ht.1
    refine V_iload_n dX7_readText_12 1 rfl rfl ?_
    refine V_aload_n dX7_readText_13 0 rfl rfl ?_
    refine M_g_length hM rfl dX7_readText_14 ?_
    try dsimp only
    refine V_icmp_ge 39 dX7_readText_17 (by decide) (by omega) (fun h17 => ?_) (fun h17 => ?_)
    · refine V_iload_n dX7_readText_39 1 rfl rfl ?_
      exact V_iret hE rfl dX7_readText_40 ⟨rfl, k, s, h, rfl, hM, ⟨hk0, hk1⟩, by rw [hrd], Or.inl ⟨by omega, by rw [show P.2.2.2.1 = k by omega]; exact hrd⟩⟩
    · refine V_aload_n dX7_readText_20 0 rfl rfl ?_
      refine V_aload_n dX7_readText_21 0 rfl rfl ?_
      refine M_g_text hM rfl dX7_readText_22 ?_
      refine V_iload_n dX7_readText_25 1 rfl rfl ?_
      refine M_l_text hM dX7_readText_26 (by first | omega | (dsimp only; omega) | (dsimp only at *; omega)) ?_
      try dsimp only
      refine V_c_X7_136 rfl (by decide) (m_takes hM (ht.2 k hk0 (by omega)) hb9.1 hb9.2) dX7_readText_27 hM.1 rfl rfl (Nat.le_of_ble_eq_true rfl) (Nat.le_of_eq (Nat.zero_add _)) (Nat.le_of_eq (Nat.zero_add _)) (fun v w sz q => ?_)
      try dsimp only at q
      obtain ⟨rfl, rfl, hM⟩ := q
      refine V_ifeqB 39 dX7_readText_30 (by decide) (fun h30 => ?_) (fun h30 => ?_)
      · try simp only [decide_eq_true_eq, decide_eq_false_iff_not, Bool.not_eq_true] at h30
        refine V_iload_n dX7_readText_39 1 rfl rfl ?_
        exact V_iret hE rfl dX7_readText_40 ⟨rfl, k, _, _, rfl, hM, ⟨hk0, hk1⟩, by rw [hrd], Or.inr ⟨by omega, by rw [ird_s hk0 hrd]; exact h30⟩⟩
      · try simp only [decide_eq_true_eq, decide_eq_false_iff_not, Bool.not_eq_true] at h30
        refine V_iinc dX7_readText_33 rfl (by decide) ?_
        refine V_goto 12 dX7_readText_36 (by decide) ?_
        have e9 := ird_s hk0 hrd
        refine ih (by omega) _ _ _ hM (by rw [e9, ← h30])
  exact L12 (0) (by omega) (by omega) w 0 0 hM rfl
set_option maxRecDepth 100000 in
set_option maxHeartbeats 4000000 in
theorem m_firstError {w0 w : WD} {sz μ : Nat} {P : MP} {K : MK} (hM : MW w0 w μ P K) (ht : VT P) : CT iX7_firstError 0 0 [.ref μ] w sz (fun o9 w' sz' => sz' = sz ∧ ∃ r t P', o9 = some (xI r) ∧ MD w0 w' μ t P' ∧ errR P t r P') := by
  refine CT.ofZ (by decide) rfl (Nat.le_of_ble_eq_true rfl) (fun Z hE => ?_)
  refine V_aload_n dX7_firstError_0 0 rfl rfl ?_
  refine V_iconst dX7_firstError_1 ?_
  refine M_p_thrown hM rfl dX7_firstError_2 (fun w hM => ?_)
  try dsimp only at hM
  refine V_aload_n dX7_firstError_5 0 rfl rfl ?_
  refine V_c_X7_139 rfl (by decide) (m_readText hM ht) dX7_firstError_6 hM.1 rfl rfl (Nat.le_of_ble_eq_true rfl) (Nat.le_of_eq (Nat.zero_add _)) (Nat.le_of_eq (Nat.zero_add _)) (fun v w sz q => ?_)
  try dsimp only at q
  obtain ⟨rfl, k, s, h, rfl, hM, hrd⟩ := q
  exact V_iret hE rfl dX7_firstError_9 ⟨rfl, _, 0, _, rfl, ⟨_, hM, rfl⟩, rfl, rfl, _, _, hrd⟩
