/-! the class: picks and states are read -/
/-- the places of what never changes -/
abbrev imm (χ j : Nat) : Prop := (χ + 1 ≤ j ∧ j ≤ χ + 3) ∨ χ + 44 ≤ j
/-- a pick stands there with these numbers -/
def PK (w : WD) (χ i : Nat) (r : Int → Int) : Prop := ∃ (d v : Nat) (c : Int) (f : Int → Int), (imm χ i ∧ imm χ d ∧ imm χ v) ∧ w i = some (xOb 3 [.ref d, xI (r 5), xI (r 7)]) ∧ w d = some (xOb 1 [xI c, xI (r 2), xI (r 3), xI (r 4), xI (r 6), xI (r 8), .ref v]) ∧ w v = some (xIA 160 f) ∧ (0 ≤ c ∧ c < 160) ∧ r 0 = c % 16 ∧ r 1 = c / 16 ∧ ∀ k, 0 ≤ k → k < 160 → f k = r (9 + k)
theorem PK.mv {w w' : WD} {χ i : Nat} {r : Int → Int} (h : PK w χ i r) (e : ∀ j, imm χ j → w j ≠ none → w' j = w j) : PK w' χ i r := by
  obtain ⟨d, v, c, f, ⟨h1, h2, h3⟩, h4, h5, h6, h7⟩ := h
  exact ⟨d, v, c, f, ⟨h1, h2, h3⟩, (e _ h1 (by rw [h4]; exact fun q => by cases q)).trans h4, (e _ h2 (by rw [h5]; exact fun q => by cases q)).trans h5, (e _ h3 (by rw [h6]; exact fun q => by cases q)).trans h6, h7⟩
theorem PK.c {w : WD} {χ i : Nat} {r r' : Int → Int} (h : PK w χ i r) (e : ∀ k, 0 ≤ k → k < 169 → r' k = r k) : PK w χ i r' := by
  obtain ⟨d, v, c, f, h1, h4, h5, h6, h7, h8, h9, h10⟩ := h
  refine ⟨d, v, c, f, h1, ?_, ?_, h6, h7, (e 0 (by omega) (by omega)).trans h8, (e 1 (by omega) (by omega)).trans h9, fun k k0 k1 => (h10 k k0 k1).trans (e _ (by omega) (by omega)).symm⟩
  · rw [e 5 (by omega) (by omega), e 7 (by omega) (by omega)]; exact h4
  · rw [e 2 (by omega) (by omega), e 3 (by omega) (by omega), e 4 (by omega) (by omega), e 6 (by omega) (by omega), e 8 (by omega) (by omega)]; exact h5
theorem PK.ob {w : WD} {χ i : Nat} {r : Int → Int} (h : PK w χ i r) : imm χ i ∧ ∃ fs, w i = some (xOb 3 fs) := by
  obtain ⟨d, v, c, f, h1, h4, -⟩ := h
  exact ⟨h1.1, _, h4⟩
set_option maxRecDepth 100000 in
set_option maxHeartbeats 4000000 in
theorem c_over {w : WD} {sz χ i : Nat} {r : Int → Int} (hP : PK w χ i r) (hlv : ∀ k, 0 ≤ k → k < 160 → 0 ≤ r (9 + k) ∧ r (9 + k) ≤ 100) {c m kd : Int} (hkd : r 5 = kd) (hk : 0 ≤ kd ∧ kd ≤ 3) (hc : 0 ≤ c ∧ c < 160) (hm : 0 ≤ m ∧ m ≤ 100) : CT iX3_over 0 0 [.ref i, xI m, xI c] w sz (pR (some (xI (imst kd (r (9 + c)) m))) w sz) := by
  refine CT.ofZ (by decide) rfl (Nat.le_of_ble_eq_true rfl) (fun Z hE => ?_)
  obtain ⟨d9, v9, c9, f9, -, hi9, hd9, hv9, hc9, hr0, hr1, hf9⟩ := hP
  refine V_aload_n dX3_over_0 0 rfl rfl ?_
  refine V_g_X3_9 rfl dX3_over_1 hi9 rfl ?_
  refine V_g_X3_23 rfl dX3_over_4 hd9 rfl ?_
  refine V_iload_n dX3_over_7 2 rfl rfl ?_
  refine V_iald dX3_over_8 hv9 hc ?_
  rw [hf9 c hc.1 hc.2]
  have hl9 := hlv c hc.1 hc.2
  refine V_istore_n dX3_over_9 3 rfl (by decide) ?_
  refine V_aload_n dX3_over_10 0 rfl rfl ?_
  refine V_g_X3_15 rfl dX3_over_11 hi9 rfl ?_
  rw [hkd]
  refine V_tab dX3_over_14 (by omega) 57 (fun h14 => ⟨by decide, ?_⟩) (fun h14a h14b => ?_)
  · refine V_iload_n dX3_over_57 1 rfl rfl ?_
    refine V_iload_n dX3_over_58 3 rfl rfl ?_
    refine V_c_X3_35 rfl (by decide) (Nat.le_of_ble_eq_true rfl) dX3_over_59 (by omega) ?_
    exact V_iret hE rfl dX3_over_62 ⟨bE (by unfold imst; omega), rfl, rfl⟩
  · rcases (show kd = 0 ∨ kd = 1 ∨ kd = 2 by omega) with rfl | rfl | rfl
    · refine ⟨26, 40, rfl, by decide, ?_⟩
      refine V_iload_n dX3_over_40 3 rfl rfl ?_
      exact V_iret hE rfl dX3_over_41 ⟨bE (by unfold imst; omega), rfl, rfl⟩
    · refine ⟨28, 42, rfl, by decide, ?_⟩
      refine V_iload_n dX3_over_42 1 rfl rfl ?_
      refine V_iload_n dX3_over_43 3 rfl rfl ?_
      refine V_c_X3_29 rfl (by decide) (Nat.le_of_ble_eq_true rfl) dX3_over_44 (by omega) ?_
      exact V_iret hE rfl dX3_over_47 ⟨bE (by unfold imst; omega), rfl, rfl⟩
    · refine ⟨34, 48, rfl, by decide, ?_⟩
      refine V_iload_n dX3_over_48 1 rfl rfl ?_
      refine V_bipush dX3_over_49 (by decide) ?_
      refine V_iload_n dX3_over_51 3 rfl rfl ?_
      refine V_isub dX3_over_52 ?_
      refine V_c_X3_35 rfl (by decide) (Nat.le_of_ble_eq_true rfl) dX3_over_53 (by omega) ?_
      exact V_iret hE rfl dX3_over_56 ⟨bE (by unfold imst; omega), rfl, rfl⟩
set_option maxRecDepth 100000 in
set_option maxHeartbeats 4000000 in
theorem c_property {w : WD} {sz χ i : Nat} {r : Int → Int} (hP : PK w χ i r) (hlv : ∀ k, 0 ≤ k → k < 160 → 0 ≤ r (9 + k) ∧ r (9 + k) ≤ 100) {z : Int → Int} {p a : Int} (hr : ∀ k, 0 ≤ k → k < 169 → r k = z (161 + 169 * p + k)) (h7 : 0 ≤ r 7 ∧ r 7 ≤ 1) (ha : 0 ≤ a ∧ a ≤ 11) : CT iX3_property 0 0 [.ref i, xI a] w sz (pR (some (xI (ipic z p a))) w sz) := by
  refine CT.ofZ (by decide) rfl (Nat.le_of_ble_eq_true rfl) (fun Z hE => ?_)
  obtain ⟨d9, v9, c9, f9, -, hi9, hd9, hv9, hc9, hr0, hr1, hf9⟩ := hP
  refine V_iload_n dX3_property_0 1 rfl rfl ?_
  refine V_tab dX3_property_1 (by omega) 165 (fun h1 => ⟨by decide, ?_⟩) (fun h1a h1b => ?_)
  · refine V_aload_n dX3_property_165 0 rfl rfl ?_
    refine V_g_X3_9 rfl dX3_property_166 hi9 rfl ?_
    refine V_g_X3_23 rfl dX3_property_169 hd9 rfl ?_
    refine V_c_X3_60 rfl (by decide) (c_sum hv9) dX3_property_172 rfl rfl (Nat.le_of_ble_eq_true rfl) (Nat.le_of_eq (Nat.zero_add _)) (Nat.le_of_eq (Nat.zero_add _)) (fun v w sz q => ?_)
    obtain ⟨rfl, rfl, rfl⟩ := q
    exact V_iret hE rfl dX3_property_175 ⟨bE (by unfold ipic; rw [if_neg (by omega)]; exact isum_c (fun j j0 j1 => by rw [hf9 j j0 j1, hr (9 + j) (by omega) (by omega)]; rw [if_pos (by omega)])), rfl, rfl⟩
  · rcases (show a = 0 ∨ a = 1 ∨ a = 2 ∨ a = 3 ∨ a = 4 ∨ a = 5 ∨ a = 6 ∨ a = 7 ∨ a = 8 ∨ a = 9 ∨ a = 10 by omega) with rfl | rfl | rfl | rfl | rfl | rfl | rfl | rfl | rfl | rfl | rfl
    · refine ⟨59, 60, rfl, by decide, ?_⟩
      refine V_aload_n dX3_property_60 0 rfl rfl ?_
      refine V_g_X3_9 rfl dX3_property_61 hi9 rfl ?_
      refine V_g_X3_38 rfl dX3_property_64 hd9 rfl ?_
      refine V_bipush dX3_property_67 (by decide) ?_
      refine V_iremN dX3_property_69 (by omega) ?_
      exact V_iret hE rfl dX3_property_70 ⟨bE (by unfold ipic; rw [if_pos (by omega), ← hr 0 (by omega) (by omega)]; exact hr0.symm), rfl, rfl⟩
    · refine ⟨70, 71, rfl, by decide, ?_⟩
      refine V_aload_n dX3_property_71 0 rfl rfl ?_
      refine V_g_X3_9 rfl dX3_property_72 hi9 rfl ?_
      refine V_g_X3_38 rfl dX3_property_75 hd9 rfl ?_
      refine V_bipush dX3_property_78 (by decide) ?_
      refine V_idivN dX3_property_80 (by omega) ?_
      exact V_iret hE rfl dX3_property_81 ⟨bE (by unfold ipic; rw [if_pos (by omega), ← hr 1 (by omega) (by omega)]; exact hr1.symm), rfl, rfl⟩
    · refine ⟨81, 82, rfl, by decide, ?_⟩
      refine V_aload_n dX3_property_82 0 rfl rfl ?_
      refine V_g_X3_9 rfl dX3_property_83 hi9 rfl ?_
      refine V_g_X3_41 rfl dX3_property_86 hd9 rfl ?_
      exact V_iret hE rfl dX3_property_89 ⟨bE (by unfold ipic; rw [if_pos (by omega), ← hr 2 (by omega) (by omega)]), rfl, rfl⟩
    · refine ⟨89, 90, rfl, by decide, ?_⟩
      refine V_aload_n dX3_property_90 0 rfl rfl ?_
      refine V_g_X3_9 rfl dX3_property_91 hi9 rfl ?_
      refine V_g_X3_44 rfl dX3_property_94 hd9 rfl ?_
      exact V_iret hE rfl dX3_property_97 ⟨bE (by unfold ipic; rw [if_pos (by omega), ← hr 3 (by omega) (by omega)]), rfl, rfl⟩
    · refine ⟨97, 98, rfl, by decide, ?_⟩
      refine V_aload_n dX3_property_98 0 rfl rfl ?_
      refine V_g_X3_9 rfl dX3_property_99 hi9 rfl ?_
      refine V_g_X3_47 rfl dX3_property_102 hd9 rfl ?_
      exact V_iret hE rfl dX3_property_105 ⟨bE (by unfold ipic; rw [if_pos (by omega), ← hr 4 (by omega) (by omega)]), rfl, rfl⟩
    · refine ⟨105, 106, rfl, by decide, ?_⟩
      refine V_aload_n dX3_property_106 0 rfl rfl ?_
      refine V_g_X3_15 rfl dX3_property_107 hi9 rfl ?_
      exact V_iret hE rfl dX3_property_110 ⟨bE (by unfold ipic; rw [if_pos (by omega), ← hr 5 (by omega) (by omega)]), rfl, rfl⟩
    · refine ⟨110, 111, rfl, by decide, ?_⟩
      refine V_aload_n dX3_property_111 0 rfl rfl ?_
      refine V_g_X3_9 rfl dX3_property_112 hi9 rfl ?_
      refine V_g_X3_50 rfl dX3_property_115 hd9 rfl ?_
      exact V_iret hE rfl dX3_property_118 ⟨bE (by unfold ipic; rw [if_pos (by omega), ← hr 6 (by omega) (by omega)]), rfl, rfl⟩
    · refine ⟨118, 119, rfl, by decide, ?_⟩
      refine V_aload_n dX3_property_119 0 rfl rfl ?_
      refine V_g_X3_19 rfl dX3_property_120 hi9 rfl ?_
      refine V_if_eq 130 dX3_property_123 (by decide) (by omega) (fun h123 => ?_) (fun h123 => ?_)
      · try simp only [decide_eq_true_eq, decide_eq_false_iff_not, Bool.not_eq_true] at h123
        refine V_iconst dX3_property_130 ?_
        exact V_iret hE rfl dX3_property_131 ⟨bE (by unfold ipic; rw [if_pos (by omega), ← hr 7 (by omega) (by omega)]; omega), rfl, rfl⟩
      · try simp only [decide_eq_true_eq, decide_eq_false_iff_not, Bool.not_eq_true] at h123
        refine V_iconst dX3_property_126 ?_
        refine V_goto 131 dX3_property_127 (by decide) ?_
        exact V_iret hE rfl dX3_property_131 ⟨bE (by unfold ipic; rw [if_pos (by omega), ← hr 7 (by omega) (by omega)]; omega), rfl, rfl⟩
    · refine ⟨131, 132, rfl, by decide, ?_⟩
      refine V_aload_n dX3_property_132 0 rfl rfl ?_
      refine V_g_X3_9 rfl dX3_property_133 hi9 rfl ?_
      refine V_g_X3_53 rfl dX3_property_136 hd9 rfl ?_
      exact V_iret hE rfl dX3_property_139 ⟨bE (by unfold ipic; rw [if_pos (by omega), ← hr 8 (by omega) (by omega)]), rfl, rfl⟩
    · refine ⟨139, 140, rfl, by decide, ?_⟩
      refine V_aload_n dX3_property_140 0 rfl rfl ?_
      refine V_g_X3_9 rfl dX3_property_141 hi9 rfl ?_
      refine V_g_X3_23 rfl dX3_property_144 hd9 rfl ?_
      refine V_bipush dX3_property_147 (by decide) ?_
      refine V_c_X3_56 rfl (by decide) (c_atLeast hv9 (by omega) (fun k g1 g2 => by rw [hf9 k g1 g2]; exact hlv k g1 g2)) dX3_property_149 rfl rfl (Nat.le_of_ble_eq_true rfl) (Nat.le_of_eq (Nat.zero_add _)) (Nat.le_of_eq (Nat.zero_add _)) (fun v w sz q => ?_)
      obtain ⟨rfl, rfl, rfl⟩ := q
      exact V_iret hE rfl dX3_property_152 ⟨bE (by unfold ipic; rw [if_neg (by omega)]; exact isum_c (fun j j0 j1 => by rw [hf9 j j0 j1, hr (9 + j) (by omega) (by omega)]; omega)), rfl, rfl⟩
    · refine ⟨152, 153, rfl, by decide, ?_⟩
      refine V_aload_n dX3_property_153 0 rfl rfl ?_
      refine V_g_X3_9 rfl dX3_property_154 hi9 rfl ?_
      refine V_g_X3_23 rfl dX3_property_157 hd9 rfl ?_
      refine V_iconst dX3_property_160 ?_
      refine V_c_X3_56 rfl (by decide) (c_atLeast hv9 (by omega) (fun k g1 g2 => by rw [hf9 k g1 g2]; exact hlv k g1 g2)) dX3_property_161 rfl rfl (Nat.le_of_ble_eq_true rfl) (Nat.le_of_eq (Nat.zero_add _)) (Nat.le_of_eq (Nat.zero_add _)) (fun v w sz q => ?_)
      obtain ⟨rfl, rfl, rfl⟩ := q
      exact V_iret hE rfl dX3_property_164 ⟨bE (by unfold ipic; rw [if_neg (by omega)]; exact isum_c (fun j j0 j1 => by rw [hf9 j j0 j1, hr (9 + j) (by omega) (by omega)]; omega)), rfl, rfl⟩
/-- a state's rows stand for these numbers -/
def SR (w : WD) (χ : Nat) (T : ST) (z : Int → Int) : Prop := (∀ k, 0 ≤ k → k < 160 → T.1 k = z k) ∧ T.2.2 = z 160 ∧ ∀ p : Int, 0 ≤ p → p < 12 → ∃ i r, T.2.1 p.toNat = some i ∧ PK w χ i r ∧ (p < z 160 → ∀ k, 0 ≤ k → k < 169 → r k = z (161 + 169 * p + k))
theorem SR.mv {w w' : WD} {χ : Nat} {T : ST} {z : Int → Int} (h : SR w χ T z) (e : ∀ j, imm χ j → w j ≠ none → w' j = w j) : SR w' χ T z := ⟨h.1, h.2.1, fun p p0 p1 => by
  obtain ⟨i, r, h1, h2, h3⟩ := h.2.2 p p0 p1
  exact ⟨i, r, h1, h2.mv e, h3⟩⟩
theorem SR.c {w : WD} {χ : Nat} {T : ST} {z z' : Int → Int} (h : SR w χ T z) (e : ∀ k, 0 ≤ k → k < 2189 → z' k = z k) : SR w χ T z' := by
  have e160 := e 160 (by omega) (by omega)
  refine ⟨fun k k0 k1 => (h.1 k k0 k1).trans (e k k0 (by omega)).symm, h.2.1.trans e160.symm, fun p p0 p1 => ?_⟩
  obtain ⟨i, r, h1, h2, h3⟩ := h.2.2 p p0 p1
  exact ⟨i, r, h1, h2, fun q k k0 k1 => (h3 (by omega) k k0 k1).trans (e _ (by omega) (by omega)).symm⟩
/-- a pick that is there, with its numbers of the picture -/
theorem SR.at {w : WD} {χ : Nat} {T : ST} {z : Int → Int} (h : SR w χ T z) (hv : VZ z) {p : Int} (p0 : 0 ≤ p) (p1 : p < z 160) : ∃ i, T.2.1 p.toNat = some i ∧ PK w χ i (fun k => z (161 + 169 * p + k)) ∧ ∃ d v, w i = some (xOb 3 [.ref d, xI (z (161 + 169 * p + 5)), xI (z (161 + 169 * p + 7))]) ∧ ∃ fs, w d = some (xOb 1 fs) ∧ fs[6]? = some (.ref v) ∧ ∃ f, w v = some (xIA 160 f) ∧ ∀ k, 0 ≤ k → k < 160 → f k = z (161 + 169 * p + (9 + k)) := by
  obtain ⟨i, r, h1, h2, h3⟩ := h.2.2 p p0 (by have := hv.2.1; omega)
  have h4 := h2.c (r' := fun k => z (161 + 169 * p + k)) (fun k k0 k1 => (h3 p1 k k0 k1).symm)
  refine ⟨i, h1, h4, ?_⟩
  obtain ⟨d, v, c, f, -, g1, g2, g3, -, -, -, g4⟩ := h4
  exact ⟨d, v, g1, _, g2, rfl, f, g3, g4⟩
set_option maxRecDepth 100000 in
set_option maxHeartbeats 4000000 in
theorem c_paint {w0 w : WD} {sz σ : Nat} {T : ST} {c v : Int} (hM : SW w0 w σ T) (hz : ∀ k, 0 ≤ k → k < 160 → 0 ≤ T.1 k ∧ T.1 k ≤ 99) (hc : 0 ≤ c ∧ c < 160) (hv : 0 ≤ v ∧ v ≤ 99) : CT iX5_paint 0 0 [.ref σ, xI c, xI v] w sz (fun v9 w' sz' => sz' = sz ∧ v9 = some (xI (if T.1 c ≠ v then 1 else 0)) ∧ SW w0 w' σ (iu T.1 c v, T.2.1, T.2.2)) := by
  refine CT.ofZ (by decide) rfl (Nat.le_of_ble_eq_true rfl) (fun Z hE => ?_)
  refine V_aload_n dX5_paint_0 0 rfl rfl ?_
  refine S_g_shades hM rfl dX5_paint_1 ?_
  refine V_iload_n dX5_paint_4 1 rfl rfl ?_
  refine S_l_shades hM dX5_paint_5 hc ?_
  try dsimp only
  refine V_iload_n dX5_paint_6 2 rfl rfl ?_
  refine V_icmp_eq 14 dX5_paint_7 (by decide) (by first | omega | (have := hz c hc.1 hc.2; omega)) (fun h7 => ?_) (fun h7 => ?_)
  · refine V_iconst dX5_paint_14 ?_
    refine V_istore_n dX5_paint_15 3 rfl (by decide) ?_
    refine V_aload_n dX5_paint_16 0 rfl rfl ?_
    refine S_g_shades hM rfl dX5_paint_17 ?_
    refine V_iload_n dX5_paint_20 1 rfl rfl ?_
    refine V_iload_n dX5_paint_21 2 rfl rfl ?_
    refine S_s_shades hM dX5_paint_22 hc (fun w hM => ?_)
    try dsimp only at hM
    refine V_iload_n dX5_paint_23 3 rfl rfl ?_
    exact V_iret hE rfl dX5_paint_24 ⟨rfl, bE (if_neg (by omega)).symm, hM⟩
  · refine V_iconst dX5_paint_10 ?_
    refine V_goto 15 dX5_paint_11 (by decide) ?_
    refine V_istore_n dX5_paint_15 3 rfl (by decide) ?_
    refine V_aload_n dX5_paint_16 0 rfl rfl ?_
    refine S_g_shades hM rfl dX5_paint_17 ?_
    refine V_iload_n dX5_paint_20 1 rfl rfl ?_
    refine V_iload_n dX5_paint_21 2 rfl rfl ?_
    refine S_s_shades hM dX5_paint_22 hc (fun w hM => ?_)
    try dsimp only at hM
    refine V_iload_n dX5_paint_23 3 rfl rfl ?_
    exact V_iret hE rfl dX5_paint_24 ⟨rfl, bE (if_pos h7).symm, hM⟩
set_option maxRecDepth 100000 in
set_option maxHeartbeats 4000000 in
theorem c_maskLevel {w0 w : WD} {sz χ σ : Nat} {T : ST} {z : Int → Int} (hM : SW w0 w σ T) (hR : SR w χ T z) (hv : VZ z) {c : Int} (hc : 0 ≤ c ∧ c < 160) : CT iX5_maskLevel 0 0 [.ref σ, xI c] w sz (pR (some (xI (imS z c))) w sz) := by
  refine CT.ofZ (by decide) rfl (Nat.le_of_ble_eq_true rfl) (fun Z hE => ?_)
  have hcnt := hR.2.1
  have hz160 := hv.2.1
  refine V_iconst dX5_maskLevel_0 ?_
  refine V_istore_n dX5_maskLevel_1 2 rfl (by decide) ?_
  refine V_iconst dX5_maskLevel_2 ?_
  refine V_istore_n dX5_maskLevel_3 3 rfl (by decide) ?_
  have L4 : ∀ k : Int, 0 ≤ k → k ≤ z 160 → V iX5_maskLevel Z 0 0 w sz 4 [some (.ref σ), some (xI c), some (xI (imsk z k c)), some (xI k)] [] := by
    refine up_ind ?_
    intro k hk0 hk1 ih
    refine V_iload_n dX5_maskLevel_4 3 rfl rfl ?_
    refine V_aload_n dX5_maskLevel_5 0 rfl rfl ?_
    refine S_g_pickCount hM rfl dX5_maskLevel_6 ?_
    rw [hcnt]
    refine V_icmp_ge 48 dX5_maskLevel_9 (by decide) (by omega) (fun h9 => ?_) (fun h9 => ?_)
    · refine V_iload_n dX5_maskLevel_48 2 rfl rfl ?_
      exact V_iret hE rfl dX5_maskLevel_49 ⟨bE (by rw [show k = z 160 by omega]), rfl, rfl⟩
    · refine V_iload_n dX5_maskLevel_12 3 rfl rfl ?_
      refine V_bipush dX5_maskLevel_13 (by decide) ?_
      refine V_icmp_ge 48 dX5_maskLevel_15 (by decide) (by omega) (fun h15 => ?_) (fun h15 => ?_)
      · refine V_iload_n dX5_maskLevel_48 2 rfl rfl ?_
        exact V_iret hE rfl dX5_maskLevel_49 ⟨bE (by rw [show k = z 160 by omega]), rfl, rfl⟩
      · obtain ⟨i9, hg9, hP9, d9, v9, hi9, fs9, hd9, hf69, f9, hv9, hf9⟩ := hR.at hv hk0 (show k < z 160 by omega)
        have h79 := hv.2.2 k hk0 (by omega)
        refine V_aload_n dX5_maskLevel_18 0 rfl rfl ?_
        refine S_g_picks hM rfl dX5_maskLevel_19 ?_
        refine V_iload_n dX5_maskLevel_22 3 rfl rfl ?_
        refine V_aald (t := 3) (fun _ => rfl) dX5_maskLevel_23 hM.2.2.1 ⟨hk0, by omega⟩ hg9 ?_
        refine V_g_X5_31 rfl dX5_maskLevel_24 hi9 rfl ?_
        refine V_if_eq 42 dX5_maskLevel_27 (by decide) (by omega) (fun h27 => ?_) (fun h27 => ?_)
        · try simp only [decide_eq_true_eq, decide_eq_false_iff_not, Bool.not_eq_true] at h27
          refine V_iinc dX5_maskLevel_42 rfl (by decide) ?_
          refine V_goto 4 dX5_maskLevel_45 (by decide) ?_
          rw [imsk_s hk0, if_neg (by omega)] at ih
          exact ih (by omega)
        · try simp only [decide_eq_true_eq, decide_eq_false_iff_not, Bool.not_eq_true] at h27
          refine V_aload_n dX5_maskLevel_30 0 rfl rfl ?_
          refine S_g_picks hM rfl dX5_maskLevel_31 ?_
          refine V_iload_n dX5_maskLevel_34 3 rfl rfl ?_
          refine V_aald (t := 3) (fun _ => rfl) dX5_maskLevel_35 hM.2.2.1 ⟨hk0, by omega⟩ hg9 ?_
          refine V_iload_n dX5_maskLevel_36 2 rfl rfl ?_
          refine V_iload_n dX5_maskLevel_37 1 rfl rfl ?_
          refine V_c_X5_39 rfl (by decide) (c_over hP9 (fun k9 g1 g2 => hv.lev k k9 hk0 (by omega) g1 g2) rfl (by exact h79.2.2.2.2.2.1) hc (imsk_b hv hc k hk0 (by omega))) dX5_maskLevel_38 hi9 rfl rfl (Nat.le_of_ble_eq_true rfl) (Nat.le_of_eq (Nat.zero_add _)) (Nat.le_of_eq (Nat.zero_add _)) (fun v w sz q => ?_)
          obtain ⟨rfl, rfl, rfl⟩ := q
          refine V_istore_n dX5_maskLevel_41 2 rfl (by decide) ?_
          refine V_iinc dX5_maskLevel_42 rfl (by decide) ?_
          refine V_goto 4 dX5_maskLevel_45 (by decide) ?_
          rw [imsk_s hk0, if_pos (by omega)] at ih
          exact ih (by omega)
  exact L4 (0) (by omega) (by omega)
set_option maxRecDepth 100000 in
set_option maxHeartbeats 4000000 in
theorem c_picksOver {w0 w : WD} {sz χ σ : Nat} {T : ST} {z : Int → Int} (hM : SW w0 w σ T) (hR : SR w χ T z) (hv : VZ z) {c : Int} (hc : 0 ≤ c ∧ c < 160) : CT iX5_picksOver 0 0 [.ref σ, xI c] w sz (pR (some (xI (ipat z c))) w sz) := by
  refine CT.ofZ (by decide) rfl (Nat.le_of_ble_eq_true rfl) (fun Z hE => ?_)
  have hcnt := hR.2.1
  have hz160 := hv.2.1
  refine V_iconst dX5_picksOver_0 ?_
  refine V_istore_n dX5_picksOver_1 2 rfl (by decide) ?_
  refine V_iconst dX5_picksOver_2 ?_
  refine V_istore_n dX5_picksOver_3 3 rfl (by decide) ?_
  have L4 : ∀ k : Int, 0 ≤ k → k ≤ z 160 → V iX5_picksOver Z 0 0 w sz 4 [some (.ref σ), some (xI c), some (xI (isum (fun p => if 0 < z (161 + 169 * p + (9 + c)) then 1 else 0) k)), some (xI k)] [] := by
    refine up_ind ?_
    intro k hk0 hk1 ih
    refine V_iload_n dX5_picksOver_4 3 rfl rfl ?_
    refine V_aload_n dX5_picksOver_5 0 rfl rfl ?_
    refine S_g_pickCount hM rfl dX5_picksOver_6 ?_
    rw [hcnt]
    refine V_icmp_ge 44 dX5_picksOver_9 (by decide) (by omega) (fun h9 => ?_) (fun h9 => ?_)
    · refine V_iload_n dX5_picksOver_44 2 rfl rfl ?_
      exact V_iret hE rfl dX5_picksOver_45 ⟨bE (by rw [show k = z 160 by omega]), rfl, rfl⟩
    · refine V_iload_n dX5_picksOver_12 3 rfl rfl ?_
      refine V_bipush dX5_picksOver_13 (by decide) ?_
      refine V_icmp_ge 44 dX5_picksOver_15 (by decide) (by omega) (fun h15 => ?_) (fun h15 => ?_)
      · refine V_iload_n dX5_picksOver_44 2 rfl rfl ?_
        exact V_iret hE rfl dX5_picksOver_45 ⟨bE (by rw [show k = z 160 by omega]), rfl, rfl⟩
      · obtain ⟨i9, hg9, hP9, d9, v9, hi9, fs9, hd9, hf69, f9, hv9, hf9⟩ := hR.at hv hk0 (show k < z 160 by omega)
        refine V_aload_n dX5_picksOver_18 0 rfl rfl ?_
        refine S_g_picks hM rfl dX5_picksOver_19 ?_
        refine V_iload_n dX5_picksOver_22 3 rfl rfl ?_
        refine V_aald (t := 3) (fun _ => rfl) dX5_picksOver_23 hM.2.2.1 ⟨hk0, by omega⟩ hg9 ?_
        refine V_g_X5_43 rfl dX5_picksOver_24 hi9 rfl ?_
        refine V_g_X5_47 rfl dX5_picksOver_27 hd9 hf69 ?_
        refine V_iload_n dX5_picksOver_30 1 rfl rfl ?_
        refine V_iald dX5_picksOver_31 hv9 hc ?_
        rw [hf9 c hc.1 hc.2]
        have hlv9 := hv.lev k c hk0 (by omega) hc.1 hc.2
        refine V_if_le 38 dX5_picksOver_32 (by decide) (by omega) (fun h32 => ?_) (fun h32 => ?_)
        · refine V_iinc dX5_picksOver_38 rfl (by decide) ?_
          refine V_goto 4 dX5_picksOver_41 (by decide) ?_
          rw [isum_s hk0, if_neg (by omega), Int.add_zero] at ih
          exact ih (by omega)
        · refine V_iinc dX5_picksOver_35 rfl (by decide) ?_
          refine V_iinc dX5_picksOver_38 rfl (by decide) ?_
          refine V_goto 4 dX5_picksOver_41 (by decide) ?_
          rw [isum_s hk0, if_pos (by omega)] at ih
          exact ih (by omega)
  exact L4 (0) (by omega) (by omega)
set_option maxRecDepth 100000 in
set_option maxHeartbeats 4000000 in
theorem c_picksIn {w0 w : WD} {sz χ σ : Nat} {T : ST} {z : Int → Int} (hM : SW w0 w σ T) (hR : SR w χ T z) (hv : VZ z) : CT iX5_picksThatAreIn 0 0 [.ref σ] w sz (pR (some (xI (isum (fun p => z (161 + 169 * p + 7)) (z 160)))) w sz) := by
  refine CT.ofZ (by decide) rfl (Nat.le_of_ble_eq_true rfl) (fun Z hE => ?_)
  have hcnt := hR.2.1
  have hz160 := hv.2.1
  refine V_iconst dX5_picksThatAreIn_0 ?_
  refine V_istore_n dX5_picksThatAreIn_1 1 rfl (by decide) ?_
  refine V_iconst dX5_picksThatAreIn_2 ?_
  refine V_istore_n dX5_picksThatAreIn_3 2 rfl (by decide) ?_
  have L4 : ∀ k : Int, 0 ≤ k → k ≤ z 160 → V iX5_picksThatAreIn Z 0 0 w sz 4 [some (.ref σ), some (xI (isum (fun p => z (161 + 169 * p + 7)) k)), some (xI k)] [] := by
    refine up_ind ?_
    intro k hk0 hk1 ih
    refine V_iload_n dX5_picksThatAreIn_4 2 rfl rfl ?_
    refine V_aload_n dX5_picksThatAreIn_5 0 rfl rfl ?_
    refine S_g_pickCount hM rfl dX5_picksThatAreIn_6 ?_
    rw [hcnt]
    refine V_icmp_ge 39 dX5_picksThatAreIn_9 (by decide) (by omega) (fun h9 => ?_) (fun h9 => ?_)
    · refine V_iload_n dX5_picksThatAreIn_39 1 rfl rfl ?_
      exact V_iret hE rfl dX5_picksThatAreIn_40 ⟨bE (by rw [show k = z 160 by omega]), rfl, rfl⟩
    · refine V_iload_n dX5_picksThatAreIn_12 2 rfl rfl ?_
      refine V_bipush dX5_picksThatAreIn_13 (by decide) ?_
      refine V_icmp_ge 39 dX5_picksThatAreIn_15 (by decide) (by omega) (fun h15 => ?_) (fun h15 => ?_)
      · refine V_iload_n dX5_picksThatAreIn_39 1 rfl rfl ?_
        exact V_iret hE rfl dX5_picksThatAreIn_40 ⟨bE (by rw [show k = z 160 by omega]), rfl, rfl⟩
      · obtain ⟨i9, hg9, hP9, d9, v9, hi9, fs9, hd9, hf69, f9, hv9, hf9⟩ := hR.at hv hk0 (show k < z 160 by omega)
        have h79 := hv.2.2 k hk0 (by omega)
        refine V_aload_n dX5_picksThatAreIn_18 0 rfl rfl ?_
        refine S_g_picks hM rfl dX5_picksThatAreIn_19 ?_
        refine V_iload_n dX5_picksThatAreIn_22 2 rfl rfl ?_
        refine V_aald (t := 3) (fun _ => rfl) dX5_picksThatAreIn_23 hM.2.2.1 ⟨hk0, by omega⟩ hg9 ?_
        refine V_g_X5_31 rfl dX5_picksThatAreIn_24 hi9 rfl ?_
        refine V_if_eq 33 dX5_picksThatAreIn_27 (by decide) (by omega) (fun h27 => ?_) (fun h27 => ?_)
        · try simp only [decide_eq_true_eq, decide_eq_false_iff_not, Bool.not_eq_true] at h27
          refine V_iinc dX5_picksThatAreIn_33 rfl (by decide) ?_
          refine V_goto 4 dX5_picksThatAreIn_36 (by decide) ?_
          rw [isum_s hk0, h27, Int.add_zero] at ih
          exact ih (by omega)
        · try simp only [decide_eq_true_eq, decide_eq_false_iff_not, Bool.not_eq_true] at h27
          refine V_iinc dX5_picksThatAreIn_30 rfl (by decide) ?_
          refine V_iinc dX5_picksThatAreIn_33 rfl (by decide) ?_
          refine V_goto 4 dX5_picksThatAreIn_36 (by decide) ?_
          rw [isum_s hk0, show z (161 + 169 * k + 7) = 1 by omega] at ih
          exact ih (by omega)
  exact L4 (0) (by omega) (by omega)
set_option maxRecDepth 100000 in
set_option maxHeartbeats 4000000 in
theorem c_cellProperty {w0 w : WD} {sz χ σ : Nat} {T : ST} {z : Int → Int} (hM : SW w0 w σ T) (hR : SR w χ T z) (hv : VZ z) {c a : Int} (hc : 0 ≤ c ∧ c < 160) (ha : 0 ≤ a ∧ a ≤ 2) : CT iX5_cellProperty 0 0 [.ref σ, xI c, xI a] w sz (pR (some (xI (icel z (imS z) c a))) w sz) := by
  refine CT.ofZ (by decide) rfl (Nat.le_of_ble_eq_true rfl) (fun Z hE => ?_)
  refine V_iload_n dX5_cellProperty_0 2 rfl rfl ?_
  refine V_if_ne 11 dX5_cellProperty_1 (by decide) (by omega) (fun h1 => ?_) (fun h1 => ?_)
  · refine V_iload_n dX5_cellProperty_11 2 rfl rfl ?_
    refine V_iconst dX5_cellProperty_12 ?_
    refine V_icmp_ne 24 dX5_cellProperty_13 (by decide) (by omega) (fun h13 => ?_) (fun h13 => ?_)
    · refine V_aload_n dX5_cellProperty_24 0 rfl rfl ?_
      refine V_iload_n dX5_cellProperty_25 1 rfl rfl ?_
      refine V_c_X5_52 rfl (by decide) (c_picksOver hM hR hv hc) dX5_cellProperty_26 hM.1 rfl rfl (Nat.le_of_ble_eq_true rfl) (Nat.le_of_eq (Nat.zero_add _)) (Nat.le_of_eq (Nat.zero_add _)) (fun v w sz q => ?_)
      try dsimp only at q
      obtain ⟨rfl, rfl, rfl⟩ := q
      exact V_iret hE rfl dX5_cellProperty_29 ⟨bE (by unfold icel; rw [if_neg h1]; first | rw [if_pos h13] | rw [if_neg h13]), rfl, rfl⟩
    · refine V_aload_n dX5_cellProperty_16 0 rfl rfl ?_
      refine V_iload_n dX5_cellProperty_17 1 rfl rfl ?_
      refine V_c_X5_35 rfl (by decide) (c_maskLevel hM hR hv hc) dX5_cellProperty_18 hM.1 rfl rfl (Nat.le_of_ble_eq_true rfl) (Nat.le_of_eq (Nat.zero_add _)) (Nat.le_of_eq (Nat.zero_add _)) (fun v w sz q => ?_)
      try dsimp only at q
      obtain ⟨rfl, rfl, rfl⟩ := q
      refine V_goto 29 dX5_cellProperty_21 (by decide) ?_
      exact V_iret hE rfl dX5_cellProperty_29 ⟨bE (by unfold icel; rw [if_neg h1]; first | rw [if_pos h13] | rw [if_neg h13]), rfl, rfl⟩
  · refine V_aload_n dX5_cellProperty_4 0 rfl rfl ?_
    refine S_g_shades hM rfl dX5_cellProperty_5 ?_
    refine V_iload_n dX5_cellProperty_8 1 rfl rfl ?_
    refine S_l_shades hM dX5_cellProperty_9 hc ?_
    rw [hR.1 c hc.1 hc.2]
    try dsimp only
    exact V_iret hE rfl dX5_cellProperty_10 ⟨bE (if_pos h1).symm, rfl, rfl⟩
set_option maxRecDepth 100000 in
set_option maxHeartbeats 4000000 in
theorem c_makeMask {w0 w : WD} {sz χ σ : Nat} {T : ST} {z : Int → Int} (hM : SW w0 w σ T) (hR : SR w χ T z) (hv : VZ z) {a9 : Nat} {m : Int → Int} (hb : w a9 = some (xIA 160 m)) (ha : (a9 < σ ∨ σ + 3 ≤ a9) ∧ ¬ imm χ a9) : CT iX5_makeMask 0 0 [.ref σ, .ref a9] w sz (fun v w' sz' => v = none ∧ sz' = sz ∧ ∃ g, UA w w' a9 (xIA 160 g) ∧ ∀ c, 0 ≤ c → c < 160 → g c = imS z c) := by
  refine CT.ofZ (by decide) rfl (Nat.le_of_ble_eq_true rfl) (fun Z hE => ?_)
  refine V_iconst dX5_makeMask_0 ?_
  refine V_istore_n dX5_makeMask_1 2 rfl (by decide) ?_
  have L2 : ∀ k : Int, 0 ≤ k → k ≤ 160 → ∀ (w' : WD) (g : Int → Int), UA w w' a9 (xIA 160 g) → (∀ j, 0 ≤ j → j < k → g j = imS z j) → V iX5_makeMask Z 0 0 w' sz 2 [some (.ref σ), some (.ref a9), some (xI k)] [] := by
    refine up_ind ?_
    intro k hk0 hk1 ih w' g hu hg
    have hM9 := SW.mv hM (fun j g1 g2 => hu.2 j (by omega))
    have hR9 := hR.mv (fun j g1 _ => hu.2 j (fun e => ha.2 (by rw [← e]; exact g1)))
    refine V_iload_n dX5_makeMask_2 2 rfl rfl ?_
    refine V_sipush dX5_makeMask_3 (by decide) ?_
    refine V_icmp_ge 23 dX5_makeMask_6 (by decide) (by omega) (fun h6 => ?_) (fun h6 => ?_)
    · exact V_vret hE rfl dX5_makeMask_23 ⟨rfl, rfl, g, hu, fun j g1 g2 => hg j g1 (by omega)⟩
    · refine V_aload_n dX5_makeMask_9 1 rfl rfl ?_
      refine V_iload_n dX5_makeMask_10 2 rfl rfl ?_
      refine V_aload_n dX5_makeMask_11 0 rfl rfl ?_
      refine V_iload_n dX5_makeMask_12 2 rfl rfl ?_
      refine V_c_X5_35 rfl (by decide) (c_maskLevel hM9 hR9 hv ⟨hk0, by omega⟩) dX5_makeMask_13 hM9.1 rfl rfl (Nat.le_of_ble_eq_true rfl) (Nat.le_of_eq (Nat.zero_add _)) (Nat.le_of_eq (Nat.zero_add _)) (fun v w sz q => ?_)
      obtain ⟨rfl, rfl, rfl⟩ := q
      refine V_iast dX5_makeMask_16 hu.1 ⟨hk0, by omega⟩ ?_
      refine V_iinc dX5_makeMask_17 rfl (by decide) ?_
      refine V_goto 2 dX5_makeMask_20 (by decide) ?_
      refine ih (by omega) _ _ hu.u (fun j g1 g2 => ?_)
      by_cases e : j = k
      · rw [e, iu_s]
      · rw [iu_n e]; exact hg j g1 (by omega)
  exact L2 (0) (by omega) (by omega) _ _ (UA.rf hb) (fun j g1 g2 => by omega)
