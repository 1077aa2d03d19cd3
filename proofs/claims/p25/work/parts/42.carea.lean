/-! the class: squares covered, the area -/
set_option maxRecDepth 100000 in
set_option maxHeartbeats 4000000 in
theorem c_coverSquare {w0 w : WD} {sz φ : Nat} {T : FT} {q9 : Int} (hM : FW w0 w φ T) (hw : 0 ≤ T.2.2.2.2.2.2 ∧ T.2.2.2.2.2.2 ≤ 5) (hq : 0 ≤ q9 ∧ q9 < 160) : CT iX0_coverSquare 0 0 [.ref φ, xI q9] w sz (fun v w' sz' => v = none ∧ sz' = sz ∧ ∃ R, FW w0 w' φ (T.1, T.2.1, T.2.2.1, R, T.2.2.2.2.1, T.2.2.2.2.2.1, T.2.2.2.2.2.2) ∧ ∀ j, 0 ≤ j → j < 160 → (R j = true ↔ T.2.2.2.1 j = true ∨ iLies j q9 T.2.2.2.2.2.2)) := by
  refine CT.ofZ (by decide) rfl (Nat.le_of_ble_eq_true rfl) (fun Z hE => ?_)
  refine V_iload_n dX0_coverSquare_0 1 rfl rfl ?_
  refine V_bipush dX0_coverSquare_1 (by decide) ?_
  refine V_iremN dX0_coverSquare_3 (by omega) ?_
  refine V_istore_n dX0_coverSquare_4 2 rfl (by decide) ?_
  refine V_iload_n dX0_coverSquare_5 1 rfl rfl ?_
  refine V_bipush dX0_coverSquare_6 (by decide) ?_
  refine V_idivN dX0_coverSquare_8 (by omega) ?_
  refine V_istore_n dX0_coverSquare_9 3 rfl (by decide) ?_
  refine V_iload_n dX0_coverSquare_10 3 rfl rfl ?_
  refine V_istore dX0_coverSquare_11 (by decide) ?_
  have L13 : ∀ i : Int, q9 / 16 ≤ i → i ≤ q9 / 16 + T.2.2.2.2.2.2 + 1 → ∀ (w : WD) (R : Int → Bool), FW w0 w φ (T.1, T.2.1, T.2.2.1, R, T.2.2.2.2.1, T.2.2.2.2.2.1, T.2.2.2.2.2.2) → (∀ j, 0 ≤ j → j < 160 → (R j = true ↔ T.2.2.2.1 j = true ∨ (iLies j q9 T.2.2.2.2.2.2 ∧ j / 16 < i))) → V iX0_coverSquare Z 0 0 w sz 13 [some (.ref φ), some (xI q9), some (xI (q9 % 16)), some (xI (q9 / 16)), some (xI i), none] [] := by
    refine up_ind ?_
    intro i hi0 hi1 ihi w R hM hR
    refine V_iload dX0_coverSquare_13 rfl ?_
    refine V_iload_n dX0_coverSquare_15 3 rfl rfl ?_
    refine V_aload_n dX0_coverSquare_16 0 rfl rfl ?_
    refine F_g_width hM rfl dX0_coverSquare_17 ?_
    try dsimp only
    refine V_iadd dX0_coverSquare_20 ?_
    refine V_icmp_gt 73 dX0_coverSquare_21 (by decide) (by omega) (fun h21 => ?_) (fun h21 => ?_)
    · exact V_vret hE rfl dX0_coverSquare_73 ⟨rfl, rfl, R, hM, fun j g1 g2 => by rw [hR j g1 g2]; exact ⟨fun g => g.elim Or.inl (fun g => Or.inr (by omega)), fun g => g.elim Or.inl (fun g => Or.inr (by omega))⟩⟩
    · refine V_iload_n dX0_coverSquare_24 2 rfl rfl ?_
      refine V_istore dX0_coverSquare_25 (by decide) ?_
      have L27 : ∀ k : Int, q9 % 16 ≤ k → k ≤ q9 % 16 + T.2.2.2.2.2.2 + 1 → ∀ (w : WD) (R : Int → Bool), FW w0 w φ (T.1, T.2.1, T.2.2.1, R, T.2.2.2.2.1, T.2.2.2.2.2.1, T.2.2.2.2.2.2) → (∀ j, 0 ≤ j → j < 160 → (R j = true ↔ T.2.2.2.1 j = true ∨ (iLies j q9 T.2.2.2.2.2.2 ∧ (j / 16 < i ∨ (j / 16 = i ∧ j % 16 < k))))) → V iX0_coverSquare Z 0 0 w sz 27 [some (.ref φ), some (xI q9), some (xI (q9 % 16)), some (xI (q9 / 16)), some (xI i), some (xI k)] [] := by
        refine up_ind ?_
        intro k hk0 hk1 ih w R hM hR
        refine V_iload dX0_coverSquare_27 rfl ?_
        refine V_iload_n dX0_coverSquare_29 2 rfl rfl ?_
        refine V_aload_n dX0_coverSquare_30 0 rfl rfl ?_
        refine F_g_width hM rfl dX0_coverSquare_31 ?_
        try dsimp only
        refine V_iadd dX0_coverSquare_34 ?_
        refine V_icmp_gt 67 dX0_coverSquare_35 (by decide) (by omega) (fun h35 => ?_) (fun h35 => ?_)
        · refine V_iinc dX0_coverSquare_67 rfl (by decide) ?_
          refine V_goto 13 dX0_coverSquare_70 (by decide) ?_
          refine V_fg [true, true, true, true, true, false] ?_
          refine ihi (by omega) _ _ hM (fun j g1 g2 => ?_)
          rw [hR j g1 g2]
          constructor
          · rintro (g | g)
            · exact Or.inl g
            · exact Or.inr (by omega)
          · rintro (g | g)
            · exact Or.inl g
            · exact Or.inr (by omega)
        · refine V_iload dX0_coverSquare_38 rfl ?_
          refine V_iload dX0_coverSquare_40 rfl ?_
          refine V_c_X0_92 rfl (by decide) (c_isCell (by omega)) dX0_coverSquare_42 rfl rfl (Nat.le_of_ble_eq_true rfl) (Nat.le_of_eq (Nat.zero_add _)) (Nat.le_of_eq (Nat.zero_add _)) (fun v w sz q => ?_)
          try dsimp only at q
          obtain ⟨rfl, rfl, rfl⟩ := q
          refine V_ifeqB 61 dX0_coverSquare_45 (by decide) (fun h45 => ?_) (fun h45 => ?_)
          · try simp only [decide_eq_true_eq, decide_eq_false_iff_not, Bool.not_eq_true] at h45
            refine V_iinc dX0_coverSquare_61 rfl (by decide) ?_
            refine V_goto 27 dX0_coverSquare_64 (by decide) ?_
            refine ih (by omega) _ _ hM (fun j g1 g2 => ?_)
            rw [hR j g1 g2]
            constructor
            · rintro (g | g)
              · exact Or.inl g
              · exact Or.inr (by omega)
            · rintro (g | g)
              · exact Or.inl g
              · exact Or.inr (by omega)
          · try simp only [decide_eq_true_eq, decide_eq_false_iff_not, Bool.not_eq_true] at h45
            refine V_aload_n dX0_coverSquare_48 0 rfl rfl ?_
            refine F_g_area hM rfl dX0_coverSquare_49 ?_
            refine V_iload dX0_coverSquare_52 rfl ?_
            refine V_iload dX0_coverSquare_54 rfl ?_
            refine V_c_X0_96 rfl (by decide) (c_cellAt) dX0_coverSquare_56 rfl rfl (Nat.le_of_ble_eq_true rfl) (Nat.le_of_eq (Nat.zero_add _)) (Nat.le_of_eq (Nat.zero_add _)) (fun v w sz q => ?_)
            try dsimp only at q
            obtain ⟨rfl, rfl, rfl⟩ := q
            refine V_iconst dX0_coverSquare_59 ?_
            refine F_s_area (b := true) hM dX0_coverSquare_60 (by first | omega | (dsimp only; omega) | (dsimp only at *; omega)) (fun w hM => ?_)
            try dsimp only at hM
            refine V_iinc dX0_coverSquare_61 rfl (by decide) ?_
            refine V_goto 27 dX0_coverSquare_64 (by decide) ?_
            refine ih (by omega) _ _ hM (fun j g1 g2 => ?_)
            by_cases e : j = 16 * i + k
            · rw [e, iu_s]
              exact ⟨fun _ => Or.inr (by omega), fun _ => rfl⟩
            · rw [iu_n e, hR j g1 g2]
              constructor
              · rintro (g | g)
                · exact Or.inl g
                · exact Or.inr (by omega)
              · rintro (g | g)
                · exact Or.inl g
                · exact Or.inr (by omega)
      exact L27 ((q9 % 16)) (by omega) (by omega) w R hM (fun j g1 g2 => by rw [hR j g1 g2]; exact ⟨fun g => g.elim Or.inl (fun g => Or.inr (by omega)), fun g => g.elim Or.inl (fun g => Or.inr (by omega))⟩)
  refine V_fg [true, true, true, true, true, false] ?_
  exact L13 ((q9 / 16)) (by omega) (by omega) w T.2.2.2.1 hM (fun j g1 g2 => ⟨fun g => Or.inl g, fun g => g.elim id (fun g => by omega)⟩)
set_option maxRecDepth 100000 in
set_option maxHeartbeats 4000000 in
theorem c_coverSquares {w0 w : WD} {sz φ : Nat} {T : FT} (hM : FW w0 w φ T) (hw : 0 ≤ T.2.2.2.2.2.2 ∧ T.2.2.2.2.2.2 ≤ 5) (hn : 0 ≤ T.2.2.2.2.2.1 ∧ T.2.2.2.2.2.1 ≤ 160) (hl : ∀ q, 0 ≤ q → q < T.2.2.2.2.2.1 → 0 ≤ T.2.2.2.2.1 q ∧ T.2.2.2.2.1 q < 160) : CT iX0_coverSquares 0 0 [.ref φ] w sz (fun v w' sz' => sz' = sz ∧ ∃ R, FW w0 w' φ (T.1, T.2.1, T.2.2.1, R, T.2.2.2.2.1, T.2.2.2.2.2.1, T.2.2.2.2.2.2) ∧ (∀ j, 0 ≤ j → j < 160 → (R j = true ↔ ∃ q, 0 ≤ q ∧ q < T.2.2.2.2.2.1 ∧ iLies j (T.2.2.2.2.1 q) T.2.2.2.2.2.2)) ∧ v = some (xI (isum (fun k => b2i (R k)) 160))) := by
  refine CT.ofZ (by decide) rfl (Nat.le_of_ble_eq_true rfl) (fun Z hE => ?_)
  refine V_aload_n dX0_coverSquares_0 0 rfl rfl ?_
  refine F_g_area hM rfl dX0_coverSquares_1 ?_
  refine V_c_X0_43 rfl (by decide) (c_clear hM.2.2.2.2.1) dX0_coverSquares_4 rfl rfl (Nat.le_of_ble_eq_true rfl) (Nat.le_of_eq (Nat.zero_add _)) (Nat.le_of_eq (Nat.zero_add _)) (fun v w sz q => ?_)
  try dsimp only at q
  obtain ⟨rfl, rfl, g9, hu9, hg9⟩ := q
  replace hM := FW.u_area hM hu9
  refine V_iconst dX0_coverSquares_7 ?_
  refine V_istore_n dX0_coverSquares_8 1 rfl (by decide) ?_
  have L9 : ∀ k : Int, 0 ≤ k → k ≤ T.2.2.2.2.2.1 → ∀ (w : WD) (R : Int → Bool), FW w0 w φ (T.1, T.2.1, T.2.2.1, R, T.2.2.2.2.1, T.2.2.2.2.2.1, T.2.2.2.2.2.2) → (∀ j, 0 ≤ j → j < 160 → (R j = true ↔ ∃ q, 0 ≤ q ∧ q < k ∧ iLies j (T.2.2.2.2.1 q) T.2.2.2.2.2.2)) → V iX0_coverSquares Z 0 0 w sz 9 [some (.ref φ), some (xI k), none] [] := by
    refine up_ind ?_
    intro k hk0 hk1 ih w R hM hR
    refine V_iload_n dX0_coverSquares_9 1 rfl rfl ?_
    refine V_aload_n dX0_coverSquares_10 0 rfl rfl ?_
    refine F_g_queued hM rfl dX0_coverSquares_11 ?_
    try dsimp only
    refine V_icmp_ge 40 dX0_coverSquares_14 (by decide) (by omega) (fun h14 => ?_) (fun h14 => ?_)
    · refine V_iconst dX0_coverSquares_40 ?_
      refine V_istore_n dX0_coverSquares_41 1 rfl (by decide) ?_
      refine V_iconst dX0_coverSquares_42 ?_
      refine V_istore_n dX0_coverSquares_43 2 rfl (by decide) ?_
      have L44 : ∀ i : Int, 0 ≤ i → i ≤ 160 → V iX0_coverSquares Z 0 0 w sz 44 [some (.ref φ), some (xI (isum (fun k => b2i (R k)) i)), some (xI i)] [] := by
        refine up_ind ?_
        intro i hi0 hi1 ihi
        refine V_iload_n dX0_coverSquares_44 2 rfl rfl ?_
        refine V_sipush dX0_coverSquares_45 (by decide) ?_
        refine V_icmp_ge 69 dX0_coverSquares_48 (by decide) (by omega) (fun h48 => ?_) (fun h48 => ?_)
        · refine V_iload_n dX0_coverSquares_69 1 rfl rfl ?_
          exact V_iret hE rfl dX0_coverSquares_70 ⟨rfl, R, hM, fun j g1 g2 => by rw [hR j g1 g2, show k = T.2.2.2.2.2.1 by omega], bE (by rw [show i = 160 by omega])⟩
        · refine V_aload_n dX0_coverSquares_51 0 rfl rfl ?_
          refine F_g_area hM rfl dX0_coverSquares_52 ?_
          refine V_iload_n dX0_coverSquares_55 2 rfl rfl ?_
          refine F_l_area hM dX0_coverSquares_56 (by first | omega | (dsimp only; omega) | (dsimp only at *; omega)) ?_
          try dsimp only
          refine V_ifeqB 63 dX0_coverSquares_57 (by decide) (fun h57 => ?_) (fun h57 => ?_)
          · try simp only [decide_eq_true_eq, decide_eq_false_iff_not, Bool.not_eq_true] at h57
            refine V_iinc dX0_coverSquares_63 rfl (by decide) ?_
            refine V_goto 44 dX0_coverSquares_66 (by decide) ?_
            rw [isum_s hi0, h57, b2i_f, Int.add_zero] at ihi
            exact ihi (by omega)
          · try simp only [decide_eq_true_eq, decide_eq_false_iff_not, Bool.not_eq_true] at h57
            refine V_iinc dX0_coverSquares_60 rfl (by decide) ?_
            refine V_iinc dX0_coverSquares_63 rfl (by decide) ?_
            refine V_goto 44 dX0_coverSquares_66 (by decide) ?_
            rw [isum_s hi0, h57] at ihi
            exact ihi (by omega)
      exact L44 (0) (by omega) (by omega)
    · refine V_iload_n dX0_coverSquares_17 1 rfl rfl ?_
      refine V_sipush dX0_coverSquares_18 (by decide) ?_
      refine V_icmp_ge 40 dX0_coverSquares_21 (by decide) (by omega) (fun h21 => ?_) (fun h21 => ?_)
      · refine V_iconst dX0_coverSquares_40 ?_
        refine V_istore_n dX0_coverSquares_41 1 rfl (by decide) ?_
        refine V_iconst dX0_coverSquares_42 ?_
        refine V_istore_n dX0_coverSquares_43 2 rfl (by decide) ?_
        have L44 : ∀ i : Int, 0 ≤ i → i ≤ 160 → V iX0_coverSquares Z 0 0 w sz 44 [some (.ref φ), some (xI (isum (fun k => b2i (R k)) i)), some (xI i)] [] := by
          refine up_ind ?_
          intro i hi0 hi1 ihi
          refine V_iload_n dX0_coverSquares_44 2 rfl rfl ?_
          refine V_sipush dX0_coverSquares_45 (by decide) ?_
          refine V_icmp_ge 69 dX0_coverSquares_48 (by decide) (by omega) (fun h48 => ?_) (fun h48 => ?_)
          · refine V_iload_n dX0_coverSquares_69 1 rfl rfl ?_
            exact V_iret hE rfl dX0_coverSquares_70 ⟨rfl, R, hM, fun j g1 g2 => by rw [hR j g1 g2, show k = T.2.2.2.2.2.1 by omega], bE (by rw [show i = 160 by omega])⟩
          · refine V_aload_n dX0_coverSquares_51 0 rfl rfl ?_
            refine F_g_area hM rfl dX0_coverSquares_52 ?_
            refine V_iload_n dX0_coverSquares_55 2 rfl rfl ?_
            refine F_l_area hM dX0_coverSquares_56 (by first | omega | (dsimp only; omega) | (dsimp only at *; omega)) ?_
            try dsimp only
            refine V_ifeqB 63 dX0_coverSquares_57 (by decide) (fun h57 => ?_) (fun h57 => ?_)
            · try simp only [decide_eq_true_eq, decide_eq_false_iff_not, Bool.not_eq_true] at h57
              refine V_iinc dX0_coverSquares_63 rfl (by decide) ?_
              refine V_goto 44 dX0_coverSquares_66 (by decide) ?_
              rw [isum_s hi0, h57, b2i_f, Int.add_zero] at ihi
              exact ihi (by omega)
            · try simp only [decide_eq_true_eq, decide_eq_false_iff_not, Bool.not_eq_true] at h57
              refine V_iinc dX0_coverSquares_60 rfl (by decide) ?_
              refine V_iinc dX0_coverSquares_63 rfl (by decide) ?_
              refine V_goto 44 dX0_coverSquares_66 (by decide) ?_
              rw [isum_s hi0, h57] at ihi
              exact ihi (by omega)
        exact L44 (0) (by omega) (by omega)
      · refine V_aload_n dX0_coverSquares_24 0 rfl rfl ?_
        refine V_aload_n dX0_coverSquares_25 0 rfl rfl ?_
        refine F_g_queue hM rfl dX0_coverSquares_26 ?_
        refine V_iload_n dX0_coverSquares_29 1 rfl rfl ?_
        refine F_l_queue hM dX0_coverSquares_30 (by omega) ?_
        try dsimp only
        refine V_c_X0_106 rfl (by decide) (c_coverSquare hM hw (hl k hk0 (by omega))) dX0_coverSquares_31 hM.1 rfl rfl (Nat.le_of_ble_eq_true rfl) (Nat.le_of_eq (Nat.zero_add _)) (Nat.le_of_eq (Nat.zero_add _)) (fun v w sz q => ?_)
        try dsimp only at q
        obtain ⟨rfl, rfl, R1, hM, hR1⟩ := q
        refine V_iinc dX0_coverSquares_34 rfl (by decide) ?_
        refine V_goto 9 dX0_coverSquares_37 (by decide) ?_
        refine V_fg [true, true, false] ?_
        refine ih (by omega) _ _ hM (fun j g1 g2 => ?_)
        rw [hR1 j g1 g2, hR j g1 g2]
        constructor
        · rintro (⟨q, q0, q1, q2⟩ | q2)
          · exact ⟨q, q0, by omega, q2⟩
          · exact ⟨k, hk0, by omega, q2⟩
        · rintro ⟨q, q0, q1, q2⟩
          by_cases e : q = k
          · rw [e] at q2; exact Or.inr q2
          · exact Or.inl ⟨q, q0, by omega, q2⟩
  refine V_fg [true, true, false] ?_
  exact L9 (0) (by omega) (by omega) w g9 hM (fun j g1 g2 => ⟨fun g => (Bool.false_ne_true ((hg9 j g1 g2).symm.trans g)).elim, fun ⟨q, h3, h4, _⟩ => by omega⟩)
def JD (a : Int → Prop) (u : Int) (J : Int → Bool) (l : Int → Int) (h : Int) : Prop := ∀ q, 0 ≤ q → q < h → ∀ j, 0 ≤ j → j < 160 → sqA a u j → adj u (l q) j → J j = true
theorem JK.fin {a : Int → Prop} {f u n : Int} {s : Int → Int} {J R : Int → Bool} {l : Int → Int} (hs : Sds a s) (hu : 0 ≤ u) (hK : JK a f u s J l n) (D : JD a u J l n) (hJ : ∀ j, 0 ≤ j → j < 160 → sqA a u j → iLies f j u → J j = true) (hR : ∀ j, 0 ≤ j → j < 160 → (R j = true ↔ ∃ q, 0 ≤ q ∧ q < n ∧ iLies j (l q) u)) : ∀ k, 0 ≤ k → k < 160 → (R k = true ↔ arA a f u k) := by
  have hS : ∀ j, 0 ≤ j → j < 160 → (S0A s u j = true ↔ sqA a u j) := fun j j0 j1 => by
    show decide (u < s j) = true ↔ _
    rw [decide_eq_true_eq]
    exact (hs j j0 j1).2 u hu
  have hJf : ∀ j, J j = true → SJA s u J j = false := fun j e => by
    show (S0A s u j && !J j) = false
    rw [e]
    exact Bool.and_false _
  exact JI.fin (h := n) hK (fun q q0 q1 j j0 j1 g1 g2 => hJf j (D q q0 q1 j j0 j1 ((hS j j0 j1).mp g1) g2)) (Int.le_refl _) (Int.le_refl _) hS (fun j j0 j1 g1 g2 => hJf j (hJ j j0 j1 ((hS j j0 j1).mp g1) g2)) hR
set_option maxRecDepth 100000 in
set_option maxHeartbeats 8000000 in
theorem c_spread_B {w0 w : WD} {sz φ : Nat} {T : FT} {Z : XZ} {f g : Int} (hE : xEnd Z (fun v w' sz' => sz' = sz ∧ ∃ T' : FT, FW w0 w' φ T' ∧ T'.1 = T.1 ∧ wiA (fun k => T.1 k = true) f g T'.2.2.2.2.2.2 ∧ (∀ j, 0 ≤ j → j < 160 → (T'.2.2.2.1 j = true ↔ arA (fun k => T.1 k = true) f T'.2.2.2.2.2.2 j)) ∧ v = some (xI (isum (fun k => b2i (T'.2.2.2.1 k)) 160)))) (hM : FW w0 w φ T) (hs : Sds (fun k => T.1 k = true) T.2.1) (hw : 0 ≤ T.2.2.2.2.2.2 ∧ T.2.2.2.2.2.2 ≤ 5) (hwi : wiA (fun k => T.1 k = true) f g T.2.2.2.2.2.2) (hf : 0 ≤ f ∧ f < 160) : V iX0_spread Z 0 0 w sz 37 [some (.ref φ), some (xI f), some (xI g), none] [] := by
  refine V_aload_n dX0_spread_37 0 rfl rfl ?_
  refine V_iload_n dX0_spread_38 1 rfl rfl ?_
  refine V_c_X0_75 rfl (by decide) (c_joinSquaresOver hM hs hw hf) dX0_spread_39 hM.1 rfl rfl (Nat.le_of_ble_eq_true rfl) (Nat.le_of_eq (Nat.zero_add _)) (Nat.le_of_eq (Nat.zero_add _)) (fun v w sz q => ?_)
  try dsimp only at q
  obtain ⟨rfl, rfl, J, l, n, hM, hK, hJ⟩ := q
  refine V_iconst dX0_spread_42 ?_
  refine V_istore_n dX0_spread_43 3 rfl (by decide) ?_
  have L44 : ∀ h : Int, 0 ≤ h → h ≤ 160 → ∀ (w : WD) (J : Int → Bool) (l : Int → Int) (n : Int), FW w0 w φ (T.1, T.2.1, J, T.2.2.2.1, l, n, T.2.2.2.2.2.2) → JK (fun k => T.1 k = true) f T.2.2.2.2.2.2 T.2.1 J l n → JD (fun k => T.1 k = true) T.2.2.2.2.2.2 J l h → h ≤ n → (∀ j, 0 ≤ j → j < 160 → sqA (fun k => T.1 k = true) T.2.2.2.2.2.2 j → iLies f j T.2.2.2.2.2.2 → J j = true) → V iX0_spread Z 0 0 w sz 44 [some (.ref φ), some (xI f), some (xI g), some (xI h)] [] := by
    refine up_ind ?_
    intro h hh0 hh1 ihh w J l n hM hK hD hhn hJ
    have hn9 := hK.le
    have hl9 := hK.2.1
    refine V_iload_n dX0_spread_44 3 rfl rfl ?_
    refine V_aload_n dX0_spread_45 0 rfl rfl ?_
    refine F_g_queued hM rfl dX0_spread_46 ?_
    try dsimp only
    refine V_icmp_ge 75 dX0_spread_49 (by decide) (by omega) (fun h49 => ?_) (fun h49 => ?_)
    · refine V_aload_n dX0_spread_75 0 rfl rfl ?_
      refine V_c_X0_82 rfl (by decide) (c_coverSquares hM hw ⟨by dsimp only; omega, by dsimp only; omega⟩ (fun q q0 q1 => by have := hl9 q q0 q1; exact ⟨this.1, this.2.1⟩)) dX0_spread_76 hM.1 rfl rfl (Nat.le_of_ble_eq_true rfl) (Nat.le_of_eq (Nat.zero_add _)) (Nat.le_of_eq (Nat.zero_add _)) (fun v w sz q => ?_)
      try dsimp only at q
      obtain ⟨rfl, R, hM, hR, rfl⟩ := q
      exact V_iret hE rfl dX0_spread_79 ⟨rfl, _, hM, rfl, hwi, hK.fin hs hw.1 (by rw [show n = h by omega]; exact hD) hJ hR, rfl⟩
    · refine V_iload_n dX0_spread_52 3 rfl rfl ?_
      refine V_sipush dX0_spread_53 (by decide) ?_
      refine V_icmp_ge 75 dX0_spread_56 (by decide) (by omega) (fun h56 => ?_) (fun h56 => ?_)
      · refine V_aload_n dX0_spread_75 0 rfl rfl ?_
        refine V_c_X0_82 rfl (by decide) (c_coverSquares hM hw ⟨by dsimp only; omega, by dsimp only; omega⟩ (fun q q0 q1 => by have := hl9 q q0 q1; exact ⟨this.1, this.2.1⟩)) dX0_spread_76 hM.1 rfl rfl (Nat.le_of_ble_eq_true rfl) (Nat.le_of_eq (Nat.zero_add _)) (Nat.le_of_eq (Nat.zero_add _)) (fun v w sz q => ?_)
        try dsimp only at q
        obtain ⟨rfl, R, hM, hR, rfl⟩ := q
        exact V_iret hE rfl dX0_spread_79 ⟨rfl, _, hM, rfl, hwi, hK.fin hs hw.1 (by rw [show n = h by omega]; exact hD) hJ hR, rfl⟩
      · refine V_aload_n dX0_spread_59 0 rfl rfl ?_
        refine V_aload_n dX0_spread_60 0 rfl rfl ?_
        refine F_g_queue hM rfl dX0_spread_61 ?_
        refine V_iload_n dX0_spread_64 3 rfl rfl ?_
        refine F_l_queue hM dX0_spread_65 (by omega) ?_
        try dsimp only
        refine V_c_X0_79 rfl (by decide) (c_joinAround (T := T) hM hs hw hK ⟨hh0, by omega⟩ (by have := hl9 h hh0 (by omega); exact ⟨this.1, this.2.1⟩)) dX0_spread_66 hM.1 rfl rfl (Nat.le_of_ble_eq_true rfl) (Nat.le_of_eq (Nat.zero_add _)) (Nat.le_of_eq (Nat.zero_add _)) (fun v w sz q => ?_)
        try dsimp only at q
        obtain ⟨rfl, rfl, J1, l1, n1, hM, hK1, hJM, hA1⟩ := q
        refine V_iinc dX0_spread_69 rfl (by decide) ?_
        refine V_goto 44 dX0_spread_72 (by decide) ?_
        refine ihh (by omega) _ _ _ _ hM hK1 (fun q q0 q1 j g1 g2 g3 g4 => ?_) (by have := hJM.2.2; omega) (fun j g1 g2 g3 g4 => hJM.1 _ (hJ j g1 g2 g3 g4))
        by_cases e : q = h
        · rw [e, hJM.2.1 h hh0 (by omega)] at g4; exact hA1 j g1 g2 g3 g4
        · rw [hJM.2.1 q q0 (by omega)] at g4; exact hJM.1 _ (hD q q0 (by omega) j g1 g2 g3 g4)
  exact L44 (0) (by omega) (by omega) _ _ _ _ hM hK (fun q g1 g2 => by omega) hK.ge hJ
set_option maxRecDepth 100000 in
set_option maxHeartbeats 4000000 in
theorem c_spread {w0 w : WD} {sz φ : Nat} {T : FT} {f g : Int} (hM : FW w0 w φ T) (hf : 0 ≤ f ∧ f < 160) (hg : 0 ≤ g ∧ g ≤ 5) (hA : T.1 f = true) : CT iX0_spread 0 0 [.ref φ, xI f, xI g] w sz (fun v w' sz' => sz' = sz ∧ ∃ T' : FT, FW w0 w' φ T' ∧ T'.1 = T.1 ∧ wiA (fun k => T.1 k = true) f g T'.2.2.2.2.2.2 ∧ (∀ j, 0 ≤ j → j < 160 → (T'.2.2.2.1 j = true ↔ arA (fun k => T.1 k = true) f T'.2.2.2.2.2.2 j)) ∧ v = some (xI (isum (fun k => b2i (T'.2.2.2.1 k)) 160))) := by
  refine CT.ofZ (by decide) rfl (Nat.le_of_ble_eq_true rfl) (fun Z hE => ?_)
  refine V_aload_n dX0_spread_0 0 rfl rfl ?_
  refine V_c_X0_68 rfl (by decide) (c_measure hM) dX0_spread_1 hM.1 rfl rfl (Nat.le_of_ble_eq_true rfl) (Nat.le_of_eq (Nat.zero_add _)) (Nat.le_of_eq (Nat.zero_add _)) (fun v w sz q => ?_)
  try dsimp only at q
  obtain ⟨rfl, rfl, s, hM, hs⟩ := q
  refine V_aload_n dX0_spread_4 0 rfl rfl ?_
  refine V_iload_n dX0_spread_5 2 rfl rfl ?_
  refine F_p_width hM rfl dX0_spread_6 (fun w hM => ?_)
  try dsimp only at hM
  have L9 : ∀ k : Int, 0 ≤ k → k ≤ g → ∀ (w : WD), FW w0 w φ (T.1, s, T.2.2.1, T.2.2.2.1, T.2.2.2.2.1, T.2.2.2.2.2.1, k) → (∀ w', k < w' → w' ≤ g → ¬ liA (fun k => T.1 k = true) f w') → V iX0_spread Z 0 0 w sz 9 [some (.ref φ), some (xI f), some (xI g), none] [] := by
    refine down_ind ?_
    intro k hk0 hk1 ih w hM hn
    refine V_aload_n dX0_spread_9 0 rfl rfl ?_
    refine F_g_width hM rfl dX0_spread_10 ?_
    try dsimp only
    refine V_if_le 37 dX0_spread_13 (by decide) (by omega) (fun h13 => ?_) (fun h13 => ?_)
    · refine V_fg [true, true, true, false] ?_
      exact c_spread_B (T := (T.1, s, T.2.2.1, T.2.2.2.1, T.2.2.2.2.1, T.2.2.2.2.2.1, k)) hE hM hs ⟨by dsimp only; omega, by dsimp only; omega⟩ ⟨by dsimp only; omega, by dsimp only; omega, by dsimp only; rw [show k = 0 by omega]; exact liA_0 hf hA, hn⟩ hf
    · refine V_aload_n dX0_spread_16 0 rfl rfl ?_
      refine V_iload_n dX0_spread_17 1 rfl rfl ?_
      refine V_c_X0_71 rfl (by decide) (c_liesInSquare hM hs ⟨by dsimp only; omega, by dsimp only; omega⟩ hf) dX0_spread_18 hM.1 rfl rfl (Nat.le_of_ble_eq_true rfl) (Nat.le_of_eq (Nat.zero_add _)) (Nat.le_of_eq (Nat.zero_add _)) (fun v w sz q => ?_)
      try dsimp only at q
      obtain ⟨rfl, rfl, b, rfl, hb⟩ := q
      refine V_ifneB 37 dX0_spread_21 (by decide) (fun h21 => ?_) (fun h21 => ?_)
      · try simp only [decide_eq_true_eq, decide_eq_false_iff_not, Bool.not_eq_true] at h21
        refine V_fg [true, true, true, false] ?_
        exact c_spread_B (T := (T.1, s, T.2.2.1, T.2.2.2.1, T.2.2.2.2.1, T.2.2.2.2.2.1, k)) hE hM hs ⟨by dsimp only; omega, by dsimp only; omega⟩ ⟨by dsimp only; omega, by dsimp only; omega, hb.mp h21, hn⟩ hf
      · try simp only [decide_eq_true_eq, decide_eq_false_iff_not, Bool.not_eq_true] at h21
        refine V_aload_n dX0_spread_24 0 rfl rfl ?_
        refine V_dup dX0_spread_25 rfl ?_
        refine F_g_width hM rfl dX0_spread_26 ?_
        try dsimp only
        refine V_iconst dX0_spread_29 ?_
        refine V_isub dX0_spread_30 ?_
        refine F_p_width hM rfl dX0_spread_31 (fun w hM => ?_)
        try dsimp only at hM
        refine V_goto 9 dX0_spread_34 (by decide) ?_
        refine V_fg [true, true, true, false] ?_
        refine ih (by omega) _ hM (fun w' g1 g2 => ?_)
        by_cases e : w' = k
        · rw [e]; exact fun q => Bool.false_ne_true (h21.symm.trans (hb.mpr q))
        · exact hn w' (by omega) g2
  refine V_fg [true, true, true, false] ?_
  exact L9 (g) (by omega) (by omega) _ hM (fun w' g1 g2 => by omega)
