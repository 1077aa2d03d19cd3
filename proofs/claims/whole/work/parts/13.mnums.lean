/-! the reference: numbers of the mask, of cells and of picks -/
abbrev imk (f : Int → Int) (x y : Int) : Bool := decide (iCell x y ∧ 50 ≤ f (16 * y + x))
abbrev ieg (f : Int → Int) (x y : Int) : Int := (if imk f x y ≠ imk f (x + 1) y then 1 else 0) + (if imk f x y ≠ imk f x (y + 1) then 1 else 0)
abbrev iegr (f : Int → Int) (j : Int) : Int := isum (fun i => ieg f (i - 1) (j - 1)) 17
abbrev idif (z : Int → Int) : Int := isum (fun s => b2i (iex (fun j => decide (z j = s)) 160)) 100
abbrev ipat (z : Int → Int) (c : Int) : Int := isum (fun p => if 0 < z (161 + 169 * p + (9 + c)) then 1 else 0) (z 160)
abbrev icel (z f : Int → Int) (c a : Int) : Int := if a = 0 then z c else if a = 1 then f c else ipat z c
abbrev ipic (z : Int → Int) (p a : Int) : Int := if a < 9 then z (161 + 169 * p + a) else isum (fun k => if a = 11 then z (161 + 169 * p + (9 + k)) else if (if a = 9 then 100 else 1) ≤ z (161 + 169 * p + (9 + k)) then 1 else 0) 160
abbrev icnt (z f : Int → Int) (s a : Int) : Int := if a = 0 then z 160 else if a = 1 then isum (fun p => z (161 + 169 * p + 7)) (z 160) else if a = 2 then isum (fun k => if 100 ≤ f k then 1 else 0) 160 else if a = 3 then isum (fun k => if 1 ≤ f k then 1 else 0) 160 else if a = 4 then isum f 160 else if a = 5 then isum (iegr f) 11 else if a = 6 then isum z 160 else if a = 7 then idif z else s
set_option maxRecDepth 100000 in
set_option maxHeartbeats 4000000 in
theorem m_edge {w0 w : WD} {sz μ : Nat} {P : MP} {K : MK} (hM : MW w0 w μ P K) (hr : ∀ k, 0 ≤ k → k < 160 → 0 ≤ K.2.2.2.2.2.2.1 k ∧ K.2.2.2.2.2.2.1 k ≤ 100) : CT iX7_edge 0 0 [.ref μ] w sz (pR (some (xI (isum (iegr K.2.2.2.2.2.2.1) 11))) w sz) := by
  refine CT.ofZ (by decide) rfl (Nat.le_of_ble_eq_true rfl) (fun Z hE => ?_)
  refine V_iconst dX7_edge_0 ?_
  refine V_istore_n dX7_edge_1 1 rfl (by decide) ?_
  refine V_iconst dX7_edge_2 ?_
  refine V_istore_n dX7_edge_3 2 rfl (by decide) ?_
  have L4 : ∀ y : Int, -1 ≤ y → y ≤ 10 → V iX7_edge Z 0 0 w sz 4 [some (.ref μ), some (xI (isum (iegr K.2.2.2.2.2.2.1) (y + 1))), some (xI y), none] [] := by
    refine up_ind ?_
    intro y hy0 hy1 ihy
    have ey := isum_s (f := iegr (K.2.2.2.2.2.2.1)) (k := y + 1) (by omega)
    have ey2 : iegr (K.2.2.2.2.2.2.1) (y + 1) = isum (fun i => ieg (K.2.2.2.2.2.2.1) (i - 1) y) 17 := by simp only [iegr, show y + 1 - 1 = y by omega]
    refine V_iload_n dX7_edge_4 2 rfl rfl ?_
    refine V_bipush dX7_edge_5 (by decide) ?_
    refine V_icmp_ge 80 dX7_edge_7 (by decide) (by omega) (fun h7 => ?_) (fun h7 => ?_)
    · refine V_iload_n dX7_edge_80 1 rfl rfl ?_
      exact V_iret hE rfl dX7_edge_81 ⟨bE (by rw [show y = 10 by omega]; rfl), rfl, rfl⟩
    · refine V_iconst dX7_edge_10 ?_
      refine V_istore_n dX7_edge_11 3 rfl (by decide) ?_
      have L12 : ∀ x : Int, -1 ≤ x → x ≤ 16 → V iX7_edge Z 0 0 w sz 12 [some (.ref μ), some (xI (isum (iegr K.2.2.2.2.2.2.1) (y + 1) + isum (fun i => ieg K.2.2.2.2.2.2.1 (i - 1) y) (x + 1))), some (xI y), some (xI x)] [] := by
        refine up_ind ?_
        intro x hx0 hx1 ihx
        have ex := isum_s (f := fun i => ieg (K.2.2.2.2.2.2.1) (i - 1) y) (k := x + 1) (by omega)
        rw [show x + 1 - 1 = x by omega] at ex
        refine V_iload_n dX7_edge_12 3 rfl rfl ?_
        refine V_bipush dX7_edge_13 (by decide) ?_
        refine V_icmp_ge 74 dX7_edge_15 (by decide) (by omega) (fun h15 => ?_) (fun h15 => ?_)
        · refine V_iinc dX7_edge_74 rfl (by decide) ?_
          refine V_goto 4 dX7_edge_77 (by decide) ?_
          refine V_fg [true, true, true, false] ?_
          have hx16 : x = 16 := by omega
          subst hx16
          rw [ey, ey2] at ihy
          exact ihy (by omega)
        · refine V_iload_n dX7_edge_18 1 rfl rfl ?_
          refine V_aload_n dX7_edge_19 0 rfl rfl ?_
          refine V_iload_n dX7_edge_20 3 rfl rfl ?_
          refine V_iload_n dX7_edge_21 2 rfl rfl ?_
          refine V_c_X7_151 rfl (by decide) (m_isMasked hM (by omega) hr) dX7_edge_22 hM.1 rfl rfl (Nat.le_of_ble_eq_true rfl) (Nat.le_of_eq (Nat.zero_add _)) (Nat.le_of_eq (Nat.zero_add _)) (fun v w sz q => ?_)
          obtain ⟨rfl, rfl, rfl⟩ := q
          refine V_aload_n dX7_edge_25 0 rfl rfl ?_
          refine V_iload_n dX7_edge_26 3 rfl rfl ?_
          refine V_iconst dX7_edge_27 ?_
          refine V_iadd dX7_edge_28 ?_
          refine V_iload_n dX7_edge_29 2 rfl rfl ?_
          refine V_c_X7_151 rfl (by decide) (m_isMasked hM (by omega) hr) dX7_edge_30 hM.1 rfl rfl (Nat.le_of_ble_eq_true rfl) (Nat.le_of_eq (Nat.zero_add _)) (Nat.le_of_eq (Nat.zero_add _)) (fun v w sz q => ?_)
          obtain ⟨rfl, rfl, rfl⟩ := q
          refine V_icmp_eqB 40 dX7_edge_33 (by decide) (fun h33 => ?_) (fun h33 => ?_)
          · refine V_iconst dX7_edge_40 ?_
            refine V_iadd dX7_edge_41 ?_
            refine V_istore_n dX7_edge_42 1 rfl (by decide) ?_
            refine V_iload_n dX7_edge_43 1 rfl rfl ?_
            refine V_aload_n dX7_edge_44 0 rfl rfl ?_
            refine V_iload_n dX7_edge_45 3 rfl rfl ?_
            refine V_iload_n dX7_edge_46 2 rfl rfl ?_
            refine V_c_X7_151 rfl (by decide) (m_isMasked hM (by omega) hr) dX7_edge_47 hM.1 rfl rfl (Nat.le_of_ble_eq_true rfl) (Nat.le_of_eq (Nat.zero_add _)) (Nat.le_of_eq (Nat.zero_add _)) (fun v w sz q => ?_)
            obtain ⟨rfl, rfl, rfl⟩ := q
            refine V_aload_n dX7_edge_50 0 rfl rfl ?_
            refine V_iload_n dX7_edge_51 3 rfl rfl ?_
            refine V_iload_n dX7_edge_52 2 rfl rfl ?_
            refine V_iconst dX7_edge_53 ?_
            refine V_iadd dX7_edge_54 ?_
            refine V_c_X7_151 rfl (by decide) (m_isMasked hM (by omega) hr) dX7_edge_55 hM.1 rfl rfl (Nat.le_of_ble_eq_true rfl) (Nat.le_of_eq (Nat.zero_add _)) (Nat.le_of_eq (Nat.zero_add _)) (fun v w sz q => ?_)
            obtain ⟨rfl, rfl, rfl⟩ := q
            refine V_icmp_eqB 65 dX7_edge_58 (by decide) (fun h58 => ?_) (fun h58 => ?_)
            · refine V_iconst dX7_edge_65 ?_
              refine V_iadd dX7_edge_66 ?_
              refine V_istore_n dX7_edge_67 1 rfl (by decide) ?_
              refine V_iinc dX7_edge_68 rfl (by decide) ?_
              refine V_goto 12 dX7_edge_71 (by decide) ?_
              have e1 : ieg (K.2.2.2.2.2.2.1) x y = ieg (K.2.2.2.2.2.2.1) x y := rfl
              conv at e1 => rhs; unfold ieg
              (first | rw [if_pos h33] at e1 | rw [if_neg (fun q => q h33)] at e1)
              (first | rw [if_pos h58] at e1 | rw [if_neg (fun q => q h58)] at e1)
              rw [ex, e1] at ihx
              simp only [← Int.add_assoc] at ihx
              exact ihx (by omega)
            · refine V_iconst dX7_edge_61 ?_
              refine V_goto 66 dX7_edge_62 (by decide) ?_
              refine V_iadd dX7_edge_66 ?_
              refine V_istore_n dX7_edge_67 1 rfl (by decide) ?_
              refine V_iinc dX7_edge_68 rfl (by decide) ?_
              refine V_goto 12 dX7_edge_71 (by decide) ?_
              have e1 : ieg (K.2.2.2.2.2.2.1) x y = ieg (K.2.2.2.2.2.2.1) x y := rfl
              conv at e1 => rhs; unfold ieg
              (first | rw [if_pos h33] at e1 | rw [if_neg (fun q => q h33)] at e1)
              (first | rw [if_pos h58] at e1 | rw [if_neg (fun q => q h58)] at e1)
              rw [ex, e1] at ihx
              simp only [← Int.add_assoc] at ihx
              exact ihx (by omega)
          · refine V_iconst dX7_edge_36 ?_
            refine V_goto 41 dX7_edge_37 (by decide) ?_
            refine V_iadd dX7_edge_41 ?_
            refine V_istore_n dX7_edge_42 1 rfl (by decide) ?_
            refine V_iload_n dX7_edge_43 1 rfl rfl ?_
            refine V_aload_n dX7_edge_44 0 rfl rfl ?_
            refine V_iload_n dX7_edge_45 3 rfl rfl ?_
            refine V_iload_n dX7_edge_46 2 rfl rfl ?_
            refine V_c_X7_151 rfl (by decide) (m_isMasked hM (by omega) hr) dX7_edge_47 hM.1 rfl rfl (Nat.le_of_ble_eq_true rfl) (Nat.le_of_eq (Nat.zero_add _)) (Nat.le_of_eq (Nat.zero_add _)) (fun v w sz q => ?_)
            obtain ⟨rfl, rfl, rfl⟩ := q
            refine V_aload_n dX7_edge_50 0 rfl rfl ?_
            refine V_iload_n dX7_edge_51 3 rfl rfl ?_
            refine V_iload_n dX7_edge_52 2 rfl rfl ?_
            refine V_iconst dX7_edge_53 ?_
            refine V_iadd dX7_edge_54 ?_
            refine V_c_X7_151 rfl (by decide) (m_isMasked hM (by omega) hr) dX7_edge_55 hM.1 rfl rfl (Nat.le_of_ble_eq_true rfl) (Nat.le_of_eq (Nat.zero_add _)) (Nat.le_of_eq (Nat.zero_add _)) (fun v w sz q => ?_)
            obtain ⟨rfl, rfl, rfl⟩ := q
            refine V_icmp_eqB 65 dX7_edge_58 (by decide) (fun h58 => ?_) (fun h58 => ?_)
            · refine V_iconst dX7_edge_65 ?_
              refine V_iadd dX7_edge_66 ?_
              refine V_istore_n dX7_edge_67 1 rfl (by decide) ?_
              refine V_iinc dX7_edge_68 rfl (by decide) ?_
              refine V_goto 12 dX7_edge_71 (by decide) ?_
              have e1 : ieg (K.2.2.2.2.2.2.1) x y = ieg (K.2.2.2.2.2.2.1) x y := rfl
              conv at e1 => rhs; unfold ieg
              (first | rw [if_pos h33] at e1 | rw [if_neg (fun q => q h33)] at e1)
              (first | rw [if_pos h58] at e1 | rw [if_neg (fun q => q h58)] at e1)
              rw [ex, e1] at ihx
              simp only [← Int.add_assoc] at ihx
              exact ihx (by omega)
            · refine V_iconst dX7_edge_61 ?_
              refine V_goto 66 dX7_edge_62 (by decide) ?_
              refine V_iadd dX7_edge_66 ?_
              refine V_istore_n dX7_edge_67 1 rfl (by decide) ?_
              refine V_iinc dX7_edge_68 rfl (by decide) ?_
              refine V_goto 12 dX7_edge_71 (by decide) ?_
              have e1 : ieg (K.2.2.2.2.2.2.1) x y = ieg (K.2.2.2.2.2.2.1) x y := rfl
              conv at e1 => rhs; unfold ieg
              (first | rw [if_pos h33] at e1 | rw [if_neg (fun q => q h33)] at e1)
              (first | rw [if_pos h58] at e1 | rw [if_neg (fun q => q h58)] at e1)
              rw [ex, e1] at ihx
              simp only [← Int.add_assoc] at ihx
              exact ihx (by omega)
      have e0 := L12 (-1) (by omega) (by omega)
      simp only [show (-1 : Int) + 1 = 0 by omega, isum_0, Int.add_zero] at e0
      exact e0
  refine V_fg [true, true, true, false] ?_
  have e0 := L4 (-1) (by omega) (by omega)
  simp only [show (-1 : Int) + 1 = 0 by omega, isum_0] at e0
  exact e0
set_option maxRecDepth 100000 in
set_option maxHeartbeats 4000000 in
theorem m_different {w0 w : WD} {sz μ : Nat} {P : MP} {K : MK} (hM : MW w0 w μ P K) (hz : ∀ k, 0 ≤ k → k < 160 → 0 ≤ P.1 k ∧ P.1 k ≤ 99) : CT iX7_different 0 0 [.ref μ] w sz (pR (some (xI (idif P.1))) w sz) := by
  refine CT.ofZ (by decide) rfl (Nat.le_of_ble_eq_true rfl) (fun Z hE => ?_)
  refine V_iconst dX7_different_0 ?_
  refine V_istore_n dX7_different_1 1 rfl (by decide) ?_
  refine V_iconst dX7_different_2 ?_
  refine V_istore_n dX7_different_3 2 rfl (by decide) ?_
  have L4 : ∀ s : Int, 0 ≤ s → s ≤ 100 → V iX7_different Z 0 0 w sz 4 [some (.ref μ), some (xI (isum (fun s => b2i (iex (fun j => decide (P.1 j = s)) 160)) s)), some (xI s), none, none] [] := by
    refine up_ind ?_
    intro s hs0 hs1 ihs
    refine V_iload_n dX7_different_4 2 rfl rfl ?_
    refine V_bipush dX7_different_5 (by decide) ?_
    refine V_icmp_ge 68 dX7_different_7 (by decide) (by first | omega | (have := hz9 (by omega); omega)) (fun h7 => ?_) (fun h7 => ?_)
    · refine V_iload_n dX7_different_68 1 rfl rfl ?_
      exact V_iret hE rfl dX7_different_69 ⟨bE (by rw [show s = 100 by omega]), rfl, rfl⟩
    · refine V_iconst dX7_different_10 ?_
      refine V_istore_n dX7_different_11 3 rfl (by decide) ?_
      refine V_iconst dX7_different_12 ?_
      refine V_istore dX7_different_13 (by decide) ?_
      have L15 : ∀ k : Int, 0 ≤ k → k ≤ 160 → V iX7_different Z 0 0 w sz 15 [some (.ref μ), some (xI (isum (fun s => b2i (iex (fun j => decide (P.1 j = s)) 160)) s)), some (xI s), some (xB (iex (fun j => decide (P.1 j = s)) k)), some (xI k)] [] := by
        refine up_ind ?_
        intro k hk0 hk1 ih
        have hz9 := hz k hk0
        refine V_iload dX7_different_15 rfl ?_
        refine V_sipush dX7_different_17 (by decide) ?_
        refine V_icmp_ge 50 dX7_different_20 (by decide) (by first | omega | (have := hz9 (by omega); omega)) (fun h20 => ?_) (fun h20 => ?_)
        · refine V_iload_n dX7_different_50 1 rfl rfl ?_
          refine V_iload_n dX7_different_51 3 rfl rfl ?_
          refine V_ifeqB 59 dX7_different_52 (by decide) (fun h52 => ?_) (fun h52 => ?_)
          · try simp only [decide_eq_true_eq, decide_eq_false_iff_not, Bool.not_eq_true] at h52
            refine V_iconst dX7_different_59 ?_
            refine V_iadd dX7_different_60 ?_
            refine V_istore_n dX7_different_61 1 rfl (by decide) ?_
            refine V_iinc dX7_different_62 rfl (by decide) ?_
            refine V_goto 4 dX7_different_65 (by decide) ?_
            refine V_fg [true, true, true, false, false] ?_
            have hk16 : k = 160 := by omega
            subst hk16
            rw [isum_s hs0, h52] at ihs
            exact ihs (by omega)
          · try simp only [decide_eq_true_eq, decide_eq_false_iff_not, Bool.not_eq_true] at h52
            refine V_iconst dX7_different_55 ?_
            refine V_goto 60 dX7_different_56 (by decide) ?_
            refine V_iadd dX7_different_60 ?_
            refine V_istore_n dX7_different_61 1 rfl (by decide) ?_
            refine V_iinc dX7_different_62 rfl (by decide) ?_
            refine V_goto 4 dX7_different_65 (by decide) ?_
            refine V_fg [true, true, true, false, false] ?_
            have hk16 : k = 160 := by omega
            subst hk16
            rw [isum_s hs0, h52] at ihs
            exact ihs (by omega)
        · refine V_iload_n dX7_different_23 3 rfl rfl ?_
          refine V_ifneB 38 dX7_different_24 (by decide) (fun h24 => ?_) (fun h24 => ?_)
          · try simp only [decide_eq_true_eq, decide_eq_false_iff_not, Bool.not_eq_true] at h24
            refine V_iconst dX7_different_38 ?_
            refine V_goto 43 dX7_different_39 (by decide) ?_
            refine V_istore_n dX7_different_43 3 rfl (by decide) ?_
            refine V_iinc dX7_different_44 rfl (by decide) ?_
            refine V_goto 15 dX7_different_47 (by decide) ?_
            rw [iex_s hk0, h24] at ih
            (first | rw [Bool.true_or] at ih | (rw [Bool.false_or, decide_eq_true h35] at ih) | (rw [Bool.false_or, decide_eq_false h35] at ih))
            exact ih (by omega)
          · try simp only [decide_eq_true_eq, decide_eq_false_iff_not, Bool.not_eq_true] at h24
            refine V_aload_n dX7_different_27 0 rfl rfl ?_
            refine M_g_z hM rfl dX7_different_28 ?_
            refine V_iload dX7_different_31 rfl ?_
            refine M_l_z hM dX7_different_33 (by first | omega | (dsimp only; omega) | (dsimp only at *; omega)) ?_
            refine V_iload_n dX7_different_34 2 rfl rfl ?_
            refine V_icmp_ne 42 dX7_different_35 (by decide) (by first | omega | (have := hz9 (by omega); omega)) (fun h35 => ?_) (fun h35 => ?_)
            · refine V_iconst dX7_different_42 ?_
              refine V_istore_n dX7_different_43 3 rfl (by decide) ?_
              refine V_iinc dX7_different_44 rfl (by decide) ?_
              refine V_goto 15 dX7_different_47 (by decide) ?_
              rw [iex_s hk0, h24] at ih
              (first | rw [Bool.true_or] at ih | (rw [Bool.false_or, decide_eq_true h35] at ih) | (rw [Bool.false_or, decide_eq_false h35] at ih))
              exact ih (by omega)
            · refine V_iconst dX7_different_38 ?_
              refine V_goto 43 dX7_different_39 (by decide) ?_
              refine V_istore_n dX7_different_43 3 rfl (by decide) ?_
              refine V_iinc dX7_different_44 rfl (by decide) ?_
              refine V_goto 15 dX7_different_47 (by decide) ?_
              rw [iex_s hk0, h24] at ih
              (first | rw [Bool.true_or] at ih | (rw [Bool.false_or, decide_eq_true h35] at ih) | (rw [Bool.false_or, decide_eq_false h35] at ih))
              exact ih (by omega)
      exact L15 (0) (by omega) (by omega)
  refine V_fg [true, true, true, false, false] ?_
  exact L4 (0) (by omega) (by omega)
set_option maxRecDepth 100000 in
set_option maxHeartbeats 4000000 in
theorem m_cellNow {w0 w : WD} {sz μ : Nat} {P : MP} {K : MK} {c a : Int} (hM : MW w0 w μ P K) (hp : 0 ≤ P.1 160 ∧ P.1 160 ≤ 12) (hl : ∀ p c, 0 ≤ p → p < P.1 160 → 0 ≤ c → c < 160 → 0 ≤ P.1 (161 + 169 * p + (9 + c)) ∧ P.1 (161 + 169 * p + (9 + c)) ≤ 100) (hc : 0 ≤ c ∧ c < 160) (ha : 0 ≤ a ∧ a ≤ 2) : CT iX7_cellNow 0 0 [.ref μ, xI c, xI a] w sz (pR (some (xI (icel P.1 K.2.2.2.2.2.2.1 c a))) w sz) := by
  refine CT.ofZ (by decide) rfl (Nat.le_of_ble_eq_true rfl) (fun Z hE => ?_)
  refine V_iload_n dX7_cellNow_0 2 rfl rfl ?_
  refine V_if_ne 13 dX7_cellNow_1 (by decide) (by omega) (fun h1 => ?_) (fun h1 => ?_)
  · refine V_iload_n dX7_cellNow_13 2 rfl rfl ?_
    refine V_iconst dX7_cellNow_14 ?_
    refine V_icmp_ne 27 dX7_cellNow_15 (by decide) (by omega) (fun h15 => ?_) (fun h15 => ?_)
    · refine V_aload_n dX7_cellNow_27 0 rfl rfl ?_
      refine V_iload_n dX7_cellNow_28 1 rfl rfl ?_
      refine V_c_X7_142 rfl (by decide) (m_picksAt hM hp (by omega) (fun p h1 h2 => hl p _ h1 h2 (by omega) (by omega))) dX7_cellNow_29 hM.1 rfl rfl (Nat.le_of_ble_eq_true rfl) (Nat.le_of_eq (Nat.zero_add _)) (Nat.le_of_eq (Nat.zero_add _)) (fun v w sz q => ?_)
      obtain ⟨rfl, rfl, rfl⟩ := q
      exact V_iret hE rfl dX7_cellNow_32 ⟨bE (by simp only [icel]; first | rw [if_pos (show a = 0 by omega)] | rw [if_neg (show ¬ a = 0 by omega), if_pos (show a = 1 by omega)] | rw [if_neg (show ¬ a = 0 by omega), if_neg (show ¬ a = 1 by omega)]), rfl, rfl⟩
    · refine V_aload_n dX7_cellNow_18 0 rfl rfl ?_
      refine M_g_mask hM rfl dX7_cellNow_19 ?_
      refine V_iload_n dX7_cellNow_22 1 rfl rfl ?_
      refine M_l_mask hM dX7_cellNow_23 (by first | omega | (dsimp only; omega) | (dsimp only at *; omega)) ?_
      refine V_goto 32 dX7_cellNow_24 (by decide) ?_
      exact V_iret hE rfl dX7_cellNow_32 ⟨bE (by simp only [icel]; first | rw [if_pos (show a = 0 by omega)] | rw [if_neg (show ¬ a = 0 by omega), if_pos (show a = 1 by omega)] | rw [if_neg (show ¬ a = 0 by omega), if_neg (show ¬ a = 1 by omega)]), rfl, rfl⟩
  · refine V_aload_n dX7_cellNow_4 0 rfl rfl ?_
    refine M_g_z hM rfl dX7_cellNow_5 ?_
    refine V_iload_n dX7_cellNow_8 1 rfl rfl ?_
    refine M_l_z hM dX7_cellNow_9 (by first | omega | (dsimp only; omega) | (dsimp only at *; omega)) ?_
    refine V_goto 32 dX7_cellNow_10 (by decide) ?_
    exact V_iret hE rfl dX7_cellNow_32 ⟨bE (by simp only [icel]; first | rw [if_pos (show a = 0 by omega)] | rw [if_neg (show ¬ a = 0 by omega), if_pos (show a = 1 by omega)] | rw [if_neg (show ¬ a = 0 by omega), if_neg (show ¬ a = 1 by omega)]), rfl, rfl⟩
set_option maxRecDepth 100000 in
set_option maxHeartbeats 4000000 in
theorem m_pickedNow {w0 w : WD} {sz μ : Nat} {P : MP} {K : MK} {p a : Int} (hM : MW w0 w μ P K) (hp : 0 ≤ P.1 160 ∧ P.1 160 ≤ 12) (hl : ∀ p c, 0 ≤ p → p < P.1 160 → 0 ≤ c → c < 160 → 0 ≤ P.1 (161 + 169 * p + (9 + c)) ∧ P.1 (161 + 169 * p + (9 + c)) ≤ 100) (hpp : 0 ≤ p ∧ p < P.1 160) (ha : 0 ≤ a ∧ a ≤ 11) : CT iX7_pickedNow 0 0 [.ref μ, xI p, xI a] w sz (pR (some (xI (ipic P.1 p a))) w sz) := by
  refine CT.ofZ (by decide) rfl (Nat.le_of_ble_eq_true rfl) (fun Z hE => ?_)
  refine V_iload_n dX7_pickedNow_0 2 rfl rfl ?_
  refine V_bipush dX7_pickedNow_1 (by decide) ?_
  refine V_icmp_ge 13 dX7_pickedNow_3 (by decide) (by first | omega | (have := hl p k (by omega) (by omega) hk0 (by omega); omega)) (fun h3 => ?_) (fun h3 => ?_)
  · refine V_iconst dX7_pickedNow_13 ?_
    refine V_istore_n dX7_pickedNow_14 3 rfl (by decide) ?_
    refine V_iconst dX7_pickedNow_15 ?_
    refine V_istore dX7_pickedNow_16 (by decide) ?_
    have L18 : ∀ k : Int, 0 ≤ k → k ≤ 160 → V iX7_pickedNow Z 0 0 w sz 18 [some (.ref μ), some (xI p), some (xI a), some (xI (isum (fun k => if a = 11 then P.1 (161 + 169 * p + (9 + k)) else if (if a = 9 then 100 else 1) ≤ P.1 (161 + 169 * p + (9 + k)) then 1 else 0) k)), some (xI k), none] [] := by
      refine up_ind ?_
      intro k hk0 hk1 ih
      refine V_iload dX7_pickedNow_18 rfl ?_
      refine V_sipush dX7_pickedNow_20 (by decide) ?_
      refine V_icmp_ge 77 dX7_pickedNow_23 (by decide) (by first | omega | (have := hl p k (by omega) (by omega) hk0 (by omega); omega)) (fun h23 => ?_) (fun h23 => ?_)
      · refine V_iload_n dX7_pickedNow_77 3 rfl rfl ?_
        exact V_iret hE rfl dX7_pickedNow_78 ⟨bE (by simp only [ipic]; rw [if_neg (show ¬ a < 9 by omega), show k = 160 by omega]), rfl, rfl⟩
      · refine V_aload_n dX7_pickedNow_26 0 rfl rfl ?_
        refine V_iload_n dX7_pickedNow_27 1 rfl rfl ?_
        refine V_iload dX7_pickedNow_28 rfl ?_
        refine V_c_X7_85 rfl (by decide) (m_levelOf hM (by omega)) dX7_pickedNow_30 hM.1 rfl rfl (Nat.le_of_ble_eq_true rfl) (Nat.le_of_eq (Nat.zero_add _)) (Nat.le_of_eq (Nat.zero_add _)) (fun v w sz q => ?_)
        obtain ⟨rfl, rfl, rfl⟩ := q
        refine V_istore dX7_pickedNow_33 (by decide) ?_
        refine V_iload_n dX7_pickedNow_35 3 rfl rfl ?_
        refine V_iload_n dX7_pickedNow_36 2 rfl rfl ?_
        refine V_bipush dX7_pickedNow_37 (by decide) ?_
        refine V_icmp_ne 47 dX7_pickedNow_39 (by decide) (by first | omega | (have := hl p k (by omega) (by omega) hk0 (by omega); omega)) (fun h39 => ?_) (fun h39 => ?_)
        · refine V_iload dX7_pickedNow_47 rfl ?_
          refine V_iload_n dX7_pickedNow_49 2 rfl rfl ?_
          refine V_bipush dX7_pickedNow_50 (by decide) ?_
          refine V_icmp_ne 60 dX7_pickedNow_52 (by decide) (by first | omega | (have := hl p k (by omega) (by omega) hk0 (by omega); omega)) (fun h52 => ?_) (fun h52 => ?_)
          · refine V_iconst dX7_pickedNow_60 ?_
            refine V_icmp_lt 68 dX7_pickedNow_61 (by decide) (by first | omega | (have := hl p k (by omega) (by omega) hk0 (by omega); omega)) (fun h61 => ?_) (fun h61 => ?_)
            · refine V_iconst dX7_pickedNow_68 ?_
              refine V_iadd dX7_pickedNow_69 ?_
              refine V_istore_n dX7_pickedNow_70 3 rfl (by decide) ?_
              refine V_iinc dX7_pickedNow_71 rfl (by decide) ?_
              refine V_goto 18 dX7_pickedNow_74 (by decide) ?_
              refine V_fg [true, true, true, true, true, false] ?_
              rw [isum_s hk0] at ih
              first | rw [if_pos (show a = 11 by omega)] at ih | (rw [if_neg (show ¬ a = 11 by omega)] at ih; first | rw [if_pos (show (if a = 9 then 100 else 1) ≤ P.1 (161 + 169 * p + (9 + k)) by omega)] at ih | rw [if_neg (show ¬ (if a = 9 then 100 else 1) ≤ P.1 (161 + 169 * p + (9 + k)) by omega)] at ih)
              exact ih (by omega)
            · refine V_iconst dX7_pickedNow_64 ?_
              refine V_goto 69 dX7_pickedNow_65 (by decide) ?_
              refine V_iadd dX7_pickedNow_69 ?_
              refine V_istore_n dX7_pickedNow_70 3 rfl (by decide) ?_
              refine V_iinc dX7_pickedNow_71 rfl (by decide) ?_
              refine V_goto 18 dX7_pickedNow_74 (by decide) ?_
              refine V_fg [true, true, true, true, true, false] ?_
              rw [isum_s hk0] at ih
              first | rw [if_pos (show a = 11 by omega)] at ih | (rw [if_neg (show ¬ a = 11 by omega)] at ih; first | rw [if_pos (show (if a = 9 then 100 else 1) ≤ P.1 (161 + 169 * p + (9 + k)) by omega)] at ih | rw [if_neg (show ¬ (if a = 9 then 100 else 1) ≤ P.1 (161 + 169 * p + (9 + k)) by omega)] at ih)
              exact ih (by omega)
          · refine V_bipush dX7_pickedNow_55 (by decide) ?_
            refine V_goto 61 dX7_pickedNow_57 (by decide) ?_
            refine V_icmp_lt 68 dX7_pickedNow_61 (by decide) (by first | omega | (have := hl p k (by omega) (by omega) hk0 (by omega); omega)) (fun h61 => ?_) (fun h61 => ?_)
            · refine V_iconst dX7_pickedNow_68 ?_
              refine V_iadd dX7_pickedNow_69 ?_
              refine V_istore_n dX7_pickedNow_70 3 rfl (by decide) ?_
              refine V_iinc dX7_pickedNow_71 rfl (by decide) ?_
              refine V_goto 18 dX7_pickedNow_74 (by decide) ?_
              refine V_fg [true, true, true, true, true, false] ?_
              rw [isum_s hk0] at ih
              first | rw [if_pos (show a = 11 by omega)] at ih | (rw [if_neg (show ¬ a = 11 by omega)] at ih; first | rw [if_pos (show (if a = 9 then 100 else 1) ≤ P.1 (161 + 169 * p + (9 + k)) by omega)] at ih | rw [if_neg (show ¬ (if a = 9 then 100 else 1) ≤ P.1 (161 + 169 * p + (9 + k)) by omega)] at ih)
              exact ih (by omega)
            · refine V_iconst dX7_pickedNow_64 ?_
              refine V_goto 69 dX7_pickedNow_65 (by decide) ?_
              refine V_iadd dX7_pickedNow_69 ?_
              refine V_istore_n dX7_pickedNow_70 3 rfl (by decide) ?_
              refine V_iinc dX7_pickedNow_71 rfl (by decide) ?_
              refine V_goto 18 dX7_pickedNow_74 (by decide) ?_
              refine V_fg [true, true, true, true, true, false] ?_
              rw [isum_s hk0] at ih
              first | rw [if_pos (show a = 11 by omega)] at ih | (rw [if_neg (show ¬ a = 11 by omega)] at ih; first | rw [if_pos (show (if a = 9 then 100 else 1) ≤ P.1 (161 + 169 * p + (9 + k)) by omega)] at ih | rw [if_neg (show ¬ (if a = 9 then 100 else 1) ≤ P.1 (161 + 169 * p + (9 + k)) by omega)] at ih)
              exact ih (by omega)
        · refine V_iload dX7_pickedNow_42 rfl ?_
          refine V_goto 69 dX7_pickedNow_44 (by decide) ?_
          refine V_iadd dX7_pickedNow_69 ?_
          refine V_istore_n dX7_pickedNow_70 3 rfl (by decide) ?_
          refine V_iinc dX7_pickedNow_71 rfl (by decide) ?_
          refine V_goto 18 dX7_pickedNow_74 (by decide) ?_
          refine V_fg [true, true, true, true, true, false] ?_
          rw [isum_s hk0] at ih
          first | rw [if_pos (show a = 11 by omega)] at ih | (rw [if_neg (show ¬ a = 11 by omega)] at ih; first | rw [if_pos (show (if a = 9 then 100 else 1) ≤ P.1 (161 + 169 * p + (9 + k)) by omega)] at ih | rw [if_neg (show ¬ (if a = 9 then 100 else 1) ≤ P.1 (161 + 169 * p + (9 + k)) by omega)] at ih)
          exact ih (by omega)
    refine V_fg [true, true, true, true, true, false] ?_
    exact L18 (0) (by omega) (by omega)
  · refine V_aload_n dX7_pickedNow_6 0 rfl rfl ?_
    refine V_iload_n dX7_pickedNow_7 1 rfl rfl ?_
    refine V_iload_n dX7_pickedNow_8 2 rfl rfl ?_
    refine V_c_X7_46 rfl (by decide) (m_of hM (by omega)) dX7_pickedNow_9 hM.1 rfl rfl (Nat.le_of_ble_eq_true rfl) (Nat.le_of_eq (Nat.zero_add _)) (Nat.le_of_eq (Nat.zero_add _)) (fun v w sz q => ?_)
    obtain ⟨rfl, rfl, rfl⟩ := q
    exact V_iret hE rfl dX7_pickedNow_12 ⟨bE (by simp only [ipic]; rw [if_pos (show a < 9 by omega)]), rfl, rfl⟩
set_option maxRecDepth 100000 in
set_option maxHeartbeats 4000000 in
theorem m_counted {w0 w : WD} {sz μ : Nat} {P : MP} {K : MK} {a : Int} (hM : MW w0 w μ P K) (hp : 0 ≤ P.1 160 ∧ P.1 160 ≤ 12) (hr : ∀ k, 0 ≤ k → k < 160 → 0 ≤ K.2.2.2.2.2.2.1 k ∧ K.2.2.2.2.2.2.1 k ≤ 100) (hz : ∀ k, 0 ≤ k → k < 160 → 0 ≤ P.1 k ∧ P.1 k ≤ 99) (ha : 0 ≤ a ∧ a ≤ 8) : CT iX7_counted 0 0 [.ref μ, xI a] w sz (pR (some (xI (icnt P.1 K.2.2.2.2.2.2.1 P.2.1 a))) w sz) := by
  refine CT.ofZ (by decide) rfl (Nat.le_of_ble_eq_true rfl) (fun Z hE => ?_)
  refine V_iload_n dX7_counted_0 1 rfl rfl ?_
  refine V_tab dX7_counted_1 (by omega) 95 (fun h1 => ⟨by decide, ?_⟩) (fun h1a h1b => ?_)
  · refine V_aload_n dX7_counted_95 0 rfl rfl ?_
    refine M_g_saves hM rfl dX7_counted_96 ?_
    exact V_iret hE rfl dX7_counted_99 ⟨bE (by first | rfl | (rw [show a = 8 by omega]; rfl)), rfl, rfl⟩
  · rcases (show a = 0 ∨ a = 1 ∨ a = 2 ∨ a = 3 ∨ a = 4 ∨ a = 5 ∨ a = 6 ∨ a = 7 by omega) with rfl | rfl | rfl | rfl | rfl | rfl | rfl | rfl
    · refine ⟨47, 48, rfl, by decide, ?_⟩
      refine V_aload_n dX7_counted_48 0 rfl rfl ?_
      refine M_g_z hM rfl dX7_counted_49 ?_
      refine V_sipush dX7_counted_52 (by decide) ?_
      refine M_l_z hM dX7_counted_55 (by first | omega | (dsimp only; omega) | (dsimp only at *; omega)) ?_
      exact V_iret hE rfl dX7_counted_56 ⟨bE (by first | rfl | (rw [show a = 8 by omega]; rfl)), rfl, rfl⟩
    · refine ⟨56, 57, rfl, by decide, ?_⟩
      refine V_aload_n dX7_counted_57 0 rfl rfl ?_
      refine V_c_X7_154 rfl (by decide) (m_picksIn hM hp) dX7_counted_58 hM.1 rfl rfl (Nat.le_of_ble_eq_true rfl) (Nat.le_of_eq (Nat.zero_add _)) (Nat.le_of_eq (Nat.zero_add _)) (fun v w sz q => ?_)
      obtain ⟨rfl, rfl, rfl⟩ := q
      exact V_iret hE rfl dX7_counted_61 ⟨bE (by first | rfl | (rw [show a = 8 by omega]; rfl)), rfl, rfl⟩
    · refine ⟨61, 62, rfl, by decide, ?_⟩
      refine V_aload_n dX7_counted_62 0 rfl rfl ?_
      refine V_bipush dX7_counted_63 (by decide) ?_
      refine V_c_X7_157 rfl (by decide) (m_maskFrom hM (by omega) hr) dX7_counted_65 hM.1 rfl rfl (Nat.le_of_ble_eq_true rfl) (Nat.le_of_eq (Nat.zero_add _)) (Nat.le_of_eq (Nat.zero_add _)) (fun v w sz q => ?_)
      obtain ⟨rfl, rfl, rfl⟩ := q
      exact V_iret hE rfl dX7_counted_68 ⟨bE (by first | rfl | (rw [show a = 8 by omega]; rfl)), rfl, rfl⟩
    · refine ⟨68, 69, rfl, by decide, ?_⟩
      refine V_aload_n dX7_counted_69 0 rfl rfl ?_
      refine V_iconst dX7_counted_70 ?_
      refine V_c_X7_157 rfl (by decide) (m_maskFrom hM (by omega) hr) dX7_counted_71 hM.1 rfl rfl (Nat.le_of_ble_eq_true rfl) (Nat.le_of_eq (Nat.zero_add _)) (Nat.le_of_eq (Nat.zero_add _)) (fun v w sz q => ?_)
      obtain ⟨rfl, rfl, rfl⟩ := q
      exact V_iret hE rfl dX7_counted_74 ⟨bE (by first | rfl | (rw [show a = 8 by omega]; rfl)), rfl, rfl⟩
    · refine ⟨74, 75, rfl, by decide, ?_⟩
      refine V_aload_n dX7_counted_75 0 rfl rfl ?_
      refine V_c_X7_160 rfl (by decide) (m_maskSum hM) dX7_counted_76 hM.1 rfl rfl (Nat.le_of_ble_eq_true rfl) (Nat.le_of_eq (Nat.zero_add _)) (Nat.le_of_eq (Nat.zero_add _)) (fun v w sz q => ?_)
      obtain ⟨rfl, rfl, rfl⟩ := q
      exact V_iret hE rfl dX7_counted_79 ⟨bE (by first | rfl | (rw [show a = 8 by omega]; rfl)), rfl, rfl⟩
    · refine ⟨79, 80, rfl, by decide, ?_⟩
      refine V_aload_n dX7_counted_80 0 rfl rfl ?_
      refine V_c_X7_163 rfl (by decide) (m_edge hM hr) dX7_counted_81 hM.1 rfl rfl (Nat.le_of_ble_eq_true rfl) (Nat.le_of_eq (Nat.zero_add _)) (Nat.le_of_eq (Nat.zero_add _)) (fun v w sz q => ?_)
      obtain ⟨rfl, rfl, rfl⟩ := q
      exact V_iret hE rfl dX7_counted_84 ⟨bE (by first | rfl | (rw [show a = 8 by omega]; rfl)), rfl, rfl⟩
    · refine ⟨84, 85, rfl, by decide, ?_⟩
      refine V_aload_n dX7_counted_85 0 rfl rfl ?_
      refine V_c_X7_166 rfl (by decide) (m_shadeSum hM) dX7_counted_86 hM.1 rfl rfl (Nat.le_of_ble_eq_true rfl) (Nat.le_of_eq (Nat.zero_add _)) (Nat.le_of_eq (Nat.zero_add _)) (fun v w sz q => ?_)
      obtain ⟨rfl, rfl, rfl⟩ := q
      exact V_iret hE rfl dX7_counted_89 ⟨bE (by first | rfl | (rw [show a = 8 by omega]; rfl)), rfl, rfl⟩
    · refine ⟨89, 90, rfl, by decide, ?_⟩
      refine V_aload_n dX7_counted_90 0 rfl rfl ?_
      refine V_c_X7_169 rfl (by decide) (m_different hM hz) dX7_counted_91 hM.1 rfl rfl (Nat.le_of_ble_eq_true rfl) (Nat.le_of_eq (Nat.zero_add _)) (Nat.le_of_eq (Nat.zero_add _)) (fun v w sz q => ?_)
      obtain ⟨rfl, rfl, rfl⟩ := q
      exact V_iret hE rfl dX7_counted_94 ⟨bE (by first | rfl | (rw [show a = 8 by omega]; rfl)), rfl, rfl⟩
