/-! the class: pick -/
theorem nlst_c {A B : Int → Bool} {c s : Int} : ∀ n : Nat, (∀ j : Int, 0 ≤ j → j < n → A j = B j) → nlst A c s n = nlst B c s n
  | 0, _ => rfl
  | n + 1, h => by
    unfold nlst
    rw [nlst_c n (fun j j0 j1 => h j j0 (by omega)), h n (by omega) (by omega)]
theorem ilev_c {A B : Int → Bool} {c s : Int} (h : ∀ j, 0 ≤ j → j < 160 → A j = B j) : ilev A c s = ilev B c s := by
  unfold ilev ilst
  rw [nlst_c (A := A) (B := B) (Int.toNat 160) (fun j j0 j1 => h j j0 (by omega))]
theorem CS.nowfind {w w' : WD} {χ : Nat} {z z' : Int → Int} {n : Int} {Z : Int → Int → Int} {ln : Int} {tx : Int → Int} (h : CS w χ z n Z ln tx) (hT : ∃ T : ST, SW w' w' (χ + 4) T ∧ SR w' χ T z') (hF : ∃ T : FT, FW w' w' (χ + 29) T) (e : ∀ j, (j < χ + 4 ∨ χ + 7 ≤ j) → (j < χ + 29 ∨ χ + 35 ≤ j) → w j ≠ none → w' j = w j) : CS w' χ z' n Z ln tx := by
  obtain ⟨h1, -, h4, ⟨X, h5, h6⟩, -, ⟨m, h8⟩, ⟨m2, h9⟩⟩ := h
  exact ⟨(e _ (by omega) (by omega) (nn h1)).trans h1, hT, h4.mv (fun j hj => e j (by omega) (by omega)), ⟨X, h5.mn (fun j j0 j1 => e j (by omega) (by omega)), h6⟩, hF, ⟨m, (e _ (by omega) (by omega) (nn h8)).trans h8⟩, ⟨m2, (e _ (by omega) (by omega) (nn h9)).trans h9⟩⟩
/-- one pick more -/
theorem SR.more {w w' : WD} {χ i : Nat} {T : ST} {z z' : Int → Int} (h : SR w χ T z) (e : ∀ j, imm χ j → w j ≠ none → w' j = w j) (hn : 0 ≤ z 160 ∧ z 160 < 12) (hz : ∀ j, 0 ≤ j → j < 161 + 169 * z 160 → j ≠ 160 → z' j = z j) (h160 : z' 160 = z 160 + 1) (hP : PK w' χ i (fun k => z' (161 + 169 * z 160 + k))) : SR w' χ (T.1, va_up T.2.1 T.2.2.toNat (some i), T.2.2 + 1) z' := by
  refine ⟨fun k k0 k1 => (h.1 k k0 k1).trans (hz k k0 (by omega) (by omega)).symm, by rw [h160]; exact congrArg (· + 1) h.2.1, fun q q0 q1 => ?_⟩
  rw [show T.2.2 = z 160 from h.2.1]
  by_cases g : q = z 160
  · exact ⟨i, _, by rw [g]; exact upn_s, hP, fun _ k k0 k1 => by rw [g]⟩
  · obtain ⟨i', r, h1, h2, h3⟩ := h.2.2 q q0 q1
    exact ⟨i', r, (upn_n (by omega)).trans h1, h2.mv e, fun g2 k k0 k1 => by rw [h160] at g2; exact (h3 (by omega) k k0 k1).trans (hz _ (by omega) (by omega) (by omega)).symm⟩
set_option maxRecDepth 100000 in
set_option maxHeartbeats 4000000 in
theorem c_pick {w : WD} {sz χ : Nat} {P : MP} (hC : CP w χ P) (hI : MInv P) (hN : WN w sz) (hs : χ + 44 ≤ sz) {x y l a g d : Int} (r : -2147483648 ≤ x ∧ x < 2147483648 ∧ -2147483648 ≤ y ∧ y < 2147483648 ∧ -2147483648 ≤ l ∧ l < 2147483648 ∧ -2147483648 ≤ a ∧ a < 2147483648 ∧ -2147483648 ≤ g ∧ g < 2147483648 ∧ -2147483648 ≤ d ∧ d < 2147483648) : CX iX6_pick 9 206 [.ref χ, xI x, xI y, xI l, xI a, xI g, xI d] w sz (OKQ w χ (fun t r P' => pickR P x y l a g d t r P')) (EX3 w χ (fun t r P' => pickR P x y l a g d t r P') "java/lang/IndexOutOfBoundsException" "java/lang/IllegalArgumentException" "java/lang/IllegalStateException") := by
  refine CX.ofZ (by decide) rfl (Nat.le_of_ble_eq_true rfl) (fun Z hZ hE => ?_)
  have hC0 := hC
  obtain ⟨hA, ⟨T, hS, hR⟩, ⟨hh, hH, hH2, hH3⟩, ⟨TX, hX, hX2, hX3⟩, ⟨TFi, hF⟩, ⟨mk1, hm1⟩, ⟨mk2, hm2⟩⟩ := hC0
  have hv := hI.1
  have hsh : ∀ k, 0 ≤ k → k < 160 → 0 ≤ T.1 k ∧ T.1 k ≤ 99 := fun k k0 k1 => by rw [hR.1 k k0 k1]; exact hv.1 k k0 k1
  have hz160 := hv.2.1
  have hs6 := hI.2.1
  have hVT := hI.2.2.2
  have hln := hVT.1
  refine V_iload_n dX6_pick_0 1 rfl rfl ?_
  refine V_iload_n dX6_pick_1 2 rfl rfl ?_
  refine V_x_X6_56 rfl (kc' := 8) (ks' := 200) (by decide) (c_needCell (by omega)) dX6_pick_2 rfl rfl (Nat.le_of_ble_eq_true rfl) (Nat.le_of_ble_eq_true rfl) (Nat.le_of_ble_eq_true rfl) (fun E w1 sz1 q => by obtain ⟨rfl, rfl, h9, hq⟩ := q; subst hZ; exact VX_out rfl (Or.inl (EXQ.th hC hN h9 (fun t r P1 hR1 => hR1.elim (fun g => g.2) (fun g => g.elim (fun g => absurd g.1 hq) (fun g => g.elim (fun g => absurd g.1 hq) (fun g => absurd g.1 hq))))))) (fun v w sz q => ?_)
  obtain ⟨rfl, rfl, rfl, hq2⟩ := q
  refine V_iload_n dX6_pick_5 3 rfl rfl ?_
  refine V_iload dX6_pick_6 rfl ?_
  refine V_iload dX6_pick_8 rfl ?_
  refine V_x_X6_90 rfl (kc' := 5) (ks' := 182) (by decide) (c_needSearch (by omega)) dX6_pick_10 rfl rfl (Nat.le_of_ble_eq_true rfl) (Nat.le_of_ble_eq_true rfl) (Nat.le_of_ble_eq_true rfl) (fun E w1 sz1 q => by obtain ⟨rfl, rfl, h9, hq⟩ := q; subst hZ; exact VX_out rfl (Or.inr (Or.inl (EXQ.th hC hN h9 (fun t r P1 hR1 => hR1.elim (fun g => absurd hq2 g.1) (fun g => g.elim (fun g => g.2.2) (fun g => g.elim (fun g => absurd g.2.1 (fun e => hq e.1)) (fun g => absurd g.2.1 (fun e => hq e.1))))))))) (fun v w sz q => ?_)
  obtain ⟨rfl, rfl, rfl, hq10⟩ := q
  refine V_iload dX6_pick_13 rfl ?_
  refine V_iconst dX6_pick_15 ?_
  refine V_bipush dX6_pick_16 (by decide) ?_
  refine V_x_X6_60 rfl (kc' := 4) (ks' := 176) (by decide) (c_needRange (by omega)) dX6_pick_18 rfl rfl (Nat.le_of_ble_eq_true rfl) (Nat.le_of_ble_eq_true rfl) (Nat.le_of_ble_eq_true rfl) (fun E w1 sz1 q => by obtain ⟨rfl, rfl, h9, hq⟩ := q; subst hZ; exact VX_out rfl (Or.inr (Or.inl (EXQ.th hC hN h9 (fun t r P1 hR1 => hR1.elim (fun g => absurd hq2 g.1) (fun g => g.elim (fun g => g.2.2) (fun g => g.elim (fun g => absurd g.2.1 (fun e => hq e.2.1)) (fun g => absurd g.2.1 (fun e => hq e.2.1))))))))) (fun v w sz q => ?_)
  obtain ⟨rfl, rfl, rfl, hq18⟩ := q
  refine V_iload dX6_pick_21 rfl ?_
  refine V_bipush dX6_pick_23 (by decide) ?_
  refine V_iremN dX6_pick_25 (by omega) ?_
  refine V_iconst dX6_pick_26 ?_
  refine V_iconst dX6_pick_27 ?_
  refine V_x_X6_60 rfl (kc' := 3) (ks' := 170) (by decide) (c_needRange (by omega)) dX6_pick_28 rfl rfl (Nat.le_of_ble_eq_true rfl) (Nat.le_of_ble_eq_true rfl) (Nat.le_of_ble_eq_true rfl) (fun E w1 sz1 q => by obtain ⟨rfl, rfl, h9, hq⟩ := q; subst hZ; exact VX_out rfl (Or.inr (Or.inl (EXQ.th hC hN h9 (fun t r P1 hR1 => hR1.elim (fun g => absurd hq2 g.1) (fun g => g.elim (fun g => g.2.2) (fun g => g.elim (fun g => absurd g.2.1 (fun e => hq ⟨by omega, by have := e.2.2; omega⟩)) (fun g => absurd g.2.1 (fun e => hq ⟨by omega, by have := e.2.2; omega⟩))))))))) (fun v w sz q => ?_)
  obtain ⟨rfl, rfl, rfl, hq28⟩ := q
  refine V_aload_n dX6_pick_31 0 rfl rfl ?_
  refine V_g_X6_24 rfl dX6_pick_32 hA rfl ?_
  refine V_g_X6_93 rfl dX6_pick_35 hS.1 rfl ?_
  rw [hR.2.1]
  refine V_bipush dX6_pick_38 (by decide) ?_
  refine V_icmp_lt 53 dX6_pick_40 (by decide) (by omega) (fun h40 => ?_) (fun h40 => ?_)
  · refine V_aload_n dX6_pick_53 0 rfl rfl ?_
    refine V_g_X6_31 rfl dX6_pick_54 hA rfl ?_
    refine V_aload_n dX6_pick_57 0 rfl rfl ?_
    refine V_g_X6_24 rfl dX6_pick_58 hA rfl ?_
    refine V_c_X6_64 rfl (by decide) (c_keep hC.2.2.1 hs6 hS hR) dX6_pick_61 hH.1 rfl rfl (Nat.le_of_ble_eq_true rfl) (Nat.le_of_eq (Nat.zero_add _)) (Nat.le_of_eq (Nat.zero_add _)) (fun v w sz q => ?_)
    obtain ⟨rfl, rfl, hQ1, hfr1⟩ := q
    have hC1 : CS _ χ P.1 (isv P.2.1 + 1) (ZKP P) P.2.2.2.1 P.2.2.2.2 := CS.hist hC hQ1 (fun j hj _ => hfr1 j hj)
    have hT1 := TF.in_ (a := χ + 7) (n := 20) hN hs (by omega) (fun j hj => hfr1 j (by omega))
    have hC1b := hC1
    obtain ⟨hA, ⟨T, hS, hR⟩, -, ⟨TX, hX, hX2, hX3⟩, ⟨TFi, hF⟩, ⟨mk1, hm1⟩, ⟨mk2, hm2⟩⟩ := hC1b
    have hsh : ∀ k, 0 ≤ k → k < 160 → 0 ≤ T.1 k ∧ T.1 k ≤ 99 := fun k k0 k1 => by rw [hR.1 k k0 k1]; exact hv.1 k k0 k1
    refine V_iload_n dX6_pick_64 1 rfl rfl ?_
    refine V_iload_n dX6_pick_65 2 rfl rfl ?_
    refine V_c_X6_77 rfl (by decide) (c_cellAt) dX6_pick_66 rfl rfl (Nat.le_of_ble_eq_true rfl) (Nat.le_of_eq (Nat.zero_add _)) (Nat.le_of_eq (Nat.zero_add _)) (fun v w sz q => ?_)
    obtain ⟨rfl, rfl, rfl⟩ := q
    refine V_istore dX6_pick_69 (by decide) ?_
    refine V_iload dX6_pick_71 rfl ?_
    refine V_bipush dX6_pick_73 (by decide) ?_
    refine V_idivN dX6_pick_75 (by omega) ?_
    refine V_istore dX6_pick_76 (by decide) ?_
    refine V_aload_n dX6_pick_78 0 rfl rfl ?_
    refine V_g_X6_45 rfl dX6_pick_79 hA rfl ?_
    refine V_aload_n dX6_pick_82 0 rfl rfl ?_
    refine V_g_X6_24 rfl dX6_pick_83 hA rfl ?_
    refine V_g_X6_87 rfl dX6_pick_86 hS.1 rfl ?_
    refine V_iload dX6_pick_89 rfl ?_
    refine V_iload_n dX6_pick_91 3 rfl rfl ?_
    refine V_iload dX6_pick_92 rfl ?_
    refine V_iload dX6_pick_94 rfl ?_
    refine V_c_X6_104 rfl (by decide) (c_search (z := T.1) hF hS.2.1 (by omega) hsh (by omega) (by omega) (by omega) (by omega)) dX6_pick_96 hF.1 rfl rfl (Nat.le_of_ble_eq_true rfl) (Nat.le_of_eq (Nat.zero_add _)) (Nat.le_of_eq (Nat.zero_add _)) (fun v w2 sz q => ?_)
    obtain ⟨rfl, T1, hF1, hwi, hA1, rfl⟩ := q
    have hagF : ∀ j, j < χ + 29 ∨ χ + 35 ≤ j → w2 j = w j := fun j hj => FW.fr hF1 j (by omega)
    have hwz := wiA_c (aP_z (f := 16 * y + x) (L := l) (a := a) hR.1 (by omega)) hwi
    have hAz : ∀ k, 0 ≤ k → k < 160 → (T1.2.2.2.1 k = true ↔ arA (aP P.1 (16 * y + x) l a) (16 * y + x) T1.2.2.2.2.2.2 k) := fun k k0 k1 => (hA1 k k0 k1).trans (arA_c (aP_z (f := 16 * y + x) (L := l) (a := a) hR.1 (by omega)) hwi.1)
    refine V_istore dX6_pick_99 (by decide) ?_
    refine V_aload_n dX6_pick_101 0 rfl rfl ?_
    refine V_g_X6_45 rfl dX6_pick_102 ((FW.fr hF1 _ (by omega)).trans hA) rfl ?_
    refine V_iload dX6_pick_105 rfl ?_
    refine V_c_X6_108 rfl (kc' := 2) (ks' := 10) (by decide) (c_softLevels hF1 (by omega) (by omega)) dX6_pick_107 hF1.1 rfl rfl (Nat.le_of_ble_eq_true rfl) (Nat.le_of_ble_eq_true rfl) (Nat.le_of_ble_eq_true rfl) (fun v w3 sz3 q => ?_)
    obtain ⟨f9, rfl, rfl, hu3, hf9⟩ := q
    refine V_astore dX6_pick_110 (by decide) ?_
    refine V_n_X6_11 (kc' := 1) (ks' := 3) rfl dX6_pick_112 (Nat.le_of_ble_eq_true rfl) (Nat.le_of_ble_eq_true rfl) ?_
    refine V_dup dX6_pick_115 rfl ?_
    refine V_iload dX6_pick_116 rfl ?_
    refine V_iload_n dX6_pick_118 3 rfl rfl ?_
    refine V_iload dX6_pick_119 rfl ?_
    refine V_iload dX6_pick_121 rfl ?_
    refine V_iload dX6_pick_123 rfl ?_
    refine V_aload_n dX6_pick_125 0 rfl rfl ?_
    refine V_g_X6_45 rfl dX6_pick_126 ((xU_n (by omega)).trans ((hu3.2 _ (by omega)).trans ((FW.fr hF1 _ (by omega)).trans hA))) rfl ?_
    refine V_g_X6_112 rfl dX6_pick_129 ((xU_n (by omega)).trans ((hu3.2 _ (by omega)).trans hF1.1)) rfl ?_
    refine V_aload dX6_pick_132 rfl ?_
    refine V_c_X6_13 rfl (by decide) (c_FoundInit xU_s) dX6_pick_134 rfl rfl (Nat.le_of_ble_eq_true rfl) (Nat.le_of_eq (Nat.zero_add _)) (Nat.le_of_eq (Nat.zero_add _)) (fun v w4 sz4 q => ?_)
    obtain ⟨rfl, rfl, hu4⟩ := q
    have hag4 : ∀ j, j < sz → (j < χ + 29 ∨ χ + 35 ≤ j) → w4 j = w j := fun j hj hj2 => (hu4.2 j (by omega)).trans ((xU_n (by omega)).trans ((hu3.2 j (by omega)).trans (hagF j hj2)))
    have hlv4 : w4 sz = some (xIA 160 f9) := (hu4.2 _ (by omega)).trans ((xU_n (by omega)).trans hu3.1)
    refine V_astore dX6_pick_137 (by decide) ?_
    refine V_aload_n dX6_pick_139 0 rfl rfl ?_
    refine V_g_X6_24 rfl dX6_pick_140 ((hag4 _ (by omega) (by omega)).trans hA) rfl ?_
    refine V_n_X6_9 (kc' := 0) (ks' := 0) rfl dX6_pick_143 (Nat.le_of_ble_eq_true rfl) (Nat.le_of_ble_eq_true rfl) ?_
    refine V_dup dX6_pick_146 rfl ?_
    refine V_aload dX6_pick_147 rfl ?_
    refine V_iload dX6_pick_149 rfl ?_
    refine V_bipush dX6_pick_151 (by decide) ?_
    refine V_iremN dX6_pick_153 (by omega) ?_
    refine V_iconst dX6_pick_154 ?_
    refine V_c_X6_16 rfl (by decide) (c_PickInit (b := true) xU_s) dX6_pick_155 rfl rfl (Nat.le_of_ble_eq_true rfl) (Nat.le_of_eq (Nat.zero_add _)) (Nat.le_of_eq (Nat.zero_add _)) (fun v w5 sz5 q => ?_)
    obtain ⟨rfl, rfl, hu5⟩ := q
    have hag5 : ∀ j, j < sz → (j < χ + 29 ∨ χ + 35 ≤ j) → w5 j = w j := fun j hj hj2 => (hu5.2 j (by omega)).trans ((xU_n (by omega)).trans (hag4 j hj hj2))
    have hlv5 : w5 sz = some (xIA 160 f9) := (hu5.2 _ (by omega)).trans ((xU_n (by omega)).trans hlv4)
    have hfd5 := (hu5.2 (sz + 1) (by omega)).trans ((xU_n (by omega)).trans hu4.1)
    have hS5 : SW w5 w5 (χ + 4) T := SW.mv hS (fun j j0 j1 => hag5 j (by omega) (by omega))
    have hF5 : ∀ j, χ + 29 ≤ j → j < χ + 35 → w5 j = w2 j := fun j j0 j1 => (hu5.2 j (by omega)).trans ((xU_n (by omega)).trans ((hu4.2 j (by omega)).trans ((xU_n (by omega)).trans (hu3.2 j (by omega)))))
    refine V_c_X6_115 rfl (by decide) (c_addPick hS5 hu5.1 (by rw [hR.2.1]; omega)) dX6_pick_158 hS5.1 rfl rfl (Nat.le_of_ble_eq_true rfl) (Nat.le_of_eq (Nat.zero_add _)) (Nat.le_of_eq (Nat.zero_add _)) (fun v w6 sz6 q => ?_)
    obtain ⟨rfl, rfl, hS6⟩ := q
    refine V_iload dX6_pick_161 rfl ?_
    exact V_iret hE rfl dX6_pick_163 ⟨⟨_, rfl⟩, hT1.tr ⟨fun j hj => (SW.fr hS6 j (by omega)).trans ((hu5.2 j (by omega)).trans ((xU_n (by omega)).trans ((hu4.2 j (by omega)).trans ((xU_n (by omega)).trans ((hu3.2 j (by omega)).trans ((hagF j (by omega)).trans (hT1.1 j (by omega)))))))), fun j hj hn => (SW.fr hS6 j (by omega)).trans (hag5 j (hT1.1.lt hn) (by omega))⟩, fun t r P1 hR1 => by
      rcases hR1 with g | g | g | ⟨g1, g2, g3, g4, g5, u9, A9, g6, g7, g8, g9, g10⟩
      · exact absurd hq2 g.1
      · exact absurd ⟨hq10, hq18, by omega⟩ g.2.1
      · exact absurd g.2.2.1 (by omega)
      · have eu := wiA_u hwz g6
        rw [← eu] at g7
        have eA : ∀ j, 0 ≤ j → j < 160 → T1.2.2.2.1 j = A9 j := fun j j0 j1 => Bool.eq_iff_iff.mpr ((hAz j j0 j1).trans (g7 j j0 j1).symm)
        obtain ⟨z0, z1, z2, z3, z4, z5, z6, z7, z8, zl, zo⟩ := g9
        have hF6 : FW w6 w6 (χ + 29) T1 := FW.mv hF1 (fun j j0 j1 => (SW.fr hS6 j (by omega)).trans (hF5 j (by omega) (by omega)))
        have hag6 : ∀ j, j < sz → (j < χ + 29 ∨ χ + 35 ≤ j) → (j < χ + 4 ∨ χ + 7 ≤ j) → w6 j = w j := fun j hj hj2 hj3 => (SW.fr hS6 j (by omega)).trans (hag5 j hj hj2)
        have hP6 : PK w6 χ (sz + 1 + 1) (fun k => P1.1 (161 + 169 * P.1 160 + k)) := by
          refine PK.new (d := sz + 1) (v := sz) (c := 16 * y + x) (f := f9) ⟨by omega, by omega, by omega⟩ ((SW.fr hS6 _ (by omega)).trans hu5.1) (((SW.fr hS6 _ (by omega)).trans hfd5).trans ?_) ((SW.fr hS6 _ (by omega)).trans hlv5) (by omega) ?_ ?_ ?_ ?_ (fun k k0 k1 => ?_)
          · try dsimp only
            rw [z2, z3, z4, z6, z8, ← eu]
          · try dsimp only
            rw [Int.add_zero, z0]
            omega
          · try dsimp only
            rw [z1]
            omega
          · exact z5
          · exact z7
          · try dsimp only
            rw [zl k k0 k1, hf9 k k0 k1]
            exact ilev_c eA
        refine ⟨g4, ?_, ?_⟩
        · rw [g8]; exact bE (isum_c (fun k k0 k1 => by rw [eA k k0 k1]))
        · exact CP.sav2 (CS.nowfind hC1 ⟨_, SW.rb hS6, hR.more (fun j hj hn => hag6 j (hT1.1.lt hn) (by omega) (by omega)) ⟨by omega, by omega⟩ (fun j j0 j1 hj => zo j j0 j1 hj) g10 hP6⟩ ⟨T1, hF6⟩ (fun j hj hj2 hn => hag6 j (hT1.1.lt hn) hj2 hj)) hs6 g5⟩
  · subst hZ
    exact V_throw (text := "there are 12 picks") rfl th_ise (List.mem_of_getElem? (i := 563) (by decide +kernel)) dX6_pick_43 dX6_pick_46 dX6_pick_47 dX6_pick_49 dX6_pick_52 (by decide) (Nat.le_of_ble_eq_true rfl) (Nat.le_of_ble_eq_true rfl) (Nat.le_of_ble_eq_true rfl) (fun sz9 h9 => Or.inr (Or.inr (EXQ.th hC hN h9 (fun t r P1 hR1 => hR1.elim (fun g => absurd hq2 g.1) (fun g => g.elim (fun g => absurd ⟨hq10, hq18, by omega⟩ g.2.1) (fun g => g.elim (fun g => g.2.2.2) (fun g => absurd (show P.1 160 = 12 by omega) g.2.2.1)))))))
