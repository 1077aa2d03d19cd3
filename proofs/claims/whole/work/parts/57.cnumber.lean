/-! the class: numbers -/
theorem edge_c {f g : Int → Int} (h : ∀ k, 0 ≤ k → k < 160 → f k = g k) : isum (iegr f) 11 = isum (iegr g) 11 := by
  rw [← edge_e, ← edge_e]
  refine isum_c (fun c c0 c1 => ?_)
  have hi : iop f c = iop g c := by
    unfold iop
    refine isum_c (fun s s0 s1 => ?_)
    by_cases q : inb c s < 0
    · rw [if_pos (Or.inl q), if_pos (Or.inl q)]
    · rw [h (inb c s) (by omega) (inb_s ⟨c0, c1⟩ ⟨s0, by omega⟩ (by omega)).1]
  rw [h c c0 c1, hi]
theorem idif_c {f g : Int → Int} (h : ∀ k, 0 ≤ k → k < 160 → f k = g k) : idif f = idif g := by
  unfold idif
  refine isum_c (fun s s0 s1 => ?_)
  have e : iex (fun j => decide (f j = s)) 160 = iex (fun j => decide (g j = s)) 160 := by
    refine Bool.eq_iff_iff.mpr ?_
    rw [iex_iff (by omega), iex_iff (by omega)]
    constructor
    · rintro ⟨j, j0, j1, j2⟩; exact ⟨j, j0, j1, by rw [← h j j0 j1]; exact j2⟩
    · rintro ⟨j, j0, j1, j2⟩; exact ⟨j, j0, j1, by rw [h j j0 j1]; exact j2⟩
  rw [e]
set_option maxRecDepth 100000 in
set_option maxHeartbeats 4000000 in
theorem c_maskNumber {w : WD} {sz χ : Nat} {z g : Int → Int} {s a : Int} {x1 x2 x3 x4 x6 : Nat} (hA : w χ = some (xOb 6 [.ref x1, .ref x2, .ref x3, .ref x4, .ref (χ + 35), .ref x6])) (hm : w (χ + 35) = some (xIA 160 g)) (hv : VZ z) (hg : ∀ c, 0 ≤ c → c < 160 → g c = imS z c) (ha : 2 ≤ a ∧ a ≤ 5) : CT iX6_maskNumber 0 0 [.ref χ, xI a] w sz (pR (some (xI (icnt z (imS z) s a))) w sz) := by
  refine CT.ofZ (by decide) rfl (Nat.le_of_ble_eq_true rfl) (fun Z hE => ?_)
  have hgb : ∀ k, 0 ≤ k → k < 160 → 0 ≤ g k ∧ g k ≤ 100 := fun k k0 k1 => by rw [hg k k0 k1]; exact imsk_b hv ⟨k0, k1⟩ _ hv.2.1.1 (Int.le_refl _)
  refine V_iload_n dX6_maskNumber_0 1 rfl rfl ?_
  refine V_tab dX6_maskNumber_1 (by omega) 55 (fun h1 => ⟨by decide, ?_⟩) (fun h1a h1b => ?_)
  · refine V_aload_n dX6_maskNumber_55 0 rfl rfl ?_
    refine V_g_X6_49 rfl dX6_maskNumber_56 hA rfl ?_
    refine V_c_X6_259 rfl (by decide) (c_edgeLength hm hgb) dX6_maskNumber_59 rfl rfl (Nat.le_of_ble_eq_true rfl) (Nat.le_of_eq (Nat.zero_add _)) (Nat.le_of_eq (Nat.zero_add _)) (fun v w sz q => ?_)
    obtain ⟨rfl, rfl, rfl⟩ := q
    exact V_iret hE rfl dX6_maskNumber_62 ⟨bE (by unfold icnt; rw [if_neg (by omega), if_neg (by omega), if_neg (by omega), if_neg (by omega), if_neg (by omega), if_pos (by omega)]; exact edge_c hg), rfl, rfl⟩
  · rcases (show a = 2 ∨ a = 3 ∨ a = 4 by omega) with rfl | rfl | rfl
    · refine ⟨27, 28, rfl, by decide, ?_⟩
      refine V_aload_n dX6_maskNumber_28 0 rfl rfl ?_
      refine V_g_X6_49 rfl dX6_maskNumber_29 hA rfl ?_
      refine V_bipush dX6_maskNumber_32 (by decide) ?_
      refine V_c_X6_256 rfl (by decide) (c_atLeast hm (by omega) hgb) dX6_maskNumber_34 rfl rfl (Nat.le_of_ble_eq_true rfl) (Nat.le_of_eq (Nat.zero_add _)) (Nat.le_of_eq (Nat.zero_add _)) (fun v w sz q => ?_)
      obtain ⟨rfl, rfl, rfl⟩ := q
      exact V_iret hE rfl dX6_maskNumber_37 ⟨bE (by unfold icnt; rw [if_neg (by omega), if_neg (by omega), if_pos rfl]; exact isum_c (fun j j0 j1 => by rw [hg j j0 j1])), rfl, rfl⟩
    · refine ⟨37, 38, rfl, by decide, ?_⟩
      refine V_aload_n dX6_maskNumber_38 0 rfl rfl ?_
      refine V_g_X6_49 rfl dX6_maskNumber_39 hA rfl ?_
      refine V_iconst dX6_maskNumber_42 ?_
      refine V_c_X6_256 rfl (by decide) (c_atLeast hm (by omega) hgb) dX6_maskNumber_43 rfl rfl (Nat.le_of_ble_eq_true rfl) (Nat.le_of_eq (Nat.zero_add _)) (Nat.le_of_eq (Nat.zero_add _)) (fun v w sz q => ?_)
      obtain ⟨rfl, rfl, rfl⟩ := q
      exact V_iret hE rfl dX6_maskNumber_46 ⟨bE (by unfold icnt; rw [if_neg (by omega), if_neg (by omega), if_neg (by omega), if_pos rfl]; exact isum_c (fun j j0 j1 => by rw [hg j j0 j1])), rfl, rfl⟩
    · refine ⟨46, 47, rfl, by decide, ?_⟩
      refine V_aload_n dX6_maskNumber_47 0 rfl rfl ?_
      refine V_g_X6_49 rfl dX6_maskNumber_48 hA rfl ?_
      refine V_c_X6_246 rfl (by decide) (c_sum hm) dX6_maskNumber_51 rfl rfl (Nat.le_of_ble_eq_true rfl) (Nat.le_of_eq (Nat.zero_add _)) (Nat.le_of_eq (Nat.zero_add _)) (fun v w sz q => ?_)
      obtain ⟨rfl, rfl, rfl⟩ := q
      exact V_iret hE rfl dX6_maskNumber_54 ⟨bE (by unfold icnt; rw [if_neg (by omega), if_neg (by omega), if_neg (by omega), if_neg (by omega), if_pos rfl]; exact isum_c (fun j j0 j1 => hg j j0 j1)), rfl, rfl⟩
set_option maxRecDepth 100000 in
set_option maxHeartbeats 4000000 in
theorem c_number {w : WD} {sz χ : Nat} {P : MP} (hC : CP w χ P) (hI : MInv P) {a : Int} (ha : 0 ≤ a ∧ a ≤ 8) : CT iX6_number 0 0 [.ref χ, xI a] w sz (fun v w' sz' => v = some (xI (icnt P.1 (imS P.1) P.2.1 a)) ∧ sz' = sz ∧ CP w' χ P ∧ ∀ j, j ≠ χ + 35 → w' j = w j) := by
  refine CT.ofZ (by decide) rfl (Nat.le_of_ble_eq_true rfl) (fun Z hE => ?_)
  have hC0 := hC
  obtain ⟨hA, ⟨T, hS, hR⟩, ⟨hh, hH, hH2, hH3⟩, ⟨TX, hX, hX2, hX3⟩, ⟨TFi, hF⟩, ⟨mk1, hm1⟩, ⟨mk2, hm2⟩⟩ := hC0
  have hv := hI.1
  have hsh : ∀ k, 0 ≤ k → k < 160 → 0 ≤ T.1 k ∧ T.1 k ≤ 99 := fun k k0 k1 => by rw [hR.1 k k0 k1]; exact hv.1 k k0 k1
  refine V_iload_n dX6_number_0 1 rfl rfl ?_
  refine V_tab dX6_number_1 (by omega) 98 (fun h1 => ⟨by decide, ?_⟩) (fun h1a h1b => ?_)
  · refine V_aload_n dX6_number_98 0 rfl rfl ?_
    refine V_g_X6_24 rfl dX6_number_99 hA rfl ?_
    refine V_aload_n dX6_number_102 0 rfl rfl ?_
    refine V_g_X6_49 rfl dX6_number_103 hA rfl ?_
    refine V_c_X6_83 rfl (by decide) (c_makeMask hS hR hv hm1 (by omega)) dX6_number_106 hS.1 rfl rfl (Nat.le_of_ble_eq_true rfl) (Nat.le_of_eq (Nat.zero_add _)) (Nat.le_of_eq (Nat.zero_add _)) (fun v w sz q => ?_)
    obtain ⟨rfl, rfl, g, hu, hg⟩ := q
    have hC2 : CP _ χ P := CS.mask hC (Or.inl rfl) hu
    refine V_aload_n dX6_number_109 0 rfl rfl ?_
    refine V_iload_n dX6_number_110 1 rfl rfl ?_
    refine V_c_X6_253 rfl (by decide) (c_maskNumber (s := P.2.1) ((hu.2 _ (by omega)).trans hA) hu.1 hv hg (by omega)) dX6_number_111 ((hu.2 _ (by omega)).trans hA) rfl rfl (Nat.le_of_ble_eq_true rfl) (Nat.le_of_eq (Nat.zero_add _)) (Nat.le_of_eq (Nat.zero_add _)) (fun v w sz q => ?_)
    obtain ⟨rfl, rfl, rfl⟩ := q
    exact V_iret hE rfl dX6_number_114 ⟨rfl, rfl, hC2, fun j hj => hu.2 j hj⟩
  · rcases (show a = 0 ∨ a = 1 ∨ a = 2 ∨ a = 3 ∨ a = 4 ∨ a = 5 ∨ a = 6 ∨ a = 7 ∨ a = 8 by omega) with rfl | rfl | rfl | rfl | rfl | rfl | rfl | rfl | rfl
    · refine ⟨51, 52, rfl, by decide, ?_⟩
      refine V_aload_n dX6_number_52 0 rfl rfl ?_
      refine V_g_X6_24 rfl dX6_number_53 hA rfl ?_
      refine V_g_X6_93 rfl dX6_number_56 hS.1 rfl ?_
      rw [hR.2.1]
      exact V_iret hE rfl dX6_number_59 ⟨bE (by unfold icnt; rw [if_pos rfl]), rfl, hC, fun _ _ => rfl⟩
    · refine ⟨59, 60, rfl, by decide, ?_⟩
      refine V_aload_n dX6_number_60 0 rfl rfl ?_
      refine V_g_X6_24 rfl dX6_number_61 hA rfl ?_
      refine V_c_X6_243 rfl (by decide) (c_picksIn hS hR hv) dX6_number_64 hS.1 rfl rfl (Nat.le_of_ble_eq_true rfl) (Nat.le_of_eq (Nat.zero_add _)) (Nat.le_of_eq (Nat.zero_add _)) (fun v w sz q => ?_)
      obtain ⟨rfl, rfl, rfl⟩ := q
      exact V_iret hE rfl dX6_number_67 ⟨bE (by unfold icnt; rw [if_neg (by omega), if_pos rfl]), rfl, hC, fun _ _ => rfl⟩
    · refine ⟨97, 98, rfl, by decide, ?_⟩
      refine V_aload_n dX6_number_98 0 rfl rfl ?_
      refine V_g_X6_24 rfl dX6_number_99 hA rfl ?_
      refine V_aload_n dX6_number_102 0 rfl rfl ?_
      refine V_g_X6_49 rfl dX6_number_103 hA rfl ?_
      refine V_c_X6_83 rfl (by decide) (c_makeMask hS hR hv hm1 (by omega)) dX6_number_106 hS.1 rfl rfl (Nat.le_of_ble_eq_true rfl) (Nat.le_of_eq (Nat.zero_add _)) (Nat.le_of_eq (Nat.zero_add _)) (fun v w sz q => ?_)
      obtain ⟨rfl, rfl, g, hu, hg⟩ := q
      have hC2 : CP _ χ P := CS.mask hC (Or.inl rfl) hu
      refine V_aload_n dX6_number_109 0 rfl rfl ?_
      refine V_iload_n dX6_number_110 1 rfl rfl ?_
      refine V_c_X6_253 rfl (by decide) (c_maskNumber (s := P.2.1) ((hu.2 _ (by omega)).trans hA) hu.1 hv hg (by omega)) dX6_number_111 ((hu.2 _ (by omega)).trans hA) rfl rfl (Nat.le_of_ble_eq_true rfl) (Nat.le_of_eq (Nat.zero_add _)) (Nat.le_of_eq (Nat.zero_add _)) (fun v w sz q => ?_)
      obtain ⟨rfl, rfl, rfl⟩ := q
      exact V_iret hE rfl dX6_number_114 ⟨rfl, rfl, hC2, fun j hj => hu.2 j hj⟩
    · refine ⟨97, 98, rfl, by decide, ?_⟩
      refine V_aload_n dX6_number_98 0 rfl rfl ?_
      refine V_g_X6_24 rfl dX6_number_99 hA rfl ?_
      refine V_aload_n dX6_number_102 0 rfl rfl ?_
      refine V_g_X6_49 rfl dX6_number_103 hA rfl ?_
      refine V_c_X6_83 rfl (by decide) (c_makeMask hS hR hv hm1 (by omega)) dX6_number_106 hS.1 rfl rfl (Nat.le_of_ble_eq_true rfl) (Nat.le_of_eq (Nat.zero_add _)) (Nat.le_of_eq (Nat.zero_add _)) (fun v w sz q => ?_)
      obtain ⟨rfl, rfl, g, hu, hg⟩ := q
      have hC2 : CP _ χ P := CS.mask hC (Or.inl rfl) hu
      refine V_aload_n dX6_number_109 0 rfl rfl ?_
      refine V_iload_n dX6_number_110 1 rfl rfl ?_
      refine V_c_X6_253 rfl (by decide) (c_maskNumber (s := P.2.1) ((hu.2 _ (by omega)).trans hA) hu.1 hv hg (by omega)) dX6_number_111 ((hu.2 _ (by omega)).trans hA) rfl rfl (Nat.le_of_ble_eq_true rfl) (Nat.le_of_eq (Nat.zero_add _)) (Nat.le_of_eq (Nat.zero_add _)) (fun v w sz q => ?_)
      obtain ⟨rfl, rfl, rfl⟩ := q
      exact V_iret hE rfl dX6_number_114 ⟨rfl, rfl, hC2, fun j hj => hu.2 j hj⟩
    · refine ⟨97, 98, rfl, by decide, ?_⟩
      refine V_aload_n dX6_number_98 0 rfl rfl ?_
      refine V_g_X6_24 rfl dX6_number_99 hA rfl ?_
      refine V_aload_n dX6_number_102 0 rfl rfl ?_
      refine V_g_X6_49 rfl dX6_number_103 hA rfl ?_
      refine V_c_X6_83 rfl (by decide) (c_makeMask hS hR hv hm1 (by omega)) dX6_number_106 hS.1 rfl rfl (Nat.le_of_ble_eq_true rfl) (Nat.le_of_eq (Nat.zero_add _)) (Nat.le_of_eq (Nat.zero_add _)) (fun v w sz q => ?_)
      obtain ⟨rfl, rfl, g, hu, hg⟩ := q
      have hC2 : CP _ χ P := CS.mask hC (Or.inl rfl) hu
      refine V_aload_n dX6_number_109 0 rfl rfl ?_
      refine V_iload_n dX6_number_110 1 rfl rfl ?_
      refine V_c_X6_253 rfl (by decide) (c_maskNumber (s := P.2.1) ((hu.2 _ (by omega)).trans hA) hu.1 hv hg (by omega)) dX6_number_111 ((hu.2 _ (by omega)).trans hA) rfl rfl (Nat.le_of_ble_eq_true rfl) (Nat.le_of_eq (Nat.zero_add _)) (Nat.le_of_eq (Nat.zero_add _)) (fun v w sz q => ?_)
      obtain ⟨rfl, rfl, rfl⟩ := q
      exact V_iret hE rfl dX6_number_114 ⟨rfl, rfl, hC2, fun j hj => hu.2 j hj⟩
    · refine ⟨97, 98, rfl, by decide, ?_⟩
      refine V_aload_n dX6_number_98 0 rfl rfl ?_
      refine V_g_X6_24 rfl dX6_number_99 hA rfl ?_
      refine V_aload_n dX6_number_102 0 rfl rfl ?_
      refine V_g_X6_49 rfl dX6_number_103 hA rfl ?_
      refine V_c_X6_83 rfl (by decide) (c_makeMask hS hR hv hm1 (by omega)) dX6_number_106 hS.1 rfl rfl (Nat.le_of_ble_eq_true rfl) (Nat.le_of_eq (Nat.zero_add _)) (Nat.le_of_eq (Nat.zero_add _)) (fun v w sz q => ?_)
      obtain ⟨rfl, rfl, g, hu, hg⟩ := q
      have hC2 : CP _ χ P := CS.mask hC (Or.inl rfl) hu
      refine V_aload_n dX6_number_109 0 rfl rfl ?_
      refine V_iload_n dX6_number_110 1 rfl rfl ?_
      refine V_c_X6_253 rfl (by decide) (c_maskNumber (s := P.2.1) ((hu.2 _ (by omega)).trans hA) hu.1 hv hg (by omega)) dX6_number_111 ((hu.2 _ (by omega)).trans hA) rfl rfl (Nat.le_of_ble_eq_true rfl) (Nat.le_of_eq (Nat.zero_add _)) (Nat.le_of_eq (Nat.zero_add _)) (fun v w sz q => ?_)
      obtain ⟨rfl, rfl, rfl⟩ := q
      exact V_iret hE rfl dX6_number_114 ⟨rfl, rfl, hC2, fun j hj => hu.2 j hj⟩
    · refine ⟨67, 68, rfl, by decide, ?_⟩
      refine V_aload_n dX6_number_68 0 rfl rfl ?_
      refine V_g_X6_24 rfl dX6_number_69 hA rfl ?_
      refine V_g_X6_87 rfl dX6_number_72 hS.1 rfl ?_
      refine V_c_X6_246 rfl (by decide) (c_sum hS.2.1) dX6_number_75 rfl rfl (Nat.le_of_ble_eq_true rfl) (Nat.le_of_eq (Nat.zero_add _)) (Nat.le_of_eq (Nat.zero_add _)) (fun v w sz q => ?_)
      obtain ⟨rfl, rfl, rfl⟩ := q
      exact V_iret hE rfl dX6_number_78 ⟨bE (by unfold icnt; rw [if_neg (by omega), if_neg (by omega), if_neg (by omega), if_neg (by omega), if_neg (by omega), if_neg (by omega), if_pos rfl]; exact isum_c (fun j j0 j1 => hR.1 j j0 j1)), rfl, hC, fun _ _ => rfl⟩
    · refine ⟨78, 79, rfl, by decide, ?_⟩
      refine V_aload_n dX6_number_79 0 rfl rfl ?_
      refine V_g_X6_24 rfl dX6_number_80 hA rfl ?_
      refine V_g_X6_87 rfl dX6_number_83 hS.1 rfl ?_
      refine V_c_X6_250 rfl (by decide) (c_differentShades hS.2.1 hsh) dX6_number_86 rfl rfl (Nat.le_of_ble_eq_true rfl) (Nat.le_of_eq (Nat.zero_add _)) (Nat.le_of_eq (Nat.zero_add _)) (fun v w sz q => ?_)
      obtain ⟨rfl, rfl, rfl⟩ := q
      exact V_iret hE rfl dX6_number_89 ⟨bE (by unfold icnt; rw [if_neg (by omega), if_neg (by omega), if_neg (by omega), if_neg (by omega), if_neg (by omega), if_neg (by omega), if_neg (by omega), if_pos rfl]; exact idif_c hR.1), rfl, hC, fun _ _ => rfl⟩
    · refine ⟨89, 90, rfl, by decide, ?_⟩
      refine V_aload_n dX6_number_90 0 rfl rfl ?_
      refine V_g_X6_31 rfl dX6_number_91 hA rfl ?_
      refine V_g_X6_177 rfl dX6_number_94 hH.1 rfl ?_
      exact V_iret hE rfl dX6_number_97 ⟨bE (by unfold icnt; rw [if_neg (by omega), if_neg (by omega), if_neg (by omega), if_neg (by omega), if_neg (by omega), if_neg (by omega), if_neg (by omega), if_neg (by omega)]), rfl, hC, fun _ _ => rfl⟩
set_option maxRecDepth 100000 in
set_option maxHeartbeats 4000000 in
theorem c_cov {w : WD} {sz χ : Nat} {P : MP} (hC : CP w χ P) (hI : MInv P) : CT iX6_coverage 0 0 [.ref χ] w sz (fun v w' sz' => v = some (.double (covD P.1)) ∧ sz' = sz ∧ CP w' χ P ∧ ∀ j, j ≠ χ + 35 → w' j = w j) := by
  refine CT.ofZ (by decide) rfl (Nat.le_of_ble_eq_true rfl) (fun Z hE => ?_)
  refine V_aload_n dX6_coverage_0 0 rfl rfl ?_
  refine V_iconst dX6_coverage_1 ?_
  refine V_c_X6_195 rfl (by decide) (c_number hC hI (by omega)) dX6_coverage_2 hC.1 rfl rfl (Nat.le_of_ble_eq_true rfl) (Nat.le_of_eq (Nat.zero_add _)) (Nat.le_of_eq (Nat.zero_add _)) (fun v w sz q => ?_)
  obtain ⟨rfl, rfl, hC2, hfr⟩ := q
  rw [show icnt P.1 (imS P.1) P.2.1 4 = isum (imS P.1) 160 from rfl]
  refine V_i2d dX6_coverage_5 ?_
  refine V_ldc2d (v := 4670021707350671360) dX6_coverage_6 (xG_at 347 (by decide +kernel) rfl) ?_
  refine V_ddiv dX6_coverage_9 (shD_n (imS_sum hI.1)) ?_
  exact V_dret hE rfl dX6_coverage_10 ⟨rfl, rfl, hC2, hfr⟩
set_option maxRecDepth 100000 in
set_option maxHeartbeats 4000000 in
theorem c_mix {w : WD} {sz : Nat} {h v : Int} : CT iX6_mix 0 0 [xJ h, xJ v] w sz (pR (some (xJ (31 * h + v))) w sz) := by
  refine CT.ofZ (by decide) rfl (Nat.le_of_ble_eq_true rfl) (fun Z hE => ?_)
  refine V_ldc2 (z := 31) dX6_mix_0 (xG_at 356 (by decide +kernel) rfl) ?_
  refine V_lload_n dX6_mix_3 0 rfl rfl ?_
  refine V_lmul dX6_mix_4 ?_
  refine V_lload_n dX6_mix_5 2 rfl rfl ?_
  refine V_ladd dX6_mix_6 ?_
  exact V_lret hE rfl dX6_mix_7 ⟨rfl, rfl, rfl⟩
set_option maxRecDepth 100000 in
set_option maxHeartbeats 4000000 in
theorem c_mixCells {w : WD} {sz χ : Nat} {P : MP} (hC : CP w χ P) (hI : MInv P) {h : Int} : CT iX6_mixCells 0 0 [.ref χ, xJ h] w sz (pR (some (xJ (imx (fun b => icel P.1 (imS P.1) (b / 3) (b % 3)) h 480))) w sz) := by
  refine CT.ofZ (by decide) rfl (Nat.le_of_ble_eq_true rfl) (fun Z hE => ?_)
  have hC0 := hC
  obtain ⟨hA, ⟨T, hS, hR⟩, ⟨hh, hH, hH2, hH3⟩, ⟨TX, hX, hX2, hX3⟩, ⟨TFi, hF⟩, ⟨mk1, hm1⟩, ⟨mk2, hm2⟩⟩ := hC0
  have hv := hI.1
  have hsh : ∀ k, 0 ≤ k → k < 160 → 0 ≤ T.1 k ∧ T.1 k ≤ 99 := fun k k0 k1 => by rw [hR.1 k k0 k1]; exact hv.1 k k0 k1
  refine V_lload_n dX6_mixCells_0 1 rfl rfl ?_
  refine V_lstore_n dX6_mixCells_1 3 rfl (by decide) ?_
  refine V_iconst dX6_mixCells_2 ?_
  refine V_istore dX6_mixCells_3 (by decide) ?_
  have L5 : ∀ c : Int, 0 ≤ c → c ≤ 160 → V iX6_mixCells Z 0 0 w sz 5 [some (.ref χ), none, none, some (xJ (imx (fun b => icel P.1 (imS P.1) (b / 3) (b % 3)) h (3 * c))), none, some (xI c), none] [] := by
    refine up_ind ?_
    intro c hc0 hc1 ihc
    refine V_iload dX6_mixCells_5 rfl ?_
    refine V_sipush dX6_mixCells_7 (by decide) ?_
    refine V_icmp_ge 51 dX6_mixCells_10 (by decide) (by omega) (fun h10 => ?_) (fun h10 => ?_)
    · refine V_lload_n dX6_mixCells_51 3 rfl rfl ?_
      exact V_lret hE rfl dX6_mixCells_52 ⟨by rw [show (480 : Int) = 3 * c by omega], rfl, rfl⟩
    · refine V_iconst dX6_mixCells_13 ?_
      refine V_istore dX6_mixCells_14 (by decide) ?_
      have L16 : ∀ a : Int, 0 ≤ a → a ≤ 3 → V iX6_mixCells Z 0 0 w sz 16 [some (.ref χ), none, none, some (xJ (imx (fun b => icel P.1 (imS P.1) (b / 3) (b % 3)) h (3 * c + a))), none, some (xI c), some (xI a)] [] := by
        refine up_ind ?_
        intro a ha0 ha1 iha
        refine V_iload dX6_mixCells_16 rfl ?_
        refine V_iconst dX6_mixCells_18 ?_
        refine V_icmp_gt 45 dX6_mixCells_19 (by decide) (by omega) (fun h19 => ?_) (fun h19 => ?_)
        · refine V_iinc dX6_mixCells_45 rfl (by decide) ?_
          refine V_goto 5 dX6_mixCells_48 (by decide) ?_
          refine V_fg [true, false, false, true, false, true, false] ?_
          rw [show 3 * (c + 1) = 3 * c + a by omega] at ihc
          exact ihc (by omega)
        · refine V_lload_n dX6_mixCells_22 3 rfl rfl ?_
          refine V_aload_n dX6_mixCells_23 0 rfl rfl ?_
          refine V_g_X6_24 rfl dX6_mixCells_24 hA rfl ?_
          refine V_iload dX6_mixCells_27 rfl ?_
          refine V_iload dX6_mixCells_29 rfl ?_
          refine V_c_X6_185 rfl (by decide) (c_cellProperty hS hR hv ⟨hc0, by omega⟩ (by omega)) dX6_mixCells_31 hS.1 rfl rfl (Nat.le_of_ble_eq_true rfl) (Nat.le_of_eq (Nat.zero_add _)) (Nat.le_of_eq (Nat.zero_add _)) (fun v w sz q => ?_)
          obtain ⟨rfl, rfl, rfl⟩ := q
          refine V_i2l dX6_mixCells_34 (by have := icel_b (a := a) hI.1 (c := c) ⟨hc0, by omega⟩; omega) ?_
          refine V_c_X6_213 rfl (by decide) (c_mix) dX6_mixCells_35 rfl rfl (Nat.le_of_ble_eq_true rfl) (Nat.le_of_eq (Nat.zero_add _)) (Nat.le_of_eq (Nat.zero_add _)) (fun v w sz q => ?_)
          obtain ⟨rfl, rfl, rfl⟩ := q
          refine V_lstore_n dX6_mixCells_38 3 rfl (by decide) ?_
          refine V_iinc dX6_mixCells_39 rfl (by decide) ?_
          refine V_goto 16 dX6_mixCells_42 (by decide) ?_
          refine V_fg [true, false, false, true, false, true, true] ?_
          rw [show 3 * c + (a + 1) = 3 * c + a + 1 by omega, imx_s (by omega)] at iha
          try dsimp only at iha
          rw [show (3 * c + a) / 3 = c by omega, show (3 * c + a) % 3 = a by omega] at iha
          exact iha (by omega)
      have e0 : 3 * c + 0 = 3 * c := Int.add_zero _
      have L0 := L16 0 (by omega) (by omega)
      rw [e0] at L0
      refine V_fg [true, false, false, true, false, true, true] ?_
      exact L0
  refine V_fg [true, false, false, true, false, true, false] ?_
  exact L5 (0) (by omega) (by omega)
set_option maxRecDepth 100000 in
set_option maxHeartbeats 4000000 in
theorem c_mixPicks {w : WD} {sz χ : Nat} {P : MP} (hC : CP w χ P) (hI : MInv P) {h : Int} : CT iX6_mixPicks 0 0 [.ref χ, xJ h] w sz (pR (some (xJ (imx (fun b => ipic P.1 (b / 12) (b % 12)) h (12 * P.1 160)))) w sz) := by
  refine CT.ofZ (by decide) rfl (Nat.le_of_ble_eq_true rfl) (fun Z hE => ?_)
  have hC0 := hC
  obtain ⟨hA, ⟨T, hS, hR⟩, ⟨hh, hH, hH2, hH3⟩, ⟨TX, hX, hX2, hX3⟩, ⟨TFi, hF⟩, ⟨mk1, hm1⟩, ⟨mk2, hm2⟩⟩ := hC0
  have hv := hI.1
  have hsh : ∀ k, 0 ≤ k → k < 160 → 0 ≤ T.1 k ∧ T.1 k ≤ 99 := fun k k0 k1 => by rw [hR.1 k k0 k1]; exact hv.1 k k0 k1
  have hz160 := hv.2.1
  refine V_lload_n dX6_mixPicks_0 1 rfl rfl ?_
  refine V_lstore_n dX6_mixPicks_1 3 rfl (by decide) ?_
  refine V_iconst dX6_mixPicks_2 ?_
  refine V_istore dX6_mixPicks_3 (by decide) ?_
  have L5 : ∀ c : Int, 0 ≤ c → c ≤ P.1 160 → V iX6_mixPicks Z 0 0 w sz 5 [some (.ref χ), none, none, some (xJ (imx (fun b => ipic P.1 (b / 12) (b % 12)) h (12 * c))), none, some (xI c), none] [] := by
    refine up_ind ?_
    intro c hc0 hc1 ihc
    refine V_iload dX6_mixPicks_5 rfl ?_
    refine V_aload_n dX6_mixPicks_7 0 rfl rfl ?_
    refine V_g_X6_24 rfl dX6_mixPicks_8 hA rfl ?_
    refine V_g_X6_93 rfl dX6_mixPicks_11 hS.1 rfl ?_
    rw [hR.2.1]
    refine V_icmp_ge 67 dX6_mixPicks_14 (by decide) (by omega) (fun h14 => ?_) (fun h14 => ?_)
    · refine V_lload_n dX6_mixPicks_67 3 rfl rfl ?_
      exact V_lret hE rfl dX6_mixPicks_68 ⟨by rw [show P.1 160 = c by omega], rfl, rfl⟩
    · refine V_iload dX6_mixPicks_17 rfl ?_
      refine V_bipush dX6_mixPicks_19 (by decide) ?_
      refine V_icmp_ge 67 dX6_mixPicks_21 (by decide) (by omega) (fun h21 => ?_) (fun h21 => ?_)
      · refine V_lload_n dX6_mixPicks_67 3 rfl rfl ?_
        exact V_lret hE rfl dX6_mixPicks_68 ⟨by rw [show P.1 160 = c by omega], rfl, rfl⟩
      · refine V_iconst dX6_mixPicks_24 ?_
        refine V_istore dX6_mixPicks_25 (by decide) ?_
        have L27 : ∀ a : Int, 0 ≤ a → a ≤ 12 → V iX6_mixPicks Z 0 0 w sz 27 [some (.ref χ), none, none, some (xJ (imx (fun b => ipic P.1 (b / 12) (b % 12)) h (12 * c + a))), none, some (xI c), some (xI a)] [] := by
          refine up_ind ?_
          intro a ha0 ha1 iha
          refine V_iload dX6_mixPicks_27 rfl ?_
          refine V_bipush dX6_mixPicks_29 (by decide) ?_
          refine V_icmp_gt 61 dX6_mixPicks_31 (by decide) (by omega) (fun h31 => ?_) (fun h31 => ?_)
          · refine V_iinc dX6_mixPicks_61 rfl (by decide) ?_
            refine V_goto 5 dX6_mixPicks_64 (by decide) ?_
            refine V_fg [true, false, false, true, false, true, false] ?_
            rw [show 12 * (c + 1) = 12 * c + a by omega] at ihc
            exact ihc (by omega)
          · obtain ⟨i9, hg9, hP9, d9, v9, hi9, -⟩ := hR.at hv hc0 (show c < P.1 160 by omega)
            have h79 := hv.2.2 c hc0 (by omega)
            refine V_lload_n dX6_mixPicks_34 3 rfl rfl ?_
            refine V_aload_n dX6_mixPicks_35 0 rfl rfl ?_
            refine V_g_X6_24 rfl dX6_mixPicks_36 hA rfl ?_
            refine V_g_X6_122 rfl dX6_mixPicks_39 hS.1 rfl ?_
            refine V_iload dX6_mixPicks_42 rfl ?_
            refine V_aald (t := 3) (fun _ => rfl) dX6_mixPicks_44 hS.2.2.1 ⟨hc0, by omega⟩ hg9 ?_
            refine V_iload dX6_mixPicks_45 rfl ?_
            refine V_c_X6_188 rfl (by decide) (c_property (z := P.1) (p := c) hP9 (fun k k0 k1 => hv.lev c k hc0 (by omega) k0 k1) (fun k k0 k1 => rfl) (by exact h79.2.2.2.2.2.2.2.1) (by omega)) dX6_mixPicks_47 hi9 rfl rfl (Nat.le_of_ble_eq_true rfl) (Nat.le_of_eq (Nat.zero_add _)) (Nat.le_of_eq (Nat.zero_add _)) (fun v w sz q => ?_)
            obtain ⟨rfl, rfl, rfl⟩ := q
            refine V_i2l dX6_mixPicks_50 (by have := ipic_b (a := a) hI.1 (p := c) ⟨hc0, by omega⟩ (by omega); omega) ?_
            refine V_c_X6_213 rfl (by decide) (c_mix) dX6_mixPicks_51 rfl rfl (Nat.le_of_ble_eq_true rfl) (Nat.le_of_eq (Nat.zero_add _)) (Nat.le_of_eq (Nat.zero_add _)) (fun v w sz q => ?_)
            obtain ⟨rfl, rfl, rfl⟩ := q
            refine V_lstore_n dX6_mixPicks_54 3 rfl (by decide) ?_
            refine V_iinc dX6_mixPicks_55 rfl (by decide) ?_
            refine V_goto 27 dX6_mixPicks_58 (by decide) ?_
            refine V_fg [true, false, false, true, false, true, true] ?_
            rw [show 12 * c + (a + 1) = 12 * c + a + 1 by omega, imx_s (by omega)] at iha
            try dsimp only at iha
            rw [show (12 * c + a) / 12 = c by omega, show (12 * c + a) % 12 = a by omega] at iha
            exact iha (by omega)
        have e0 : 12 * c + 0 = 12 * c := Int.add_zero _
        have L0 := L27 0 (by omega) (by omega)
        rw [e0] at L0
        refine V_fg [true, false, false, true, false, true, true] ?_
        exact L0
  refine V_fg [true, false, false, true, false, true, false] ?_
  exact L5 (0) (by omega) (by omega)
