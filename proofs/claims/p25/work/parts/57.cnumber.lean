/-! the class: numbers -/
theorem edge_c {f g : Int → Int} (h : ∀ k, 0 ≤ k → k < 160 → f k = g k) : isum (iegr f) 11 = isum (iegr g) 11 := by
  rw [← edge_e, ← edge_e]
  refine isum_c (fun c c0 c1 => ?_)
  have hi : iop f c = iop g c := by
    unfold iop
    refine isum_c (fun s s0 s1 => ?_)
    by_cases q : inb c s < 0
    · rw [if_pos (Or.inl q), if_pos (Or.inl q)]
    · rw [h (inb c s) (by omega) (inb_s ⟨c0, c1⟩ ⟨s0, by omega⟩ (by omega)).1]
  rw [h c c0 c1, hi]
theorem idif_c {f g : Int → Int} (h : ∀ k, 0 ≤ k → k < 160 → f k = g k) : idif f = idif g := by
  unfold idif
  refine isum_c (fun s s0 s1 => ?_)
  have e : iex (fun j => decide (f j = s)) 160 = iex (fun j => decide (g j = s)) 160 := by
    refine Bool.eq_iff_iff.mpr ?_
    rw [iex_iff (by omega), iex_iff (by omega)]
    constructor
    · rintro ⟨j, j0, j1, j2⟩; exact ⟨j, j0, j1, by rw [← h j j0 j1]; exact j2⟩
    · rintro ⟨j, j0, j1, j2⟩; exact ⟨j, j0, j1, by rw [h j j0 j1]; exact j2⟩
  rw [e]
set_option maxRecDepth 100000 in
set_option maxHeartbeats 4000000 in
theorem c_maskNumber {w : WD} {sz χ : Nat} {z g : Int → Int} {s a : Int} {x1 x2 x3 x4 x6 : Nat} (hA : w χ = some (xOb 6 [.ref x1, .ref x2, .ref x3, .ref x4, .ref (χ + 35), .ref x6])) (hm : w (χ + 35) = some (xIA 160 g)) (hv : VZ z) (hg : ∀ c, 0 ≤ c → c < 160 → g c = imS z c) (ha : 2 ≤ a ∧ a ≤ 5) : CT iX6_maskNumber 0 0 [.ref χ, xI a] w sz (pR (some (xI (icnt z (imS z) s a))) w sz) := by
  refine CT.ofZ (by decide) rfl (Nat.le_of_ble_eq_true rfl) (fun Z hE => ?_)
  have hgb : ∀ k, 0 ≤ k → k < 160 → 0 ≤ g k ∧ g k ≤ 100 := fun k k0 k1 => by rw [hg k k0 k1]; exact imsk_b hv ⟨k0, k1⟩ _ hv.2.1.1 (Int.le_refl _)
  refine V_iload_n dX6_maskNumber_0 1 rfl rfl ?_
  refine V_tab dX6_maskNumber_1 (by omega) 55 (fun h1 => ⟨by decide, ?_⟩) (fun h1a h1b => ?_)
  · refine V_aload_n dX6_maskNumber_55 0 rfl rfl ?_
    refine V_g_X6_49 rfl dX6_maskNumber_56 hA rfl ?_
    refine V_c_X6_259 rfl (by decide) (c_edgeLength hm hgb) dX6_maskNumber_59 rfl rfl (Nat.le_of_ble_eq_true rfl) (Nat.le_of_eq (Nat.zero_add _)) (Nat.le_of_eq (Nat.zero_add _)) (fun v w sz q => ?_)
    obtain ⟨rfl, rfl, rfl⟩ := q
    exact V_iret hE rfl dX6_maskNumber_62 ⟨bE (by unfold icnt; rw [if_neg (by omega), if_neg (by omega), if_neg (by omega), if_neg (by omega), if_neg (by omega), if_pos (by omega)]; exact edge_c hg), rfl, rfl⟩
  · rcases (show a = 2 ∨ a = 3 ∨ a = 4 by omega) with rfl | rfl | rfl
    · refine ⟨27, 28, rfl, by decide, ?_⟩
      refine V_aload_n dX6_maskNumber_28 0 rfl rfl ?_
      refine V_g_X6_49 rfl dX6_maskNumber_29 hA rfl ?_
      refine V_bipush dX6_maskNumber_32 (by decide) ?_
      refine V_c_X6_256 rfl (by decide) (c_atLeast hm (by omega) hgb) dX6_maskNumber_34 rfl rfl (Nat.le_of_ble_eq_true rfl) (Nat.le_of_eq (Nat.zero_add _)) (Nat.le_of_eq (Nat.zero_add _)) (fun v w sz q => ?_)
      obtain ⟨rfl, rfl, rfl⟩ := q
      exact V_iret hE rfl dX6_maskNumber_37 ⟨bE (by unfold icnt; rw [if_neg (by omega), if_neg (by omega), if_pos rfl]; exact isum_c (fun j j0 j1 => by rw [hg j j0 j1])), rfl, rfl⟩
    · refine ⟨37, 38, rfl, by decide, ?_⟩
      refine V_aload_n dX6_maskNumber_38 0 rfl rfl ?_
      refine V_g_X6_49 rfl dX6_maskNumber_39 hA rfl ?_
      refine V_iconst dX6_maskNumber_42 ?_
      refine V_c_X6_256 rfl (by decide) (c_atLeast hm (by omega) hgb) dX6_maskNumber_43 rfl rfl (Nat.le_of_ble_eq_true rfl) (Nat.le_of_eq (Nat.zero_add _)) (Nat.le_of_eq (Nat.zero_add _)) (fun v w sz q => ?_)
      obtain ⟨rfl, rfl, rfl⟩ := q
      exact V_iret hE rfl dX6_maskNumber_46 ⟨bE (by unfold icnt; rw [if_neg (by omega), if_neg (by omega), if_neg (by omega), if_pos rfl]; exact isum_c (fun j j0 j1 => by rw [hg j j0 j1])), rfl, rfl⟩
    · refine ⟨46, 47, rfl, by decide, ?_⟩
      refine V_aload_n dX6_maskNumber_47 0 rfl rfl ?_
      refine V_g_X6_49 rfl dX6_maskNumber_48 hA rfl ?_
      refine V_c_X6_246 rfl (by decide) (c_sum hm) dX6_maskNumber_51 rfl rfl (Nat.le_of_ble_eq_true rfl) (Nat.le_of_eq (Nat.zero_add _)) (Nat.le_of_eq (Nat.zero_add _)) (fun v w sz q => ?_)
      obtain ⟨rfl, rfl, rfl⟩ := q
      exact V_iret hE rfl dX6_maskNumber_54 ⟨bE (by unfold icnt; rw [if_neg (by omega), if_neg (by omega), if_neg (by omega), if_neg (by omega), if_pos rfl]; exact isum_c (fun j j0 j1 => hg j j0 j1)), rfl, rfl⟩
set_option maxRecDepth 100000 in
set_option maxHeartbeats 4000000 in
theorem c_number {w : WD} {sz χ : Nat} {P : MP} (hC : CP w χ P) (hI : MInv P) {a : Int} (ha : 0 ≤ a ∧ a ≤ 8) : CT iX6_number 0 0 [.ref χ, xI a] w sz (fun v w' sz' => v = some (xI (icnt P.1 (imS P.1) P.2.1 a)) ∧ sz' = sz ∧ CP w' χ P ∧ ∀ j, j ≠ χ + 35 → w' j = w j) := by
  refine CT.ofZ (by decide) rfl (Nat.le_of_ble_eq_true rfl) (fun Z hE => ?_)
  have hC0 := hC
  obtain ⟨hA, ⟨T, hS, hR⟩, ⟨hh, hH, hH2, hH3⟩, ⟨TX, hX, hX2, hX3⟩, ⟨TFi, hF⟩, ⟨mk1, hm1⟩, ⟨mk2, hm2⟩⟩ := hC0
  have hv := hI.1
  have hsh : ∀ k, 0 ≤ k → k < 160 → 0 ≤ T.1 k ∧ T.1 k ≤ 99 := fun k k0 k1 => by rw [hR.1 k k0 k1]; exact hv.1 k k0 k1
  refine V_iload_n dX6_number_0 1 rfl rfl ?_
  refine V_tab dX6_number_1 (by omega) 98 (fun h1 => ⟨by decide, ?_⟩) (fun h1a h1b => ?_)
  · refine V_aload_n dX6_number_98 0 rfl rfl ?_
    refine V_g_X6_24 rfl dX6_number_99 hA rfl ?_
    refine V_aload_n dX6_number_102 0 rfl rfl ?_
    refine V_g_X6_49 rfl dX6_number_103 hA rfl ?_
    refine V_c_X6_83 rfl (by decide) (c_makeMask hS hR hv hm1 (by omega)) dX6_number_106 hS.1 rfl rfl (Nat.le_of_ble_eq_true rfl) (Nat.le_of_eq (Nat.zero_add _)) (Nat.le_of_eq (Nat.zero_add _)) (fun v w sz q => ?_)
    obtain ⟨rfl, rfl, g, hu, hg⟩ := q
    have hC2 : CP _ χ P := CS.mask hC (Or.inl rfl) hu
    refine V_aload_n dX6_number_109 0 rfl rfl ?_
    refine V_iload_n dX6_number_110 1 rfl rfl ?_
    refine V_c_X6_253 rfl (by decide) (c_maskNumber (s := P.2.1) ((hu.2 _ (by omega)).trans hA) hu.1 hv hg (by omega)) dX6_number_111 ((hu.2 _ (by omega)).trans hA) rfl rfl (Nat.le_of_ble_eq_true rfl) (Nat.le_of_eq (Nat.zero_add _)) (Nat.le_of_eq (Nat.zero_add _)) (fun v w sz q => ?_)
    obtain ⟨rfl, rfl, rfl⟩ := q
    exact V_iret hE rfl dX6_number_114 ⟨rfl, rfl, hC2, fun j hj => hu.2 j hj⟩
  · rcases (show a = 0 ∨ a = 1 ∨ a = 2 ∨ a = 3 ∨ a = 4 ∨ a = 5 ∨ a = 6 ∨ a = 7 ∨ a = 8 by omega) with rfl | rfl | rfl | rfl | rfl | rfl | rfl | rfl | rfl
    · refine ⟨51, 52, rfl, by decide, ?_⟩
      refine V_aload_n dX6_number_52 0 rfl rfl ?_
      refine V_g_X6_24 rfl dX6_number_53 hA rfl ?_
      refine V_g_X6_93 rfl dX6_number_56 hS.1 rfl ?_
      rw [hR.2.1]
      exact V_iret hE rfl dX6_number_59 ⟨bE (by unfold icnt; rw [if_pos rfl]), rfl, hC, fun _ _ => rfl⟩
    · refine ⟨59, 60, rfl, by decide, ?_⟩
      refine V_aload_n dX6_number_60 0 rfl rfl ?_
      refine V_g_X6_24 rfl dX6_number_61 hA rfl ?_
      refine V_c_X6_243 rfl (by decide) (c_picksIn hS hR hv) dX6_number_64 hS.1 rfl rfl (Nat.le_of_ble_eq_true rfl) (Nat.le_of_eq (Nat.zero_add _)) (Nat.le_of_eq (Nat.zero_add _)) (fun v w sz q => ?_)
      obtain ⟨rfl, rfl, rfl⟩ := q
      exact V_iret hE rfl dX6_number_67 ⟨bE (by unfold icnt; rw [if_neg (by omega), if_pos rfl]), rfl, hC, fun _ _ => rfl⟩
    · refine ⟨97, 98, rfl, by decide, ?_⟩
      refine V_aload_n dX6_number_98 0 rfl rfl ?_
      refine V_g_X6_24 rfl dX6_number_99 hA rfl ?_
      refine V_aload_n dX6_number_102 0 rfl rfl ?_
      refine V_g_X6_49 rfl dX6_number_103 hA rfl ?_
      refine V_c_X6_83 rfl (by decide) (c_makeMask hS hR hv hm1 (by omega)) dX6_number_106 hS.1 rfl rfl (Nat.le_of_ble_eq_true rfl) (Nat.le_of_eq (Nat.zero_add _)) (Nat.le_of_eq (Nat.zero_add _)) (fun v w sz q => ?_)
      obtain ⟨rfl, rfl, g, hu, hg⟩ := q
      have hC2 : CP _ χ P := CS.mask hC (Or.inl rfl) hu
      refine V_aload_n dX6_number_109 0 rfl rfl ?_
      refine V_iload_n dX6_number_110 1 rfl rfl ?_
      refine V_c_X6_253 rfl (by decide) (c_maskNumber (s := P.2.1) ((hu.2 _ (by omega)).trans hA) hu.1 hv hg (by omega)) dX6_number_111 ((hu.2 _ (by omega)).trans hA) rfl rfl (Nat.le_of_ble_eq_true rfl) (Nat.le_of_eq (Nat.zero_add _)) (Nat.le_of_eq (Nat.zero_add _)) (fun v w sz q => ?_)
      obtain ⟨rfl, rfl, rfl⟩ := q
      exact V_iret hE rfl dX6_number_114 ⟨rfl, rfl, hC2, fun j hj => hu.2 j hj⟩
    · refine ⟨97, 98, rfl, by decide, ?_⟩
      refine V_aload_n dX6_number_98 0 rfl rfl ?_
      refine V_g_X6_24 rfl dX6_number_99 hA rfl ?_
      refine V_aload_n dX6_number_102 0 rfl rfl ?_
      refine V_g_X6_49 rfl dX6_number_103 hA rfl ?_
      refine V_c_X6_83 rfl (by decide) (c_makeMask hS hR hv hm1 (by omega)) dX6_number_106 hS.1 rfl rfl (Nat.le_of_ble_eq_true rfl) (Nat.le_of_eq (Nat.zero_add _)) (Nat.le_of_eq (Nat.zero_add _)) (fun v w sz q => ?_)
      obtain ⟨rfl, rfl, g, hu, hg⟩ := q
      have hC2 : CP _ χ P := CS.mask hC (Or.inl rfl) hu
      refine V_aload_n dX6_number_109 0 rfl rfl ?_
      refine V_iload_n dX6_number_110 1 rfl rfl ?_
      refine V_c_X6_253 rfl (by decide) (c_maskNumber (s := P.2.1) ((hu.2 _ (by omega)).trans hA) hu.1 hv hg (by omega)) dX6_number_111 ((hu.2 _ (by omega)).trans hA) rfl rfl (Nat.le_of_ble_eq_true rfl) (Nat.le_of_eq (Nat.zero_add _)) (Nat.le_of_eq (Nat.zero_add _)) (fun v w sz q => ?_)
      obtain ⟨rfl, rfl, rfl⟩ := q
      exact V_iret hE rfl dX6_number_114 ⟨rfl, rfl, hC2, fun j hj => hu.2 j hj⟩
    · refine ⟨97, 98, rfl, by decide, ?_⟩
      refine V_aload_n dX6_number_98 0 rfl rfl ?_
      refine V_g_X6_24 rfl dX6_number_99 hA rfl ?_
      refine V_aload_n dX6_number_102 0 rfl rfl ?_
      refine V_g_X6_49 rfl dX6_number_103 hA rfl ?_
      refine V_c_X6_83 rfl (by decide) (c_makeMask hS hR hv hm1 (by omega)) dX6_number_106 hS.1 rfl rfl (Nat.le_of_ble_eq_true rfl) (Nat.le_of_eq (Nat.zero_add _)) (Nat.le_of_eq (Nat.zero_add _)) (fun v w sz q => ?_)
      obtain ⟨rfl, rfl, g, hu, hg⟩ := q
      have hC2 : CP _ χ P := CS.mask hC (Or.inl rfl) hu
      refine V_aload_n dX6_number_109 0 rfl rfl ?_
      refine V_iload_n dX6_number_110 1 rfl rfl ?_
      refine V_c_X6_253 rfl (by decide) (c_maskNumber (s := P.2.1) ((hu.2 _ (by omega)).trans hA) hu.1 hv hg (by omega)) dX6_number_111 ((hu.2 _ (by omega)).trans hA) rfl rfl (Nat.le_of_ble_eq_true rfl) (Nat.le_of_eq (Nat.zero_add _)) (Nat.le_of_eq (Nat.zero_add _)) (fun v w sz q => ?_)
      obtain ⟨rfl, rfl, rfl⟩ := q
      exact V_iret hE rfl dX6_number_114 ⟨rfl, rfl, hC2, fun j hj => hu.2 j hj⟩
    · refine ⟨97, 98, rfl, by decide, ?_⟩
      refine V_aload_n dX6_number_98 0 rfl rfl ?_
      refine V_g_X6_24 rfl dX6_number_99 hA rfl ?_
      refine V_aload_n dX6_number_102 0 rfl rfl ?_
      refine V_g_X6_49 rfl dX6_number_103 hA rfl ?_
      refine V_c_X6_83 rfl (by decide) (c_makeMask hS hR hv hm1 (by omega)) dX6_number_106 hS.1 rfl rfl (Nat.le_of_ble_eq_true rfl) (Nat.le_of_eq (Nat.zero_add _)) (Nat.le_of_eq (Nat.zero_add _)) (fun v w sz q => ?_)
      obtain ⟨rfl, rfl, g, hu, hg⟩ := q
      have hC2 : CP _ χ P := CS.mask hC (Or.inl rfl) hu
      refine V_aload_n dX6_number_109 0 rfl rfl ?_
      refine V_iload_n dX6_number_110 1 rfl rfl ?_
      refine V_c_X6_253 rfl (by decide) (c_maskNumber (s := P.2.1) ((hu.2 _ (by omega)).trans hA) hu.1 hv hg (by omega)) dX6_number_111 ((hu.2 _ (by omega)).trans hA) rfl rfl (Nat.le_of_ble_eq_true rfl) (Nat.le_of_eq (Nat.zero_add _)) (Nat.le_of_eq (Nat.zero_add _)) (fun v w sz q => ?_)
      obtain ⟨rfl, rfl, rfl⟩ := q
      exact V_iret hE rfl dX6_number_114 ⟨rfl, rfl, hC2, fun j hj => hu.2 j hj⟩
    · refine ⟨67, 68, rfl, by decide, ?_⟩
      refine V_aload_n dX6_number_68 0 rfl rfl ?_
      refine V_g_X6_24 rfl dX6_number_69 hA rfl ?_
      refine V_g_X6_87 rfl dX6_number_72 hS.1 rfl ?_
      refine V_c_X6_246 rfl (by decide) (c_sum hS.2.1) dX6_number_75 rfl rfl (Nat.le_of_ble_eq_true rfl) (Nat.le_of_eq (Nat.zero_add _)) (Nat.le_of_eq (Nat.zero_add _)) (fun v w sz q => ?_)
      obtain ⟨rfl, rfl, rfl⟩ := q
      exact V_iret hE rfl dX6_number_78 ⟨bE (by unfold icnt; rw [if_neg (by omega), if_neg (by omega), if_neg (by omega), if_neg (by omega), if_neg (by omega), if_neg (by omega), if_pos rfl]; exact isum_c (fun j j0 j1 => hR.1 j j0 j1)), rfl, hC, fun _ _ => rfl⟩
    · refine ⟨78, 79, rfl, by decide, ?_⟩
      refine V_aload_n dX6_number_79 0 rfl rfl ?_
      refine V_g_X6_24 rfl dX6_number_80 hA rfl ?_
      refine V_g_X6_87 rfl dX6_number_83 hS.1 rfl ?_
      refine V_c_X6_250 rfl (by decide) (c_differentShades hS.2.1 hsh) dX6_number_86 rfl rfl (Nat.le_of_ble_eq_true rfl) (Nat.le_of_eq (Nat.zero_add _)) (Nat.le_of_eq (Nat.zero_add _)) (fun v w sz q => ?_)
      obtain ⟨rfl, rfl, rfl⟩ := q
      exact V_iret hE rfl dX6_number_89 ⟨bE (by unfold icnt; rw [if_neg (by omega), if_neg (by omega), if_neg (by omega), if_neg (by omega), if_neg (by omega), if_neg (by omega), if_neg (by omega), if_pos rfl]; exact idif_c hR.1), rfl, hC, fun _ _ => rfl⟩
    · refine ⟨89, 90, rfl, by decide, ?_⟩
      refine V_aload_n dX6_number_90 0 rfl rfl ?_
      refine V_g_X6_31 rfl dX6_number_91 hA rfl ?_
      refine V_g_X6_177 rfl dX6_number_94 hH.1 rfl ?_
      exact V_iret hE rfl dX6_number_97 ⟨bE (by unfold icnt; rw [if_neg (by omega), if_neg (by omega), if_neg (by omega), if_neg (by omega), if_neg (by omega), if_neg (by omega), if_neg (by omega), if_neg (by omega)]), rfl, hC, fun _ _ => rfl⟩
set_option maxRecDepth 100000 in
set_option maxHeartbeats 4000000 in
theorem c_cov {w : WD} {sz χ : Nat} {P : MP} (hC : CP w χ P) (hI : MInv P) : CT iX6_coverage 0 0 [.ref χ] w sz (fun v w' sz' => v = some (.double (covD P.1)) ∧ sz' = sz ∧ CP w' χ P ∧ ∀ j, j ≠ χ + 35 → w' j = w j) := by
  refine CT.ofZ (by decide) rfl (Nat.le_of_ble_eq_true rfl) (fun Z hE => ?_)
  refine V_aload_n dX6_coverage_0 0 rfl rfl ?_
  refine V_iconst dX6_coverage_1 ?_
  refine V_c_X6_195 rfl (by decide) (c_number hC hI (by omega)) dX6_coverage_2 hC.1 rfl rfl (Nat.le_of_ble_eq_true rfl) (Nat.le_of_eq (Nat.zero_add _)) (Nat.le_of_eq (Nat.zero_add _)) (fun v w sz q => ?_)
  obtain ⟨rfl, rfl, hC2, hfr⟩ := q
  rw [show icnt P.1 (imS P.1) P.2.1 4 = isum (imS P.1) 160 from rfl]
  refine V_i2d dX6_coverage_5 ?_
  refine V_ldc2d (v := 4670021707350671360) dX6_coverage_6 (xG_at 444 (by decide +kernel) rfl) ?_
  refine V_ddiv dX6_coverage_9 (shD_n (imS_sum hI.1)) ?_
  exact V_dret hE rfl dX6_coverage_10 ⟨rfl, rfl, hC2, hfr⟩
