/-! the class: calls that change nothing; texts -/
/-- the answer is the reference's, and the object stands for what the reference holds then -/
abbrev OKQ (w : WD) (χ : Nat) (R : Int → Int → MP → Prop) : XQ := fun o9 w' sz' => (∃ x : Int32, o9 = some (.int x)) ∧ TF w w' sz' χ ∧ ∀ t r P', R t r P' → t = 0 ∧ o9 = some (xI r) ∧ CP w' χ P'
/-- the exception E0, where the reference tells k -/
def EXQ (w : WD) (χ : Nat) (R : Int → Int → MP → Prop) (E0 : String) (k : Int) : XE := fun E w' sz' => E = E0 ∧ TF w w' sz' χ ∧ ∀ t r P', R t r P' → t = k ∧ CP w' χ P'
abbrev EX2 (w : WD) (χ : Nat) (R : Int → Int → MP → Prop) (E1 E2 : String) : XE := fun E w' sz' => EXQ w χ R E1 1 E w' sz' ∨ EXQ w χ R E2 2 E w' sz'
abbrev EX3 (w : WD) (χ : Nat) (R : Int → Int → MP → Prop) (E1 E2 E3 : String) : XE := fun E w' sz' => EXQ w χ R E1 1 E w' sz' ∨ EXQ w χ R E2 2 E w' sz' ∨ EXQ w χ R E3 3 E w' sz'
theorem EXQ.th {w : WD} {χ sz sz' : Nat} {R : Int → Int → MP → Prop} {E0 : String} {k : Int} {P : MP} (hC : CP w χ P) (hN : WN w sz) (h : sz ≤ sz') (hR : ∀ t r P', R t r P' → t = k ∧ P' = P) : EXQ w χ R E0 k E0 w sz' := ⟨rfl, TF.rf hN h, fun t r P' q => ⟨(hR t r P' q).1, by rw [(hR t r P' q).2]; exact hC⟩⟩
theorem ask_1 {c d : Prop} {P P' : MP} {t : Int} (hc : ¬ c) (h : ask c P t P' d) : t = 1 ∧ P' = P := ⟨h.2.elim (fun q => q.2) (fun q => absurd q.1 hc), h.1⟩
theorem ask_0 {c d : Prop} {P P' : MP} {t : Int} (hc : c) (h : ask c P t P' d) : t = 0 ∧ P' = P ∧ d := ⟨h.2.elim (fun q => absurd hc q.1) (fun q => q.2.1), h.1, h.2.elim (fun q => absurd hc q.1) (fun q => q.2.2)⟩
theorem ask2_1 {c e d : Prop} {P P' : MP} {t : Int} (hc : ¬ c) (h : ask2 c e P t P' d) : t = 1 ∧ P' = P := ⟨h.2.elim (fun q => q.2) (fun q => q.elim (fun q => absurd q.1 hc) (fun q => absurd q.1 hc)), h.1⟩
theorem ask2_2 {c e d : Prop} {P P' : MP} {t : Int} (hc : c) (he : ¬ e) (h : ask2 c e P t P' d) : t = 2 ∧ P' = P := ⟨h.2.elim (fun q => absurd hc q.1) (fun q => q.elim (fun q => q.2.2) (fun q => absurd q.2.1 he)), h.1⟩
theorem ask2_0 {c e d : Prop} {P P' : MP} {t : Int} (hc : c) (he : e) (h : ask2 c e P t P' d) : t = 0 ∧ P' = P ∧ d := ⟨h.2.elim (fun q => absurd hc q.1) (fun q => q.elim (fun q => absurd he q.2.1) (fun q => q.2.2.1)), h.1, h.2.elim (fun q => absurd hc q.1) (fun q => q.elim (fun q => absurd he q.2.1) (fun q => q.2.2.2))⟩
set_option maxRecDepth 100000 in
set_option maxHeartbeats 4000000 in
theorem c_cell {w : WD} {sz χ : Nat} {P : MP} (hC : CP w χ P) (hI : MInv P) (hN : WN w sz) (hs : χ + 44 ≤ sz) {x y a : Int} (r : -2147483648 ≤ x ∧ x < 2147483648 ∧ -2147483648 ≤ y ∧ y < 2147483648 ∧ -2147483648 ≤ a ∧ a < 2147483648) : CX iX6_cell 2 12 [.ref χ, xI x, xI y, xI a] w sz (OKQ w χ (fun t r P' => celR P x y a t r P')) (EX2 w χ (fun t r P' => celR P x y a t r P') "java/lang/IndexOutOfBoundsException" "java/lang/IllegalArgumentException") := by
  refine CX.ofZ (by decide) rfl (Nat.le_of_ble_eq_true rfl) (fun Z hZ hE => ?_)
  subst hZ
  have hC0 := hC
  obtain ⟨hA, ⟨T, hS, hR⟩, ⟨hh, hH, hH2, hH3⟩, ⟨TX, hX, hX2, hX3⟩, ⟨TFi, hF⟩, ⟨mk1, hm1⟩, ⟨mk2, hm2⟩⟩ := hC0
  have hv := hI.1
  have hsh : ∀ k, 0 ≤ k → k < 160 → 0 ≤ T.1 k ∧ T.1 k ≤ 99 := fun k k0 k1 => by rw [hR.1 k k0 k1]; exact hv.1 k k0 k1
  have hz160 := hv.2.1
  have hs6 := hI.2.1
  have hVT := hI.2.2.2
  have hln := hVT.1
  refine V_iload_n dX6_cell_0 1 rfl rfl ?_
  refine V_iload_n dX6_cell_1 2 rfl rfl ?_
  refine V_x_X6_56 rfl (kc' := 1) (ks' := 6) (by decide) (c_needCell (by omega)) dX6_cell_2 rfl rfl (Nat.le_of_ble_eq_true rfl) (Nat.le_of_ble_eq_true rfl) (Nat.le_of_ble_eq_true rfl) (fun E w1 sz1 q => by obtain ⟨rfl, rfl, h9, hq⟩ := q; exact VX_out rfl (Or.inl (EXQ.th hC hN h9 (fun t r P1 hR1 => ask2_1 hq hR1)))) (fun v w sz q => ?_)
  obtain ⟨rfl, rfl, rfl, hq2⟩ := q
  refine V_iload_n dX6_cell_5 3 rfl rfl ?_
  refine V_iconst dX6_cell_6 ?_
  refine V_iconst dX6_cell_7 ?_
  refine V_x_X6_60 rfl (kc' := 0) (ks' := 0) (by decide) (c_needRange (by omega)) dX6_cell_8 rfl rfl (Nat.le_of_ble_eq_true rfl) (Nat.le_of_ble_eq_true rfl) (Nat.le_of_ble_eq_true rfl) (fun E w1 sz1 q => by obtain ⟨rfl, rfl, h9, hq⟩ := q; exact VX_out rfl (Or.inr (EXQ.th hC hN h9 (fun t r P1 hR1 => ask2_2 hq2 hq hR1)))) (fun v w sz q => ?_)
  obtain ⟨rfl, rfl, rfl, hq8⟩ := q
  refine V_aload_n dX6_cell_11 0 rfl rfl ?_
  refine V_g_X6_24 rfl dX6_cell_12 hA rfl ?_
  refine V_iload_n dX6_cell_15 1 rfl rfl ?_
  refine V_iload_n dX6_cell_16 2 rfl rfl ?_
  refine V_c_X6_77 rfl (by decide) (c_cellAt) dX6_cell_17 rfl rfl (Nat.le_of_ble_eq_true rfl) (Nat.le_of_eq (Nat.zero_add _)) (Nat.le_of_eq (Nat.zero_add _)) (fun v w sz q => ?_)
  obtain ⟨rfl, rfl, rfl⟩ := q
  refine V_iload_n dX6_cell_20 3 rfl rfl ?_
  refine V_c_X6_185 rfl (by decide) (c_cellProperty hS hR hv (by omega) hq8) dX6_cell_21 hS.1 rfl rfl (Nat.le_of_ble_eq_true rfl) (Nat.le_of_eq (Nat.zero_add _)) (Nat.le_of_eq (Nat.zero_add _)) (fun v w sz q => ?_)
  obtain ⟨rfl, rfl, rfl⟩ := q
  exact V_iret hE rfl dX6_cell_24 ⟨⟨_, rfl⟩, TF.rf hN (Nat.le_refl _), fun t r P1 hR1 => by obtain ⟨h0, rfl, hd⟩ := ask2_0 hq2 hq8 hR1; exact ⟨h0, by rw [hd], hC⟩⟩
set_option maxRecDepth 100000 in
set_option maxHeartbeats 4000000 in
theorem c_picked {w : WD} {sz χ : Nat} {P : MP} (hC : CP w χ P) (hI : MInv P) (hN : WN w sz) (hs : χ + 44 ≤ sz) {p a : Int} (r : -2147483648 ≤ p ∧ p < 2147483648 ∧ -2147483648 ≤ a ∧ a < 2147483648) : CX iX6_picked 2 12 [.ref χ, xI p, xI a] w sz (OKQ w χ (fun t r P' => pkdR P p a t r P')) (EX2 w χ (fun t r P' => pkdR P p a t r P') "java/lang/IndexOutOfBoundsException" "java/lang/IllegalArgumentException") := by
  refine CX.ofZ (by decide) rfl (Nat.le_of_ble_eq_true rfl) (fun Z hZ hE => ?_)
  subst hZ
  have hC0 := hC
  obtain ⟨hA, ⟨T, hS, hR⟩, ⟨hh, hH, hH2, hH3⟩, ⟨TX, hX, hX2, hX3⟩, ⟨TFi, hF⟩, ⟨mk1, hm1⟩, ⟨mk2, hm2⟩⟩ := hC0
  have hv := hI.1
  have hsh : ∀ k, 0 ≤ k → k < 160 → 0 ≤ T.1 k ∧ T.1 k ≤ 99 := fun k k0 k1 => by rw [hR.1 k k0 k1]; exact hv.1 k k0 k1
  have hz160 := hv.2.1
  have hs6 := hI.2.1
  have hVT := hI.2.2.2
  have hln := hVT.1
  refine V_aload_n dX6_picked_0 0 rfl rfl ?_
  refine V_iload_n dX6_picked_1 1 rfl rfl ?_
  refine V_x_X6_118 rfl (kc' := 1) (ks' := 6) (by decide) (c_needPick hC hI.1.2.1 (by omega)) dX6_picked_2 hA rfl rfl (Nat.le_of_ble_eq_true rfl) (Nat.le_of_ble_eq_true rfl) (Nat.le_of_ble_eq_true rfl) (fun E w1 sz1 q => by obtain ⟨rfl, rfl, h9, hq⟩ := q; exact VX_out rfl (Or.inl (EXQ.th hC hN h9 (fun t r P1 hR1 => ask2_1 hq hR1)))) (fun v w sz q => ?_)
  obtain ⟨rfl, rfl, rfl, hq2⟩ := q
  refine V_iload_n dX6_picked_5 2 rfl rfl ?_
  refine V_iconst dX6_picked_6 ?_
  refine V_bipush dX6_picked_7 (by decide) ?_
  refine V_x_X6_60 rfl (kc' := 0) (ks' := 0) (by decide) (c_needRange (by omega)) dX6_picked_9 rfl rfl (Nat.le_of_ble_eq_true rfl) (Nat.le_of_ble_eq_true rfl) (Nat.le_of_ble_eq_true rfl) (fun E w1 sz1 q => by obtain ⟨rfl, rfl, h9, hq⟩ := q; exact VX_out rfl (Or.inr (EXQ.th hC hN h9 (fun t r P1 hR1 => ask2_2 hq2 hq hR1)))) (fun v w sz q => ?_)
  obtain ⟨rfl, rfl, rfl, hq9⟩ := q
  refine V_aload_n dX6_picked_12 0 rfl rfl ?_
  refine V_g_X6_24 rfl dX6_picked_13 hA rfl ?_
  refine V_g_X6_122 rfl dX6_picked_16 hS.1 rfl ?_
  refine V_iload_n dX6_picked_19 1 rfl rfl ?_
  obtain ⟨i9, hg9, hP9, d9, v9, hi9, fs9, hd9, hf69, f9, hv9, hf9⟩ := hR.at hv hq2.1 (show p < P.1 160 by omega)
  have h79 := hv.2.2 p hq2.1 (by omega)
  refine V_aald (t := 3) (fun _ => rfl) dX6_picked_20 hS.2.2.1 (by omega) hg9 ?_
  refine V_iload_n dX6_picked_21 2 rfl rfl ?_
  refine V_c_X6_188 rfl (by decide) (c_property (z := P.1) (p := p) hP9 (fun k k0 k1 => hv.lev p k hq2.1 (by omega) k0 k1) (fun k k0 k1 => rfl) (by exact h79.2.2.2.2.2.2.2.1) hq9) dX6_picked_22 hi9 rfl rfl (Nat.le_of_ble_eq_true rfl) (Nat.le_of_eq (Nat.zero_add _)) (Nat.le_of_eq (Nat.zero_add _)) (fun v w sz q => ?_)
  obtain ⟨rfl, rfl, rfl⟩ := q
  exact V_iret hE rfl dX6_picked_25 ⟨⟨_, rfl⟩, TF.rf hN (Nat.le_refl _), fun t r P1 hR1 => by obtain ⟨h0, rfl, hd⟩ := ask2_0 hq2 hq9 hR1; exact ⟨h0, by rw [hd], hC⟩⟩
set_option maxRecDepth 100000 in
set_option maxHeartbeats 4000000 in
theorem c_level {w : WD} {sz χ : Nat} {P : MP} (hC : CP w χ P) (hI : MInv P) (hN : WN w sz) (hs : χ + 44 ≤ sz) {p x y : Int} (r : -2147483648 ≤ p ∧ p < 2147483648 ∧ -2147483648 ≤ x ∧ x < 2147483648 ∧ -2147483648 ≤ y ∧ y < 2147483648) : CX iX6_level 2 12 [.ref χ, xI p, xI x, xI y] w sz (OKQ w χ (fun t r P' => lvlR P p x y t r P')) (EXQ w χ (fun t r P' => lvlR P p x y t r P') "java/lang/IndexOutOfBoundsException" 1) := by
  refine CX.ofZ (by decide) rfl (Nat.le_of_ble_eq_true rfl) (fun Z hZ hE => ?_)
  subst hZ
  have hC0 := hC
  obtain ⟨hA, ⟨T, hS, hR⟩, ⟨hh, hH, hH2, hH3⟩, ⟨TX, hX, hX2, hX3⟩, ⟨TFi, hF⟩, ⟨mk1, hm1⟩, ⟨mk2, hm2⟩⟩ := hC0
  have hv := hI.1
  have hsh : ∀ k, 0 ≤ k → k < 160 → 0 ≤ T.1 k ∧ T.1 k ≤ 99 := fun k k0 k1 => by rw [hR.1 k k0 k1]; exact hv.1 k k0 k1
  have hz160 := hv.2.1
  have hs6 := hI.2.1
  have hVT := hI.2.2.2
  have hln := hVT.1
  refine V_aload_n dX6_level_0 0 rfl rfl ?_
  refine V_iload_n dX6_level_1 1 rfl rfl ?_
  refine V_x_X6_118 rfl (kc' := 1) (ks' := 6) (by decide) (c_needPick hC hI.1.2.1 (by omega)) dX6_level_2 hA rfl rfl (Nat.le_of_ble_eq_true rfl) (Nat.le_of_ble_eq_true rfl) (Nat.le_of_ble_eq_true rfl) (fun E w1 sz1 q => by obtain ⟨rfl, rfl, h9, hq⟩ := q; exact VX_out rfl ((EXQ.th hC hN h9 (fun t r P1 hR1 => ask_1 (fun g => hq g.1) hR1)))) (fun v w sz q => ?_)
  obtain ⟨rfl, rfl, rfl, hq2⟩ := q
  refine V_iload_n dX6_level_5 2 rfl rfl ?_
  refine V_iload_n dX6_level_6 3 rfl rfl ?_
  refine V_x_X6_56 rfl (kc' := 0) (ks' := 0) (by decide) (c_needCell (by omega)) dX6_level_7 rfl rfl (Nat.le_of_ble_eq_true rfl) (Nat.le_of_ble_eq_true rfl) (Nat.le_of_ble_eq_true rfl) (fun E w1 sz1 q => by obtain ⟨rfl, rfl, h9, hq⟩ := q; exact VX_out rfl ((EXQ.th hC hN h9 (fun t r P1 hR1 => ask_1 (fun g => hq g.2) hR1)))) (fun v w sz q => ?_)
  obtain ⟨rfl, rfl, rfl, hq7⟩ := q
  refine V_aload_n dX6_level_10 0 rfl rfl ?_
  refine V_g_X6_24 rfl dX6_level_11 hA rfl ?_
  refine V_g_X6_122 rfl dX6_level_14 hS.1 rfl ?_
  refine V_iload_n dX6_level_17 1 rfl rfl ?_
  obtain ⟨i9, hg9, hP9, d9, v9, hi9, fs9, hd9, hf69, f9, hv9, hf9⟩ := hR.at hv hq2.1 (show p < P.1 160 by omega)
  have h79 := hv.2.2 p hq2.1 (by omega)
  refine V_aald (t := 3) (fun _ => rfl) dX6_level_18 hS.2.2.1 (by omega) hg9 ?_
  refine V_g_X6_126 rfl dX6_level_19 hi9 rfl ?_
  refine V_g_X6_192 rfl dX6_level_22 hd9 hf69 ?_
  refine V_iload_n dX6_level_25 2 rfl rfl ?_
  refine V_iload_n dX6_level_26 3 rfl rfl ?_
  refine V_c_X6_77 rfl (by decide) (c_cellAt) dX6_level_27 rfl rfl (Nat.le_of_ble_eq_true rfl) (Nat.le_of_eq (Nat.zero_add _)) (Nat.le_of_eq (Nat.zero_add _)) (fun v w sz q => ?_)
  obtain ⟨rfl, rfl, rfl⟩ := q
  refine V_iald dX6_level_30 hv9 (by omega) ?_
  rw [hf9 _ (by omega) (by omega)]
  exact V_iret hE rfl dX6_level_31 ⟨⟨_, rfl⟩, TF.rf hN (Nat.le_refl _), fun t r P1 hR1 => by obtain ⟨h0, rfl, hd⟩ := ask_0 ⟨hq2, hq7⟩ hR1; exact ⟨h0, by rw [hd], hC⟩⟩
set_option maxRecDepth 100000 in
set_option maxHeartbeats 4000000 in
theorem c_count {w : WD} {sz χ : Nat} {P : MP} (hC : CP w χ P) (hI : MInv P) (hN : WN w sz) (hs : χ + 44 ≤ sz) {a : Int} (r : -2147483648 ≤ a ∧ a < 2147483648) : CX iX6_count 1 6 [.ref χ, xI a] w sz (OKQ w χ (fun t r P' => cntR P a t r P')) (EXQ w χ (fun t r P' => cntR P a t r P') "java/lang/IllegalArgumentException" 1) := by
  refine CX.ofZ (by decide) rfl (Nat.le_of_ble_eq_true rfl) (fun Z hZ hE => ?_)
  subst hZ
  have hC0 := hC
  obtain ⟨hA, ⟨T, hS, hR⟩, ⟨hh, hH, hH2, hH3⟩, ⟨TX, hX, hX2, hX3⟩, ⟨TFi, hF⟩, ⟨mk1, hm1⟩, ⟨mk2, hm2⟩⟩ := hC0
  have hv := hI.1
  have hsh : ∀ k, 0 ≤ k → k < 160 → 0 ≤ T.1 k ∧ T.1 k ≤ 99 := fun k k0 k1 => by rw [hR.1 k k0 k1]; exact hv.1 k k0 k1
  have hz160 := hv.2.1
  have hs6 := hI.2.1
  have hVT := hI.2.2.2
  have hln := hVT.1
  refine V_iload_n dX6_count_0 1 rfl rfl ?_
  refine V_iconst dX6_count_1 ?_
  refine V_bipush dX6_count_2 (by decide) ?_
  refine V_x_X6_60 rfl (kc' := 0) (ks' := 0) (by decide) (c_needRange (by omega)) dX6_count_4 rfl rfl (Nat.le_of_ble_eq_true rfl) (Nat.le_of_ble_eq_true rfl) (Nat.le_of_ble_eq_true rfl) (fun E w1 sz1 q => by obtain ⟨rfl, rfl, h9, hq⟩ := q; exact VX_out rfl ((EXQ.th hC hN h9 (fun t r P1 hR1 => ask_1 hq hR1)))) (fun v w sz q => ?_)
  obtain ⟨rfl, rfl, rfl, hq4⟩ := q
  refine V_aload_n dX6_count_7 0 rfl rfl ?_
  refine V_iload_n dX6_count_8 1 rfl rfl ?_
  refine V_c_X6_195 rfl (by decide) (c_number hC hI hq4) dX6_count_9 hA rfl rfl (Nat.le_of_ble_eq_true rfl) (Nat.le_of_eq (Nat.zero_add _)) (Nat.le_of_eq (Nat.zero_add _)) (fun v w sz q => ?_)
  obtain ⟨rfl, rfl, hC, hfr⟩ := q
  exact V_iret hE rfl dX6_count_12 ⟨⟨_, rfl⟩, TF.in_ (a := χ + 35) (n := 1) hN hs (by omega) (fun j hj => hfr j (by omega)), fun t r P1 hR1 => by obtain ⟨h0, rfl, hd⟩ := ask_0 hq4 hR1; exact ⟨h0, by rw [hd], hC⟩⟩
set_option maxRecDepth 100000 in
set_option maxHeartbeats 4000000 in
theorem c_areaOf {w : WD} {sz χ : Nat} {P : MP} (hC : CP w χ P) (hI : MInv P) (hN : WN w sz) (hs : χ + 44 ≤ sz) {x y l a g : Int} (r : -2147483648 ≤ x ∧ x < 2147483648 ∧ -2147483648 ≤ y ∧ y < 2147483648 ∧ -2147483648 ≤ l ∧ l < 2147483648 ∧ -2147483648 ≤ a ∧ a < 2147483648 ∧ -2147483648 ≤ g ∧ g < 2147483648) : CX iX6_areaOf 4 24 [.ref χ, xI x, xI y, xI l, xI a, xI g] w sz (OKQ w χ (fun t r P' => aofR P x y l a g t r P')) (EX2 w χ (fun t r P' => aofR P x y l a g t r P') "java/lang/IndexOutOfBoundsException" "java/lang/IllegalArgumentException") := by
  refine CX.ofZ (by decide) rfl (Nat.le_of_ble_eq_true rfl) (fun Z hZ hE => ?_)
  subst hZ
  have hC0 := hC
  obtain ⟨hA, ⟨T, hS, hR⟩, ⟨hh, hH, hH2, hH3⟩, ⟨TX, hX, hX2, hX3⟩, ⟨TFi, hF⟩, ⟨mk1, hm1⟩, ⟨mk2, hm2⟩⟩ := hC0
  have hv := hI.1
  have hsh : ∀ k, 0 ≤ k → k < 160 → 0 ≤ T.1 k ∧ T.1 k ≤ 99 := fun k k0 k1 => by rw [hR.1 k k0 k1]; exact hv.1 k k0 k1
  have hz160 := hv.2.1
  have hs6 := hI.2.1
  have hVT := hI.2.2.2
  have hln := hVT.1
  refine V_iload_n dX6_areaOf_0 1 rfl rfl ?_
  refine V_iload_n dX6_areaOf_1 2 rfl rfl ?_
  refine V_x_X6_56 rfl (kc' := 3) (ks' := 18) (by decide) (c_needCell (by omega)) dX6_areaOf_2 rfl rfl (Nat.le_of_ble_eq_true rfl) (Nat.le_of_ble_eq_true rfl) (Nat.le_of_ble_eq_true rfl) (fun E w1 sz1 q => by obtain ⟨rfl, rfl, h9, hq⟩ := q; exact VX_out rfl (Or.inl (EXQ.th hC hN h9 (fun t r P1 hR1 => ask2_1 hq hR1)))) (fun v w sz q => ?_)
  obtain ⟨rfl, rfl, rfl, hq2⟩ := q
  refine V_iload_n dX6_areaOf_5 3 rfl rfl ?_
  refine V_iload dX6_areaOf_6 rfl ?_
  refine V_iload dX6_areaOf_8 rfl ?_
  refine V_x_X6_90 rfl (kc' := 0) (ks' := 0) (by decide) (c_needSearch (by omega)) dX6_areaOf_10 rfl rfl (Nat.le_of_ble_eq_true rfl) (Nat.le_of_ble_eq_true rfl) (Nat.le_of_ble_eq_true rfl) (fun E w1 sz1 q => by obtain ⟨rfl, rfl, h9, hq⟩ := q; exact VX_out rfl (Or.inr (EXQ.th hC hN h9 (fun t r P1 hR1 => ask2_2 hq2 hq hR1)))) (fun v w sz q => ?_)
  obtain ⟨rfl, rfl, rfl, hq9⟩ := q
  refine V_aload_n dX6_areaOf_13 0 rfl rfl ?_
  refine V_g_X6_45 rfl dX6_areaOf_14 hA rfl ?_
  refine V_aload_n dX6_areaOf_17 0 rfl rfl ?_
  refine V_g_X6_24 rfl dX6_areaOf_18 hA rfl ?_
  refine V_g_X6_87 rfl dX6_areaOf_21 hS.1 rfl ?_
  refine V_iload_n dX6_areaOf_24 1 rfl rfl ?_
  refine V_iload_n dX6_areaOf_25 2 rfl rfl ?_
  refine V_c_X6_77 rfl (by decide) (c_cellAt) dX6_areaOf_26 rfl rfl (Nat.le_of_ble_eq_true rfl) (Nat.le_of_eq (Nat.zero_add _)) (Nat.le_of_eq (Nat.zero_add _)) (fun v w sz q => ?_)
  obtain ⟨rfl, rfl, rfl⟩ := q
  refine V_iload_n dX6_areaOf_29 3 rfl rfl ?_
  refine V_iload dX6_areaOf_30 rfl ?_
  refine V_iload dX6_areaOf_32 rfl ?_
  refine V_c_X6_104 rfl (by decide) (c_search (z := T.1) hF hS.2.1 (by omega) hsh (by omega) (by omega) (by omega) (by omega)) dX6_areaOf_34 hF.1 rfl rfl (Nat.le_of_ble_eq_true rfl) (Nat.le_of_eq (Nat.zero_add _)) (Nat.le_of_eq (Nat.zero_add _)) (fun v w sz q => ?_)
  obtain ⟨rfl, T1, hF1, hwi, hA1, rfl⟩ := q
  have har := arN_z (f := 16 * y + x) (l := l) (a := a) (g := g) hR.1 (by omega) ⟨_, _, hwi, hA1, rfl⟩
  exact V_iret hE rfl dX6_areaOf_37 ⟨⟨_, rfl⟩, TF.in_ (a := χ + 29) (n := 6) hN hs (by omega) (fun j hj => FW.fr hF1 j (by omega)), fun t r P1 hR1 => by obtain ⟨h0, rfl, hd⟩ := ask2_0 hq2 hq9 hR1; exact ⟨h0, by rw [arN_u hd har], CS.find hC ⟨T1, FW.rb hF1⟩ (fun j hj _ => FW.fr hF1 j (by omega))⟩⟩
