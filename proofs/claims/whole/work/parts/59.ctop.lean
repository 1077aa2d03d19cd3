/-! the class: calls that change nothing; texts -/
/-- the answer is the reference's, and the object stands for what the reference holds then -/
abbrev OKQ (w : WD) (χ : Nat) (R : Int → Int → MP → Prop) : XQ := fun o9 w' sz' => (∃ x : Int32, o9 = some (.int x)) ∧ TF w w' sz' χ ∧ ∀ t r P', R t r P' → t = 0 ∧ o9 = some (xI r) ∧ CP w' χ P'
/-- the exception E0, where the reference tells k -/
def EXQ (w : WD) (χ : Nat) (R : Int → Int → MP → Prop) (E0 : String) (k : Int) : XE := fun E w' sz' => E = E0 ∧ TF w w' sz' χ ∧ ∀ t r P', R t r P' → t = k ∧ CP w' χ P'
abbrev EX2 (w : WD) (χ : Nat) (R : Int → Int → MP → Prop) (E1 E2 : String) : XE := fun E w' sz' => EXQ w χ R E1 1 E w' sz' ∨ EXQ w χ R E2 2 E w' sz'
abbrev EX3 (w : WD) (χ : Nat) (R : Int → Int → MP → Prop) (E1 E2 E3 : String) : XE := fun E w' sz' => EXQ w χ R E1 1 E w' sz' ∨ EXQ w χ R E2 2 E w' sz' ∨ EXQ w χ R E3 3 E w' sz'
theorem EXQ.th {w : WD} {χ sz sz' : Nat} {R : Int → Int → MP → Prop} {E0 : String} {k : Int} {P : MP} (hC : CP w χ P) (hN : WN w sz) (h : sz ≤ sz') (hR : ∀ t r P', R t r P' → t = k ∧ P' = P) : EXQ w χ R E0 k E0 w sz' := ⟨rfl, TF.rf hN h, fun t r P' q => ⟨(hR t r P' q).1, by rw [(hR t r P' q).2]; exact hC⟩⟩
theorem ask_1 {c d : Prop} {P P' : MP} {t : Int} (hc : ¬ c) (h : ask c P t P' d) : t = 1 ∧ P' = P := ⟨h.2.elim (fun q => q.2) (fun q => absurd q.1 hc), h.1⟩
theorem ask_0 {c d : Prop} {P P' : MP} {t : Int} (hc : c) (h : ask c P t P' d) : t = 0 ∧ P' = P ∧ d := ⟨h.2.elim (fun q => absurd hc q.1) (fun q => q.2.1), h.1, h.2.elim (fun q => absurd hc q.1) (fun q => q.2.2)⟩
theorem ask2_1 {c e d : Prop} {P P' : MP} {t : Int} (hc : ¬ c) (h : ask2 c e P t P' d) : t = 1 ∧ P' = P := ⟨h.2.elim (fun q => q.2) (fun q => q.elim (fun q => absurd q.1 hc) (fun q => absurd q.1 hc)), h.1⟩
theorem ask2_2 {c e d : Prop} {P P' : MP} {t : Int} (hc : c) (he : ¬ e) (h : ask2 c e P t P' d) : t = 2 ∧ P' = P := ⟨h.2.elim (fun q => absurd hc q.1) (fun q => q.elim (fun q => q.2.2) (fun q => absurd q.2.1 he)), h.1⟩
theorem ask2_0 {c e d : Prop} {P P' : MP} {t : Int} (hc : c) (he : e) (h : ask2 c e P t P' d) : t = 0 ∧ P' = P ∧ d := ⟨h.2.elim (fun q => absurd hc q.1) (fun q => q.elim (fun q => absurd he q.2.1) (fun q => q.2.2.1)), h.1, h.2.elim (fun q => absurd hc q.1) (fun q => q.elim (fun q => absurd he q.2.1) (fun q => q.2.2.2))⟩
theorem arA_dec (z : Int → Int) (c e l a g : Int) : arI z c l a g e ∨ ¬ arI z c l a g e := Classical.em _
theorem likA_u {z : Int → Int} {c e a g r r' : Int} (h : likA z c e a g r) (h' : likA z c e a g r') : r = r' := by
  rcases h with ⟨h1, h2, h3⟩ | ⟨h1, h2⟩ <;> rcases h' with ⟨h1', h2', h3'⟩ | ⟨h1', h2'⟩
  · by_cases q : r < r'
    · exact absurd h2 (h3' r h1.1 q)
    · by_cases q2 : r' < r
      · exact absurd h2' (h3 r' h1'.1 q2)
      · omega
  · exact absurd h2 (h2' r h1.1 h1.2)
  · exact absurd h2' (h2 r' h1'.1 h1'.2)
  · omega
theorem gapA_u {z : Int → Int} {c e l r r' : Int} (h : gapA z c e l r) (h' : gapA z c e l r') : r = r' := by
  rcases h with ⟨h1, h2, h3⟩ | ⟨h1, h2⟩ <;> rcases h' with ⟨h1', h2', h3'⟩ | ⟨h1', h2'⟩
  · by_cases q : r < r'
    · exact absurd (h3' r h1.1 q) h2
    · by_cases q2 : r' < r
      · exact absurd (h3 r' h1'.1 q2) h2'
      · omega
  · exact absurd (h2' r h1.1 h1.2) h2
  · exact absurd (h2 r' h1'.1 h1'.2) h2'
  · omega
set_option maxRecDepth 100000 in
set_option maxHeartbeats 4000000 in
theorem c_cell {w : WD} {sz χ : Nat} {P : MP} (hC : CP w χ P) (hI : MInv P) (hN : WN w sz) (hs : χ + 48 ≤ sz) {x y a : Int} (r : -2147483648 ≤ x ∧ x < 2147483648 ∧ -2147483648 ≤ y ∧ y < 2147483648 ∧ -2147483648 ≤ a ∧ a < 2147483648) : CX iX6_cell 2 12 [.ref χ, xI x, xI y, xI a] w sz (OKQ w χ (fun t r P' => celR P x y a t r P')) (EX2 w χ (fun t r P' => celR P x y a t r P') "java/lang/IndexOutOfBoundsException" "java/lang/IllegalArgumentException") := by
  refine CX.ofZ (by decide) rfl (Nat.le_of_ble_eq_true rfl) (fun Z hZ hE => ?_)
  subst hZ
  have hC0 := hC
  obtain ⟨hA, ⟨T, hS, hR⟩, ⟨hh, hH, hH2, hH3⟩, ⟨TX, hX, hX2, hX3⟩, ⟨TFi, hF⟩, ⟨mk1, hm1⟩, ⟨mk2, hm2⟩⟩ := hC0
  have hv := hI.1
  have hsh : ∀ k, 0 ≤ k → k < 160 → 0 ≤ T.1 k ∧ T.1 k ≤ 99 := fun k k0 k1 => by rw [hR.1 k k0 k1]; exact hv.1 k k0 k1
  have hz160 := hv.2.1
  have hs6 := hI.2.1
  have hVT := hI.2.2.2
  have hln := hVT.1
  refine V_iload_n dX6_cell_0 1 rfl rfl ?_
  refine V_iload_n dX6_cell_1 2 rfl rfl ?_
  refine V_x_X6_56 rfl (kc' := 1) (ks' := 6) (by decide) (c_needCell (by omega)) dX6_cell_2 rfl rfl (Nat.le_of_ble_eq_true rfl) (Nat.le_of_ble_eq_true rfl) (Nat.le_of_ble_eq_true rfl) (fun E w1 sz1 q => by obtain ⟨rfl, rfl, h9, hq⟩ := q; exact VX_out rfl (Or.inl (EXQ.th hC hN h9 (fun t r P1 hR1 => ask2_1 hq hR1)))) (fun v w sz q => ?_)
  obtain ⟨rfl, rfl, rfl, hq2⟩ := q
  refine V_iload_n dX6_cell_5 3 rfl rfl ?_
  refine V_iconst dX6_cell_6 ?_
  refine V_iconst dX6_cell_7 ?_
  refine V_x_X6_60 rfl (kc' := 0) (ks' := 0) (by decide) (c_needRange (by omega)) dX6_cell_8 rfl rfl (Nat.le_of_ble_eq_true rfl) (Nat.le_of_ble_eq_true rfl) (Nat.le_of_ble_eq_true rfl) (fun E w1 sz1 q => by obtain ⟨rfl, rfl, h9, hq⟩ := q; exact VX_out rfl (Or.inr (EXQ.th hC hN h9 (fun t r P1 hR1 => ask2_2 hq2 hq hR1)))) (fun v w sz q => ?_)
  obtain ⟨rfl, rfl, rfl, hq8⟩ := q
  refine V_aload_n dX6_cell_11 0 rfl rfl ?_
  refine V_g_X6_24 rfl dX6_cell_12 hA rfl ?_
  refine V_iload_n dX6_cell_15 1 rfl rfl ?_
  refine V_iload_n dX6_cell_16 2 rfl rfl ?_
  refine V_c_X6_77 rfl (by decide) (c_cellAt) dX6_cell_17 rfl rfl (Nat.le_of_ble_eq_true rfl) (Nat.le_of_eq (Nat.zero_add _)) (Nat.le_of_eq (Nat.zero_add _)) (fun v w sz q => ?_)
  obtain ⟨rfl, rfl, rfl⟩ := q
  refine V_iload_n dX6_cell_20 3 rfl rfl ?_
  refine V_c_X6_185 rfl (by decide) (c_cellProperty hS hR hv (by omega) hq8) dX6_cell_21 hS.1 rfl rfl (Nat.le_of_ble_eq_true rfl) (Nat.le_of_eq (Nat.zero_add _)) (Nat.le_of_eq (Nat.zero_add _)) (fun v w sz q => ?_)
  obtain ⟨rfl, rfl, rfl⟩ := q
  exact V_iret hE rfl dX6_cell_24 ⟨⟨_, rfl⟩, TF.rf hN (Nat.le_refl _), fun t r P1 hR1 => by obtain ⟨h0, rfl, hd⟩ := ask2_0 hq2 hq8 hR1; exact ⟨h0, by rw [hd], hC⟩⟩
set_option maxRecDepth 100000 in
set_option maxHeartbeats 4000000 in
theorem c_picked {w : WD} {sz χ : Nat} {P : MP} (hC : CP w χ P) (hI : MInv P) (hN : WN w sz) (hs : χ + 48 ≤ sz) {p a : Int} (r : -2147483648 ≤ p ∧ p < 2147483648 ∧ -2147483648 ≤ a ∧ a < 2147483648) : CX iX6_picked 2 12 [.ref χ, xI p, xI a] w sz (OKQ w χ (fun t r P' => pkdR P p a t r P')) (EX2 w χ (fun t r P' => pkdR P p a t r P') "java/lang/IndexOutOfBoundsException" "java/lang/IllegalArgumentException") := by
  refine CX.ofZ (by decide) rfl (Nat.le_of_ble_eq_true rfl) (fun Z hZ hE => ?_)
  subst hZ
  have hC0 := hC
  obtain ⟨hA, ⟨T, hS, hR⟩, ⟨hh, hH, hH2, hH3⟩, ⟨TX, hX, hX2, hX3⟩, ⟨TFi, hF⟩, ⟨mk1, hm1⟩, ⟨mk2, hm2⟩⟩ := hC0
  have hv := hI.1
  have hsh : ∀ k, 0 ≤ k → k < 160 → 0 ≤ T.1 k ∧ T.1 k ≤ 99 := fun k k0 k1 => by rw [hR.1 k k0 k1]; exact hv.1 k k0 k1
  have hz160 := hv.2.1
  have hs6 := hI.2.1
  have hVT := hI.2.2.2
  have hln := hVT.1
  refine V_aload_n dX6_picked_0 0 rfl rfl ?_
  refine V_iload_n dX6_picked_1 1 rfl rfl ?_
  refine V_x_X6_118 rfl (kc' := 1) (ks' := 6) (by decide) (c_needPick hC hI.1.2.1 (by omega)) dX6_picked_2 hA rfl rfl (Nat.le_of_ble_eq_true rfl) (Nat.le_of_ble_eq_true rfl) (Nat.le_of_ble_eq_true rfl) (fun E w1 sz1 q => by obtain ⟨rfl, rfl, h9, hq⟩ := q; exact VX_out rfl (Or.inl (EXQ.th hC hN h9 (fun t r P1 hR1 => ask2_1 hq hR1)))) (fun v w sz q => ?_)
  obtain ⟨rfl, rfl, rfl, hq2⟩ := q
  refine V_iload_n dX6_picked_5 2 rfl rfl ?_
  refine V_iconst dX6_picked_6 ?_
  refine V_bipush dX6_picked_7 (by decide) ?_
  refine V_x_X6_60 rfl (kc' := 0) (ks' := 0) (by decide) (c_needRange (by omega)) dX6_picked_9 rfl rfl (Nat.le_of_ble_eq_true rfl) (Nat.le_of_ble_eq_true rfl) (Nat.le_of_ble_eq_true rfl) (fun E w1 sz1 q => by obtain ⟨rfl, rfl, h9, hq⟩ := q; exact VX_out rfl (Or.inr (EXQ.th hC hN h9 (fun t r P1 hR1 => ask2_2 hq2 hq hR1)))) (fun v w sz q => ?_)
  obtain ⟨rfl, rfl, rfl, hq9⟩ := q
  refine V_aload_n dX6_picked_12 0 rfl rfl ?_
  refine V_g_X6_24 rfl dX6_picked_13 hA rfl ?_
  refine V_g_X6_122 rfl dX6_picked_16 hS.1 rfl ?_
  refine V_iload_n dX6_picked_19 1 rfl rfl ?_
  obtain ⟨i9, hg9, hP9, d9, v9, hi9, fs9, hd9, hf69, f9, hv9, hf9⟩ := hR.at hv hq2.1 (show p < P.1 160 by omega)
  have h79 := hv.2.2 p hq2.1 (by omega)
  refine V_aald (t := 3) (fun _ => rfl) dX6_picked_20 hS.2.2.1 (by omega) hg9 ?_
  refine V_iload_n dX6_picked_21 2 rfl rfl ?_
  refine V_c_X6_188 rfl (by decide) (c_property (z := P.1) (p := p) hP9 (fun k k0 k1 => hv.lev p k hq2.1 (by omega) k0 k1) (fun k k0 k1 => rfl) (by exact h79.2.2.2.2.2.2.2.1) hq9) dX6_picked_22 hi9 rfl rfl (Nat.le_of_ble_eq_true rfl) (Nat.le_of_eq (Nat.zero_add _)) (Nat.le_of_eq (Nat.zero_add _)) (fun v w sz q => ?_)
  obtain ⟨rfl, rfl, rfl⟩ := q
  exact V_iret hE rfl dX6_picked_25 ⟨⟨_, rfl⟩, TF.rf hN (Nat.le_refl _), fun t r P1 hR1 => by obtain ⟨h0, rfl, hd⟩ := ask2_0 hq2 hq9 hR1; exact ⟨h0, by rw [hd], hC⟩⟩
set_option maxRecDepth 100000 in
set_option maxHeartbeats 4000000 in
theorem c_level {w : WD} {sz χ : Nat} {P : MP} (hC : CP w χ P) (hI : MInv P) (hN : WN w sz) (hs : χ + 48 ≤ sz) {p x y : Int} (r : -2147483648 ≤ p ∧ p < 2147483648 ∧ -2147483648 ≤ x ∧ x < 2147483648 ∧ -2147483648 ≤ y ∧ y < 2147483648) : CX iX6_level 2 12 [.ref χ, xI p, xI x, xI y] w sz (OKQ w χ (fun t r P' => lvlR P p x y t r P')) (EXQ w χ (fun t r P' => lvlR P p x y t r P') "java/lang/IndexOutOfBoundsException" 1) := by
  refine CX.ofZ (by decide) rfl (Nat.le_of_ble_eq_true rfl) (fun Z hZ hE => ?_)
  subst hZ
  have hC0 := hC
  obtain ⟨hA, ⟨T, hS, hR⟩, ⟨hh, hH, hH2, hH3⟩, ⟨TX, hX, hX2, hX3⟩, ⟨TFi, hF⟩, ⟨mk1, hm1⟩, ⟨mk2, hm2⟩⟩ := hC0
  have hv := hI.1
  have hsh : ∀ k, 0 ≤ k → k < 160 → 0 ≤ T.1 k ∧ T.1 k ≤ 99 := fun k k0 k1 => by rw [hR.1 k k0 k1]; exact hv.1 k k0 k1
  have hz160 := hv.2.1
  have hs6 := hI.2.1
  have hVT := hI.2.2.2
  have hln := hVT.1
  refine V_aload_n dX6_level_0 0 rfl rfl ?_
  refine V_iload_n dX6_level_1 1 rfl rfl ?_
  refine V_x_X6_118 rfl (kc' := 1) (ks' := 6) (by decide) (c_needPick hC hI.1.2.1 (by omega)) dX6_level_2 hA rfl rfl (Nat.le_of_ble_eq_true rfl) (Nat.le_of_ble_eq_true rfl) (Nat.le_of_ble_eq_true rfl) (fun E w1 sz1 q => by obtain ⟨rfl, rfl, h9, hq⟩ := q; exact VX_out rfl ((EXQ.th hC hN h9 (fun t r P1 hR1 => ask_1 (fun g => hq g.1) hR1)))) (fun v w sz q => ?_)
  obtain ⟨rfl, rfl, rfl, hq2⟩ := q
  refine V_iload_n dX6_level_5 2 rfl rfl ?_
  refine V_iload_n dX6_level_6 3 rfl rfl ?_
  refine V_x_X6_56 rfl (kc' := 0) (ks' := 0) (by decide) (c_needCell (by omega)) dX6_level_7 rfl rfl (Nat.le_of_ble_eq_true rfl) (Nat.le_of_ble_eq_true rfl) (Nat.le_of_ble_eq_true rfl) (fun E w1 sz1 q => by obtain ⟨rfl, rfl, h9, hq⟩ := q; exact VX_out rfl ((EXQ.th hC hN h9 (fun t r P1 hR1 => ask_1 (fun g => hq g.2) hR1)))) (fun v w sz q => ?_)
  obtain ⟨rfl, rfl, rfl, hq7⟩ := q
  refine V_aload_n dX6_level_10 0 rfl rfl ?_
  refine V_g_X6_24 rfl dX6_level_11 hA rfl ?_
  refine V_g_X6_122 rfl dX6_level_14 hS.1 rfl ?_
  refine V_iload_n dX6_level_17 1 rfl rfl ?_
  obtain ⟨i9, hg9, hP9, d9, v9, hi9, fs9, hd9, hf69, f9, hv9, hf9⟩ := hR.at hv hq2.1 (show p < P.1 160 by omega)
  have h79 := hv.2.2 p hq2.1 (by omega)
  refine V_aald (t := 3) (fun _ => rfl) dX6_level_18 hS.2.2.1 (by omega) hg9 ?_
  refine V_g_X6_126 rfl dX6_level_19 hi9 rfl ?_
  refine V_g_X6_192 rfl dX6_level_22 hd9 hf69 ?_
  refine V_iload_n dX6_level_25 2 rfl rfl ?_
  refine V_iload_n dX6_level_26 3 rfl rfl ?_
  refine V_c_X6_77 rfl (by decide) (c_cellAt) dX6_level_27 rfl rfl (Nat.le_of_ble_eq_true rfl) (Nat.le_of_eq (Nat.zero_add _)) (Nat.le_of_eq (Nat.zero_add _)) (fun v w sz q => ?_)
  obtain ⟨rfl, rfl, rfl⟩ := q
  refine V_iald dX6_level_30 hv9 (by omega) ?_
  rw [hf9 _ (by omega) (by omega)]
  exact V_iret hE rfl dX6_level_31 ⟨⟨_, rfl⟩, TF.rf hN (Nat.le_refl _), fun t r P1 hR1 => by obtain ⟨h0, rfl, hd⟩ := ask_0 ⟨hq2, hq7⟩ hR1; exact ⟨h0, by rw [hd], hC⟩⟩
set_option maxRecDepth 100000 in
set_option maxHeartbeats 4000000 in
theorem c_count {w : WD} {sz χ : Nat} {P : MP} (hC : CP w χ P) (hI : MInv P) (hN : WN w sz) (hs : χ + 48 ≤ sz) {a : Int} (r : -2147483648 ≤ a ∧ a < 2147483648) : CX iX6_count 1 6 [.ref χ, xI a] w sz (OKQ w χ (fun t r P' => cntR P a t r P')) (EXQ w χ (fun t r P' => cntR P a t r P') "java/lang/IllegalArgumentException" 1) := by
  refine CX.ofZ (by decide) rfl (Nat.le_of_ble_eq_true rfl) (fun Z hZ hE => ?_)
  subst hZ
  have hC0 := hC
  obtain ⟨hA, ⟨T, hS, hR⟩, ⟨hh, hH, hH2, hH3⟩, ⟨TX, hX, hX2, hX3⟩, ⟨TFi, hF⟩, ⟨mk1, hm1⟩, ⟨mk2, hm2⟩⟩ := hC0
  have hv := hI.1
  have hsh : ∀ k, 0 ≤ k → k < 160 → 0 ≤ T.1 k ∧ T.1 k ≤ 99 := fun k k0 k1 => by rw [hR.1 k k0 k1]; exact hv.1 k k0 k1
  have hz160 := hv.2.1
  have hs6 := hI.2.1
  have hVT := hI.2.2.2
  have hln := hVT.1
  refine V_iload_n dX6_count_0 1 rfl rfl ?_
  refine V_iconst dX6_count_1 ?_
  refine V_bipush dX6_count_2 (by decide) ?_
  refine V_x_X6_60 rfl (kc' := 0) (ks' := 0) (by decide) (c_needRange (by omega)) dX6_count_4 rfl rfl (Nat.le_of_ble_eq_true rfl) (Nat.le_of_ble_eq_true rfl) (Nat.le_of_ble_eq_true rfl) (fun E w1 sz1 q => by obtain ⟨rfl, rfl, h9, hq⟩ := q; exact VX_out rfl ((EXQ.th hC hN h9 (fun t r P1 hR1 => ask_1 hq hR1)))) (fun v w sz q => ?_)
  obtain ⟨rfl, rfl, rfl, hq4⟩ := q
  refine V_aload_n dX6_count_7 0 rfl rfl ?_
  refine V_iload_n dX6_count_8 1 rfl rfl ?_
  refine V_c_X6_195 rfl (by decide) (c_number hC hI hq4) dX6_count_9 hA rfl rfl (Nat.le_of_ble_eq_true rfl) (Nat.le_of_eq (Nat.zero_add _)) (Nat.le_of_eq (Nat.zero_add _)) (fun v w sz q => ?_)
  obtain ⟨rfl, rfl, hC, hfr⟩ := q
  exact V_iret hE rfl dX6_count_12 ⟨⟨_, rfl⟩, TF.in_ (a := χ + 35) (n := 1) hN hs (by omega) (fun j hj => hfr j (by omega)), fun t r P1 hR1 => by obtain ⟨h0, rfl, hd⟩ := ask_0 hq4 hR1; exact ⟨h0, by rw [hd], hC⟩⟩
set_option maxRecDepth 100000 in
set_option maxHeartbeats 4000000 in
theorem c_areaOf {w : WD} {sz χ : Nat} {P : MP} (hC : CP w χ P) (hI : MInv P) (hN : WN w sz) (hs : χ + 48 ≤ sz) {x y l a g : Int} (r : -2147483648 ≤ x ∧ x < 2147483648 ∧ -2147483648 ≤ y ∧ y < 2147483648 ∧ -2147483648 ≤ l ∧ l < 2147483648 ∧ -2147483648 ≤ a ∧ a < 2147483648 ∧ -2147483648 ≤ g ∧ g < 2147483648) : CX iX6_areaOf 4 24 [.ref χ, xI x, xI y, xI l, xI a, xI g] w sz (OKQ w χ (fun t r P' => aofR P x y l a g t r P')) (EX2 w χ (fun t r P' => aofR P x y l a g t r P') "java/lang/IndexOutOfBoundsException" "java/lang/IllegalArgumentException") := by
  refine CX.ofZ (by decide) rfl (Nat.le_of_ble_eq_true rfl) (fun Z hZ hE => ?_)
  subst hZ
  have hC0 := hC
  obtain ⟨hA, ⟨T, hS, hR⟩, ⟨hh, hH, hH2, hH3⟩, ⟨TX, hX, hX2, hX3⟩, ⟨TFi, hF⟩, ⟨mk1, hm1⟩, ⟨mk2, hm2⟩⟩ := hC0
  have hv := hI.1
  have hsh : ∀ k, 0 ≤ k → k < 160 → 0 ≤ T.1 k ∧ T.1 k ≤ 99 := fun k k0 k1 => by rw [hR.1 k k0 k1]; exact hv.1 k k0 k1
  have hz160 := hv.2.1
  have hs6 := hI.2.1
  have hVT := hI.2.2.2
  have hln := hVT.1
  refine V_iload_n dX6_areaOf_0 1 rfl rfl ?_
  refine V_iload_n dX6_areaOf_1 2 rfl rfl ?_
  refine V_x_X6_56 rfl (kc' := 3) (ks' := 18) (by decide) (c_needCell (by omega)) dX6_areaOf_2 rfl rfl (Nat.le_of_ble_eq_true rfl) (Nat.le_of_ble_eq_true rfl) (Nat.le_of_ble_eq_true rfl) (fun E w1 sz1 q => by obtain ⟨rfl, rfl, h9, hq⟩ := q; exact VX_out rfl (Or.inl (EXQ.th hC hN h9 (fun t r P1 hR1 => ask2_1 hq hR1)))) (fun v w sz q => ?_)
  obtain ⟨rfl, rfl, rfl, hq2⟩ := q
  refine V_iload_n dX6_areaOf_5 3 rfl rfl ?_
  refine V_iload dX6_areaOf_6 rfl ?_
  refine V_iload dX6_areaOf_8 rfl ?_
  refine V_x_X6_90 rfl (kc' := 0) (ks' := 0) (by decide) (c_needSearch (by omega)) dX6_areaOf_10 rfl rfl (Nat.le_of_ble_eq_true rfl) (Nat.le_of_ble_eq_true rfl) (Nat.le_of_ble_eq_true rfl) (fun E w1 sz1 q => by obtain ⟨rfl, rfl, h9, hq⟩ := q; exact VX_out rfl (Or.inr (EXQ.th hC hN h9 (fun t r P1 hR1 => ask2_2 hq2 hq hR1)))) (fun v w sz q => ?_)
  obtain ⟨rfl, rfl, rfl, hq9⟩ := q
  refine V_aload_n dX6_areaOf_13 0 rfl rfl ?_
  refine V_g_X6_45 rfl dX6_areaOf_14 hA rfl ?_
  refine V_aload_n dX6_areaOf_17 0 rfl rfl ?_
  refine V_g_X6_24 rfl dX6_areaOf_18 hA rfl ?_
  refine V_g_X6_87 rfl dX6_areaOf_21 hS.1 rfl ?_
  refine V_iload_n dX6_areaOf_24 1 rfl rfl ?_
  refine V_iload_n dX6_areaOf_25 2 rfl rfl ?_
  refine V_c_X6_77 rfl (by decide) (c_cellAt) dX6_areaOf_26 rfl rfl (Nat.le_of_ble_eq_true rfl) (Nat.le_of_eq (Nat.zero_add _)) (Nat.le_of_eq (Nat.zero_add _)) (fun v w sz q => ?_)
  obtain ⟨rfl, rfl, rfl⟩ := q
  refine V_iload_n dX6_areaOf_29 3 rfl rfl ?_
  refine V_iload dX6_areaOf_30 rfl ?_
  refine V_iload dX6_areaOf_32 rfl ?_
  refine V_c_X6_104 rfl (by decide) (c_search (z := T.1) hF hS.2.1 (by omega) hsh (by omega) (by omega) (by omega) (by omega)) dX6_areaOf_34 hF.1 rfl rfl (Nat.le_of_ble_eq_true rfl) (Nat.le_of_eq (Nat.zero_add _)) (Nat.le_of_eq (Nat.zero_add _)) (fun v w sz q => ?_)
  obtain ⟨rfl, T1, hF1, hwi, hA1, rfl⟩ := q
  have har := arN_z (f := 16 * y + x) (l := l) (a := a) (g := g) hR.1 (by omega) ⟨_, _, hwi, hA1, rfl⟩
  exact V_iret hE rfl dX6_areaOf_37 ⟨⟨_, rfl⟩, TF.in_ (a := χ + 29) (n := 6) hN hs (by omega) (fun j hj => FW.fr hF1 j (by omega)), fun t r P1 hR1 => by obtain ⟨h0, rfl, hd⟩ := ask2_0 hq2 hq9 hR1; exact ⟨h0, by rw [arN_u hd har], CS.find hC ⟨T1, FW.rb hF1⟩ (fun j hj _ => FW.fr hF1 j (by omega))⟩⟩
set_option maxRecDepth 100000 in
set_option maxHeartbeats 4000000 in
theorem c_leastLikeness {w : WD} {sz χ : Nat} {P : MP} (hC : CP w χ P) (hI : MInv P) (hN : WN w sz) (hs : χ + 48 ≤ sz) {x y u v a g : Int} (r : -2147483648 ≤ x ∧ x < 2147483648 ∧ -2147483648 ≤ y ∧ y < 2147483648 ∧ -2147483648 ≤ u ∧ u < 2147483648 ∧ -2147483648 ≤ v ∧ v < 2147483648 ∧ -2147483648 ≤ a ∧ a < 2147483648 ∧ -2147483648 ≤ g ∧ g < 2147483648) : CX iX6_leastLikeness 5 30 [.ref χ, xI x, xI y, xI u, xI v, xI a, xI g] w sz (OKQ w χ (fun t r P' => likR P x y u v a g t r P')) (EX2 w χ (fun t r P' => likR P x y u v a g t r P') "java/lang/IndexOutOfBoundsException" "java/lang/IllegalArgumentException") := by
  refine CX.ofZ (by decide) rfl (Nat.le_of_ble_eq_true rfl) (fun Z hZ hE => ?_)
  subst hZ
  have hC0 := hC
  obtain ⟨hA, ⟨T, hS, hR⟩, ⟨hh, hH, hH2, hH3⟩, ⟨TX, hX, hX2, hX3⟩, ⟨TFi, hF⟩, ⟨mk1, hm1⟩, ⟨mk2, hm2⟩⟩ := hC0
  have hv := hI.1
  have hsh : ∀ k, 0 ≤ k → k < 160 → 0 ≤ T.1 k ∧ T.1 k ≤ 99 := fun k k0 k1 => by rw [hR.1 k k0 k1]; exact hv.1 k k0 k1
  have hz160 := hv.2.1
  have hs6 := hI.2.1
  have hVT := hI.2.2.2
  have hln := hVT.1
  refine V_iload_n dX6_leastLikeness_0 1 rfl rfl ?_
  refine V_iload_n dX6_leastLikeness_1 2 rfl rfl ?_
  refine V_x_X6_56 rfl (kc' := 4) (ks' := 24) (by decide) (c_needCell (by omega)) dX6_leastLikeness_2 rfl rfl (Nat.le_of_ble_eq_true rfl) (Nat.le_of_ble_eq_true rfl) (Nat.le_of_ble_eq_true rfl) (fun E w1 sz1 q => by obtain ⟨rfl, rfl, h9, hq⟩ := q; exact VX_out rfl (Or.inl (EXQ.th hC hN h9 (fun t r P1 hR1 => ask2_1 (fun g => hq g.1) hR1)))) (fun v w sz q => ?_)
  obtain ⟨rfl, rfl, rfl, hq2⟩ := q
  refine V_iload_n dX6_leastLikeness_5 3 rfl rfl ?_
  refine V_iload dX6_leastLikeness_6 rfl ?_
  refine V_x_X6_56 rfl (kc' := 3) (ks' := 18) (by decide) (c_needCell (by omega)) dX6_leastLikeness_8 rfl rfl (Nat.le_of_ble_eq_true rfl) (Nat.le_of_ble_eq_true rfl) (Nat.le_of_ble_eq_true rfl) (fun E w1 sz1 q => by obtain ⟨rfl, rfl, h9, hq⟩ := q; exact VX_out rfl (Or.inl (EXQ.th hC hN h9 (fun t r P1 hR1 => ask2_1 (fun g => hq g.2) hR1)))) (fun v w sz q => ?_)
  obtain ⟨rfl, rfl, rfl, hq3⟩ := q
  refine V_iconst dX6_leastLikeness_11 ?_
  refine V_iload dX6_leastLikeness_12 rfl ?_
  refine V_iload dX6_leastLikeness_14 rfl ?_
  refine V_x_X6_90 rfl (kc' := 0) (ks' := 0) (by decide) (c_needSearch (by omega)) dX6_leastLikeness_16 rfl rfl (Nat.le_of_ble_eq_true rfl) (Nat.le_of_ble_eq_true rfl) (Nat.le_of_ble_eq_true rfl) (fun E w1 sz1 q => by obtain ⟨rfl, rfl, h9, hq⟩ := q; exact VX_out rfl (Or.inr (EXQ.th hC hN h9 (fun t r P1 hR1 => ask2_2 ⟨hq2, hq3⟩ hq hR1)))) (fun v w sz q => ?_)
  obtain ⟨rfl, rfl, rfl, hq9⟩ := q
  refine V_aload_n dX6_leastLikeness_19 0 rfl rfl ?_
  refine V_g_X6_45 rfl dX6_leastLikeness_20 hA rfl ?_
  refine V_aload_n dX6_leastLikeness_23 0 rfl rfl ?_
  refine V_g_X6_24 rfl dX6_leastLikeness_24 hA rfl ?_
  refine V_g_X6_87 rfl dX6_leastLikeness_27 hS.1 rfl ?_
  refine V_iload_n dX6_leastLikeness_30 1 rfl rfl ?_
  refine V_iload_n dX6_leastLikeness_31 2 rfl rfl ?_
  refine V_c_X6_77 rfl (by decide) (c_cellAt) dX6_leastLikeness_32 rfl rfl (Nat.le_of_ble_eq_true rfl) (Nat.le_of_eq (Nat.zero_add _)) (Nat.le_of_eq (Nat.zero_add _)) (fun v w sz q => ?_)
  obtain ⟨rfl, rfl, rfl⟩ := q
  refine V_iload_n dX6_leastLikeness_35 3 rfl rfl ?_
  refine V_iload dX6_leastLikeness_36 rfl ?_
  refine V_c_X6_77 rfl (by decide) (c_cellAt) dX6_leastLikeness_38 rfl rfl (Nat.le_of_ble_eq_true rfl) (Nat.le_of_eq (Nat.zero_add _)) (Nat.le_of_eq (Nat.zero_add _)) (fun v w sz q => ?_)
  obtain ⟨rfl, rfl, rfl⟩ := q
  refine V_iload dX6_leastLikeness_41 rfl ?_
  refine V_iload dX6_leastLikeness_43 rfl ?_
  refine V_c_X6_198 rfl (by decide) (c_leastReaching (z := T.1) hF hS.2.1 (by omega) hsh (by omega) (by omega) (by omega) (by omega)) dX6_leastLikeness_45 hF.1 rfl rfl (Nat.le_of_ble_eq_true rfl) (Nat.le_of_eq (Nat.zero_add _)) (Nat.le_of_eq (Nat.zero_add _)) (fun v w sz q => ?_)
  obtain ⟨rfl, r9, rfl, hl9, T1, hF1⟩ := q
  replace hl9 := likA_z hR.1 (by omega) hl9
  exact V_iret hE rfl dX6_leastLikeness_48 ⟨⟨_, rfl⟩, TF.in_ (a := χ + 29) (n := 6) hN hs (by omega) (fun j hj => FW.fr hF1 j (by omega)), fun t r P1 hR1 => by obtain ⟨h0, rfl, hd⟩ := ask2_0 ⟨hq2, hq3⟩ hq9 hR1; exact ⟨h0, by rw [likA_u hd hl9], CS.find hC ⟨T1, FW.rb hF1⟩ (fun j hj _ => FW.fr hF1 j (by omega))⟩⟩
set_option maxRecDepth 100000 in
set_option maxHeartbeats 4000000 in
theorem c_partingGap {w : WD} {sz χ : Nat} {P : MP} (hC : CP w χ P) (hI : MInv P) (hN : WN w sz) (hs : χ + 48 ≤ sz) {x y u v l : Int} (r : -2147483648 ≤ x ∧ x < 2147483648 ∧ -2147483648 ≤ y ∧ y < 2147483648 ∧ -2147483648 ≤ u ∧ u < 2147483648 ∧ -2147483648 ≤ v ∧ v < 2147483648 ∧ -2147483648 ≤ l ∧ l < 2147483648) : CX iX6_partingGap 5 30 [.ref χ, xI x, xI y, xI u, xI v, xI l] w sz (OKQ w χ (fun t r P' => gapR P x y u v l t r P')) (EX2 w χ (fun t r P' => gapR P x y u v l t r P') "java/lang/IndexOutOfBoundsException" "java/lang/IllegalArgumentException") := by
  refine CX.ofZ (by decide) rfl (Nat.le_of_ble_eq_true rfl) (fun Z hZ hE => ?_)
  subst hZ
  have hC0 := hC
  obtain ⟨hA, ⟨T, hS, hR⟩, ⟨hh, hH, hH2, hH3⟩, ⟨TX, hX, hX2, hX3⟩, ⟨TFi, hF⟩, ⟨mk1, hm1⟩, ⟨mk2, hm2⟩⟩ := hC0
  have hv := hI.1
  have hsh : ∀ k, 0 ≤ k → k < 160 → 0 ≤ T.1 k ∧ T.1 k ≤ 99 := fun k k0 k1 => by rw [hR.1 k k0 k1]; exact hv.1 k k0 k1
  have hz160 := hv.2.1
  have hs6 := hI.2.1
  have hVT := hI.2.2.2
  have hln := hVT.1
  refine V_iload_n dX6_partingGap_0 1 rfl rfl ?_
  refine V_iload_n dX6_partingGap_1 2 rfl rfl ?_
  refine V_x_X6_56 rfl (kc' := 4) (ks' := 24) (by decide) (c_needCell (by omega)) dX6_partingGap_2 rfl rfl (Nat.le_of_ble_eq_true rfl) (Nat.le_of_ble_eq_true rfl) (Nat.le_of_ble_eq_true rfl) (fun E w1 sz1 q => by obtain ⟨rfl, rfl, h9, hq⟩ := q; exact VX_out rfl (Or.inl (EXQ.th hC hN h9 (fun t r P1 hR1 => ask2_1 (fun g => hq g.1) hR1)))) (fun v w sz q => ?_)
  obtain ⟨rfl, rfl, rfl, hq2⟩ := q
  refine V_iload_n dX6_partingGap_5 3 rfl rfl ?_
  refine V_iload dX6_partingGap_6 rfl ?_
  refine V_x_X6_56 rfl (kc' := 3) (ks' := 18) (by decide) (c_needCell (by omega)) dX6_partingGap_8 rfl rfl (Nat.le_of_ble_eq_true rfl) (Nat.le_of_ble_eq_true rfl) (Nat.le_of_ble_eq_true rfl) (fun E w1 sz1 q => by obtain ⟨rfl, rfl, h9, hq⟩ := q; exact VX_out rfl (Or.inl (EXQ.th hC hN h9 (fun t r P1 hR1 => ask2_1 (fun g => hq g.2) hR1)))) (fun v w sz q => ?_)
  obtain ⟨rfl, rfl, rfl, hq3⟩ := q
  refine V_iload dX6_partingGap_11 rfl ?_
  refine V_iconst dX6_partingGap_13 ?_
  refine V_iconst dX6_partingGap_14 ?_
  refine V_x_X6_90 rfl (kc' := 0) (ks' := 0) (by decide) (c_needSearch (by omega)) dX6_partingGap_15 rfl rfl (Nat.le_of_ble_eq_true rfl) (Nat.le_of_ble_eq_true rfl) (Nat.le_of_ble_eq_true rfl) (fun E w1 sz1 q => by obtain ⟨rfl, rfl, h9, hq⟩ := q; exact VX_out rfl (Or.inr (EXQ.th hC hN h9 (fun t r P1 hR1 => ask2_2 ⟨hq2, hq3⟩ (fun g => hq ⟨g, by omega, by omega⟩) hR1)))) (fun v w sz q => ?_)
  obtain ⟨rfl, rfl, rfl, hq9⟩ := q
  refine V_aload_n dX6_partingGap_18 0 rfl rfl ?_
  refine V_g_X6_45 rfl dX6_partingGap_19 hA rfl ?_
  refine V_aload_n dX6_partingGap_22 0 rfl rfl ?_
  refine V_g_X6_24 rfl dX6_partingGap_23 hA rfl ?_
  refine V_g_X6_87 rfl dX6_partingGap_26 hS.1 rfl ?_
  refine V_iload_n dX6_partingGap_29 1 rfl rfl ?_
  refine V_iload_n dX6_partingGap_30 2 rfl rfl ?_
  refine V_c_X6_77 rfl (by decide) (c_cellAt) dX6_partingGap_31 rfl rfl (Nat.le_of_ble_eq_true rfl) (Nat.le_of_eq (Nat.zero_add _)) (Nat.le_of_eq (Nat.zero_add _)) (fun v w sz q => ?_)
  obtain ⟨rfl, rfl, rfl⟩ := q
  refine V_iload_n dX6_partingGap_34 3 rfl rfl ?_
  refine V_iload dX6_partingGap_35 rfl ?_
  refine V_c_X6_77 rfl (by decide) (c_cellAt) dX6_partingGap_37 rfl rfl (Nat.le_of_ble_eq_true rfl) (Nat.le_of_eq (Nat.zero_add _)) (Nat.le_of_eq (Nat.zero_add _)) (fun v w sz q => ?_)
  obtain ⟨rfl, rfl, rfl⟩ := q
  refine V_iload dX6_partingGap_40 rfl ?_
  refine V_c_X6_201 rfl (by decide) (c_leastParting (z := T.1) hF hS.2.1 (by omega) hsh (by omega) (by omega) (by omega)) dX6_partingGap_42 hF.1 rfl rfl (Nat.le_of_ble_eq_true rfl) (Nat.le_of_eq (Nat.zero_add _)) (Nat.le_of_eq (Nat.zero_add _)) (fun v w sz q => ?_)
  obtain ⟨rfl, r9, rfl, hl9, T1, hF1⟩ := q
  replace hl9 := gapA_z hR.1 (by omega) hl9
  exact V_iret hE rfl dX6_partingGap_45 ⟨⟨_, rfl⟩, TF.in_ (a := χ + 29) (n := 6) hN hs (by omega) (fun j hj => FW.fr hF1 j (by omega)), fun t r P1 hR1 => by obtain ⟨h0, rfl, hd⟩ := ask2_0 ⟨hq2, hq3⟩ hq9.1 hR1; exact ⟨h0, by rw [gapA_u hd hl9], CS.find hC ⟨T1, FW.rb hF1⟩ (fun j hj _ => FW.fr hF1 j (by omega))⟩⟩
set_option maxRecDepth 100000 in
set_option maxHeartbeats 4000000 in
theorem c_areas {w : WD} {sz χ : Nat} {P : MP} (hC : CP w χ P) (hI : MInv P) (hN : WN w sz) (hs : χ + 48 ≤ sz) {l : Int} (r : -2147483648 ≤ l ∧ l < 2147483648) : CX iX6_areas 3 18 [.ref χ, xI l] w sz (OKQ w χ (fun t r P' => arsR P l t r P')) (EXQ w χ (fun t r P' => arsR P l t r P') "java/lang/IllegalArgumentException" 1) := by
  refine CX.ofZ (by decide) rfl (Nat.le_of_ble_eq_true rfl) (fun Z hZ hE => ?_)
  subst hZ
  have hC0 := hC
  obtain ⟨hA, ⟨T, hS, hR⟩, ⟨hh, hH, hH2, hH3⟩, ⟨TX, hX, hX2, hX3⟩, ⟨TFi, hF⟩, ⟨mk1, hm1⟩, ⟨mk2, hm2⟩⟩ := hC0
  have hv := hI.1
  have hsh : ∀ k, 0 ≤ k → k < 160 → 0 ≤ T.1 k ∧ T.1 k ≤ 99 := fun k k0 k1 => by rw [hR.1 k k0 k1]; exact hv.1 k k0 k1
  have hz160 := hv.2.1
  have hs6 := hI.2.1
  have hVT := hI.2.2.2
  have hln := hVT.1
  refine V_iload_n dX6_areas_0 1 rfl rfl ?_
  refine V_iconst dX6_areas_1 ?_
  refine V_iconst dX6_areas_2 ?_
  refine V_x_X6_90 rfl (kc' := 0) (ks' := 0) (by decide) (c_needSearch (by omega)) dX6_areas_3 rfl rfl (Nat.le_of_ble_eq_true rfl) (Nat.le_of_ble_eq_true rfl) (Nat.le_of_ble_eq_true rfl) (fun E w1 sz1 q => by obtain ⟨rfl, rfl, h9, hq⟩ := q; exact VX_out rfl ((EXQ.th hC hN h9 (fun t r P1 hR1 => ask_1 (fun g => hq ⟨g, by omega, by omega⟩) hR1)))) (fun v w sz q => ?_)
  obtain ⟨rfl, rfl, rfl, hq9⟩ := q
  refine V_aload_n dX6_areas_6 0 rfl rfl ?_
  refine V_g_X6_45 rfl dX6_areas_7 hA rfl ?_
  refine V_aload_n dX6_areas_10 0 rfl rfl ?_
  refine V_g_X6_24 rfl dX6_areas_11 hA rfl ?_
  refine V_g_X6_87 rfl dX6_areas_14 hS.1 rfl ?_
  refine V_iload_n dX6_areas_17 1 rfl rfl ?_
  refine V_c_X6_205 rfl (by decide) (c_parts (z := T.1) hF hS.2.1 (by omega) hsh (by omega)) dX6_areas_18 hF.1 rfl rfl (Nat.le_of_ble_eq_true rfl) (Nat.le_of_eq (Nat.zero_add _)) (Nat.le_of_eq (Nat.zero_add _)) (fun v w sz q => ?_)
  obtain ⟨rfl, rfl, T1, hF1⟩ := q
  rw [iArs_z hR.1]
  exact V_iret hE rfl dX6_areas_21 ⟨⟨_, rfl⟩, TF.in_ (a := χ + 29) (n := 6) hN hs (by omega) (fun j hj => FW.fr hF1 j (by omega)), fun t r P1 hR1 => by obtain ⟨h0, rfl, hd⟩ := ask_0 hq9.1 hR1; exact ⟨h0, by rw [hd], CS.find hC ⟨T1, FW.rb hF1⟩ (fun j hj _ => FW.fr hF1 j (by omega))⟩⟩
