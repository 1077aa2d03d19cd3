/-! the class: the whole picture -/
theorem SW.mn {w0 w w1 : WD} {σ : Nat} {T : ST} (hM : SW w0 w σ T) (h : ∀ j, σ ≤ j → j < σ + 3 → w j ≠ none → w1 j = w j) : SW w1 w1 σ T := ⟨(h _ (by omega) (by omega) (by rw [hM.1]; exact fun q => by cases q)).trans hM.1, (h _ (by omega) (by omega) (by rw [hM.2.1]; exact fun q => by cases q)).trans hM.2.1, (h _ (by omega) (by omega) (by rw [hM.2.2.1]; exact fun q => by cases q)).trans hM.2.2.1, fun _ _ => rfl⟩
theorem XW.mn {w0 w w1 : WD} {τ : Nat} {T : XT} (hM : XW w0 w τ T) (h : ∀ j, τ ≤ j → j < τ + 2 → w j ≠ none → w1 j = w j) : XW w1 w1 τ T := ⟨(h _ (by omega) (by omega) (by rw [hM.1]; exact fun q => by cases q)).trans hM.1, (h _ (by omega) (by omega) (by rw [hM.2.1]; exact fun q => by cases q)).trans hM.2.1, fun _ _ => rfl⟩
theorem FW.mn {w0 w w1 : WD} {φ : Nat} {T : FT} (hM : FW w0 w φ T) (h : ∀ j, φ ≤ j → j < φ + 6 → w j ≠ none → w1 j = w j) : FW w1 w1 φ T := ⟨(h _ (by omega) (by omega) (by rw [hM.1]; exact fun q => by cases q)).trans hM.1, (h _ (by omega) (by omega) (by rw [hM.2.1]; exact fun q => by cases q)).trans hM.2.1, (h _ (by omega) (by omega) (by rw [hM.2.2.1]; exact fun q => by cases q)).trans hM.2.2.1, (h _ (by omega) (by omega) (by rw [hM.2.2.2.1]; exact fun q => by cases q)).trans hM.2.2.2.1, (h _ (by omega) (by omega) (by rw [hM.2.2.2.2.1]; exact fun q => by cases q)).trans hM.2.2.2.2.1, (h _ (by omega) (by omega) (by rw [hM.2.2.2.2.2.1]; exact fun q => by cases q)).trans hM.2.2.2.2.2.1, fun _ _ => rfl⟩
theorem HW.mn {w0 w w1 : WD} {η : Nat} {T : HT} (hM : HW w0 w η T) (h : ∀ j, η ≤ j → j < η + 2 → w j ≠ none → w1 j = w j) : HW w1 w1 η T := ⟨(h _ (by omega) (by omega) (by rw [hM.1]; exact fun q => by cases q)).trans hM.1, (h _ (by omega) (by omega) (by rw [hM.2.1]; exact fun q => by cases q)).trans hM.2.1, fun _ _ => rfl⟩
/-- nothing lies there yet -/
def WN (w : WD) (sz : Nat) : Prop := ∀ j, sz ≤ j → w j = none
theorem WN.le {w : WD} {sz sz' : Nat} (h : WN w sz) (e : sz ≤ sz') : WN w sz' := fun j hj => h j (by omega)
theorem WN.lt {w : WD} {sz j : Nat} (h : WN w sz) (e : w j ≠ none) : j < sz := by
  by_cases q : j < sz
  · exact q
  · exact absurd (h j (by omega)) e
theorem WN.fr {w w' : WD} {sz a n : Nat} (h : WN w sz) (hn : a + n ≤ sz) (e : ∀ j, (j < a ∨ a + n ≤ j) → w' j = w j) : WN w' sz := fun j hj => (e j (by omega)).trans (h j hj)
/-- the class's object stands for these numbers -/
def CS (w : WD) (χ : Nat) (z : Int → Int) (n : Int) (Z : Int → Int → Int) (ln : Int) (tx : Int → Int) : Prop := w χ = some (xOb 6 [.ref (χ + 4), .ref (χ + 7), .ref (χ + 27), .ref (χ + 29), .ref (χ + 35), .ref (χ + 36)]) ∧ (∃ T : ST, SW w w (χ + 4) T ∧ SR w χ T z) ∧ HQ w χ n Z ∧ (∃ T : XT, XW w w (χ + 27) T ∧ T.2 = ln ∧ ∀ j, 0 ≤ j → j < ln → T.1 j = tx j) ∧ (∃ T : FT, FW w w (χ + 29) T) ∧ (∃ m, w (χ + 35) = some (xIA 160 m)) ∧ ∃ m, w (χ + 36) = some (xIA 160 m)
theorem nn {α : Type} {x : Option α} {y : α} (h : x = some y) : x ≠ none := by rw [h]; exact fun q => by cases q
theorem CS.mv {w w' : WD} {χ : Nat} {z : Int → Int} {n : Int} {Z : Int → Int → Int} {ln : Int} {tx : Int → Int} (h : CS w χ z n Z ln tx) (e : ∀ j, (χ ≤ j ∧ j < χ + 37) ∨ imm χ j → w j ≠ none → w' j = w j) : CS w' χ z n Z ln tx := by
  obtain ⟨h1, ⟨T, h2, h3⟩, h4, ⟨X, h5, h6⟩, ⟨F, h7⟩, ⟨m, h8⟩, ⟨m2, h9⟩⟩ := h
  exact ⟨(e _ (by omega) (nn h1)).trans h1, ⟨T, h2.mn (fun j j0 j1 => e j (by omega)), h3.mv (fun j hj => e j (Or.inr hj))⟩, h4.mv (fun j hj => e j (by omega)), ⟨X, h5.mn (fun j j0 j1 => e j (by omega)), h6⟩, ⟨F, h7.mn (fun j j0 j1 => e j (by omega))⟩, ⟨m, (e _ (by omega) (nn h8)).trans h8⟩, ⟨m2, (e _ (by omega) (nn h9)).trans h9⟩⟩
theorem CS.c {w : WD} {χ : Nat} {z z' : Int → Int} {n : Int} {Z Z' : Int → Int → Int} {ln : Int} {tx tx' : Int → Int} (h : CS w χ z n Z ln tx) (e1 : ∀ k, 0 ≤ k → k < 2189 → z' k = z k) (e2 : ∀ i, 0 ≤ i → i < n → ∀ k, 0 ≤ k → k < 2189 → Z' i k = Z i k) (e3 : ∀ j, 0 ≤ j → j < ln → tx' j = tx j) : CS w χ z' n Z' ln tx' := by
  obtain ⟨h1, ⟨T, h2, h3⟩, h4, ⟨X, h5, h6, h6b⟩, h7⟩ := h
  exact ⟨h1, ⟨T, h2, h3.c e1⟩, h4.c e2, ⟨X, h5, h6, fun j j0 j1 => (h6b j j0 j1).trans (e3 j j0 j1).symm⟩, h7⟩
theorem CS.now {w w' : WD} {χ : Nat} {z z' : Int → Int} {n : Int} {Z : Int → Int → Int} {ln : Int} {tx : Int → Int} (h : CS w χ z n Z ln tx) (hT : ∃ T : ST, SW w' w' (χ + 4) T ∧ SR w' χ T z') (e : ∀ j, (j < χ + 4 ∨ χ + 7 ≤ j) → w j ≠ none → w' j = w j) : CS w' χ z' n Z ln tx := by
  obtain ⟨h1, -, h4, ⟨X, h5, h6⟩, ⟨F, h7⟩, ⟨m, h8⟩, ⟨m2, h9⟩⟩ := h
  exact ⟨(e _ (by omega) (nn h1)).trans h1, hT, h4.mv (fun j hj => e j (by omega)), ⟨X, h5.mn (fun j j0 j1 => e j (by omega)), h6⟩, ⟨F, h7.mn (fun j j0 j1 => e j (by omega))⟩, ⟨m, (e _ (by omega) (nn h8)).trans h8⟩, ⟨m2, (e _ (by omega) (nn h9)).trans h9⟩⟩
theorem CS.hist {w w' : WD} {χ : Nat} {z : Int → Int} {n n' : Int} {Z Z' : Int → Int → Int} {ln : Int} {tx : Int → Int} (h : CS w χ z n Z ln tx) (hT : HQ w' χ n' Z') (e : ∀ j, (j < χ + 7 ∨ χ + 27 ≤ j) → w j ≠ none → w' j = w j) : CS w' χ z n' Z' ln tx := by
  obtain ⟨h1, ⟨T, h2, h3⟩, -, ⟨X, h5, h6⟩, ⟨F, h7⟩, ⟨m, h8⟩, ⟨m2, h9⟩⟩ := h
  exact ⟨(e _ (by omega) (nn h1)).trans h1, ⟨T, h2.mn (fun j j0 j1 => e j (by omega)), h3.mv (fun j hj => e j (by omega))⟩, hT, ⟨X, h5.mn (fun j j0 j1 => e j (by omega)), h6⟩, ⟨F, h7.mn (fun j j0 j1 => e j (by omega))⟩, ⟨m, (e _ (by omega) (nn h8)).trans h8⟩, ⟨m2, (e _ (by omega) (nn h9)).trans h9⟩⟩
theorem CS.find {w w' : WD} {χ : Nat} {z : Int → Int} {n : Int} {Z : Int → Int → Int} {ln : Int} {tx : Int → Int} (h : CS w χ z n Z ln tx) (hT : ∃ T : FT, FW w' w' (χ + 29) T) (e : ∀ j, (j < χ + 29 ∨ χ + 35 ≤ j) → w j ≠ none → w' j = w j) : CS w' χ z n Z ln tx := by
  obtain ⟨h1, ⟨T, h2, h3⟩, h4, ⟨X, h5, h6⟩, -, ⟨m, h8⟩, ⟨m2, h9⟩⟩ := h
  exact ⟨(e _ (by omega) (nn h1)).trans h1, ⟨T, h2.mn (fun j j0 j1 => e j (by omega)), h3.mv (fun j hj => e j (by omega))⟩, h4.mv (fun j hj => e j (by omega)), ⟨X, h5.mn (fun j j0 j1 => e j (by omega)), h6⟩, hT, ⟨m, (e _ (by omega) (nn h8)).trans h8⟩, ⟨m2, (e _ (by omega) (nn h9)).trans h9⟩⟩
theorem CS.mask {w w' : WD} {χ a : Nat} {z : Int → Int} {n : Int} {Z : Int → Int → Int} {ln : Int} {tx : Int → Int} {g : Int → Int} (h : CS w χ z n Z ln tx) (ha : a = χ + 35 ∨ a = χ + 36) (hu : UA w w' a (xIA 160 g)) : CS w' χ z n Z ln tx := by
  obtain ⟨h1, ⟨T, h2, h3⟩, h4, ⟨X, h5, h6⟩, ⟨F, h7⟩, ⟨m, h8⟩, ⟨m2, h9⟩⟩ := h
  refine ⟨(hu.2 _ (by omega)).trans h1, ⟨T, h2.mn (fun j j0 j1 _ => hu.2 j (by omega)), h3.mv (fun j hj _ => hu.2 j (by omega))⟩, h4.mv (fun j hj _ => hu.2 j (by omega)), ⟨X, h5.mn (fun j j0 j1 _ => hu.2 j (by omega)), h6⟩, ⟨F, h7.mn (fun j j0 j1 _ => hu.2 j (by omega))⟩, ?_, ?_⟩
  · by_cases q : a = χ + 35
    · exact ⟨g, by rw [← q]; exact hu.1⟩
    · exact ⟨m, (hu.2 _ (by omega)).trans h8⟩
  · by_cases q : a = χ + 36
    · exact ⟨g, by rw [← q]; exact hu.1⟩
    · exact ⟨m2, (hu.2 _ (by omega)).trans h9⟩
/-- it stands for the reference's numbers -/
def CP (w : WD) (χ : Nat) (P : MP) : Prop := CS w χ P.1 P.2.1 (fun i k => P.2.2.1 (2189 * i + k)) P.2.2.2.1 P.2.2.2.2
/-- what a call leaves alone -/
def TF (w w' : WD) (sz' χ : Nat) : Prop := WN w' sz' ∧ ∀ j, (j < χ ∨ χ + 37 ≤ j) → w j ≠ none → w' j = w j
theorem TF.rf {w : WD} {sz sz' χ : Nat} (h : WN w sz) (e : sz ≤ sz') : TF w w sz' χ := ⟨h.le e, fun _ _ _ => rfl⟩
theorem TF.tr {w w' w'' : WD} {sz' sz'' χ : Nat} (h : TF w w' sz' χ) (g : TF w' w'' sz'' χ) : TF w w'' sz'' χ := ⟨g.1, fun j hj hn => (g.2 j hj (by rw [h.2 j hj hn]; exact hn)).trans (h.2 j hj hn)⟩
theorem TF.in_ {w w' : WD} {sz χ a n : Nat} (h : WN w sz) (hs : χ + 44 ≤ sz) (ha : χ ≤ a ∧ a + n ≤ χ + 37) (e : ∀ j, (j < a ∨ a + n ≤ j) → w' j = w j) : TF w w' sz χ := ⟨h.fr (a := a) (n := n) (by omega) e, fun j hj _ => e j (by omega)⟩
theorem th_iob : xTh RX6 278 282 "java/lang/IndexOutOfBoundsException" ["java/lang/RuntimeException", "java/lang/Exception"] := ⟨by decide +kernel, by decide +kernel, xG_at 397 (by decide +kernel) rfl, xG_at 30 (by decide +kernel) rfl, fun x h => (List.all_eq_true.mp (show (vx_atS RX6 282 "java/lang/IndexOutOfBoundsException" ["java/lang/RuntimeException", "java/lang/Exception"]).all (fun x => decide (x ∈ lw_tbl) && (goodWord x || xNk x)) = true by decide +kernel) x h) |> fun h => ⟨of_decide_eq_true (Bool.and_eq_true_iff.mp h).1, Bool.or_eq_true_iff.mp (Bool.and_eq_true_iff.mp h).2⟩, by decide +kernel⟩
theorem th_iae : xTh RX6 163 167 "java/lang/IllegalArgumentException" ["java/lang/RuntimeException", "java/lang/Exception"] := ⟨by decide +kernel, by decide +kernel, xG_at 293 (by decide +kernel) rfl, xG_at 31 (by decide +kernel) rfl, fun x h => (List.all_eq_true.mp (show (vx_atS RX6 167 "java/lang/IllegalArgumentException" ["java/lang/RuntimeException", "java/lang/Exception"]).all (fun x => decide (x ∈ lw_tbl) && (goodWord x || xNk x)) = true by decide +kernel) x h) |> fun h => ⟨of_decide_eq_true (Bool.and_eq_true_iff.mp h).1, Bool.or_eq_true_iff.mp (Bool.and_eq_true_iff.mp h).2⟩, by decide +kernel⟩
theorem th_ise : xTh RX6 97 101 "java/lang/IllegalStateException" ["java/lang/RuntimeException", "java/lang/Exception"] := ⟨by decide +kernel, by decide +kernel, xG_at 207 (by decide +kernel) rfl, xG_at 35 (by decide +kernel) rfl, fun x h => (List.all_eq_true.mp (show (vx_atS RX6 101 "java/lang/IllegalStateException" ["java/lang/RuntimeException", "java/lang/Exception"]).all (fun x => decide (x ∈ lw_tbl) && (goodWord x || xNk x)) = true by decide +kernel) x h) |> fun h => ⟨of_decide_eq_true (Bool.and_eq_true_iff.mp h).1, Bool.or_eq_true_iff.mp (Bool.and_eq_true_iff.mp h).2⟩, by decide +kernel⟩
set_option maxRecDepth 100000 in
set_option maxHeartbeats 4000000 in
theorem c_needCell {w : WD} {sz : Nat} {x y : Int} (r : -2147483648 ≤ x ∧ x < 2147483648 ∧ -2147483648 ≤ y ∧ y < 2147483648) : CX iX6_needCell 1 6 [xI x, xI y] w sz (fun v w' sz' => v = none ∧ w' = w ∧ sz' = sz ∧ iCell x y) (fun E w' sz' => E = "java/lang/IndexOutOfBoundsException" ∧ w' = w ∧ sz ≤ sz' ∧ ¬ iCell x y) := by
  refine CX.ofZ (by decide) rfl (Nat.le_of_ble_eq_true rfl) (fun Z hZ hE => ?_)
  subst hZ
  refine V_iload_n dX6_needCell_0 0 rfl rfl ?_
  refine V_iload_n dX6_needCell_1 1 rfl rfl ?_
  refine V_c_X6_274 rfl (by decide) (c_isCell (by omega)) dX6_needCell_2 rfl rfl (Nat.le_of_ble_eq_true rfl) (Nat.le_of_eq (Nat.zero_add _)) (Nat.le_of_eq (Nat.zero_add _)) (fun v w sz q => ?_)
  obtain ⟨rfl, rfl, rfl⟩ := q
  refine V_ifneB 19 dX6_needCell_5 (by decide) (fun h5 => ?_) (fun h5 => ?_)
  · try simp only [decide_eq_true_eq, decide_eq_false_iff_not, Bool.not_eq_true] at h5
    exact V_vret hE rfl dX6_needCell_19 ⟨rfl, rfl, rfl, h5⟩
  · try simp only [decide_eq_true_eq, decide_eq_false_iff_not, Bool.not_eq_true] at h5
    exact V_throwW (text := "there is no such cell") rfl th_iob (List.mem_of_getElem? (i := 406) (by decide +kernel)) dX6_needCell_8 dX6_needCell_11 dX6_needCell_12 dX6_needCell_15 dX6_needCell_18 (by decide) (Nat.le_of_ble_eq_true rfl) (Nat.le_of_ble_eq_true rfl) (Nat.le_of_ble_eq_true rfl) (fun sz9 h9 => ⟨rfl, rfl, h9, h5⟩)
set_option maxRecDepth 100000 in
set_option maxHeartbeats 4000000 in
theorem c_needRange {w : WD} {sz : Nat} {x l m : Int} (r : -2147483648 ≤ x ∧ x < 2147483648 ∧ -2147483648 ≤ l ∧ l < 2147483648 ∧ -2147483648 ≤ m ∧ m < 2147483648) : CX iX6_needRange 1 6 [xI x, xI l, xI m] w sz (fun v w' sz' => v = none ∧ w' = w ∧ sz' = sz ∧ (l ≤ x ∧ x ≤ m)) (fun E w' sz' => E = "java/lang/IllegalArgumentException" ∧ w' = w ∧ sz ≤ sz' ∧ ¬ (l ≤ x ∧ x ≤ m)) := by
  refine CX.ofZ (by decide) rfl (Nat.le_of_ble_eq_true rfl) (fun Z hZ hE => ?_)
  subst hZ
  refine V_iload_n dX6_needRange_0 0 rfl rfl ?_
  refine V_iload_n dX6_needRange_1 1 rfl rfl ?_
  refine V_icmp_lt 10 dX6_needRange_2 (by decide) (by omega) (fun h2 => ?_) (fun h2 => ?_)
  · exact V_throwW (text := "an argument is out of range") rfl th_iae (List.mem_of_getElem? (i := 302) (by decide +kernel)) dX6_needRange_10 dX6_needRange_13 dX6_needRange_14 dX6_needRange_17 dX6_needRange_20 (by decide) (Nat.le_of_ble_eq_true rfl) (Nat.le_of_ble_eq_true rfl) (Nat.le_of_ble_eq_true rfl) (fun sz9 h9 => ⟨rfl, rfl, h9, by omega⟩)
  · refine V_iload_n dX6_needRange_5 0 rfl rfl ?_
    refine V_iload_n dX6_needRange_6 2 rfl rfl ?_
    refine V_icmp_le 21 dX6_needRange_7 (by decide) (by omega) (fun h7 => ?_) (fun h7 => ?_)
    · exact V_vret hE rfl dX6_needRange_21 ⟨rfl, rfl, rfl, by omega⟩
    · exact V_throwW (text := "an argument is out of range") rfl th_iae (List.mem_of_getElem? (i := 302) (by decide +kernel)) dX6_needRange_10 dX6_needRange_13 dX6_needRange_14 dX6_needRange_17 dX6_needRange_20 (by decide) (Nat.le_of_ble_eq_true rfl) (Nat.le_of_ble_eq_true rfl) (Nat.le_of_ble_eq_true rfl) (fun sz9 h9 => ⟨rfl, rfl, h9, by omega⟩)
set_option maxRecDepth 100000 in
set_option maxHeartbeats 4000000 in
theorem c_needSearch {w : WD} {sz : Nat} {l a g : Int} (r : -2147483648 ≤ l ∧ l < 2147483648 ∧ -2147483648 ≤ a ∧ a < 2147483648 ∧ -2147483648 ≤ g ∧ g < 2147483648) : CX iX6_needSearch 3 18 [xI l, xI a, xI g] w sz (fun v w' sz' => v = none ∧ w' = w ∧ sz' = sz ∧ ((0 ≤ l ∧ l ≤ 99) ∧ (0 ≤ a ∧ a ≤ 1) ∧ (0 ≤ g ∧ g ≤ 5))) (fun E w' sz' => E = "java/lang/IllegalArgumentException" ∧ w' = w ∧ sz ≤ sz' ∧ ¬ ((0 ≤ l ∧ l ≤ 99) ∧ (0 ≤ a ∧ a ≤ 1) ∧ (0 ≤ g ∧ g ≤ 5))) := by
  refine CX.ofZ (by decide) rfl (Nat.le_of_ble_eq_true rfl) (fun Z hZ hE => ?_)
  subst hZ
  refine V_iload_n dX6_needSearch_0 0 rfl rfl ?_
  refine V_iconst dX6_needSearch_1 ?_
  refine V_bipush dX6_needSearch_2 (by decide) ?_
  refine V_x_X6_60 rfl (kc' := 2) (ks' := 12) (by decide) (c_needRange (by omega)) dX6_needSearch_4 rfl rfl (Nat.le_of_ble_eq_true rfl) (Nat.le_of_ble_eq_true rfl) (Nat.le_of_ble_eq_true rfl) (fun E w1 sz1 q => VX_out rfl ⟨q.1, q.2.1, q.2.2.1, fun g => q.2.2.2 (by omega)⟩) (fun v w sz q => ?_)
  obtain ⟨rfl, rfl, rfl, hq4⟩ := q
  refine V_iload_n dX6_needSearch_7 1 rfl rfl ?_
  refine V_iconst dX6_needSearch_8 ?_
  refine V_iconst dX6_needSearch_9 ?_
  refine V_x_X6_60 rfl (kc' := 1) (ks' := 6) (by decide) (c_needRange (by omega)) dX6_needSearch_10 rfl rfl (Nat.le_of_ble_eq_true rfl) (Nat.le_of_ble_eq_true rfl) (Nat.le_of_ble_eq_true rfl) (fun E w1 sz1 q => VX_out rfl ⟨q.1, q.2.1, q.2.2.1, fun g => q.2.2.2 (by omega)⟩) (fun v w sz q => ?_)
  obtain ⟨rfl, rfl, rfl, hq10⟩ := q
  refine V_iload_n dX6_needSearch_13 2 rfl rfl ?_
  refine V_iconst dX6_needSearch_14 ?_
  refine V_iconst dX6_needSearch_15 ?_
  refine V_x_X6_60 rfl (kc' := 0) (ks' := 0) (by decide) (c_needRange (by omega)) dX6_needSearch_16 rfl rfl (Nat.le_of_ble_eq_true rfl) (Nat.le_of_ble_eq_true rfl) (Nat.le_of_ble_eq_true rfl) (fun E w1 sz1 q => VX_out rfl ⟨q.1, q.2.1, q.2.2.1, fun g => q.2.2.2 (by omega)⟩) (fun v w sz q => ?_)
  obtain ⟨rfl, rfl, rfl, hq16⟩ := q
  exact V_vret hE rfl dX6_needSearch_19 ⟨rfl, rfl, rfl, by omega⟩
set_option maxRecDepth 100000 in
set_option maxHeartbeats 4000000 in
theorem c_needPick {w : WD} {sz χ : Nat} {P : MP} (hC : CP w χ P) {p : Int} (hz : 0 ≤ P.1 160 ∧ P.1 160 ≤ 12) (r : -2147483648 ≤ p ∧ p < 2147483648) : CX iX6_needPick 1 6 [.ref χ, xI p] w sz (fun v w' sz' => v = none ∧ w' = w ∧ sz' = sz ∧ isP P.1 p) (fun E w' sz' => E = "java/lang/IndexOutOfBoundsException" ∧ w' = w ∧ sz ≤ sz' ∧ ¬ isP P.1 p) := by
  refine CX.ofZ (by decide) rfl (Nat.le_of_ble_eq_true rfl) (fun Z hZ hE => ?_)
  subst hZ
  obtain ⟨hA, ⟨T, hS, hR⟩, -⟩ := hC
  refine V_iload_n dX6_needPick_0 1 rfl rfl ?_
  refine V_if_lt 21 dX6_needPick_1 (by decide) (by omega) (fun h1 => ?_) (fun h1 => ?_)
  · exact V_throwW (text := "there is no such pick") rfl th_iob (List.mem_of_getElem? (i := 429) (by decide +kernel)) dX6_needPick_21 dX6_needPick_24 dX6_needPick_25 dX6_needPick_28 dX6_needPick_31 (by decide) (Nat.le_of_ble_eq_true rfl) (Nat.le_of_ble_eq_true rfl) (Nat.le_of_ble_eq_true rfl) (fun sz9 h9 => ⟨rfl, rfl, h9, by omega⟩)
  · refine V_iload_n dX6_needPick_4 1 rfl rfl ?_
    refine V_aload_n dX6_needPick_5 0 rfl rfl ?_
    refine V_g_X6_24 rfl dX6_needPick_6 hA rfl ?_
    refine V_g_X6_93 rfl dX6_needPick_9 hS.1 rfl ?_
    rw [hR.2.1]
    refine V_icmp_ge 21 dX6_needPick_12 (by decide) (by omega) (fun h12 => ?_) (fun h12 => ?_)
    · exact V_throwW (text := "there is no such pick") rfl th_iob (List.mem_of_getElem? (i := 429) (by decide +kernel)) dX6_needPick_21 dX6_needPick_24 dX6_needPick_25 dX6_needPick_28 dX6_needPick_31 (by decide) (Nat.le_of_ble_eq_true rfl) (Nat.le_of_ble_eq_true rfl) (Nat.le_of_ble_eq_true rfl) (fun sz9 h9 => ⟨rfl, rfl, h9, by omega⟩)
    · refine V_iload_n dX6_needPick_15 1 rfl rfl ?_
      refine V_bipush dX6_needPick_16 (by decide) ?_
      refine V_icmp_lt 32 dX6_needPick_18 (by decide) (by omega) (fun h18 => ?_) (fun h18 => ?_)
      · exact V_vret hE rfl dX6_needPick_32 ⟨rfl, rfl, rfl, by omega⟩
      · exact V_throwW (text := "there is no such pick") rfl th_iob (List.mem_of_getElem? (i := 429) (by decide +kernel)) dX6_needPick_21 dX6_needPick_24 dX6_needPick_25 dX6_needPick_28 dX6_needPick_31 (by decide) (Nat.le_of_ble_eq_true rfl) (Nat.le_of_ble_eq_true rfl) (Nat.le_of_ble_eq_true rfl) (fun sz9 h9 => ⟨rfl, rfl, h9, by omega⟩)
