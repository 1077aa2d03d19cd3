/-! the law: each call, and what it throws -/
/-- what a call of the law leaves alone -/
def TL (w w' : WD) (sz' χ : Nat) : Prop := WN w' sz' ∧ (∃ f, w' (χ + 47) = some (xLA 1 f)) ∧ ∀ j, (j < χ ∨ χ + 37 ≤ j) → j ≠ χ + 47 → w j ≠ none → w' j = w j
/-- the number of what was thrown, or the answer in the row -/
def WQ (w : WD) (χ : Nat) (R : Int → Int → MP → Prop) : XQ := fun o9 w' sz' => TL w w' sz' χ ∧ ∃ k : Int, o9 = some (xI k) ∧ (0 ≤ k ∧ k ≤ 3) ∧ ∀ t r P', R t r P' → t = k ∧ CP w' χ P' ∧ (k = 0 → ∃ f, w' (χ + 47) = some (xLA 1 f) ∧ f 0 = (Int32.ofInt r).toInt)
theorem CP.mv {w w' : WD} {χ : Nat} {P : MP} (h : CP w χ P) (e : ∀ j, (χ ≤ j ∧ j < χ + 37) ∨ imm χ j → w j ≠ none → w' j = w j) : CP w' χ P := CS.mv h e
theorem TF.L {w w' : WD} {sz' χ : Nat} {f : Int → Int} (h : TF w w' sz' χ) (ho : w (χ + 47) = some (xLA 1 f)) : TL w w' sz' χ := ⟨h.1, ⟨f, (h.2 _ (by omega) (nn ho)).trans ho⟩, fun j hj _ hn => h.2 j hj hn⟩
theorem WQ.th {w w' : WD} {sz' χ : Nat} {R : Int → Int → MP → Prop} {E0 E : String} {k : Int} {f : Int → Int} (hk : 0 < k ∧ k ≤ 3) (h : EXQ w χ R E0 k E w' sz') (ho : w (χ + 47) = some (xLA 1 f)) : WQ w χ R (some (xI k)) w' sz' := ⟨h.2.1.L ho, k, rfl, ⟨by omega, hk.2⟩, fun t r P' q => ⟨(h.2.2 t r P' q).1, (h.2.2 t r P' q).2, fun e => by omega⟩⟩
theorem WQ.ok {w w' : WD} {sz' χ : Nat} {R : Int → Int → MP → Prop} {x : Int32} {g : Int → Int} (h : TF w w' sz' χ ∧ ∀ t r P', R t r P' → t = 0 ∧ some (Value.int x) = some (xI r) ∧ CP w' χ P') (hs : χ + 47 < sz') (hg : g 0 = x.toInt) : WQ w χ R (some (xI 0)) (xU w' (χ + 47) (xLA 1 g)) sz' := by
  refine ⟨⟨fun j hj => (xU_n (by omega)).trans (h.1.1 j hj), ⟨_, xU_s⟩, fun j hj hn q => (xU_n hn).trans (h.1.2 j hj q)⟩, 0, rfl, by omega, fun t r P' q => ?_⟩
  obtain ⟨h1, h2, h3⟩ := h.2 t r P' q
  refine ⟨h1, h3.mv (fun j hj _ => xU_n (by omega)), fun _ => ⟨g, xU_s, ?_⟩⟩
  have e : x = Int32.ofInt r := by
    have e2 := Option.some.inj h2
    cases e2
    rfl
  rw [hg, e]
theorem int_xI (x : Int32) : Value.int x = xI x.toInt := by
  show Value.int x = Value.int (Int32.ofInt x.toInt)
  rw [Int32.ofInt_toInt]
theorem int_r (x : Int32) : -2147483648 ≤ x.toInt ∧ x.toInt < 2147483648 := ⟨Int32.le_toInt x, Int32.toInt_lt x⟩
set_option maxRecDepth 100000 in
set_option maxHeartbeats 4000000 in
theorem l_draw {w : WD} {sz χ : Nat} {P : MP} {f9 : Int → Int} (hC : CP w χ P) (hI : MInv P) (hN : WN w sz) (hs : χ + 48 ≤ sz) (ho : w (χ + 47) = some (xLA 1 f9)) {x y u v s : Int} (r : -2147483648 ≤ x ∧ x < 2147483648 ∧ -2147483648 ≤ y ∧ y < 2147483648 ∧ -2147483648 ≤ u ∧ u < 2147483648 ∧ -2147483648 ≤ v ∧ v < 2147483648 ∧ -2147483648 ≤ s ∧ s < 2147483648) : CH iL_draw 3 18 [.ref χ, xI x, xI y, xI u, xI v, xI s, .ref (χ + 47)] w sz (WQ w χ (fun t r P' => drawR P x y u v s t r P')) (fun _ _ _ => False) := by
  refine CH.ofZ (by decide) (Nat.le_of_ble_eq_true rfl) (fun Z _ hE => ?_)
  have hx : ∀ E w' sz', (EX2 w χ (fun t r P' => drawR P x y u v s t r P') "java/lang/IndexOutOfBoundsException" "java/lang/IllegalArgumentException") E w' sz' → VX iL_draw Z 0 0 w' sz' 11 [some (.ref χ), some (xI x), some (xI y), some (xI u), some (xI v), some (xI s), some (.ref (χ + 47)), none] E := by
    intro E w1 sz1 q
    rcases q with q | q
    · have e9 := q.1
      subst e9
      refine VX_catchL (name := "java/lang/IndexOutOfBoundsException") [] ⟨0, 16, 19, 13⟩ [⟨0, 16, 23, 15⟩] rfl (fun z hz => by cases hz) (by decide) (by decide) (xG_at 456 (by decide +kernel) rfl) (List.mem_of_getElem? (i := 467) (by decide +kernel)) 7 (by decide) dL_draw_19 ?_
      refine V_iconst dL_draw_21 ?_
      exact V_iret hE rfl dL_draw_22 (WQ.th (by decide) q ho)
    · have e9 := q.1
      subst e9
      refine VX_catchL (name := "java/lang/IllegalArgumentException") [⟨0, 16, 19, 13⟩] ⟨0, 16, 23, 15⟩ [] rfl (fun z hz => by obtain rfl := List.mem_singleton.mp hz; exact ⟨by decide, "java/lang/IndexOutOfBoundsException", xG_at 456 (by decide +kernel) rfl, Or.inl ⟨rfl, rfl⟩⟩) (by decide) (by decide) (xG_at 457 (by decide +kernel) rfl) (List.mem_of_getElem? (i := 538) (by decide +kernel)) 7 (by decide) dL_draw_23 ?_
      refine V_iconst dL_draw_25 ?_
      exact V_iret hE rfl dL_draw_26 (WQ.th (by decide) q ho)
  refine V_aload dL_draw_0 rfl ?_
  refine V_iconst dL_draw_2 ?_
  refine V_aload_n dL_draw_3 0 rfl rfl ?_
  refine V_iload_n dL_draw_4 1 rfl rfl ?_
  refine V_iload_n dL_draw_5 2 rfl rfl ?_
  refine V_iload_n dL_draw_6 3 rfl rfl ?_
  refine V_iload dL_draw_7 rfl ?_
  refine V_iload dL_draw_9 rfl ?_
  refine V_x_L_7 rfl (by decide) (c_draw hC hI hN hs r) dL_draw_11 hC.1 rfl rfl (Nat.le_of_ble_eq_true rfl) (Nat.le_refl _) (Nat.le_refl _) hx (fun v w2 sz2 q => ?_)
  obtain ⟨⟨x9, rfl⟩, hq⟩ := q
  have e9 : (some (Value.int x9)) = some (xI x9.toInt) := by rw [int_xI]
  rw [e9]
  have ho2 := (hq.1.2 (χ + 47) (by omega) (nn ho)).trans ho
  have hs2 := hq.1.1.lt (nn ho2)
  refine V_i2l dL_draw_14 (int_r x9) ?_
  refine V_last dL_draw_15 ho2 (by omega) ?_
  refine V_goto 27 dL_draw_16 (by decide) ?_
  refine V_iconst dL_draw_27 ?_
  exact V_iret hE rfl dL_draw_28 (WQ.ok hq hs2 iu_s)
set_option maxRecDepth 100000 in
set_option maxHeartbeats 4000000 in
theorem l_fill {w : WD} {sz χ : Nat} {P : MP} {f9 : Int → Int} (hC : CP w χ P) (hI : MInv P) (hN : WN w sz) (hs : χ + 48 ≤ sz) (ho : w (χ + 47) = some (xLA 1 f9)) {s : Int} (r : -2147483648 ≤ s ∧ s < 2147483648) : CH iL_fill 1 6 [.ref χ, xI s, .ref (χ + 47)] w sz (WQ w χ (fun t r P' => fillR P s t r P')) (fun _ _ _ => False) := by
  refine CH.ofZ (by decide) (Nat.le_of_ble_eq_true rfl) (fun Z _ hE => ?_)
  have hx : ∀ E w' sz', (EXQ w χ (fun t r P' => fillR P s t r P') "java/lang/IllegalArgumentException" 1) E w' sz' → VX iL_fill Z 0 0 w' sz' 4 [some (.ref χ), some (xI s), some (.ref (χ + 47)), none] E := by
    intro E w1 sz1 q
    have e9 := q.1
    subst e9
    refine VX_catch (name := "java/lang/IllegalArgumentException") [] ⟨0, 9, 12, 15⟩ [] rfl (fun z hz => by cases hz) (by decide) (by decide) (xG_at 457 (by decide +kernel) rfl) (List.mem_of_getElem? (i := 538) (by decide +kernel)) 3 (by decide) dL_fill_12 rfl ?_
    refine V_iconst dL_fill_13 ?_
    exact V_iret hE rfl dL_fill_14 (WQ.th (by decide) q ho)
  refine V_aload_n dL_fill_0 2 rfl rfl ?_
  refine V_iconst dL_fill_1 ?_
  refine V_aload_n dL_fill_2 0 rfl rfl ?_
  refine V_iload_n dL_fill_3 1 rfl rfl ?_
  refine V_x_L_17 rfl (by decide) (c_fill hC hI hN hs r) dL_fill_4 hC.1 rfl rfl (Nat.le_of_ble_eq_true rfl) (Nat.le_refl _) (Nat.le_refl _) hx (fun v w2 sz2 q => ?_)
  obtain ⟨⟨x9, rfl⟩, hq⟩ := q
  have e9 : (some (Value.int x9)) = some (xI x9.toInt) := by rw [int_xI]
  rw [e9]
  have ho2 := (hq.1.2 (χ + 47) (by omega) (nn ho)).trans ho
  have hs2 := hq.1.1.lt (nn ho2)
  refine V_i2l dL_fill_7 (int_r x9) ?_
  refine V_last dL_fill_8 ho2 (by omega) ?_
  refine V_goto 15 dL_fill_9 (by decide) ?_
  refine V_iconst dL_fill_15 ?_
  exact V_iret hE rfl dL_fill_16 (WQ.ok hq hs2 iu_s)
set_option maxRecDepth 100000 in
set_option maxHeartbeats 4000000 in
theorem l_pick {w : WD} {sz χ : Nat} {P : MP} {f9 : Int → Int} (hC : CP w χ P) (hI : MInv P) (hN : WN w sz) (hs : χ + 48 ≤ sz) (ho : w (χ + 47) = some (xLA 1 f9)) {x y l a g d : Int} (r : -2147483648 ≤ x ∧ x < 2147483648 ∧ -2147483648 ≤ y ∧ y < 2147483648 ∧ -2147483648 ≤ l ∧ l < 2147483648 ∧ -2147483648 ≤ a ∧ a < 2147483648 ∧ -2147483648 ≤ g ∧ g < 2147483648 ∧ -2147483648 ≤ d ∧ d < 2147483648) : CH iL_pick 9 206 [.ref χ, xI x, xI y, xI l, xI a, xI g, xI d, .ref (χ + 47)] w sz (WQ w χ (fun t r P' => pickR P x y l a g d t r P')) (fun _ _ _ => False) := by
  refine CH.ofZ (by decide) (Nat.le_of_ble_eq_true rfl) (fun Z _ hE => ?_)
  have hx : ∀ E w' sz', (EX3 w χ (fun t r P' => pickR P x y l a g d t r P') "java/lang/IndexOutOfBoundsException" "java/lang/IllegalArgumentException" "java/lang/IllegalStateException") E w' sz' → VX iL_pick Z 0 0 w' sz' 13 [some (.ref χ), some (xI x), some (xI y), some (xI l), some (xI a), some (xI g), some (xI d), some (.ref (χ + 47)), none] E := by
    intro E w1 sz1 q
    rcases q with q | q | q
    · have e9 := q.1
      subst e9
      refine VX_catchL (name := "java/lang/IndexOutOfBoundsException") [] ⟨0, 18, 21, 13⟩ [⟨0, 18, 25, 15⟩, ⟨0, 18, 29, 25⟩] rfl (fun z hz => by cases hz) (by decide) (by decide) (xG_at 456 (by decide +kernel) rfl) (List.mem_of_getElem? (i := 467) (by decide +kernel)) 8 (by decide) dL_pick_21 ?_
      refine V_iconst dL_pick_23 ?_
      exact V_iret hE rfl dL_pick_24 (WQ.th (by decide) q ho)
    · have e9 := q.1
      subst e9
      refine VX_catchL (name := "java/lang/IllegalArgumentException") [⟨0, 18, 21, 13⟩] ⟨0, 18, 25, 15⟩ [⟨0, 18, 29, 25⟩] rfl (fun z hz => by obtain rfl := List.mem_singleton.mp hz; exact ⟨by decide, "java/lang/IndexOutOfBoundsException", xG_at 456 (by decide +kernel) rfl, Or.inl ⟨rfl, rfl⟩⟩) (by decide) (by decide) (xG_at 457 (by decide +kernel) rfl) (List.mem_of_getElem? (i := 538) (by decide +kernel)) 8 (by decide) dL_pick_25 ?_
      refine V_iconst dL_pick_27 ?_
      exact V_iret hE rfl dL_pick_28 (WQ.th (by decide) q ho)
    · have e9 := q.1
      subst e9
      refine VX_catchL (name := "java/lang/IllegalStateException") [⟨0, 18, 21, 13⟩, ⟨0, 18, 25, 15⟩] ⟨0, 18, 29, 25⟩ [] rfl (fun z hz => by rcases List.mem_cons.mp hz with rfl | hz; exact ⟨by decide, "java/lang/IndexOutOfBoundsException", xG_at 456 (by decide +kernel) rfl, Or.inr (Or.inl ⟨rfl, rfl⟩)⟩; obtain rfl := List.mem_singleton.mp hz; exact ⟨by decide, "java/lang/IllegalArgumentException", xG_at 457 (by decide +kernel) rfl, Or.inr (Or.inr ⟨rfl, rfl⟩)⟩) (by decide) (by decide) (xG_at 568 (by decide +kernel) rfl) (List.mem_of_getElem? (i := 578) (by decide +kernel)) 8 (by decide) dL_pick_29 ?_
      refine V_iconst dL_pick_31 ?_
      exact V_iret hE rfl dL_pick_32 (WQ.th (by decide) q ho)
  refine V_aload dL_pick_0 rfl ?_
  refine V_iconst dL_pick_2 ?_
  refine V_aload_n dL_pick_3 0 rfl rfl ?_
  refine V_iload_n dL_pick_4 1 rfl rfl ?_
  refine V_iload_n dL_pick_5 2 rfl rfl ?_
  refine V_iload_n dL_pick_6 3 rfl rfl ?_
  refine V_iload dL_pick_7 rfl ?_
  refine V_iload dL_pick_9 rfl ?_
  refine V_iload dL_pick_11 rfl ?_
  refine V_x_L_21 rfl (by decide) (c_pick hC hI hN hs r) dL_pick_13 hC.1 rfl rfl (Nat.le_of_ble_eq_true rfl) (Nat.le_refl _) (Nat.le_refl _) hx (fun v w2 sz2 q => ?_)
  obtain ⟨⟨x9, rfl⟩, hq⟩ := q
  have e9 : (some (Value.int x9)) = some (xI x9.toInt) := by rw [int_xI]
  rw [e9]
  have ho2 := (hq.1.2 (χ + 47) (by omega) (nn ho)).trans ho
  have hs2 := hq.1.1.lt (nn ho2)
  refine V_i2l dL_pick_16 (int_r x9) ?_
  refine V_last dL_pick_17 ho2 (by omega) ?_
  refine V_goto 33 dL_pick_18 (by decide) ?_
  refine V_iconst dL_pick_33 ?_
  exact V_iret hE rfl dL_pick_34 (WQ.ok hq hs2 iu_s)
set_option maxRecDepth 100000 in
set_option maxHeartbeats 4000000 in
theorem l_toggle {w : WD} {sz χ : Nat} {P : MP} {f9 : Int → Int} (hC : CP w χ P) (hI : MInv P) (hN : WN w sz) (hs : χ + 48 ≤ sz) (ho : w (χ + 47) = some (xLA 1 f9)) {p : Int} (r : -2147483648 ≤ p ∧ p < 2147483648) : CH iL_toggle 2 9 [.ref χ, xI p, .ref (χ + 47)] w sz (WQ w χ (fun t r P' => togR P p t r P')) (fun _ _ _ => False) := by
  refine CH.ofZ (by decide) (Nat.le_of_ble_eq_true rfl) (fun Z _ hE => ?_)
  have hx : ∀ E w' sz', (EXQ w χ (fun t r P' => togR P p t r P') "java/lang/IndexOutOfBoundsException" 1) E w' sz' → VX iL_toggle Z 0 0 w' sz' 4 [some (.ref χ), some (xI p), some (.ref (χ + 47)), none] E := by
    intro E w1 sz1 q
    have e9 := q.1
    subst e9
    refine VX_catch (name := "java/lang/IndexOutOfBoundsException") [] ⟨0, 9, 12, 13⟩ [] rfl (fun z hz => by cases hz) (by decide) (by decide) (xG_at 456 (by decide +kernel) rfl) (List.mem_of_getElem? (i := 467) (by decide +kernel)) 3 (by decide) dL_toggle_12 rfl ?_
    refine V_iconst dL_toggle_13 ?_
    exact V_iret hE rfl dL_toggle_14 (WQ.th (by decide) q ho)
  refine V_aload_n dL_toggle_0 2 rfl rfl ?_
  refine V_iconst dL_toggle_1 ?_
  refine V_aload_n dL_toggle_2 0 rfl rfl ?_
  refine V_iload_n dL_toggle_3 1 rfl rfl ?_
  refine V_x_L_27 rfl (by decide) (c_toggle hC hI hN hs r) dL_toggle_4 hC.1 rfl rfl (Nat.le_of_ble_eq_true rfl) (Nat.le_refl _) (Nat.le_refl _) hx (fun v w2 sz2 q => ?_)
  obtain ⟨⟨x9, rfl⟩, hq⟩ := q
  have e9 : (some (Value.int x9)) = some (xI x9.toInt) := by rw [int_xI]
  rw [e9]
  have ho2 := (hq.1.2 (χ + 47) (by omega) (nn ho)).trans ho
  have hs2 := hq.1.1.lt (nn ho2)
  refine V_i2l dL_toggle_7 (int_r x9) ?_
  refine V_last dL_toggle_8 ho2 (by omega) ?_
  refine V_goto 15 dL_toggle_9 (by decide) ?_
  refine V_iconst dL_toggle_15 ?_
  exact V_iret hE rfl dL_toggle_16 (WQ.ok hq hs2 iu_s)
set_option maxRecDepth 100000 in
set_option maxHeartbeats 4000000 in
theorem l_setKind {w : WD} {sz χ : Nat} {P : MP} {f9 : Int → Int} (hC : CP w χ P) (hI : MInv P) (hN : WN w sz) (hs : χ + 48 ≤ sz) (ho : w (χ + 47) = some (xLA 1 f9)) {p d : Int} (r : -2147483648 ≤ p ∧ p < 2147483648 ∧ -2147483648 ≤ d ∧ d < 2147483648) : CH iL_setKind 3 15 [.ref χ, xI p, xI d, .ref (χ + 47)] w sz (WQ w χ (fun t r P' => kndR P p d t r P')) (fun _ _ _ => False) := by
  refine CH.ofZ (by decide) (Nat.le_of_ble_eq_true rfl) (fun Z _ hE => ?_)
  have hx : ∀ E w' sz', (EX2 w χ (fun t r P' => kndR P p d t r P') "java/lang/IndexOutOfBoundsException" "java/lang/IllegalArgumentException") E w' sz' → VX iL_setKind Z 0 0 w' sz' 5 [some (.ref χ), some (xI p), some (xI d), some (.ref (χ + 47)), none] E := by
    intro E w1 sz1 q
    rcases q with q | q
    · have e9 := q.1
      subst e9
      refine VX_catchL (name := "java/lang/IndexOutOfBoundsException") [] ⟨0, 10, 13, 13⟩ [⟨0, 10, 17, 15⟩] rfl (fun z hz => by cases hz) (by decide) (by decide) (xG_at 456 (by decide +kernel) rfl) (List.mem_of_getElem? (i := 467) (by decide +kernel)) 4 (by decide) dL_setKind_13 ?_
      refine V_iconst dL_setKind_15 ?_
      exact V_iret hE rfl dL_setKind_16 (WQ.th (by decide) q ho)
    · have e9 := q.1
      subst e9
      refine VX_catchL (name := "java/lang/IllegalArgumentException") [⟨0, 10, 13, 13⟩] ⟨0, 10, 17, 15⟩ [] rfl (fun z hz => by obtain rfl := List.mem_singleton.mp hz; exact ⟨by decide, "java/lang/IndexOutOfBoundsException", xG_at 456 (by decide +kernel) rfl, Or.inl ⟨rfl, rfl⟩⟩) (by decide) (by decide) (xG_at 457 (by decide +kernel) rfl) (List.mem_of_getElem? (i := 538) (by decide +kernel)) 4 (by decide) dL_setKind_17 ?_
      refine V_iconst dL_setKind_19 ?_
      exact V_iret hE rfl dL_setKind_20 (WQ.th (by decide) q ho)
  refine V_aload_n dL_setKind_0 3 rfl rfl ?_
  refine V_iconst dL_setKind_1 ?_
  refine V_aload_n dL_setKind_2 0 rfl rfl ?_
  refine V_iload_n dL_setKind_3 1 rfl rfl ?_
  refine V_iload_n dL_setKind_4 2 rfl rfl ?_
  refine V_x_L_30 rfl (by decide) (c_setKind hC hI hN hs r) dL_setKind_5 hC.1 rfl rfl (Nat.le_of_ble_eq_true rfl) (Nat.le_refl _) (Nat.le_refl _) hx (fun v w2 sz2 q => ?_)
  obtain ⟨⟨x9, rfl⟩, hq⟩ := q
  have e9 : (some (Value.int x9)) = some (xI x9.toInt) := by rw [int_xI]
  rw [e9]
  have ho2 := (hq.1.2 (χ + 47) (by omega) (nn ho)).trans ho
  have hs2 := hq.1.1.lt (nn ho2)
  refine V_i2l dL_setKind_8 (int_r x9) ?_
  refine V_last dL_setKind_9 ho2 (by omega) ?_
  refine V_goto 21 dL_setKind_10 (by decide) ?_
  refine V_iconst dL_setKind_21 ?_
  exact V_iret hE rfl dL_setKind_22 (WQ.ok hq hs2 iu_s)
set_option maxRecDepth 100000 in
set_option maxHeartbeats 4000000 in
theorem l_reorder {w : WD} {sz χ : Nat} {P : MP} {f9 : Int → Int} (hC : CP w χ P) (hI : MInv P) (hN : WN w sz) (hs : χ + 48 ≤ sz) (ho : w (χ + 47) = some (xLA 1 f9)) {p u : Int} (r : -2147483648 ≤ p ∧ p < 2147483648 ∧ -2147483648 ≤ u ∧ u < 2147483648) : CH iL_reorder 2 12 [.ref χ, xI p, xI u, .ref (χ + 47)] w sz (WQ w χ (fun t r P' => ordR P p u t r P')) (fun _ _ _ => False) := by
  refine CH.ofZ (by decide) (Nat.le_of_ble_eq_true rfl) (fun Z _ hE => ?_)
  have hx : ∀ E w' sz', (EXQ w χ (fun t r P' => ordR P p u t r P') "java/lang/IndexOutOfBoundsException" 1) E w' sz' → VX iL_reorder Z 0 0 w' sz' 5 [some (.ref χ), some (xI p), some (xI u), some (.ref (χ + 47)), none] E := by
    intro E w1 sz1 q
    have e9 := q.1
    subst e9
    refine VX_catchL (name := "java/lang/IndexOutOfBoundsException") [] ⟨0, 10, 13, 13⟩ [] rfl (fun z hz => by cases hz) (by decide) (by decide) (xG_at 456 (by decide +kernel) rfl) (List.mem_of_getElem? (i := 467) (by decide +kernel)) 4 (by decide) dL_reorder_13 ?_
    refine V_iconst dL_reorder_15 ?_
    exact V_iret hE rfl dL_reorder_16 (WQ.th (by decide) q ho)
  refine V_aload_n dL_reorder_0 3 rfl rfl ?_
  refine V_iconst dL_reorder_1 ?_
  refine V_aload_n dL_reorder_2 0 rfl rfl ?_
  refine V_iload_n dL_reorder_3 1 rfl rfl ?_
  refine V_iload_n dL_reorder_4 2 rfl rfl ?_
  refine V_x_L_34 rfl (by decide) (c_reorder hC hI hN hs r) dL_reorder_5 hC.1 rfl rfl (Nat.le_of_ble_eq_true rfl) (Nat.le_refl _) (Nat.le_refl _) hx (fun v w2 sz2 q => ?_)
  obtain ⟨⟨x9, rfl⟩, hq⟩ := q
  have e9 : (some (Value.int x9)) = some (xI x9.toInt) := by rw [int_xI]
  rw [e9]
  have ho2 := (hq.1.2 (χ + 47) (by omega) (nn ho)).trans ho
  have hs2 := hq.1.1.lt (nn ho2)
  refine V_i2l dL_reorder_8 (int_r x9) ?_
  refine V_last dL_reorder_9 ho2 (by omega) ?_
  refine V_goto 17 dL_reorder_10 (by decide) ?_
  refine V_iconst dL_reorder_17 ?_
  exact V_iret hE rfl dL_reorder_18 (WQ.ok hq hs2 iu_s)
set_option maxRecDepth 100000 in
set_option maxHeartbeats 4000000 in
theorem l_append {w : WD} {sz χ : Nat} {P : MP} {f9 : Int → Int} (hC : CP w χ P) (hI : MInv P) (hN : WN w sz) (hs : χ + 48 ≤ sz) (ho : w (χ + 47) = some (xLA 1 f9)) {c : Int} (r : -2147483648 ≤ c ∧ c < 2147483648) : CH iL_append 2 12 [.ref χ, xI c, .ref (χ + 47)] w sz (WQ w χ (fun t r P' => appR P c t r P')) (fun _ _ _ => False) := by
  refine CH.ofZ (by decide) (Nat.le_of_ble_eq_true rfl) (fun Z _ hE => ?_)
  have hx : ∀ E w' sz', (EX2 w χ (fun t r P' => appR P c t r P') "java/lang/IllegalArgumentException" "java/lang/IllegalStateException") E w' sz' → VX iL_append Z 0 0 w' sz' 4 [some (.ref χ), some (xI c), some (.ref (χ + 47)), none] E := by
    intro E w1 sz1 q
    rcases q with q | q
    · have e9 := q.1
      subst e9
      refine VX_catch (name := "java/lang/IllegalArgumentException") [] ⟨0, 9, 12, 15⟩ [⟨0, 9, 15, 25⟩] rfl (fun z hz => by cases hz) (by decide) (by decide) (xG_at 457 (by decide +kernel) rfl) (List.mem_of_getElem? (i := 538) (by decide +kernel)) 3 (by decide) dL_append_12 rfl ?_
      refine V_iconst dL_append_13 ?_
      exact V_iret hE rfl dL_append_14 (WQ.th (by decide) q ho)
    · have e9 := q.1
      subst e9
      refine VX_catch (name := "java/lang/IllegalStateException") [⟨0, 9, 12, 15⟩] ⟨0, 9, 15, 25⟩ [] rfl (fun z hz => by obtain rfl := List.mem_singleton.mp hz; exact ⟨by decide, "java/lang/IllegalArgumentException", xG_at 457 (by decide +kernel) rfl, Or.inr (Or.inr ⟨rfl, rfl⟩)⟩) (by decide) (by decide) (xG_at 568 (by decide +kernel) rfl) (List.mem_of_getElem? (i := 578) (by decide +kernel)) 3 (by decide) dL_append_15 rfl ?_
      refine V_iconst dL_append_16 ?_
      exact V_iret hE rfl dL_append_17 (WQ.th (by decide) q ho)
  refine V_aload_n dL_append_0 2 rfl rfl ?_
  refine V_iconst dL_append_1 ?_
  refine V_aload_n dL_append_2 0 rfl rfl ?_
  refine V_iload_n dL_append_3 1 rfl rfl ?_
  refine V_x_L_37 rfl (by decide) (c_append hC hI hN hs r) dL_append_4 hC.1 rfl rfl (Nat.le_of_ble_eq_true rfl) (Nat.le_refl _) (Nat.le_refl _) hx (fun v w2 sz2 q => ?_)
  obtain ⟨⟨x9, rfl⟩, hq⟩ := q
  have e9 : (some (Value.int x9)) = some (xI x9.toInt) := by rw [int_xI]
  rw [e9]
  have ho2 := (hq.1.2 (χ + 47) (by omega) (nn ho)).trans ho
  have hs2 := hq.1.1.lt (nn ho2)
  refine V_i2l dL_append_7 (int_r x9) ?_
  refine V_last dL_append_8 ho2 (by omega) ?_
  refine V_goto 18 dL_append_9 (by decide) ?_
  refine V_iconst dL_append_18 ?_
  exact V_iret hE rfl dL_append_19 (WQ.ok hq hs2 iu_s)
set_option maxRecDepth 100000 in
set_option maxHeartbeats 4000000 in
theorem l_load {w : WD} {sz χ : Nat} {P : MP} {f9 : Int → Int} (hC : CP w χ P) (hI : MInv P) (hN : WN w sz) (hs : χ + 48 ≤ sz) (ho : w (χ + 47) = some (xLA 1 f9)) : CH iL_load 1 6 [.ref χ, .ref (χ + 47)] w sz (WQ w χ (fun t r P' => ldR P t r P')) (fun _ _ _ => False) := by
  refine CH.ofZ (by decide) (Nat.le_of_ble_eq_true rfl) (fun Z _ hE => ?_)
  have hx : ∀ E w' sz', (EXQ w χ (fun t r P' => ldR P t r P') "java/lang/IllegalArgumentException" 1) E w' sz' → VX iL_load Z 0 0 w' sz' 3 [some (.ref χ), some (.ref (χ + 47)), none] E := by
    intro E w1 sz1 q
    have e9 := q.1
    subst e9
    refine VX_catch (name := "java/lang/IllegalArgumentException") [] ⟨0, 8, 11, 15⟩ [] rfl (fun z hz => by cases hz) (by decide) (by decide) (xG_at 457 (by decide +kernel) rfl) (List.mem_of_getElem? (i := 538) (by decide +kernel)) 2 (by decide) dL_load_11 rfl ?_
    refine V_iconst dL_load_12 ?_
    exact V_iret hE rfl dL_load_13 (WQ.th (by decide) q ho)
  refine V_aload_n dL_load_0 1 rfl rfl ?_
  refine V_iconst dL_load_1 ?_
  refine V_aload_n dL_load_2 0 rfl rfl ?_
  refine V_x_L_40 rfl (by decide) (c_load hC hI hN hs) dL_load_3 hC.1 rfl rfl (Nat.le_of_ble_eq_true rfl) (Nat.le_refl _) (Nat.le_refl _) hx (fun v w2 sz2 q => ?_)
  obtain ⟨⟨x9, rfl⟩, hq⟩ := q
  have e9 : (some (Value.int x9)) = some (xI x9.toInt) := by rw [int_xI]
  rw [e9]
  have ho2 := (hq.1.2 (χ + 47) (by omega) (nn ho)).trans ho
  have hs2 := hq.1.1.lt (nn ho2)
  refine V_i2l dL_load_6 (int_r x9) ?_
  refine V_last dL_load_7 ho2 (by omega) ?_
  refine V_goto 14 dL_load_8 (by decide) ?_
  refine V_iconst dL_load_14 ?_
  exact V_iret hE rfl dL_load_15 (WQ.ok hq hs2 iu_s)
set_option maxRecDepth 100000 in
set_option maxHeartbeats 4000000 in
theorem l_undo {w : WD} {sz χ : Nat} {P : MP} {f9 : Int → Int} (hC : CP w χ P) (hI : MInv P) (hN : WN w sz) (hs : χ + 48 ≤ sz) (ho : w (χ + 47) = some (xLA 1 f9)) : CH iL_undo 1 6 [.ref χ, .ref (χ + 47)] w sz (WQ w χ (fun t r P' => undR P t r P')) (fun _ _ _ => False) := by
  refine CH.ofZ (by decide) (Nat.le_of_ble_eq_true rfl) (fun Z _ hE => ?_)
  have hx : ∀ E w' sz', (EXQ w χ (fun t r P' => undR P t r P') "java/lang/IllegalStateException" 1) E w' sz' → VX iL_undo Z 0 0 w' sz' 3 [some (.ref χ), some (.ref (χ + 47)), none] E := by
    intro E w1 sz1 q
    have e9 := q.1
    subst e9
    refine VX_catch (name := "java/lang/IllegalStateException") [] ⟨0, 8, 11, 25⟩ [] rfl (fun z hz => by cases hz) (by decide) (by decide) (xG_at 568 (by decide +kernel) rfl) (List.mem_of_getElem? (i := 578) (by decide +kernel)) 2 (by decide) dL_undo_11 rfl ?_
    refine V_iconst dL_undo_12 ?_
    exact V_iret hE rfl dL_undo_13 (WQ.th (by decide) q ho)
  refine V_aload_n dL_undo_0 1 rfl rfl ?_
  refine V_iconst dL_undo_1 ?_
  refine V_aload_n dL_undo_2 0 rfl rfl ?_
  refine V_x_L_44 rfl (by decide) (c_undo hC hI hN hs) dL_undo_3 hC.1 rfl rfl (Nat.le_of_ble_eq_true rfl) (Nat.le_refl _) (Nat.le_refl _) hx (fun v w2 sz2 q => ?_)
  obtain ⟨⟨x9, rfl⟩, hq⟩ := q
  have e9 : (some (Value.int x9)) = some (xI x9.toInt) := by rw [int_xI]
  rw [e9]
  have ho2 := (hq.1.2 (χ + 47) (by omega) (nn ho)).trans ho
  have hs2 := hq.1.1.lt (nn ho2)
  refine V_i2l dL_undo_6 (int_r x9) ?_
  refine V_last dL_undo_7 ho2 (by omega) ?_
  refine V_goto 14 dL_undo_8 (by decide) ?_
  refine V_iconst dL_undo_14 ?_
  exact V_iret hE rfl dL_undo_15 (WQ.ok hq hs2 iu_s)
set_option maxRecDepth 100000 in
set_option maxHeartbeats 4000000 in
theorem l_cell {w : WD} {sz χ : Nat} {P : MP} {f9 : Int → Int} (hC : CP w χ P) (hI : MInv P) (hN : WN w sz) (hs : χ + 48 ≤ sz) (ho : w (χ + 47) = some (xLA 1 f9)) {x y a : Int} (r : -2147483648 ≤ x ∧ x < 2147483648 ∧ -2147483648 ≤ y ∧ y < 2147483648 ∧ -2147483648 ≤ a ∧ a < 2147483648) : CH iL_cell 2 12 [.ref χ, xI x, xI y, xI a, .ref (χ + 47)] w sz (WQ w χ (fun t r P' => celR P x y a t r P')) (fun _ _ _ => False) := by
  refine CH.ofZ (by decide) (Nat.le_of_ble_eq_true rfl) (fun Z _ hE => ?_)
  have hx : ∀ E w' sz', (EX2 w χ (fun t r P' => celR P x y a t r P') "java/lang/IndexOutOfBoundsException" "java/lang/IllegalArgumentException") E w' sz' → VX iL_cell Z 0 0 w' sz' 7 [some (.ref χ), some (xI x), some (xI y), some (xI a), some (.ref (χ + 47)), none] E := by
    intro E w1 sz1 q
    rcases q with q | q
    · have e9 := q.1
      subst e9
      refine VX_catchL (name := "java/lang/IndexOutOfBoundsException") [] ⟨0, 12, 15, 13⟩ [⟨0, 12, 19, 15⟩] rfl (fun z hz => by cases hz) (by decide) (by decide) (xG_at 456 (by decide +kernel) rfl) (List.mem_of_getElem? (i := 467) (by decide +kernel)) 5 (by decide) dL_cell_15 ?_
      refine V_iconst dL_cell_17 ?_
      exact V_iret hE rfl dL_cell_18 (WQ.th (by decide) q ho)
    · have e9 := q.1
      subst e9
      refine VX_catchL (name := "java/lang/IllegalArgumentException") [⟨0, 12, 15, 13⟩] ⟨0, 12, 19, 15⟩ [] rfl (fun z hz => by obtain rfl := List.mem_singleton.mp hz; exact ⟨by decide, "java/lang/IndexOutOfBoundsException", xG_at 456 (by decide +kernel) rfl, Or.inl ⟨rfl, rfl⟩⟩) (by decide) (by decide) (xG_at 457 (by decide +kernel) rfl) (List.mem_of_getElem? (i := 538) (by decide +kernel)) 5 (by decide) dL_cell_19 ?_
      refine V_iconst dL_cell_21 ?_
      exact V_iret hE rfl dL_cell_22 (WQ.th (by decide) q ho)
  refine V_aload dL_cell_0 rfl ?_
  refine V_iconst dL_cell_2 ?_
  refine V_aload_n dL_cell_3 0 rfl rfl ?_
  refine V_iload_n dL_cell_4 1 rfl rfl ?_
  refine V_iload_n dL_cell_5 2 rfl rfl ?_
  refine V_iload_n dL_cell_6 3 rfl rfl ?_
  refine V_x_L_47 rfl (by decide) (c_cell hC hI hN hs r) dL_cell_7 hC.1 rfl rfl (Nat.le_of_ble_eq_true rfl) (Nat.le_refl _) (Nat.le_refl _) hx (fun v w2 sz2 q => ?_)
  obtain ⟨⟨x9, rfl⟩, hq⟩ := q
  have e9 : (some (Value.int x9)) = some (xI x9.toInt) := by rw [int_xI]
  rw [e9]
  have ho2 := (hq.1.2 (χ + 47) (by omega) (nn ho)).trans ho
  have hs2 := hq.1.1.lt (nn ho2)
  refine V_i2l dL_cell_10 (int_r x9) ?_
  refine V_last dL_cell_11 ho2 (by omega) ?_
  refine V_goto 23 dL_cell_12 (by decide) ?_
  refine V_iconst dL_cell_23 ?_
  exact V_iret hE rfl dL_cell_24 (WQ.ok hq hs2 iu_s)
set_option maxRecDepth 100000 in
set_option maxHeartbeats 4000000 in
theorem l_picked {w : WD} {sz χ : Nat} {P : MP} {f9 : Int → Int} (hC : CP w χ P) (hI : MInv P) (hN : WN w sz) (hs : χ + 48 ≤ sz) (ho : w (χ + 47) = some (xLA 1 f9)) {p a : Int} (r : -2147483648 ≤ p ∧ p < 2147483648 ∧ -2147483648 ≤ a ∧ a < 2147483648) : CH iL_picked 2 12 [.ref χ, xI p, xI a, .ref (χ + 47)] w sz (WQ w χ (fun t r P' => pkdR P p a t r P')) (fun _ _ _ => False) := by
  refine CH.ofZ (by decide) (Nat.le_of_ble_eq_true rfl) (fun Z _ hE => ?_)
  have hx : ∀ E w' sz', (EX2 w χ (fun t r P' => pkdR P p a t r P') "java/lang/IndexOutOfBoundsException" "java/lang/IllegalArgumentException") E w' sz' → VX iL_picked Z 0 0 w' sz' 5 [some (.ref χ), some (xI p), some (xI a), some (.ref (χ + 47)), none] E := by
    intro E w1 sz1 q
    rcases q with q | q
    · have e9 := q.1
      subst e9
      refine VX_catchL (name := "java/lang/IndexOutOfBoundsException") [] ⟨0, 10, 13, 13⟩ [⟨0, 10, 17, 15⟩] rfl (fun z hz => by cases hz) (by decide) (by decide) (xG_at 456 (by decide +kernel) rfl) (List.mem_of_getElem? (i := 467) (by decide +kernel)) 4 (by decide) dL_picked_13 ?_
      refine V_iconst dL_picked_15 ?_
      exact V_iret hE rfl dL_picked_16 (WQ.th (by decide) q ho)
    · have e9 := q.1
      subst e9
      refine VX_catchL (name := "java/lang/IllegalArgumentException") [⟨0, 10, 13, 13⟩] ⟨0, 10, 17, 15⟩ [] rfl (fun z hz => by obtain rfl := List.mem_singleton.mp hz; exact ⟨by decide, "java/lang/IndexOutOfBoundsException", xG_at 456 (by decide +kernel) rfl, Or.inl ⟨rfl, rfl⟩⟩) (by decide) (by decide) (xG_at 457 (by decide +kernel) rfl) (List.mem_of_getElem? (i := 538) (by decide +kernel)) 4 (by decide) dL_picked_17 ?_
      refine V_iconst dL_picked_19 ?_
      exact V_iret hE rfl dL_picked_20 (WQ.th (by decide) q ho)
  refine V_aload_n dL_picked_0 3 rfl rfl ?_
  refine V_iconst dL_picked_1 ?_
  refine V_aload_n dL_picked_2 0 rfl rfl ?_
  refine V_iload_n dL_picked_3 1 rfl rfl ?_
  refine V_iload_n dL_picked_4 2 rfl rfl ?_
  refine V_x_L_51 rfl (by decide) (c_picked hC hI hN hs r) dL_picked_5 hC.1 rfl rfl (Nat.le_of_ble_eq_true rfl) (Nat.le_refl _) (Nat.le_refl _) hx (fun v w2 sz2 q => ?_)
  obtain ⟨⟨x9, rfl⟩, hq⟩ := q
  have e9 : (some (Value.int x9)) = some (xI x9.toInt) := by rw [int_xI]
  rw [e9]
  have ho2 := (hq.1.2 (χ + 47) (by omega) (nn ho)).trans ho
  have hs2 := hq.1.1.lt (nn ho2)
  refine V_i2l dL_picked_8 (int_r x9) ?_
  refine V_last dL_picked_9 ho2 (by omega) ?_
  refine V_goto 21 dL_picked_10 (by decide) ?_
  refine V_iconst dL_picked_21 ?_
  exact V_iret hE rfl dL_picked_22 (WQ.ok hq hs2 iu_s)
set_option maxRecDepth 100000 in
set_option maxHeartbeats 4000000 in
theorem l_level {w : WD} {sz χ : Nat} {P : MP} {f9 : Int → Int} (hC : CP w χ P) (hI : MInv P) (hN : WN w sz) (hs : χ + 48 ≤ sz) (ho : w (χ + 47) = some (xLA 1 f9)) {p x y : Int} (r : -2147483648 ≤ p ∧ p < 2147483648 ∧ -2147483648 ≤ x ∧ x < 2147483648 ∧ -2147483648 ≤ y ∧ y < 2147483648) : CH iL_level 2 12 [.ref χ, xI p, xI x, xI y, .ref (χ + 47)] w sz (WQ w χ (fun t r P' => lvlR P p x y t r P')) (fun _ _ _ => False) := by
  refine CH.ofZ (by decide) (Nat.le_of_ble_eq_true rfl) (fun Z _ hE => ?_)
  have hx : ∀ E w' sz', (EXQ w χ (fun t r P' => lvlR P p x y t r P') "java/lang/IndexOutOfBoundsException" 1) E w' sz' → VX iL_level Z 0 0 w' sz' 7 [some (.ref χ), some (xI p), some (xI x), some (xI y), some (.ref (χ + 47)), none] E := by
    intro E w1 sz1 q
    have e9 := q.1
    subst e9
    refine VX_catchL (name := "java/lang/IndexOutOfBoundsException") [] ⟨0, 12, 15, 13⟩ [] rfl (fun z hz => by cases hz) (by decide) (by decide) (xG_at 456 (by decide +kernel) rfl) (List.mem_of_getElem? (i := 467) (by decide +kernel)) 5 (by decide) dL_level_15 ?_
    refine V_iconst dL_level_17 ?_
    exact V_iret hE rfl dL_level_18 (WQ.th (by decide) q ho)
  refine V_aload dL_level_0 rfl ?_
  refine V_iconst dL_level_2 ?_
  refine V_aload_n dL_level_3 0 rfl rfl ?_
  refine V_iload_n dL_level_4 1 rfl rfl ?_
  refine V_iload_n dL_level_5 2 rfl rfl ?_
  refine V_iload_n dL_level_6 3 rfl rfl ?_
  refine V_x_L_54 rfl (by decide) (c_level hC hI hN hs r) dL_level_7 hC.1 rfl rfl (Nat.le_of_ble_eq_true rfl) (Nat.le_refl _) (Nat.le_refl _) hx (fun v w2 sz2 q => ?_)
  obtain ⟨⟨x9, rfl⟩, hq⟩ := q
  have e9 : (some (Value.int x9)) = some (xI x9.toInt) := by rw [int_xI]
  rw [e9]
  have ho2 := (hq.1.2 (χ + 47) (by omega) (nn ho)).trans ho
  have hs2 := hq.1.1.lt (nn ho2)
  refine V_i2l dL_level_10 (int_r x9) ?_
  refine V_last dL_level_11 ho2 (by omega) ?_
  refine V_goto 19 dL_level_12 (by decide) ?_
  refine V_iconst dL_level_19 ?_
  exact V_iret hE rfl dL_level_20 (WQ.ok hq hs2 iu_s)
set_option maxRecDepth 100000 in
set_option maxHeartbeats 4000000 in
theorem l_count {w : WD} {sz χ : Nat} {P : MP} {f9 : Int → Int} (hC : CP w χ P) (hI : MInv P) (hN : WN w sz) (hs : χ + 48 ≤ sz) (ho : w (χ + 47) = some (xLA 1 f9)) {a : Int} (r : -2147483648 ≤ a ∧ a < 2147483648) : CH iL_count 1 6 [.ref χ, xI a, .ref (χ + 47)] w sz (WQ w χ (fun t r P' => cntR P a t r P')) (fun _ _ _ => False) := by
  refine CH.ofZ (by decide) (Nat.le_of_ble_eq_true rfl) (fun Z _ hE => ?_)
  have hx : ∀ E w' sz', (EXQ w χ (fun t r P' => cntR P a t r P') "java/lang/IllegalArgumentException" 1) E w' sz' → VX iL_count Z 0 0 w' sz' 4 [some (.ref χ), some (xI a), some (.ref (χ + 47)), none] E := by
    intro E w1 sz1 q
    have e9 := q.1
    subst e9
    refine VX_catch (name := "java/lang/IllegalArgumentException") [] ⟨0, 9, 12, 15⟩ [] rfl (fun z hz => by cases hz) (by decide) (by decide) (xG_at 457 (by decide +kernel) rfl) (List.mem_of_getElem? (i := 538) (by decide +kernel)) 3 (by decide) dL_count_12 rfl ?_
    refine V_iconst dL_count_13 ?_
    exact V_iret hE rfl dL_count_14 (WQ.th (by decide) q ho)
  refine V_aload_n dL_count_0 2 rfl rfl ?_
  refine V_iconst dL_count_1 ?_
  refine V_aload_n dL_count_2 0 rfl rfl ?_
  refine V_iload_n dL_count_3 1 rfl rfl ?_
  refine V_x_L_57 rfl (by decide) (c_count hC hI hN hs r) dL_count_4 hC.1 rfl rfl (Nat.le_of_ble_eq_true rfl) (Nat.le_refl _) (Nat.le_refl _) hx (fun v w2 sz2 q => ?_)
  obtain ⟨⟨x9, rfl⟩, hq⟩ := q
  have e9 : (some (Value.int x9)) = some (xI x9.toInt) := by rw [int_xI]
  rw [e9]
  have ho2 := (hq.1.2 (χ + 47) (by omega) (nn ho)).trans ho
  have hs2 := hq.1.1.lt (nn ho2)
  refine V_i2l dL_count_7 (int_r x9) ?_
  refine V_last dL_count_8 ho2 (by omega) ?_
  refine V_goto 15 dL_count_9 (by decide) ?_
  refine V_iconst dL_count_15 ?_
  exact V_iret hE rfl dL_count_16 (WQ.ok hq hs2 iu_s)
set_option maxRecDepth 100000 in
set_option maxHeartbeats 4000000 in
theorem l_areaOf {w : WD} {sz χ : Nat} {P : MP} {f9 : Int → Int} (hC : CP w χ P) (hI : MInv P) (hN : WN w sz) (hs : χ + 48 ≤ sz) (ho : w (χ + 47) = some (xLA 1 f9)) {x y l a g : Int} (r : -2147483648 ≤ x ∧ x < 2147483648 ∧ -2147483648 ≤ y ∧ y < 2147483648 ∧ -2147483648 ≤ l ∧ l < 2147483648 ∧ -2147483648 ≤ a ∧ a < 2147483648 ∧ -2147483648 ≤ g ∧ g < 2147483648) : CH iL_areaOf 4 24 [.ref χ, xI x, xI y, xI l, xI a, xI g, .ref (χ + 47)] w sz (WQ w χ (fun t r P' => aofR P x y l a g t r P')) (fun _ _ _ => False) := by
  refine CH.ofZ (by decide) (Nat.le_of_ble_eq_true rfl) (fun Z _ hE => ?_)
  have hx : ∀ E w' sz', (EX2 w χ (fun t r P' => aofR P x y l a g t r P') "java/lang/IndexOutOfBoundsException" "java/lang/IllegalArgumentException") E w' sz' → VX iL_areaOf Z 0 0 w' sz' 11 [some (.ref χ), some (xI x), some (xI y), some (xI l), some (xI a), some (xI g), some (.ref (χ + 47)), none] E := by
    intro E w1 sz1 q
    rcases q with q | q
    · have e9 := q.1
      subst e9
      refine VX_catchL (name := "java/lang/IndexOutOfBoundsException") [] ⟨0, 16, 19, 13⟩ [⟨0, 16, 23, 15⟩] rfl (fun z hz => by cases hz) (by decide) (by decide) (xG_at 456 (by decide +kernel) rfl) (List.mem_of_getElem? (i := 467) (by decide +kernel)) 7 (by decide) dL_areaOf_19 ?_
      refine V_iconst dL_areaOf_21 ?_
      exact V_iret hE rfl dL_areaOf_22 (WQ.th (by decide) q ho)
    · have e9 := q.1
      subst e9
      refine VX_catchL (name := "java/lang/IllegalArgumentException") [⟨0, 16, 19, 13⟩] ⟨0, 16, 23, 15⟩ [] rfl (fun z hz => by obtain rfl := List.mem_singleton.mp hz; exact ⟨by decide, "java/lang/IndexOutOfBoundsException", xG_at 456 (by decide +kernel) rfl, Or.inl ⟨rfl, rfl⟩⟩) (by decide) (by decide) (xG_at 457 (by decide +kernel) rfl) (List.mem_of_getElem? (i := 538) (by decide +kernel)) 7 (by decide) dL_areaOf_23 ?_
      refine V_iconst dL_areaOf_25 ?_
      exact V_iret hE rfl dL_areaOf_26 (WQ.th (by decide) q ho)
  refine V_aload dL_areaOf_0 rfl ?_
  refine V_iconst dL_areaOf_2 ?_
  refine V_aload_n dL_areaOf_3 0 rfl rfl ?_
  refine V_iload_n dL_areaOf_4 1 rfl rfl ?_
  refine V_iload_n dL_areaOf_5 2 rfl rfl ?_
  refine V_iload_n dL_areaOf_6 3 rfl rfl ?_
  refine V_iload dL_areaOf_7 rfl ?_
  refine V_iload dL_areaOf_9 rfl ?_
  refine V_x_L_60 rfl (by decide) (c_areaOf hC hI hN hs r) dL_areaOf_11 hC.1 rfl rfl (Nat.le_of_ble_eq_true rfl) (Nat.le_refl _) (Nat.le_refl _) hx (fun v w2 sz2 q => ?_)
  obtain ⟨⟨x9, rfl⟩, hq⟩ := q
  have e9 : (some (Value.int x9)) = some (xI x9.toInt) := by rw [int_xI]
  rw [e9]
  have ho2 := (hq.1.2 (χ + 47) (by omega) (nn ho)).trans ho
  have hs2 := hq.1.1.lt (nn ho2)
  refine V_i2l dL_areaOf_14 (int_r x9) ?_
  refine V_last dL_areaOf_15 ho2 (by omega) ?_
  refine V_goto 27 dL_areaOf_16 (by decide) ?_
  refine V_iconst dL_areaOf_27 ?_
  exact V_iret hE rfl dL_areaOf_28 (WQ.ok hq hs2 iu_s)
set_option maxRecDepth 100000 in
set_option maxHeartbeats 4000000 in
theorem l_leastLikeness {w : WD} {sz χ : Nat} {P : MP} {f9 : Int → Int} (hC : CP w χ P) (hI : MInv P) (hN : WN w sz) (hs : χ + 48 ≤ sz) (ho : w (χ + 47) = some (xLA 1 f9)) {x y u v a g : Int} (r : -2147483648 ≤ x ∧ x < 2147483648 ∧ -2147483648 ≤ y ∧ y < 2147483648 ∧ -2147483648 ≤ u ∧ u < 2147483648 ∧ -2147483648 ≤ v ∧ v < 2147483648 ∧ -2147483648 ≤ a ∧ a < 2147483648 ∧ -2147483648 ≤ g ∧ g < 2147483648) : CH iL_leastLikeness 5 30 [.ref χ, xI x, xI y, xI u, xI v, xI a, xI g, .ref (χ + 47)] w sz (WQ w χ (fun t r P' => likR P x y u v a g t r P')) (fun _ _ _ => False) := by
  refine CH.ofZ (by decide) (Nat.le_of_ble_eq_true rfl) (fun Z _ hE => ?_)
  have hx : ∀ E w' sz', (EX2 w χ (fun t r P' => likR P x y u v a g t r P') "java/lang/IndexOutOfBoundsException" "java/lang/IllegalArgumentException") E w' sz' → VX iL_leastLikeness Z 0 0 w' sz' 13 [some (.ref χ), some (xI x), some (xI y), some (xI u), some (xI v), some (xI a), some (xI g), some (.ref (χ + 47)), none] E := by
    intro E w1 sz1 q
    rcases q with q | q
    · have e9 := q.1
      subst e9
      refine VX_catchL (name := "java/lang/IndexOutOfBoundsException") [] ⟨0, 18, 21, 13⟩ [⟨0, 18, 25, 15⟩] rfl (fun z hz => by cases hz) (by decide) (by decide) (xG_at 456 (by decide +kernel) rfl) (List.mem_of_getElem? (i := 467) (by decide +kernel)) 8 (by decide) dL_leastLikeness_21 ?_
      refine V_iconst dL_leastLikeness_23 ?_
      exact V_iret hE rfl dL_leastLikeness_24 (WQ.th (by decide) q ho)
    · have e9 := q.1
      subst e9
      refine VX_catchL (name := "java/lang/IllegalArgumentException") [⟨0, 18, 21, 13⟩] ⟨0, 18, 25, 15⟩ [] rfl (fun z hz => by obtain rfl := List.mem_singleton.mp hz; exact ⟨by decide, "java/lang/IndexOutOfBoundsException", xG_at 456 (by decide +kernel) rfl, Or.inl ⟨rfl, rfl⟩⟩) (by decide) (by decide) (xG_at 457 (by decide +kernel) rfl) (List.mem_of_getElem? (i := 538) (by decide +kernel)) 8 (by decide) dL_leastLikeness_25 ?_
      refine V_iconst dL_leastLikeness_27 ?_
      exact V_iret hE rfl dL_leastLikeness_28 (WQ.th (by decide) q ho)
  refine V_aload dL_leastLikeness_0 rfl ?_
  refine V_iconst dL_leastLikeness_2 ?_
  refine V_aload_n dL_leastLikeness_3 0 rfl rfl ?_
  refine V_iload_n dL_leastLikeness_4 1 rfl rfl ?_
  refine V_iload_n dL_leastLikeness_5 2 rfl rfl ?_
  refine V_iload_n dL_leastLikeness_6 3 rfl rfl ?_
  refine V_iload dL_leastLikeness_7 rfl ?_
  refine V_iload dL_leastLikeness_9 rfl ?_
  refine V_iload dL_leastLikeness_11 rfl ?_
  refine V_x_L_63 rfl (by decide) (c_leastLikeness hC hI hN hs r) dL_leastLikeness_13 hC.1 rfl rfl (Nat.le_of_ble_eq_true rfl) (Nat.le_refl _) (Nat.le_refl _) hx (fun v w2 sz2 q => ?_)
  obtain ⟨⟨x9, rfl⟩, hq⟩ := q
  have e9 : (some (Value.int x9)) = some (xI x9.toInt) := by rw [int_xI]
  rw [e9]
  have ho2 := (hq.1.2 (χ + 47) (by omega) (nn ho)).trans ho
  have hs2 := hq.1.1.lt (nn ho2)
  refine V_i2l dL_leastLikeness_16 (int_r x9) ?_
  refine V_last dL_leastLikeness_17 ho2 (by omega) ?_
  refine V_goto 29 dL_leastLikeness_18 (by decide) ?_
  refine V_iconst dL_leastLikeness_29 ?_
  exact V_iret hE rfl dL_leastLikeness_30 (WQ.ok hq hs2 iu_s)
set_option maxRecDepth 100000 in
set_option maxHeartbeats 4000000 in
theorem l_partingGap {w : WD} {sz χ : Nat} {P : MP} {f9 : Int → Int} (hC : CP w χ P) (hI : MInv P) (hN : WN w sz) (hs : χ + 48 ≤ sz) (ho : w (χ + 47) = some (xLA 1 f9)) {x y u v l : Int} (r : -2147483648 ≤ x ∧ x < 2147483648 ∧ -2147483648 ≤ y ∧ y < 2147483648 ∧ -2147483648 ≤ u ∧ u < 2147483648 ∧ -2147483648 ≤ v ∧ v < 2147483648 ∧ -2147483648 ≤ l ∧ l < 2147483648) : CH iL_partingGap 5 30 [.ref χ, xI x, xI y, xI u, xI v, xI l, .ref (χ + 47)] w sz (WQ w χ (fun t r P' => gapR P x y u v l t r P')) (fun _ _ _ => False) := by
  refine CH.ofZ (by decide) (Nat.le_of_ble_eq_true rfl) (fun Z _ hE => ?_)
  have hx : ∀ E w' sz', (EX2 w χ (fun t r P' => gapR P x y u v l t r P') "java/lang/IndexOutOfBoundsException" "java/lang/IllegalArgumentException") E w' sz' → VX iL_partingGap Z 0 0 w' sz' 11 [some (.ref χ), some (xI x), some (xI y), some (xI u), some (xI v), some (xI l), some (.ref (χ + 47)), none] E := by
    intro E w1 sz1 q
    rcases q with q | q
    · have e9 := q.1
      subst e9
      refine VX_catchL (name := "java/lang/IndexOutOfBoundsException") [] ⟨0, 16, 19, 13⟩ [⟨0, 16, 23, 15⟩] rfl (fun z hz => by cases hz) (by decide) (by decide) (xG_at 456 (by decide +kernel) rfl) (List.mem_of_getElem? (i := 467) (by decide +kernel)) 7 (by decide) dL_partingGap_19 ?_
      refine V_iconst dL_partingGap_21 ?_
      exact V_iret hE rfl dL_partingGap_22 (WQ.th (by decide) q ho)
    · have e9 := q.1
      subst e9
      refine VX_catchL (name := "java/lang/IllegalArgumentException") [⟨0, 16, 19, 13⟩] ⟨0, 16, 23, 15⟩ [] rfl (fun z hz => by obtain rfl := List.mem_singleton.mp hz; exact ⟨by decide, "java/lang/IndexOutOfBoundsException", xG_at 456 (by decide +kernel) rfl, Or.inl ⟨rfl, rfl⟩⟩) (by decide) (by decide) (xG_at 457 (by decide +kernel) rfl) (List.mem_of_getElem? (i := 538) (by decide +kernel)) 7 (by decide) dL_partingGap_23 ?_
      refine V_iconst dL_partingGap_25 ?_
      exact V_iret hE rfl dL_partingGap_26 (WQ.th (by decide) q ho)
  refine V_aload dL_partingGap_0 rfl ?_
  refine V_iconst dL_partingGap_2 ?_
  refine V_aload_n dL_partingGap_3 0 rfl rfl ?_
  refine V_iload_n dL_partingGap_4 1 rfl rfl ?_
  refine V_iload_n dL_partingGap_5 2 rfl rfl ?_
  refine V_iload_n dL_partingGap_6 3 rfl rfl ?_
  refine V_iload dL_partingGap_7 rfl ?_
  refine V_iload dL_partingGap_9 rfl ?_
  refine V_x_L_66 rfl (by decide) (c_partingGap hC hI hN hs r) dL_partingGap_11 hC.1 rfl rfl (Nat.le_of_ble_eq_true rfl) (Nat.le_refl _) (Nat.le_refl _) hx (fun v w2 sz2 q => ?_)
  obtain ⟨⟨x9, rfl⟩, hq⟩ := q
  have e9 : (some (Value.int x9)) = some (xI x9.toInt) := by rw [int_xI]
  rw [e9]
  have ho2 := (hq.1.2 (χ + 47) (by omega) (nn ho)).trans ho
  have hs2 := hq.1.1.lt (nn ho2)
  refine V_i2l dL_partingGap_14 (int_r x9) ?_
  refine V_last dL_partingGap_15 ho2 (by omega) ?_
  refine V_goto 27 dL_partingGap_16 (by decide) ?_
  refine V_iconst dL_partingGap_27 ?_
  exact V_iret hE rfl dL_partingGap_28 (WQ.ok hq hs2 iu_s)
set_option maxRecDepth 100000 in
set_option maxHeartbeats 4000000 in
theorem l_areas {w : WD} {sz χ : Nat} {P : MP} {f9 : Int → Int} (hC : CP w χ P) (hI : MInv P) (hN : WN w sz) (hs : χ + 48 ≤ sz) (ho : w (χ + 47) = some (xLA 1 f9)) {l : Int} (r : -2147483648 ≤ l ∧ l < 2147483648) : CH iL_areas 3 18 [.ref χ, xI l, .ref (χ + 47)] w sz (WQ w χ (fun t r P' => arsR P l t r P')) (fun _ _ _ => False) := by
  refine CH.ofZ (by decide) (Nat.le_of_ble_eq_true rfl) (fun Z _ hE => ?_)
  have hx : ∀ E w' sz', (EXQ w χ (fun t r P' => arsR P l t r P') "java/lang/IllegalArgumentException" 1) E w' sz' → VX iL_areas Z 0 0 w' sz' 4 [some (.ref χ), some (xI l), some (.ref (χ + 47)), none] E := by
    intro E w1 sz1 q
    have e9 := q.1
    subst e9
    refine VX_catch (name := "java/lang/IllegalArgumentException") [] ⟨0, 9, 12, 15⟩ [] rfl (fun z hz => by cases hz) (by decide) (by decide) (xG_at 457 (by decide +kernel) rfl) (List.mem_of_getElem? (i := 538) (by decide +kernel)) 3 (by decide) dL_areas_12 rfl ?_
    refine V_iconst dL_areas_13 ?_
    exact V_iret hE rfl dL_areas_14 (WQ.th (by decide) q ho)
  refine V_aload_n dL_areas_0 2 rfl rfl ?_
  refine V_iconst dL_areas_1 ?_
  refine V_aload_n dL_areas_2 0 rfl rfl ?_
  refine V_iload_n dL_areas_3 1 rfl rfl ?_
  refine V_x_L_69 rfl (by decide) (c_areas hC hI hN hs r) dL_areas_4 hC.1 rfl rfl (Nat.le_of_ble_eq_true rfl) (Nat.le_refl _) (Nat.le_refl _) hx (fun v w2 sz2 q => ?_)
  obtain ⟨⟨x9, rfl⟩, hq⟩ := q
  have e9 : (some (Value.int x9)) = some (xI x9.toInt) := by rw [int_xI]
  rw [e9]
  have ho2 := (hq.1.2 (χ + 47) (by omega) (nn ho)).trans ho
  have hs2 := hq.1.1.lt (nn ho2)
  refine V_i2l dL_areas_7 (int_r x9) ?_
  refine V_last dL_areas_8 ho2 (by omega) ?_
  refine V_goto 15 dL_areas_9 (by decide) ?_
  refine V_iconst dL_areas_15 ?_
  exact V_iret hE rfl dL_areas_16 (WQ.ok hq hs2 iu_s)
