/-! the law: all of it -/
theorem V_n_L_8 {I : XI} {Z : XZ} {kc ks kc' ks' : Nat} {w : WD} {sz pc : Nat} {lv : List (Option Value)} {st : List Value} (ho : I.y.cls = RL) (hd : decode I.cc pc = .ok (.new 8, 3)) (h1 : kc' + 1 ≤ kc) (h2 : ks' + 6 ≤ ks) (kk : V I Z kc' ks' (xU w sz (xOb 6 [.null, .null, .null, .null, .null, .null])) (sz + 1) (pc + 3) lv (.ref sz :: st)) : V I Z kc ks w sz pc lv st :=
  V_new (C := RX6) (T := TX6) (N := 6) (ty := tyX6) (fs := [.null, .null, .null, .null, .null, .null]) rfl inX6 tyX6_ok (by rw [ho]; exact xG_at 73 (by decide +kernel) rfl) (xG_at 74 (by decide +kernel) rfl) (xG_at 55 (by decide +kernel) rfl) (fun Γ j hj => by rcases (show j = 0 ∨ j = 1 ∨ j = 2 ∨ j = 3 ∨ j = 4 ∨ j = 5 by omega) with rfl | rfl | rfl | rfl | rfl | rfl <;> rfl) hd h1 h2 kk
theorem V_n_L_73 {I : XI} {Z : XZ} {kc ks kc' ks' : Nat} {w : WD} {sz pc : Nat} {lv : List (Option Value)} {st : List Value} (ho : I.y.cls = RL) (hd : decode I.cc pc = .ok (.new 73, 3)) (h1 : kc' + 1 ≤ kc) (h2 : ks' + 16 ≤ ks) (kk : V I Z kc' ks' (xU w sz (xOb 7 [xI 0, .null, xI 0, .null, xI 0, .null, .null, .null, .null, .null, xI 0, .null, .null, xI 0, xI 0, xJ 0])) (sz + 1) (pc + 3) lv (.ref sz :: st)) : V I Z kc ks w sz pc lv st :=
  V_new (C := RX7) (T := TX7) (N := 16) (ty := tyX7) (fs := [xI 0, .null, xI 0, .null, xI 0, .null, .null, .null, .null, .null, xI 0, .null, .null, xI 0, xI 0, xJ 0]) rfl inX7 tyX7_ok (by rw [ho]; exact xG_at 745 (by decide +kernel) rfl) (xG_at 746 (by decide +kernel) rfl) (xG_at 62 (by decide +kernel) rfl) (fun Γ j hj => by rcases (show j = 0 ∨ j = 1 ∨ j = 2 ∨ j = 3 ∨ j = 4 ∨ j = 5 ∨ j = 6 ∨ j = 7 ∨ j = 8 ∨ j = 9 ∨ j = 10 ∨ j = 11 ∨ j = 12 ∨ j = 13 ∨ j = 14 ∨ j = 15 by omega) with rfl | rfl | rfl | rfl | rfl | rfl | rfl | rfl | rfl | rfl | rfl | rfl | rfl | rfl | rfl | rfl <;> rfl) hd h1 h2 kk
theorem k_head {Z : XZ} {kc ks : Nat} {w : WD} {sz χ L : Nat} {P : MP} {xs : Nat → Int32} {i : Int} (hS : ZS Z L xs) (hL : L < 2147483648) (hi : 0 ≤ i ∧ i ≤ (L : Int)) (kt : (L : Int) - 7 < i → V iL_law Z kc ks w sz 1524 [some (.ref 0), some (.ref χ), some (.ref (χ + 37)), some (.ref (χ + 47)), some (xI i), none, none, none, none] []) (kf : i ≤ (L : Int) - 7 → V iL_law Z kc ks w sz 33 [some (.ref 0), some (.ref χ), some (.ref (χ + 37)), some (.ref (χ + 47)), some (xI i), none, none, none, none] []) : V iL_law Z kc ks w sz 23 [some (.ref 0), some (.ref χ), some (.ref (χ + 37)), some (.ref (χ + 47)), some (xI i), none, none, none, none] [] := by
  refine V_iload dL_law_23 rfl ?_
  refine V_aload_n dL_law_25 0 rfl rfl ?_
  refine V_slen hS dL_law_26 ?_
  refine V_bipush dL_law_27 (by decide) ?_
  refine V_isub dL_law_29 ?_
  exact V_icmp_gt 1524 dL_law_30 (by decide) (by omega) kt kf
set_option maxRecDepth 100000 in
set_option maxHeartbeats 4000000 in
theorem k_sw {Z : XZ} {kc ks : Nat} {w : WD} {sz χ L : Nat} {P : MP} {xs : Nat → Int32} {i : Int} (hS : ZS Z L xs) (hL : L < 2147483648) (hi : 0 ≤ i ∧ i + 7 ≤ (L : Int)) (hV : LIv w sz χ P) (kk : ∀ w' sz' P', LIv w' sz' χ P' → V iL_law Z kc ks w' sz' 1518 [some (.ref 0), some (.ref χ), some (.ref (χ + 37)), some (.ref (χ + 47)), some (xI i), none, none, none, none] []) : V iL_law Z (kc + 9) (ks + 206) w sz 33 [some (.ref 0), some (.ref χ), some (.ref (χ + 37)), some (.ref (χ + 47)), some (xI i), none, none, none, none] [] := by
  refine V_aload_n dL_law_33 0 rfl rfl ?_
  refine V_iload dL_law_34 rfl ?_
  refine V_sald hS dL_law_36 (by omega) hL ?_
  refine V_bipush dL_law_37 (by decide) ?_
  refine V_iand31 dL_law_39 ?_
  generalize hm : sc xs i % 32 = m
  refine V_tab dL_law_40 (by omega) 1518 (fun _ => ⟨by decide, V_le (Nat.le_add_right _ _) (Nat.le_add_right _ _) (kk _ _ _ hV)⟩) (fun ha hb => ?_)
  rcases (show m = 0 ∨ m = 1 ∨ m = 2 ∨ m = 3 ∨ m = 4 ∨ m = 5 ∨ m = 6 ∨ m = 7 ∨ m = 8 ∨ m = 9 ∨ m = 10 ∨ m = 11 ∨ m = 12 ∨ m = 13 ∨ m = 14 ∨ m = 15 ∨ m = 16 ∨ m = 17 ∨ m = 18 ∨ m = 19 ∨ m = 20 ∨ m = 21 by omega) with e | e | e | e | e | e | e | e | e | e | e | e | e | e | e | e | e | e | e | e | e | e <;> subst e
  · exact ⟨104, 144, rfl, by decide, k_draw hS hL hi hV kk⟩
  · exact ⟨208, 248, rfl, by decide, k_fill hS hL hi hV kk⟩
  · exact ⟨264, 304, rfl, by decide, k_pick hS hL hi hV kk⟩
  · exact ⟨382, 422, rfl, by decide, k_toggle hS hL hi hV kk⟩
  · exact ⟨438, 478, rfl, by decide, k_setKind hS hL hi hV kk⟩
  · exact ⟨506, 546, rfl, by decide, k_reorder hS hL hi hV kk⟩
  · exact ⟨574, 614, rfl, by decide, k_clean hS hL hi hV kk⟩
  · exact ⟨587, 627, rfl, by decide, k_append hS hL hi hV kk⟩
  · exact ⟨643, 683, rfl, by decide, k_clearBuffer hS hL hi hV kk⟩
  · exact ⟨656, 696, rfl, by decide, k_firstError hS hL hi hV kk⟩
  · exact ⟨669, 709, rfl, by decide, k_load hS hL hi hV kk⟩
  · exact ⟨713, 753, rfl, by decide, k_undo hS hL hi hV kk⟩
  · exact ⟨757, 797, rfl, by decide, k_cell hS hL hi hV kk⟩
  · exact ⟨837, 877, rfl, by decide, k_picked hS hL hi hV kk⟩
  · exact ⟨905, 945, rfl, by decide, k_level hS hL hi hV kk⟩
  · exact ⟨985, 1025, rfl, by decide, k_count hS hL hi hV kk⟩
  · exact ⟨1041, 1081, rfl, by decide, k_areaOf hS hL hi hV kk⟩
  · exact ⟨1145, 1185, rfl, by decide, k_leastLikeness hS hL hi hV kk⟩
  · exact ⟨1263, 1303, rfl, by decide, k_partingGap hS hL hi hV kk⟩
  · exact ⟨1367, 1407, rfl, by decide, k_areas hS hL hi hV kk⟩
  · exact ⟨1423, 1463, rfl, by decide, k_coverage hS hL hi hV kk⟩
  · exact ⟨1464, 1504, rfl, by decide, k_digest hS hL hi hV kk⟩
theorem k_loop {Z : XZ} {χ L : Nat} {xs : Nat → Int32} (hS : ZS Z L xs) (hL : L < 2147483648) (hZ : ∀ (kc ks : Nat) (w : WD) (sz : Nat) (lv : List (Option Value)), V iL_law Z kc ks w sz 1525 lv [xI 1]) : ∀ (n : Nat) (w : WD) (sz : Nat) (P : MP) (i : Int), 0 ≤ i ∧ i ≤ (L : Int) → (L : Int) - 7 - i < 7 * (n : Int) → LIv w sz χ P → V iL_law Z (9 * n) (206 * n) w sz 23 [some (.ref 0), some (.ref χ), some (.ref (χ + 37)), some (.ref (χ + 47)), some (xI i), none, none, none, none] [] := by
  intro n
  induction n with
  | zero =>
    intro w sz P i h0 h1 hV
    refine k_head (P := P) hS hL h0 (fun _ => ?_) (fun h => by omega)
    refine V_iconst dL_law_1524 ?_
    exact hZ _ _ _ _ _
  | succ n ih =>
    intro w sz P i h0 h1 hV
    refine k_head (P := P) hS hL h0 (fun _ => ?_) (fun h => ?_)
    · refine V_iconst dL_law_1524 ?_
      exact hZ _ _ _ _ _
    · refine k_sw hS hL ⟨h0.1, by omega⟩ hV (fun w' sz' P' hV' => ?_)
      refine V_iinc dL_law_1518 rfl (by decide) ?_
      refine V_goto 23 dL_law_1521 (by decide) ?_
      exact ih w' sz' P' (i + 7) (by omega) (by omega) hV'
theorem MW.mn {w0 w w1 : WD} {μ : Nat} {P : MP} {K : MK} (h : MW w0 w μ P K) (e : ∀ j, μ ≤ j → j < μ + 10 → w1 j = w j) : MW w1 w1 μ P K := by
  exact ⟨(e _ (by omega) (by omega)).trans h.1, (e _ (by omega) (by omega)).trans h.2.1, (e _ (by omega) (by omega)).trans h.2.2.1, (e _ (by omega) (by omega)).trans h.2.2.2.1, (e _ (by omega) (by omega)).trans h.2.2.2.2.1, (e _ (by omega) (by omega)).trans h.2.2.2.2.2.1, (e _ (by omega) (by omega)).trans h.2.2.2.2.2.2.1, (e _ (by omega) (by omega)).trans h.2.2.2.2.2.2.2.1, (e _ (by omega) (by omega)).trans h.2.2.2.2.2.2.2.2.1, (e _ (by omega) (by omega)).trans h.2.2.2.2.2.2.2.2.2.1, fun _ _ => rfl⟩
theorem inv_0 {f : Int → Int} (hf : ∀ j, 0 ≤ j → j < 2189 → f j = if j < 160 then 50 else 0) : MInv (f, 0, (fun _ => 0), 0, (fun _ => 0)) := by
  have e160 : f 160 = 0 := (hf 160 (by omega) (by omega)).trans (if_neg (by omega))
  refine ⟨⟨fun k h1 h2 => ?_, by show 0 ≤ f 160 ∧ f 160 ≤ 12; omega, fun p h1 h2 => ?_⟩, ⟨by show (0 : Int) ≤ 0; omega, by show (0 : Int) ≤ 6; omega⟩, fun i h1 h2 => ?_, ⟨by show (0 : Int) ≤ 0; omega, by show (0 : Int) ≤ 60; omega⟩, fun j h1 h2 => ?_⟩
  · have e := hf k h1 (by omega)
    rw [if_pos h2] at e
    show 0 ≤ f k ∧ f k ≤ 99
    omega
  · have h3 : p < f 160 := h2
    omega
  · have h3 : i < 0 := h2
    omega
  · have h3 : j < 0 := h2
    omega
set_option maxRecDepth 100000 in
set_option maxHeartbeats 4000000 in
/-- the law, from its first instruction -/
theorem k_all {Z : XZ} {L : Nat} {xs : Nat → Int32} (hS : ZS Z L xs) (hL : L ≤ 3584) (hZ : ∀ (kc ks : Nat) (w : WD) (sz : Nat) (lv : List (Option Value)), V iL_law Z kc ks w sz 1525 lv [xI 1]) : V iL_law Z 5000 200000 (fun _ => none) 1 0 [some (.ref 0), none, none, none, none, none, none, none, none] [] := by
  refine V_n_L_8 (kc' := 4999) (ks' := 199994) rfl dL_law_0 (by decide) (by decide) ?_
  refine V_dup dL_law_3 rfl ?_
  refine V_c_L_72 (kc' := 4963) (ks' := 197402) rfl (by decide) (c_init (χ := 1) xU_s (fun j hj => (xU_n (by omega)).trans rfl)) dL_law_4 rfl rfl (Nat.le_of_ble_eq_true rfl) (by decide) (by decide) (fun v w1 sz1 q => ?_)
  obtain ⟨rfl, rfl, hN1, hC1⟩ := q
  refine V_astore_n dL_law_7 1 rfl (by decide) ?_
  refine V_n_L_73 (kc' := 4962) (ks' := 197386) rfl dL_law_8 (by decide) (by decide) ?_
  refine V_dup dL_law_11 rfl ?_
  refine V_c_L_75 (kc' := 4953) (ks' := 181043) rfl (by decide) (m_init (μ := 38) xU_s) dL_law_12 rfl rfl (Nat.le_of_ble_eq_true rfl) (by decide) (by decide) (fun v w2 sz2 q => ?_)
  obtain ⟨rfl, rfl, f, hM, hf⟩ := q
  refine V_astore_n dL_law_15 2 rfl (by decide) ?_
  refine V_iconst dL_law_16 ?_
  refine V_newL (kc' := 4952) (ks' := 181042) (n := 1) rfl (xG_at 1061 (by decide +kernel) rfl) dL_law_17 rfl (by decide) (by decide) (by decide) ?_
  refine V_astore_n dL_law_19 3 rfl (by decide) ?_
  refine V_iconst dL_law_20 ?_
  refine V_istore dL_law_21 (by decide) ?_
  refine V_le (kc' := 9 * 512) (ks' := 206 * 512) (by decide) (by decide) ?_
  have e1 : ∀ j, j < 38 → xU w2 48 (xLA 1 (fun _ => 0)) j = w1 j := fun j hj => (xU_n (by omega)).trans ((hM.fr j (by omega)).trans (xU_n (by omega)))
  refine k_loop (χ := 1) hS (by omega) hZ 512 _ _ (f, 0, (fun _ => 0), 0, (fun _ => 0)) 0 (by omega) (by omega) ⟨?_, inv_0 hf, ⟨_, hM.mn (fun j h1 h2 => xU_n (by omega))⟩, fun j hj => ?_, by omega, _, xU_s⟩
  · refine CP.mv (w := w1) ?_ (fun j _ hn => e1 j (hN1.lt hn))
    exact CS.c hC1 (fun k h1 h2 => hf k h1 h2) (fun i h1 h2 => by have h3 : i < 0 := h2; omega) (fun j h1 h2 => rfl)
  · exact (xU_n (by omega)).trans ((hM.fr j (by omega)).trans ((xU_n (by omega)).trans (hN1 j (by omega))))
