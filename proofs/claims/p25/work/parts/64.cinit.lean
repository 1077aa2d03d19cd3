/-! the class: made anew -/
set_option maxRecDepth 100000 in
set_option maxHeartbeats 4000000 in
theorem c_TextInit {w : WD} {τ : Nat} (hw : w τ = some (xOb 4 [.null, xI 0])) : CT iX4_init 1 60 [.ref τ] w (τ + 1) (fun o9 w' sz' => o9 = none ∧ sz' = τ + 2 ∧ XW w w' τ ((fun _ => 0), 0)) := by
  refine CT.ofZ (by decide) rfl (Nat.le_of_ble_eq_true rfl) (fun Z hE => ?_)
  refine V_aload_n dX4_init_0 0 rfl rfl ?_
  refine V_c_X4_3 rfl (by decide) (Nat.le_of_ble_eq_true rfl) dX4_init_1 ?_
  refine V_aload_n dX4_init_4 0 rfl rfl ?_
  refine V_bipush dX4_init_5 (by decide) ?_
  refine V_newI (kc' := 0) (ks' := 0) (n := 60) rfl (xG_at 83 (by decide +kernel) rfl) dX4_init_7 rfl (by decide) (by decide) (by decide) ?_
  refine V_p_X4_9 rfl rfl dX4_init_9 ((xU_n (by omega)).trans (hw)) (Nat.le_of_ble_eq_true rfl) (fun _ => rfl) (fun _ => rfl) ?_
  refine V_aload_n dX4_init_12 0 rfl rfl ?_
  refine V_iconst dX4_init_13 ?_
  refine V_p_X4_15 rfl dX4_init_14 (xU_s) (Nat.le_of_ble_eq_true rfl) (fun _ => rfl) (fun _ => rfl) ?_
  exact V_vret hE rfl dX4_init_17 ⟨rfl, rfl, ⟨xU_s, (xU_n (by omega)).trans ((xU_n (by omega)).trans (xU_s)), fun j hj => (xU_n (by omega)).trans ((xU_n (by omega)).trans ((xU_n (by omega)).trans (rfl)))⟩⟩
set_option maxRecDepth 100000 in
set_option maxHeartbeats 4000000 in
theorem c_FinderInit {w : WD} {φ : Nat} (hw : w φ = some (xOb 0 [.null, .null, .null, .null, .null, xI 0, xI 0])) : CT iX0_init 5 800 [.ref φ] w (φ + 1) (fun o9 w' sz' => o9 = none ∧ sz' = φ + 6 ∧ FW w w' φ ((fun _ => false), (fun _ => 0), (fun _ => false), (fun _ => false), (fun _ => 0), 0, 0)) := by
  refine CT.ofZ (by decide) rfl (Nat.le_of_ble_eq_true rfl) (fun Z hE => ?_)
  refine V_aload_n dX0_init_0 0 rfl rfl ?_
  refine V_c_X0_3 rfl (by decide) (Nat.le_of_ble_eq_true rfl) dX0_init_1 ?_
  refine V_aload_n dX0_init_4 0 rfl rfl ?_
  refine V_sipush dX0_init_5 (by decide) ?_
  refine V_newB (kc' := 4) (ks' := 640) (n := 160) rfl (xG_at 183 (by decide +kernel) rfl) dX0_init_8 rfl (by decide) (by decide) (by decide) ?_
  refine V_p_X0_9 rfl rfl dX0_init_10 ((xU_n (by omega)).trans (hw)) (Nat.le_of_ble_eq_true rfl) (fun _ => rfl) (fun _ => rfl) ?_
  refine V_aload_n dX0_init_13 0 rfl rfl ?_
  refine V_sipush dX0_init_14 (by decide) ?_
  refine V_newI (kc' := 3) (ks' := 480) (n := 160) rfl (xG_at 83 (by decide +kernel) rfl) dX0_init_17 rfl (by decide) (by decide) (by decide) ?_
  refine V_p_X0_15 rfl rfl dX0_init_19 ((xU_n (by omega)).trans (xU_s)) (Nat.le_of_ble_eq_true rfl) (fun _ => rfl) (fun _ => rfl) ?_
  refine V_aload_n dX0_init_22 0 rfl rfl ?_
  refine V_sipush dX0_init_23 (by decide) ?_
  refine V_newB (kc' := 2) (ks' := 320) (n := 160) rfl (xG_at 183 (by decide +kernel) rfl) dX0_init_26 rfl (by decide) (by decide) (by decide) ?_
  refine V_p_X0_19 rfl rfl dX0_init_28 ((xU_n (by omega)).trans (xU_s)) (Nat.le_of_ble_eq_true rfl) (fun _ => rfl) (fun _ => rfl) ?_
  refine V_aload_n dX0_init_31 0 rfl rfl ?_
  refine V_sipush dX0_init_32 (by decide) ?_
  refine V_newB (kc' := 1) (ks' := 160) (n := 160) rfl (xG_at 183 (by decide +kernel) rfl) dX0_init_35 rfl (by decide) (by decide) (by decide) ?_
  refine V_p_X0_22 rfl rfl dX0_init_37 ((xU_n (by omega)).trans (xU_s)) (Nat.le_of_ble_eq_true rfl) (fun _ => rfl) (fun _ => rfl) ?_
  refine V_aload_n dX0_init_40 0 rfl rfl ?_
  refine V_sipush dX0_init_41 (by decide) ?_
  refine V_newI (kc' := 0) (ks' := 0) (n := 160) rfl (xG_at 83 (by decide +kernel) rfl) dX0_init_44 rfl (by decide) (by decide) (by decide) ?_
  refine V_p_X0_25 rfl rfl dX0_init_46 ((xU_n (by omega)).trans (xU_s)) (Nat.le_of_ble_eq_true rfl) (fun _ => rfl) (fun _ => rfl) ?_
  refine V_aload_n dX0_init_49 0 rfl rfl ?_
  refine V_iconst dX0_init_50 ?_
  refine V_p_X0_28 rfl dX0_init_51 (xU_s) (Nat.le_of_ble_eq_true rfl) (fun _ => rfl) (fun _ => rfl) ?_
  refine V_aload_n dX0_init_54 0 rfl rfl ?_
  refine V_iconst dX0_init_55 ?_
  refine V_p_X0_32 rfl dX0_init_56 (xU_s) (Nat.le_of_ble_eq_true rfl) (fun _ => rfl) (fun _ => rfl) ?_
  exact V_vret hE rfl dX0_init_59 ⟨rfl, rfl, ⟨xU_s, (xU_n (by omega)).trans ((xU_n (by omega)).trans ((xU_n (by omega)).trans ((xU_n (by omega)).trans ((xU_n (by omega)).trans ((xU_n (by omega)).trans ((xU_n (by omega)).trans ((xU_n (by omega)).trans ((xU_n (by omega)).trans ((xU_n (by omega)).trans ((xU_n (by omega)).trans (xU_s))))))))))), (xU_n (by omega)).trans ((xU_n (by omega)).trans ((xU_n (by omega)).trans ((xU_n (by omega)).trans ((xU_n (by omega)).trans ((xU_n (by omega)).trans ((xU_n (by omega)).trans ((xU_n (by omega)).trans ((xU_n (by omega)).trans (xU_s))))))))), (xU_n (by omega)).trans ((xU_n (by omega)).trans ((xU_n (by omega)).trans ((xU_n (by omega)).trans ((xU_n (by omega)).trans ((xU_n (by omega)).trans ((xU_n (by omega)).trans (xU_s))))))), (xU_n (by omega)).trans ((xU_n (by omega)).trans ((xU_n (by omega)).trans ((xU_n (by omega)).trans ((xU_n (by omega)).trans (xU_s))))), (xU_n (by omega)).trans ((xU_n (by omega)).trans ((xU_n (by omega)).trans (xU_s))), fun j hj => (xU_n (by omega)).trans ((xU_n (by omega)).trans ((xU_n (by omega)).trans ((xU_n (by omega)).trans ((xU_n (by omega)).trans ((xU_n (by omega)).trans ((xU_n (by omega)).trans ((xU_n (by omega)).trans ((xU_n (by omega)).trans ((xU_n (by omega)).trans ((xU_n (by omega)).trans ((xU_n (by omega)).trans (rfl))))))))))))⟩⟩
set_option maxRecDepth 100000 in
set_option maxHeartbeats 4000000 in
theorem c_StateInit {w : WD} {σ i9 : Nat} {fs : List Value} (hw : w σ = some (xOb 5 [.null, .null, xI 0])) (hp : w i9 = some (xOb 3 fs)) (hi : i9 < σ ∨ σ + 3 ≤ i9) : CT iX5_init 2 172 [.ref σ, .ref i9] w (σ + 1) (fun o9 w' sz' => o9 = none ∧ sz' = σ + 3 ∧ ∃ f g, SW w w' σ (f, g, 0) ∧ (∀ j, 0 ≤ j → j < 160 → f j = 50) ∧ ∀ j : Int, 0 ≤ j → j < 12 → g j.toNat = some i9) := by
  refine CT.ofZ (by decide) rfl (Nat.le_of_ble_eq_true rfl) (fun Z hE => ?_)
  refine V_aload_n dX5_init_0 0 rfl rfl ?_
  refine V_c_X5_3 rfl (by decide) (Nat.le_of_ble_eq_true rfl) dX5_init_1 ?_
  refine V_aload_n dX5_init_4 0 rfl rfl ?_
  refine V_sipush dX5_init_5 (by decide) ?_
  refine V_newI (kc' := 1) (ks' := 12) (n := 160) rfl (xG_at 83 (by decide +kernel) rfl) dX5_init_8 rfl (by decide) (by decide) (by decide) ?_
  refine V_p_X5_9 rfl rfl dX5_init_10 ((xU_n (by omega)).trans (hw)) (Nat.le_of_ble_eq_true rfl) (fun _ => rfl) (fun _ => rfl) ?_
  refine V_aload_n dX5_init_13 0 rfl rfl ?_
  refine V_bipush dX5_init_14 (by decide) ?_
  refine V_newR (t := 3) (C := "AreaPicker$Pick") (kc' := 0) (ks' := 0) (n := 12) (fun _ => rfl) (xG_at 109 (by decide +kernel) rfl) (by decide) dX5_init_16 rfl (by decide) (by decide) (by decide) ?_
  refine V_p_X5_17 rfl rfl dX5_init_19 ((xU_n (by omega)).trans (xU_s)) (Nat.le_of_ble_eq_true rfl) (fun _ => rfl) (fun _ => rfl) ?_
  refine V_aload_n dX5_init_22 0 rfl rfl ?_
  refine V_iconst dX5_init_23 ?_
  refine V_p_X5_21 rfl dX5_init_24 (xU_s) (Nat.le_of_ble_eq_true rfl) (fun _ => rfl) (fun _ => rfl) ?_
  refine V_iconst dX5_init_27 ?_
  refine V_istore_n dX5_init_28 2 rfl (by decide) ?_
  have L29 : ∀ k : Int, 0 ≤ k → k ≤ 160 → ∀ (w' : WD) (f : Int → Int), SW w w' σ (f, (fun _ => none), 0) → (∀ j, 0 ≤ j → j < k → f j = 50) → V iX5_init Z 0 0 w' (σ + 3) 29 [some (.ref σ), some (.ref i9), some (xI k)] [] := by
    refine up_ind ?_
    intro k hk0 hk1 ih w' f hM hf
    refine V_iload_n dX5_init_29 2 rfl rfl ?_
    refine V_sipush dX5_init_30 (by decide) ?_
    refine V_icmp_ge 50 dX5_init_33 (by decide) (by omega) (fun h33 => ?_) (fun h33 => ?_)
    · refine V_iconst dX5_init_50 ?_
      refine V_istore_n dX5_init_51 2 rfl (by decide) ?_
      have L52 : ∀ k : Int, 0 ≤ k → k ≤ 12 → ∀ (w' : WD) (g : Nat → Option Nat), SW w w' σ (f, g, 0) → (∀ j, 0 ≤ j → j < k → g j.toNat = some i9) → V iX5_init Z 0 0 w' (σ + 3) 52 [some (.ref σ), some (.ref i9), some (xI k)] [] := by
        refine up_ind ?_
        intro k hk0 hk1 ih w' g hM hg
        refine V_iload_n dX5_init_52 2 rfl rfl ?_
        refine V_bipush dX5_init_53 (by decide) ?_
        refine V_icmp_ge 71 dX5_init_55 (by decide) (by omega) (fun h55 => ?_) (fun h55 => ?_)
        · exact V_vret hE rfl dX5_init_71 ⟨rfl, rfl, f, g, hM, fun j g1 g2 => hf j g1 (by omega), fun j g1 g2 => hg j g1 (by omega)⟩
        · refine V_aload_n dX5_init_58 0 rfl rfl ?_
          refine S_g_picks hM rfl dX5_init_59 ?_
          refine V_iload_n dX5_init_62 2 rfl rfl ?_
          refine V_aload_n dX5_init_63 1 rfl rfl ?_
          refine S_a_picks hM dX5_init_64 ⟨hk0, by omega⟩ ((SW.fr hM _ hi).trans hp) (fun w hM => ?_)
          refine V_iinc dX5_init_65 rfl (by decide) ?_
          refine V_goto 52 dX5_init_68 (by decide) ?_
          refine ih (by omega) _ _ hM (fun j g1 g2 => ?_)
          try dsimp only
          by_cases e : j = k
          · rw [e]; exact upn_s
          · rw [upn_n (by omega)]; exact hg j g1 (by omega)
      exact L52 (0) (by omega) (by omega) _ _ hM (fun j g1 g2 => by omega)
    · refine V_aload_n dX5_init_36 0 rfl rfl ?_
      refine S_g_shades hM rfl dX5_init_37 ?_
      refine V_iload_n dX5_init_40 2 rfl rfl ?_
      refine V_bipush dX5_init_41 (by decide) ?_
      refine S_s_shades hM dX5_init_43 (by first | omega | (dsimp only; omega) | (dsimp only at *; omega)) (fun w hM => ?_)
      refine V_iinc dX5_init_44 rfl (by decide) ?_
      refine V_goto 29 dX5_init_47 (by decide) ?_
      refine ih (by omega) _ _ hM (fun j g1 g2 => ?_)
      try dsimp only
      by_cases e : j = k
      · rw [e, iu_s]
      · rw [iu_n e]; exact hf j g1 (by omega)
  exact L29 (0) (by omega) (by omega) _ (fun _ => 0) ⟨xU_s, (xU_n (by omega)).trans ((xU_n (by omega)).trans ((xU_n (by omega)).trans ((xU_n (by omega)).trans (xU_s)))), (xU_n (by omega)).trans ((xU_n (by omega)).trans (xU_s)), fun j hj => (xU_n (by omega)).trans ((xU_n (by omega)).trans ((xU_n (by omega)).trans ((xU_n (by omega)).trans ((xU_n (by omega)).trans (rfl)))))⟩ (fun j g1 g2 => by omega)
theorem V_n_X2_9 {I : XI} {Z : XZ} {kc ks kc' ks' : Nat} {w : WD} {sz pc : Nat} {lv : List (Option Value)} {st : List Value} (ho : I.y.cls = RX2) (hd : decode I.cc pc = .ok (.new 9, 3)) (h1 : kc' + 1 ≤ kc) (h2 : ks' + 3 ≤ ks) (kk : V I Z kc' ks' (xU w sz (xOb 5 [.null, .null, xI 0])) (sz + 1) (pc + 3) lv (.ref sz :: st)) : V I Z kc ks w sz pc lv st :=
  V_new (C := RX5) (T := TX5) (N := 3) (ty := tyX5) (fs := [.null, .null, xI 0]) rfl inX5 tyX5_ok (by rw [ho]; exact xG_at 130 (by decide +kernel) rfl) (xG_at 104 (by decide +kernel) rfl) (xG_at 23 (by decide +kernel) rfl) (fun Γ j hj => by rcases (show j = 0 ∨ j = 1 ∨ j = 2 by omega) with rfl | rfl | rfl <;> rfl) hd h1 h2 kk
set_option maxRecDepth 100000 in
set_option maxHeartbeats 4000000 in
theorem c_HistInit {w : WD} {η i9 : Nat} {fs : List Value} (hw : w η = some (xOb 2 [.null, xI 0])) (hp : w i9 = some (xOb 3 fs)) (hi : i9 < η) : CT iX2_init 19 1056 [.ref η, .ref i9] w (η + 1) (fun o9 w' sz' => o9 = none ∧ sz' = η + 20 ∧ ∃ h : Nat → Option Nat, w' η = some (xOb 2 [.ref (η + 1), xI 0]) ∧ w' (η + 1) = some (xRA 4 6 h) ∧ (∀ i : Int, 0 ≤ i → i < 6 → h i.toNat = some (η + 2 + 3 * i.toNat) ∧ ∃ f g, SW w' w' (η + 2 + 3 * i.toNat) (f, g, 0) ∧ (∀ j, 0 ≤ j → j < 160 → f j = 50) ∧ ∀ j : Int, 0 ≤ j → j < 12 → g j.toNat = some i9) ∧ ∀ j, (j < η ∨ η + 20 ≤ j) → w' j = w j) := by
  refine CT.ofZ (by decide) rfl (Nat.le_of_ble_eq_true rfl) (fun Z hE => ?_)
  refine V_aload_n dX2_init_0 0 rfl rfl ?_
  refine V_c_X2_3 rfl (by decide) (Nat.le_of_ble_eq_true rfl) dX2_init_1 ?_
  refine V_aload_n dX2_init_4 0 rfl rfl ?_
  refine V_bipush dX2_init_5 (by decide) ?_
  refine V_newR (t := 4) (C := "AreaPicker$State") (kc' := 18) (ks' := 1050) (n := 6) (fun _ => rfl) (xG_at 130 (by decide +kernel) rfl) (by decide) dX2_init_7 rfl (by decide) (by decide) (by decide) ?_
  refine V_p_X2_11 rfl rfl dX2_init_10 ((xU_n (by omega)).trans (hw)) (Nat.le_of_ble_eq_true rfl) (fun _ => rfl) (fun _ => rfl) ?_
  refine V_aload_n dX2_init_13 0 rfl rfl ?_
  refine V_iconst dX2_init_14 ?_
  refine V_p_X2_17 rfl dX2_init_15 (xU_s) (Nat.le_of_ble_eq_true rfl) (fun _ => rfl) (fun _ => rfl) ?_
  refine V_iconst dX2_init_18 ?_
  refine V_istore_n dX2_init_19 2 rfl (by decide) ?_
  have L20 : ∀ k : Int, 0 ≤ k → k ≤ 6 → ∀ (w' : WD) (h : Nat → Option Nat), w' η = some (xOb 2 [.ref (η + 1), xI 0]) → w' (η + 1) = some (xRA 4 6 h) → (∀ i : Int, 0 ≤ i → i < k → h i.toNat = some (η + 2 + 3 * i.toNat) ∧ ∃ f g, SW w' w' (η + 2 + 3 * i.toNat) (f, g, 0) ∧ (∀ j, 0 ≤ j → j < 160 → f j = 50) ∧ ∀ j : Int, 0 ≤ j → j < 12 → g j.toNat = some i9) → (∀ j, (j < η ∨ η + 2 + 3 * k.toNat ≤ j) → w' j = w j) → V iX2_init Z (3 * (6 - k.toNat)) (175 * (6 - k.toNat)) w' (η + 2 + 3 * k.toNat) 20 [some (.ref η), some (.ref i9), some (xI k)] [] := by
    refine up_ind ?_
    intro k hk0 hk1 ih w' h h1 h2 h3 hfr
    have ez : η + 2 + 3 * (k + 1).toNat = η + 2 + 3 * k.toNat + 3 := by omega
    rw [ez] at ih
    refine V_iload_n dX2_init_20 2 rfl rfl ?_
    refine V_bipush dX2_init_21 (by decide) ?_
    refine V_icmp_ge 46 dX2_init_23 (by decide) (by omega) (fun h23 => ?_) (fun h23 => ?_)
    · exact V_vret hE rfl dX2_init_46 ⟨rfl, by omega, h, h1, h2, fun i g1 g2 => h3 i g1 (by omega), fun j hj => hfr j (by omega)⟩
    · refine V_aload_n dX2_init_26 0 rfl rfl ?_
      refine V_g_X2_11 rfl dX2_init_27 h1 rfl ?_
      refine V_iload_n dX2_init_30 2 rfl rfl ?_
      refine V_n_X2_9 (kc' := 3 * (6 - k.toNat) - 1) (ks' := 175 * (6 - k.toNat) - 3) rfl dX2_init_31 (by omega) (by omega) ?_
      refine V_dup dX2_init_34 rfl ?_
      refine V_aload_n dX2_init_35 1 rfl rfl ?_
      refine V_c_X2_21 rfl (kc' := 3 * (6 - (k + 1).toNat)) (ks' := 175 * (6 - (k + 1).toNat)) (by decide) (c_StateInit xU_s ((xU_n (by omega)).trans ((hfr _ (by omega)).trans hp)) (by omega)) dX2_init_36 rfl rfl (Nat.le_of_ble_eq_true rfl) (by omega) (by omega) (fun v w2 sz2 q => ?_)
      obtain ⟨rfl, rfl, f, g, hS, hf, hg⟩ := q
      refine V_aast (t := 4) (ci := 5) (fun _ => rfl) rfl dX2_init_39 ((SW.fr hS _ (by omega)).trans ((xU_n (by omega)).trans h2)) hS.1 ⟨hk0, by omega⟩ ?_
      refine V_iinc dX2_init_40 rfl (by decide) ?_
      refine V_goto 20 dX2_init_43 (by decide) ?_
      refine ih (by omega) _ (va_up h k.toNat (some (η + 2 + 3 * k.toNat))) ((xU_n (by omega)).trans ((SW.fr hS _ (by omega)).trans ((xU_n (by omega)).trans h1))) xU_s (fun i g1 g2 => ?_) (fun j hj => (xU_n (by omega)).trans ((SW.fr hS _ (by omega)).trans ((xU_n (by omega)).trans (hfr j (by omega)))))
      by_cases e : i = k
      · rw [e]
        exact ⟨upn_s, f, g, SW.mv hS (fun j j0 j1 => xU_n (by omega)), hf, hg⟩
      · obtain ⟨a1, f1, g3, a2, a3⟩ := h3 i g1 (by omega)
        exact ⟨(upn_n (by omega)).trans a1, f1, g3, SW.mv a2 (fun j j0 j1 => (xU_n (by omega)).trans ((SW.fr hS _ (by omega)).trans (xU_n (by omega)))), a3⟩
  exact L20 (0) (by omega) (by omega) _ (fun _ => none) (xU_s) ((xU_n (by omega)).trans ((xU_n (by omega)).trans (xU_s))) (fun i g1 g2 => by omega) (fun j hj => (xU_n (by omega)).trans ((xU_n (by omega)).trans ((xU_n (by omega)).trans (rfl))))
