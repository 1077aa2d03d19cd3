/-! the class: the whole object made anew -/
theorem V_n_X6_19 {I : XI} {Z : XZ} {kc ks kc' ks' : Nat} {w : WD} {sz pc : Nat} {lv : List (Option Value)} {st : List Value} (ho : I.y.cls = RX6) (hd : decode I.cc pc = .ok (.new 19, 3)) (h1 : kc' + 1 ≤ kc) (h2 : ks' + 3 ≤ ks) (kk : V I Z kc' ks' (xU w sz (xOb 5 [.null, .null, xI 0])) (sz + 1) (pc + 3) lv (.ref sz :: st)) : V I Z kc ks w sz pc lv st :=
  V_new (C := RX5) (T := TX5) (N := 3) (ty := tyX5) (fs := [.null, .null, xI 0]) rfl inX5 tyX5_ok (by rw [ho]; exact xG_at 103 (by decide +kernel) rfl) (xG_at 104 (by decide +kernel) rfl) (xG_at 23 (by decide +kernel) rfl) (fun Γ j hj => by rcases (show j = 0 ∨ j = 1 ∨ j = 2 by omega) with rfl | rfl | rfl <;> rfl) hd h1 h2 kk
theorem V_n_X6_28 {I : XI} {Z : XZ} {kc ks kc' ks' : Nat} {w : WD} {sz pc : Nat} {lv : List (Option Value)} {st : List Value} (ho : I.y.cls = RX6) (hd : decode I.cc pc = .ok (.new 28, 3)) (h1 : kc' + 1 ≤ kc) (h2 : ks' + 2 ≤ ks) (kk : V I Z kc' ks' (xU w sz (xOb 2 [.null, xI 0])) (sz + 1) (pc + 3) lv (.ref sz :: st)) : V I Z kc ks w sz pc lv st :=
  V_new (C := RX2) (T := TX2) (N := 2) (ty := tyX2) (fs := [.null, xI 0]) rfl inX2 tyX2_ok (by rw [ho]; exact xG_at 124 (by decide +kernel) rfl) (xG_at 125 (by decide +kernel) rfl) (xG_at 24 (by decide +kernel) rfl) (fun Γ j hj => by rcases (show j = 0 ∨ j = 1 by omega) with rfl | rfl <;> rfl) hd h1 h2 kk
theorem V_n_X6_35 {I : XI} {Z : XZ} {kc ks kc' ks' : Nat} {w : WD} {sz pc : Nat} {lv : List (Option Value)} {st : List Value} (ho : I.y.cls = RX6) (hd : decode I.cc pc = .ok (.new 35, 3)) (h1 : kc' + 1 ≤ kc) (h2 : ks' + 2 ≤ ks) (kk : V I Z kc' ks' (xU w sz (xOb 4 [.null, xI 0])) (sz + 1) (pc + 3) lv (.ref sz :: st)) : V I Z kc ks w sz pc lv st :=
  V_new (C := RX4) (T := TX4) (N := 2) (ty := tyX4) (fs := [.null, xI 0]) rfl inX4 tyX4_ok (by rw [ho]; exact xG_at 141 (by decide +kernel) rfl) (xG_at 142 (by decide +kernel) rfl) (xG_at 25 (by decide +kernel) rfl) (fun Γ j hj => by rcases (show j = 0 ∨ j = 1 by omega) with rfl | rfl <;> rfl) hd h1 h2 kk
theorem V_n_X6_42 {I : XI} {Z : XZ} {kc ks kc' ks' : Nat} {w : WD} {sz pc : Nat} {lv : List (Option Value)} {st : List Value} (ho : I.y.cls = RX6) (hd : decode I.cc pc = .ok (.new 42, 3)) (h1 : kc' + 1 ≤ kc) (h2 : ks' + 7 ≤ ks) (kk : V I Z kc' ks' (xU w sz (xOb 0 [.null, .null, .null, .null, .null, xI 0, xI 0])) (sz + 1) (pc + 3) lv (.ref sz :: st)) : V I Z kc ks w sz pc lv st :=
  V_new (C := RX0) (T := TX0) (N := 7) (ty := tyX0) (fs := [.null, .null, .null, .null, .null, xI 0, xI 0]) rfl inX0 tyX0_ok (by rw [ho]; exact xG_at 154 (by decide +kernel) rfl) (xG_at 155 (by decide +kernel) rfl) (xG_at 26 (by decide +kernel) rfl) (fun Γ j hj => by rcases (show j = 0 ∨ j = 1 ∨ j = 2 ∨ j = 3 ∨ j = 4 ∨ j = 5 ∨ j = 6 by omega) with rfl | rfl | rfl | rfl | rfl | rfl | rfl <;> rfl) hd h1 h2 kk
set_option maxRecDepth 100000 in
set_option maxHeartbeats 4000000 in
theorem c_init {w : WD} {χ : Nat} (hw : w χ = some (xOb 6 [.null, .null, .null, .null, .null, .null])) (hN : WN w (χ + 1)) : CT iX6_init 36 2592 [.ref χ] w (χ + 1) (fun o9 w' sz' => o9 = none ∧ sz' = χ + 37 ∧ WN w' (χ + 37) ∧ CP w' χ ((fun k => if k < 160 then 50 else 0), 0, (fun _ => 0), 0, (fun _ => 0))) := by
  refine CT.ofZ (by decide) rfl (Nat.le_of_ble_eq_true rfl) (fun Z hE => ?_)
  refine V_aload_n dX6_init_0 0 rfl rfl ?_
  refine V_c_X6_3 rfl (by decide) (Nat.le_of_ble_eq_true rfl) dX6_init_1 ?_
  refine V_n_X6_9 (kc' := 35) (ks' := 2589) rfl dX6_init_4 (Nat.le_of_ble_eq_true rfl) (Nat.le_of_ble_eq_true rfl) ?_
  refine V_dup dX6_init_7 rfl ?_
  refine V_n_X6_11 (kc' := 34) (ks' := 2582) rfl dX6_init_8 (Nat.le_of_ble_eq_true rfl) (Nat.le_of_ble_eq_true rfl) ?_
  refine V_dup dX6_init_11 rfl ?_
  refine V_iconst dX6_init_12 ?_
  refine V_iconst dX6_init_13 ?_
  refine V_iconst dX6_init_14 ?_
  refine V_iconst dX6_init_15 ?_
  refine V_iconst dX6_init_16 ?_
  refine V_iconst dX6_init_17 ?_
  refine V_sipush dX6_init_18 (by decide) ?_
  refine V_newI (kc' := 33) (ks' := 2422) (n := 160) rfl (xG_at 83 (by decide +kernel) rfl) dX6_init_21 rfl (by decide) (by decide) (by decide) ?_
  refine V_c_X6_13 rfl (by decide) (c_FoundInit ((xU_n (by omega)).trans xU_s)) dX6_init_23 rfl rfl (Nat.le_of_ble_eq_true rfl) (Nat.le_of_eq (Nat.zero_add _)) (Nat.le_of_eq (Nat.zero_add _)) (fun v w4 sz4 q => ?_)
  obtain ⟨rfl, rfl, hu4⟩ := q
  refine V_iconst dX6_init_26 ?_
  refine V_iconst dX6_init_27 ?_
  refine V_c_X6_16 rfl (by decide) (c_PickInit (b := false) ((hu4.2 _ (by omega)).trans ((xU_n (by omega)).trans ((xU_n (by omega)).trans xU_s)))) dX6_init_28 rfl rfl (Nat.le_of_ble_eq_true rfl) (Nat.le_of_eq (Nat.zero_add _)) (Nat.le_of_eq (Nat.zero_add _)) (fun v w5 sz5 q => ?_)
  obtain ⟨rfl, rfl, hu5⟩ := q
  have hag : ∀ j, j < χ + 1 ∨ χ + 4 ≤ j → w5 j = w j := fun j hj => (hu5.2 j (by omega)).trans ((hu4.2 j (by omega)).trans ((xU_n (by omega)).trans ((xU_n (by omega)).trans (xU_n (by omega)))))
  have hob := (hag χ (by omega)).trans hw
  have hpk := hu5.1
  have hfd := (hu5.2 (χ + 2) (by omega)).trans hu4.1
  have hlv := (hu5.2 (χ + 3) (by omega)).trans ((hu4.2 (χ + 3) (by omega)).trans xU_s)
  clear hu4 hu5
  refine V_astore_n dX6_init_31 1 rfl (by decide) ?_
  have hagP : ∀ j, χ + 4 ≤ j → w5 j = w j := fun j hj => hag j (by omega)
  clear hag
  obtain ⟨wp, hwp⟩ : ∃ wp, wp = w5 := ⟨_, rfl⟩
  rw [← hwp] at hob hpk hfd hlv hagP ⊢
  refine V_aload_n dX6_init_32 0 rfl rfl ?_
  refine V_n_X6_19 (kc' := 32) (ks' := 2419) rfl dX6_init_33 (Nat.le_of_ble_eq_true rfl) (Nat.le_of_ble_eq_true rfl) ?_
  refine V_dup dX6_init_36 rfl ?_
  refine V_aload_n dX6_init_37 1 rfl rfl ?_
  refine V_c_X6_21 rfl (kc' := 30) (ks' := 2247) (by decide) (c_StateInit xU_s ((xU_n (by omega)).trans hpk) (by omega)) dX6_init_38 rfl rfl (Nat.le_of_ble_eq_true rfl) (Nat.le_of_ble_eq_true rfl) (Nat.le_of_ble_eq_true rfl) (fun v w6 sz9 q => ?_)
  obtain ⟨rfl, rfl, f6, g6, hS, hf6, hg6⟩ := q
  have hag9 : ∀ j, j < χ + 4 → True → w6 j = wp j := fun j hj _ => (SW.fr hS j (by omega)).trans (xU_n (by omega))
  have hagW : ∀ j, χ + 7 ≤ j → w6 j = w j := fun j hj => (SW.fr hS j (by omega)).trans ((xU_n (by omega)).trans (hagP j (by omega)))
  replace hob := (hag9 χ (by omega) trivial).trans hob
  replace hpk := (hag9 _ (by omega) trivial).trans hpk
  replace hfd := (hag9 _ (by omega) trivial).trans hfd
  replace hlv := (hag9 _ (by omega) trivial).trans hlv
  replace hS := SW.rb hS
  refine V_p_X6_24 rfl rfl dX6_init_41 hob (Nat.le_of_ble_eq_true rfl) (fun _ => rfl) (fun _ => rfl) ?_
  refine (?_ : ∀ wp : WD, wp χ = some (xOb 6 [.ref (χ + 4), .null, .null, .null, .null, .null]) → (∀ j, j ≠ χ → wp j = w6 j) → V iX6_init Z 30 2247 wp _ _ _ _) _ xU_s (fun j hj => xU_n hj)
  intro wp hob hagX
  have hagP : ∀ j, χ + 7 ≤ j → wp j = w j := fun j hj => (hagX j (by omega)).trans (hagW j (by omega))
  replace hpk := (hagX _ (by omega)).trans hpk
  replace hfd := (hagX _ (by omega)).trans hfd
  replace hlv := (hagX _ (by omega)).trans hlv
  replace hS := SW.mv hS (fun j j0 j1 => hagX j (by omega))
  refine V_aload_n dX6_init_44 0 rfl rfl ?_
  refine V_n_X6_28 (kc' := 29) (ks' := 2245) rfl dX6_init_45 (Nat.le_of_ble_eq_true rfl) (Nat.le_of_ble_eq_true rfl) ?_
  refine V_dup dX6_init_48 rfl ?_
  refine V_aload_n dX6_init_49 1 rfl rfl ?_
  refine V_c_X6_30 rfl (kc' := 10) (ks' := 1189) (by decide) (c_HistInit xU_s ((xU_n (by omega)).trans hpk) (by omega)) dX6_init_50 rfl rfl (Nat.le_of_ble_eq_true rfl) (Nat.le_of_ble_eq_true rfl) (Nat.le_of_ble_eq_true rfl) (fun v w8 sz9 q => ?_)
  obtain ⟨rfl, rfl, hq, hh1, hh2, hh3, hfr8⟩ := q
  have hag9 : ∀ j, j < χ + 7 → True → w8 j = wp j := fun j hj _ => (hfr8 j (by omega)).trans (xU_n (by omega))
  have hagW : ∀ j, χ + 27 ≤ j → w8 j = w j := fun j hj => (hfr8 j (by omega)).trans ((xU_n (by omega)).trans (hagP j (by omega)))
  replace hob := (hag9 χ (by omega) trivial).trans hob
  replace hpk := (hag9 _ (by omega) trivial).trans hpk
  replace hfd := (hag9 _ (by omega) trivial).trans hfd
  replace hlv := (hag9 _ (by omega) trivial).trans hlv
  replace hS := SW.mv hS (fun j j0 j1 => hag9 j (by omega) trivial)
  refine V_p_X6_31 rfl rfl dX6_init_53 hob (Nat.le_of_ble_eq_true rfl) (fun _ => rfl) (fun _ => rfl) ?_
  refine (?_ : ∀ wp : WD, wp χ = some (xOb 6 [.ref (χ + 4), .ref (χ + 7), .null, .null, .null, .null]) → (∀ j, j ≠ χ → wp j = w8 j) → V iX6_init Z 10 1189 wp _ _ _ _) _ xU_s (fun j hj => xU_n hj)
  intro wp hob hagX
  have hagP : ∀ j, χ + 27 ≤ j → wp j = w j := fun j hj => (hagX j (by omega)).trans (hagW j (by omega))
  replace hpk := (hagX _ (by omega)).trans hpk
  replace hfd := (hagX _ (by omega)).trans hfd
  replace hlv := (hagX _ (by omega)).trans hlv
  replace hS := SW.mv hS (fun j j0 j1 => hagX j (by omega))
  replace hh1 := (hagX _ (by omega)).trans hh1
  replace hh2 := (hagX _ (by omega)).trans hh2
  replace hh3 : ∀ i : Int, 0 ≤ i → i < 6 → hq i.toNat = some (χ + 7 + 2 + 3 * i.toNat) ∧ ∃ f g, SW wp wp (χ + 7 + 2 + 3 * i.toNat) (f, g, 0) ∧ (∀ j, 0 ≤ j → j < 160 → f j = 50) ∧ ∀ j : Int, 0 ≤ j → j < 12 → g j.toNat = some (χ + 1) := fun i i0 i1 => by
    obtain ⟨a1, f1, g1, a2, a3⟩ := hh3 i i0 i1
    exact ⟨a1, f1, g1, SW.mv a2 (fun j j0 j1 => hagX j (by omega)), a3⟩
  refine V_aload_n dX6_init_56 0 rfl rfl ?_
  refine V_n_X6_35 (kc' := 9) (ks' := 1187) rfl dX6_init_57 (Nat.le_of_ble_eq_true rfl) (Nat.le_of_ble_eq_true rfl) ?_
  refine V_dup dX6_init_60 rfl ?_
  refine V_c_X6_37 rfl (kc' := 8) (ks' := 1127) (by decide) (c_TextInit xU_s) dX6_init_61 rfl rfl (Nat.le_of_ble_eq_true rfl) (Nat.le_of_ble_eq_true rfl) (Nat.le_of_ble_eq_true rfl) (fun v w10 sz9 q => ?_)
  obtain ⟨rfl, rfl, hX⟩ := q
  have hag9 : ∀ j, j < χ + 27 → True → w10 j = wp j := fun j hj _ => (XW.fr hX j (by omega)).trans (xU_n (by omega))
  have hagW : ∀ j, χ + 29 ≤ j → w10 j = w j := fun j hj => (XW.fr hX j (by omega)).trans ((xU_n (by omega)).trans (hagP j (by omega)))
  replace hob := (hag9 χ (by omega) trivial).trans hob
  replace hpk := (hag9 _ (by omega) trivial).trans hpk
  replace hfd := (hag9 _ (by omega) trivial).trans hfd
  replace hlv := (hag9 _ (by omega) trivial).trans hlv
  replace hS := SW.mv hS (fun j j0 j1 => hag9 j (by omega) trivial)
  replace hh1 := (hag9 _ (by omega) trivial).trans hh1
  replace hh2 := (hag9 _ (by omega) trivial).trans hh2
  replace hh3 : ∀ i : Int, 0 ≤ i → i < 6 → hq i.toNat = some (χ + 7 + 2 + 3 * i.toNat) ∧ ∃ f g, SW w10 w10 (χ + 7 + 2 + 3 * i.toNat) (f, g, 0) ∧ (∀ j, 0 ≤ j → j < 160 → f j = 50) ∧ ∀ j : Int, 0 ≤ j → j < 12 → g j.toNat = some (χ + 1) := fun i i0 i1 => by
    obtain ⟨a1, f1, g1, a2, a3⟩ := hh3 i i0 i1
    exact ⟨a1, f1, g1, SW.mv a2 (fun j j0 j1 => hag9 j (by omega) trivial), a3⟩
  replace hX := XW.rb hX
  refine V_p_X6_38 rfl rfl dX6_init_64 hob (Nat.le_of_ble_eq_true rfl) (fun _ => rfl) (fun _ => rfl) ?_
  refine (?_ : ∀ wp : WD, wp χ = some (xOb 6 [.ref (χ + 4), .ref (χ + 7), .ref (χ + 27), .null, .null, .null]) → (∀ j, j ≠ χ → wp j = w10 j) → V iX6_init Z 8 1127 wp _ _ _ _) _ xU_s (fun j hj => xU_n hj)
  intro wp hob hagX
  have hagP : ∀ j, χ + 29 ≤ j → wp j = w j := fun j hj => (hagX j (by omega)).trans (hagW j (by omega))
  replace hpk := (hagX _ (by omega)).trans hpk
  replace hfd := (hagX _ (by omega)).trans hfd
  replace hlv := (hagX _ (by omega)).trans hlv
  replace hS := SW.mv hS (fun j j0 j1 => hagX j (by omega))
  replace hX := XW.mv hX (fun j j0 j1 => hagX j (by omega))
  replace hh1 := (hagX _ (by omega)).trans hh1
  replace hh2 := (hagX _ (by omega)).trans hh2
  replace hh3 : ∀ i : Int, 0 ≤ i → i < 6 → hq i.toNat = some (χ + 7 + 2 + 3 * i.toNat) ∧ ∃ f g, SW wp wp (χ + 7 + 2 + 3 * i.toNat) (f, g, 0) ∧ (∀ j, 0 ≤ j → j < 160 → f j = 50) ∧ ∀ j : Int, 0 ≤ j → j < 12 → g j.toNat = some (χ + 1) := fun i i0 i1 => by
    obtain ⟨a1, f1, g1, a2, a3⟩ := hh3 i i0 i1
    exact ⟨a1, f1, g1, SW.mv a2 (fun j j0 j1 => hagX j (by omega)), a3⟩
  refine V_aload_n dX6_init_67 0 rfl rfl ?_
  refine V_n_X6_42 (kc' := 7) (ks' := 1120) rfl dX6_init_68 (Nat.le_of_ble_eq_true rfl) (Nat.le_of_ble_eq_true rfl) ?_
  refine V_dup dX6_init_71 rfl ?_
  refine V_c_X6_44 rfl (kc' := 2) (ks' := 320) (by decide) (c_FinderInit xU_s) dX6_init_72 rfl rfl (Nat.le_of_ble_eq_true rfl) (Nat.le_of_ble_eq_true rfl) (Nat.le_of_ble_eq_true rfl) (fun v w12 sz9 q => ?_)
  obtain ⟨rfl, rfl, hF⟩ := q
  have hag9 : ∀ j, j < χ + 29 → True → w12 j = wp j := fun j hj _ => (FW.fr hF j (by omega)).trans (xU_n (by omega))
  have hagW : ∀ j, χ + 35 ≤ j → w12 j = w j := fun j hj => (FW.fr hF j (by omega)).trans ((xU_n (by omega)).trans (hagP j (by omega)))
  replace hob := (hag9 χ (by omega) trivial).trans hob
  replace hpk := (hag9 _ (by omega) trivial).trans hpk
  replace hfd := (hag9 _ (by omega) trivial).trans hfd
  replace hlv := (hag9 _ (by omega) trivial).trans hlv
  replace hS := SW.mv hS (fun j j0 j1 => hag9 j (by omega) trivial)
  replace hX := XW.mv hX (fun j j0 j1 => hag9 j (by omega) trivial)
  replace hh1 := (hag9 _ (by omega) trivial).trans hh1
  replace hh2 := (hag9 _ (by omega) trivial).trans hh2
  replace hh3 : ∀ i : Int, 0 ≤ i → i < 6 → hq i.toNat = some (χ + 7 + 2 + 3 * i.toNat) ∧ ∃ f g, SW w12 w12 (χ + 7 + 2 + 3 * i.toNat) (f, g, 0) ∧ (∀ j, 0 ≤ j → j < 160 → f j = 50) ∧ ∀ j : Int, 0 ≤ j → j < 12 → g j.toNat = some (χ + 1) := fun i i0 i1 => by
    obtain ⟨a1, f1, g1, a2, a3⟩ := hh3 i i0 i1
    exact ⟨a1, f1, g1, SW.mv a2 (fun j j0 j1 => hag9 j (by omega) trivial), a3⟩
  replace hF := FW.rb hF
  refine V_p_X6_45 rfl rfl dX6_init_75 hob (Nat.le_of_ble_eq_true rfl) (fun _ => rfl) (fun _ => rfl) ?_
  refine (?_ : ∀ wp : WD, wp χ = some (xOb 6 [.ref (χ + 4), .ref (χ + 7), .ref (χ + 27), .ref (χ + 29), .null, .null]) → (∀ j, j ≠ χ → wp j = w12 j) → V iX6_init Z 2 320 wp _ _ _ _) _ xU_s (fun j hj => xU_n hj)
  intro wp hob hagX
  have hagP : ∀ j, χ + 35 ≤ j → wp j = w j := fun j hj => (hagX j (by omega)).trans (hagW j (by omega))
  replace hpk := (hagX _ (by omega)).trans hpk
  replace hfd := (hagX _ (by omega)).trans hfd
  replace hlv := (hagX _ (by omega)).trans hlv
  replace hS := SW.mv hS (fun j j0 j1 => hagX j (by omega))
  replace hX := XW.mv hX (fun j j0 j1 => hagX j (by omega))
  replace hF := FW.mv hF (fun j j0 j1 => hagX j (by omega))
  replace hh1 := (hagX _ (by omega)).trans hh1
  replace hh2 := (hagX _ (by omega)).trans hh2
  replace hh3 : ∀ i : Int, 0 ≤ i → i < 6 → hq i.toNat = some (χ + 7 + 2 + 3 * i.toNat) ∧ ∃ f g, SW wp wp (χ + 7 + 2 + 3 * i.toNat) (f, g, 0) ∧ (∀ j, 0 ≤ j → j < 160 → f j = 50) ∧ ∀ j : Int, 0 ≤ j → j < 12 → g j.toNat = some (χ + 1) := fun i i0 i1 => by
    obtain ⟨a1, f1, g1, a2, a3⟩ := hh3 i i0 i1
    exact ⟨a1, f1, g1, SW.mv a2 (fun j j0 j1 => hagX j (by omega)), a3⟩
  refine V_aload_n dX6_init_78 0 rfl rfl ?_
  refine V_sipush dX6_init_79 (by decide) ?_
  refine V_newI (kc' := 1) (ks' := 160) (n := 160) rfl (xG_at 83 (by decide +kernel) rfl) dX6_init_82 rfl (by decide) (by decide) (by decide) ?_
  refine (?_ : ∀ wm : WD, UA wp wm (χ + 35) (xIA 160 (fun _ => 0)) → V iX6_init Z 1 160 wm _ _ _ _) _ ⟨xU_s, fun j hj => xU_n hj⟩
  intro wm hum
  have hag9 : ∀ j, j < χ + 35 → True → wm j = wp j := fun j hj _ => hum.2 j (by omega)
  have hagW : ∀ j, χ + 36 ≤ j → wm j = w j := fun j hj => (hum.2 j (by omega)).trans (hagP j (by omega))
  replace hob := (hag9 χ (by omega) trivial).trans hob
  replace hpk := (hag9 _ (by omega) trivial).trans hpk
  replace hfd := (hag9 _ (by omega) trivial).trans hfd
  replace hlv := (hag9 _ (by omega) trivial).trans hlv
  replace hS := SW.mv hS (fun j j0 j1 => hag9 j (by omega) trivial)
  replace hX := XW.mv hX (fun j j0 j1 => hag9 j (by omega) trivial)
  replace hF := FW.mv hF (fun j j0 j1 => hag9 j (by omega) trivial)
  replace hh1 := (hag9 _ (by omega) trivial).trans hh1
  replace hh2 := (hag9 _ (by omega) trivial).trans hh2
  replace hh3 : ∀ i : Int, 0 ≤ i → i < 6 → hq i.toNat = some (χ + 7 + 2 + 3 * i.toNat) ∧ ∃ f g, SW wm wm (χ + 7 + 2 + 3 * i.toNat) (f, g, 0) ∧ (∀ j, 0 ≤ j → j < 160 → f j = 50) ∧ ∀ j : Int, 0 ≤ j → j < 12 → g j.toNat = some (χ + 1) := fun i i0 i1 => by
    obtain ⟨a1, f1, g1, a2, a3⟩ := hh3 i i0 i1
    exact ⟨a1, f1, g1, SW.mv a2 (fun j j0 j1 => hag9 j (by omega) trivial), a3⟩
  have hm1 := hum.1
  refine V_p_X6_49 rfl rfl dX6_init_84 hob (Nat.le_of_ble_eq_true rfl) (fun _ => rfl) (fun _ => rfl) ?_
  refine (?_ : ∀ wp : WD, wp χ = some (xOb 6 [.ref (χ + 4), .ref (χ + 7), .ref (χ + 27), .ref (χ + 29), .ref (χ + 35), .null]) → (∀ j, j ≠ χ → wp j = wm j) → V iX6_init Z 1 160 wp _ _ _ _) _ xU_s (fun j hj => xU_n hj)
  intro wp hob hagX
  have hagP : ∀ j, χ + 36 ≤ j → wp j = w j := fun j hj => (hagX j (by omega)).trans (hagW j (by omega))
  replace hpk := (hagX _ (by omega)).trans hpk
  replace hfd := (hagX _ (by omega)).trans hfd
  replace hlv := (hagX _ (by omega)).trans hlv
  replace hm1 := (hagX _ (by omega)).trans hm1
  replace hS := SW.mv hS (fun j j0 j1 => hagX j (by omega))
  replace hX := XW.mv hX (fun j j0 j1 => hagX j (by omega))
  replace hF := FW.mv hF (fun j j0 j1 => hagX j (by omega))
  replace hh1 := (hagX _ (by omega)).trans hh1
  replace hh2 := (hagX _ (by omega)).trans hh2
  replace hh3 : ∀ i : Int, 0 ≤ i → i < 6 → hq i.toNat = some (χ + 7 + 2 + 3 * i.toNat) ∧ ∃ f g, SW wp wp (χ + 7 + 2 + 3 * i.toNat) (f, g, 0) ∧ (∀ j, 0 ≤ j → j < 160 → f j = 50) ∧ ∀ j : Int, 0 ≤ j → j < 12 → g j.toNat = some (χ + 1) := fun i i0 i1 => by
    obtain ⟨a1, f1, g1, a2, a3⟩ := hh3 i i0 i1
    exact ⟨a1, f1, g1, SW.mv a2 (fun j j0 j1 => hagX j (by omega)), a3⟩
  refine V_aload_n dX6_init_87 0 rfl rfl ?_
  refine V_sipush dX6_init_88 (by decide) ?_
  refine V_newI (kc' := 0) (ks' := 0) (n := 160) rfl (xG_at 83 (by decide +kernel) rfl) dX6_init_91 rfl (by decide) (by decide) (by decide) ?_
  refine (?_ : ∀ wm : WD, UA wp wm (χ + 36) (xIA 160 (fun _ => 0)) → V iX6_init Z 0 0 wm _ _ _ _) _ ⟨xU_s, fun j hj => xU_n hj⟩
  intro wm hum
  have hag9 : ∀ j, j < χ + 36 → True → wm j = wp j := fun j hj _ => hum.2 j (by omega)
  have hagW : ∀ j, χ + 37 ≤ j → wm j = w j := fun j hj => (hum.2 j (by omega)).trans (hagP j (by omega))
  replace hob := (hag9 χ (by omega) trivial).trans hob
  replace hpk := (hag9 _ (by omega) trivial).trans hpk
  replace hfd := (hag9 _ (by omega) trivial).trans hfd
  replace hlv := (hag9 _ (by omega) trivial).trans hlv
  replace hm1 := (hag9 _ (by omega) trivial).trans hm1
  replace hS := SW.mv hS (fun j j0 j1 => hag9 j (by omega) trivial)
  replace hX := XW.mv hX (fun j j0 j1 => hag9 j (by omega) trivial)
  replace hF := FW.mv hF (fun j j0 j1 => hag9 j (by omega) trivial)
  replace hh1 := (hag9 _ (by omega) trivial).trans hh1
  replace hh2 := (hag9 _ (by omega) trivial).trans hh2
  replace hh3 : ∀ i : Int, 0 ≤ i → i < 6 → hq i.toNat = some (χ + 7 + 2 + 3 * i.toNat) ∧ ∃ f g, SW wm wm (χ + 7 + 2 + 3 * i.toNat) (f, g, 0) ∧ (∀ j, 0 ≤ j → j < 160 → f j = 50) ∧ ∀ j : Int, 0 ≤ j → j < 12 → g j.toNat = some (χ + 1) := fun i i0 i1 => by
    obtain ⟨a1, f1, g1, a2, a3⟩ := hh3 i i0 i1
    exact ⟨a1, f1, g1, SW.mv a2 (fun j j0 j1 => hag9 j (by omega) trivial), a3⟩
  have hm2 := hum.1
  refine V_p_X6_53 rfl rfl dX6_init_93 hob (Nat.le_of_ble_eq_true rfl) (fun _ => rfl) (fun _ => rfl) ?_
  refine (?_ : ∀ wp : WD, wp χ = some (xOb 6 [.ref (χ + 4), .ref (χ + 7), .ref (χ + 27), .ref (χ + 29), .ref (χ + 35), .ref (χ + 36)]) → (∀ j, j ≠ χ → wp j = wm j) → V iX6_init Z 0 0 wp _ _ _ _) _ xU_s (fun j hj => xU_n hj)
  intro wp hob hagX
  have hagP : ∀ j, χ + 37 ≤ j → wp j = w j := fun j hj => (hagX j (by omega)).trans (hagW j (by omega))
  replace hpk := (hagX _ (by omega)).trans hpk
  replace hfd := (hagX _ (by omega)).trans hfd
  replace hlv := (hagX _ (by omega)).trans hlv
  replace hm1 := (hagX _ (by omega)).trans hm1
  replace hm2 := (hagX _ (by omega)).trans hm2
  replace hS := SW.mv hS (fun j j0 j1 => hagX j (by omega))
  replace hX := XW.mv hX (fun j j0 j1 => hagX j (by omega))
  replace hF := FW.mv hF (fun j j0 j1 => hagX j (by omega))
  replace hh1 := (hagX _ (by omega)).trans hh1
  replace hh2 := (hagX _ (by omega)).trans hh2
  replace hh3 : ∀ i : Int, 0 ≤ i → i < 6 → hq i.toNat = some (χ + 7 + 2 + 3 * i.toNat) ∧ ∃ f g, SW wp wp (χ + 7 + 2 + 3 * i.toNat) (f, g, 0) ∧ (∀ j, 0 ≤ j → j < 160 → f j = 50) ∧ ∀ j : Int, 0 ≤ j → j < 12 → g j.toNat = some (χ + 1) := fun i i0 i1 => by
    obtain ⟨a1, f1, g1, a2, a3⟩ := hh3 i i0 i1
    exact ⟨a1, f1, g1, SW.mv a2 (fun j j0 j1 => hagX j (by omega)), a3⟩
  have hPK : PK wp χ (χ + 1) (fun _ => 0) := ⟨χ + 2, χ + 3, 0, fun _ => 0, ⟨by omega, by omega, by omega⟩, hpk, hfd, hlv, by omega, rfl, rfl, fun _ _ _ => rfl⟩
  exact V_vret hE rfl dX6_init_96 ⟨rfl, rfl, fun j hj => (hagP j (by omega)).trans (hN j (by omega)), hob, ⟨_, hS, fun k k0 k1 => (hf6 k k0 k1).trans (if_pos k1).symm, rfl, fun p p0 p1 => ⟨χ + 1, fun _ => 0, hg6 p p0 p1, hPK, fun q => by dsimp only at q; omega⟩⟩, ⟨hq, ⟨hh1, hh2, fun _ _ => rfl⟩, fun i i0 i1 => by
    obtain ⟨a1, f1, g1, a2, a3⟩ := hh3 i i0 i1
    exact ⟨i.toNat, (f1, g1, 0), by omega, by rw [show χ + 9 + 3 * i.toNat = χ + 7 + 2 + 3 * i.toNat by omega]; exact a1, by rw [show χ + 9 + 3 * i.toNat = χ + 7 + 2 + 3 * i.toNat by omega]; exact a2, fun q => by dsimp only at q; omega⟩, fun i j i0 i1 j0 j1 e => by
    rw [(hh3 i i0 i1).1, (hh3 j j0 j1).1] at e
    have := Option.some.inj e
    omega⟩, ⟨_, hX, rfl, fun j j0 j1 => by dsimp only at j1; omega⟩, ⟨_, hF⟩, ⟨_, hm1⟩, ⟨_, hm2⟩⟩
