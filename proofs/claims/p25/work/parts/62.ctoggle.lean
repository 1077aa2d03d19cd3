/-! the class: new picks -/
theorem V_n_X6_11 {I : XI} {Z : XZ} {kc ks kc' ks' : Nat} {w : WD} {sz pc : Nat} {lv : List (Option Value)} {st : List Value} (ho : I.y.cls = RX6) (hd : decode I.cc pc = .ok (.new 11, 3)) (h1 : kc' + 1 ≤ kc) (h2 : ks' + 7 ≤ ks) (kk : V I Z kc' ks' (xU w sz (xOb 1 [xI 0, xI 0, xI 0, xI 0, xI 0, xI 0, .null])) (sz + 1) (pc + 3) lv (.ref sz :: st)) : V I Z kc ks w sz pc lv st :=
  V_new (C := RX1) (T := TX1) (N := 7) (ty := tyX1) (fs := [xI 0, xI 0, xI 0, xI 0, xI 0, xI 0, .null]) rfl inX1 tyX1_ok (by rw [ho]; exact xG_at 46 (by decide +kernel) rfl) (xG_at 47 (by decide +kernel) rfl) (xG_at 22 (by decide +kernel) rfl) (fun Γ j hj => by rcases (show j = 0 ∨ j = 1 ∨ j = 2 ∨ j = 3 ∨ j = 4 ∨ j = 5 ∨ j = 6 by omega) with rfl | rfl | rfl | rfl | rfl | rfl | rfl <;> rfl) hd h1 h2 kk
theorem V_n_X6_9 {I : XI} {Z : XZ} {kc ks kc' ks' : Nat} {w : WD} {sz pc : Nat} {lv : List (Option Value)} {st : List Value} (ho : I.y.cls = RX6) (hd : decode I.cc pc = .ok (.new 9, 3)) (h1 : kc' + 1 ≤ kc) (h2 : ks' + 3 ≤ ks) (kk : V I Z kc' ks' (xU w sz (xOb 3 [.null, xI 0, xI 0])) (sz + 1) (pc + 3) lv (.ref sz :: st)) : V I Z kc ks w sz pc lv st :=
  V_new (C := RX3) (T := TX3) (N := 3) (ty := tyX3) (fs := [.null, xI 0, xI 0]) rfl inX3 tyX3_ok (by rw [ho]; exact xG_at 44 (by decide +kernel) rfl) (xG_at 45 (by decide +kernel) rfl) (xG_at 21 (by decide +kernel) rfl) (fun Γ j hj => by rcases (show j = 0 ∨ j = 1 ∨ j = 2 by omega) with rfl | rfl | rfl <;> rfl) hd h1 h2 kk
set_option maxRecDepth 100000 in
set_option maxHeartbeats 4000000 in
theorem c_PickInit {w : WD} {sz i : Nat} {d : Nat} {k : Int} {b : Bool} (hw : w i = some (xOb 3 [.null, xI 0, xI 0])) : CT iX3_init 0 0 [.ref i, .ref d, xI k, xB b] w sz (fun o9 w' sz' => o9 = none ∧ sz' = sz ∧ UA w w' i (xOb 3 [.ref d, xI k, xB b])) := by
  refine CT.ofZ (by decide) rfl (Nat.le_of_ble_eq_true rfl) (fun Z hE => ?_)
  refine V_aload_n dX3_init_0 0 rfl rfl ?_
  refine V_c_X3_3 rfl (by decide) (Nat.le_of_ble_eq_true rfl) dX3_init_1 ?_
  refine V_aload_n dX3_init_4 0 rfl rfl ?_
  refine V_aload_n dX3_init_5 1 rfl rfl ?_
  refine V_p_X3_9 rfl rfl dX3_init_6 hw (Nat.le_of_ble_eq_true rfl) (fun _ => rfl) (fun _ => rfl) ?_
  refine V_aload_n dX3_init_9 0 rfl rfl ?_
  refine V_iload_n dX3_init_10 2 rfl rfl ?_
  refine V_p_X3_15 rfl rfl dX3_init_11 xU_s (Nat.le_of_ble_eq_true rfl) (fun _ => rfl) (fun _ => rfl) ?_
  refine V_aload_n dX3_init_14 0 rfl rfl ?_
  refine V_iload_n dX3_init_15 3 rfl rfl ?_
  refine V_p_X3_19 rfl rfl dX3_init_16 xU_s (Nat.le_of_ble_eq_true rfl) (fun _ => by cases b <;> rfl) (fun _ => by cases b <;> rfl) ?_
  exact V_vret hE rfl dX3_init_19 ⟨rfl, rfl, xU_s, fun j hj => (xU_n hj).trans ((xU_n hj).trans (xU_n hj))⟩
set_option maxRecDepth 100000 in
set_option maxHeartbeats 4000000 in
theorem c_FoundInit {w : WD} {sz i : Nat} {v : Nat} {c l a g s u : Int} (hw : w i = some (xOb 1 [xI 0, xI 0, xI 0, xI 0, xI 0, xI 0, .null])) : CT iX1_init 0 0 [.ref i, xI c, xI l, xI a, xI g, xI s, xI u, .ref v] w sz (fun o9 w' sz' => o9 = none ∧ sz' = sz ∧ UA w w' i (xOb 1 [xI c, xI l, xI a, xI g, xI s, xI u, .ref v])) := by
  refine CT.ofZ (by decide) rfl (Nat.le_of_ble_eq_true rfl) (fun Z hE => ?_)
  refine V_aload_n dX1_init_0 0 rfl rfl ?_
  refine V_c_X1_1 rfl (by decide) (Nat.le_of_ble_eq_true rfl) dX1_init_1 ?_
  refine V_aload_n dX1_init_4 0 rfl rfl ?_
  refine V_iload_n dX1_init_5 1 rfl rfl ?_
  refine V_p_X1_7 rfl rfl dX1_init_6 hw (Nat.le_of_ble_eq_true rfl) (fun _ => rfl) (fun _ => rfl) ?_
  refine V_aload_n dX1_init_9 0 rfl rfl ?_
  refine V_iload_n dX1_init_10 2 rfl rfl ?_
  refine V_p_X1_13 rfl rfl dX1_init_11 xU_s (Nat.le_of_ble_eq_true rfl) (fun _ => rfl) (fun _ => rfl) ?_
  refine V_aload_n dX1_init_14 0 rfl rfl ?_
  refine V_iload_n dX1_init_15 3 rfl rfl ?_
  refine V_p_X1_16 rfl rfl dX1_init_16 xU_s (Nat.le_of_ble_eq_true rfl) (fun _ => rfl) (fun _ => rfl) ?_
  refine V_aload_n dX1_init_19 0 rfl rfl ?_
  refine V_iload dX1_init_20 rfl ?_
  refine V_p_X1_19 rfl rfl dX1_init_22 xU_s (Nat.le_of_ble_eq_true rfl) (fun _ => rfl) (fun _ => rfl) ?_
  refine V_aload_n dX1_init_25 0 rfl rfl ?_
  refine V_iload dX1_init_26 rfl ?_
  refine V_p_X1_22 rfl rfl dX1_init_28 xU_s (Nat.le_of_ble_eq_true rfl) (fun _ => rfl) (fun _ => rfl) ?_
  refine V_aload_n dX1_init_31 0 rfl rfl ?_
  refine V_iload dX1_init_32 rfl ?_
  refine V_p_X1_25 rfl rfl dX1_init_34 xU_s (Nat.le_of_ble_eq_true rfl) (fun _ => rfl) (fun _ => rfl) ?_
  refine V_aload_n dX1_init_37 0 rfl rfl ?_
  refine V_aload dX1_init_38 rfl ?_
  refine V_p_X1_28 rfl rfl dX1_init_40 xU_s (Nat.le_of_ble_eq_true rfl) (fun _ => rfl) (fun _ => rfl) ?_
  exact V_vret hE rfl dX1_init_43 ⟨rfl, rfl, xU_s, fun j hj => (xU_n hj).trans ((xU_n hj).trans ((xU_n hj).trans ((xU_n hj).trans ((xU_n hj).trans ((xU_n hj).trans (xU_n hj))))))⟩
theorem CP.sav2 {w : WD} {χ : Nat} {P P' : MP} (h : CS w χ P'.1 (isv P.2.1 + 1) (ZKP P) P.2.2.2.1 P.2.2.2.2) (hs : 0 ≤ P.2.1 ∧ P.2.1 ≤ 6) (hS : SavR P P') : CP w χ P' := CP.sav h hs hS
theorem PK.new {w : WD} {χ s d v : Nat} {c kd b : Int} {f r : Int → Int} (hi : imm χ s ∧ imm χ d ∧ imm χ v) (h1 : w s = some (xOb 3 [.ref d, xI kd, xI b])) (h2 : w d = some (xOb 1 [xI c, xI (r 2), xI (r 3), xI (r 4), xI (r 6), xI (r 8), .ref v])) (h3 : w v = some (xIA 160 f)) (hc : 0 ≤ c ∧ c < 160) (h0 : r 0 = c % 16) (h01 : r 1 = c / 16) (h5 : r 5 = kd) (h7 : r 7 = b) (hf : ∀ k, 0 ≤ k → k < 160 → f k = r (9 + k)) : PK w χ s r := ⟨d, v, c, f, hi, by rw [h5, h7]; exact h1, h2, h3, hc, h0, h01, hf⟩
/-- one pick in another's place -/
theorem SR.put {w w' : WD} {χ i : Nat} {T : ST} {z z' : Int → Int} {p : Int} (h : SR w χ T z) (e : ∀ j, imm χ j → w j ≠ none → w' j = w j) (hp : 0 ≤ p ∧ p < z 160) (hz : ∀ j, 0 ≤ j → j < 2189 → (j < 161 + 169 * p ∨ 161 + 169 * p + 169 ≤ j) → z' j = z j) (hP : PK w' χ i (fun k => z' (161 + 169 * p + k))) (hp2 : p < 12) : SR w' χ (T.1, va_up T.2.1 p.toNat (some i), T.2.2) z' := by
  have e160 := hz 160 (by omega) (by omega) (by omega)
  refine ⟨fun k k0 k1 => (h.1 k k0 k1).trans (hz k k0 (by omega) (by omega)).symm, h.2.1.trans e160.symm, fun q q0 q1 => ?_⟩
  by_cases g : q = p
  · exact ⟨i, _, by rw [g]; exact upn_s, hP, fun _ k k0 k1 => by rw [g]⟩
  · obtain ⟨i', r, h1, h2, h3⟩ := h.2.2 q q0 q1
    exact ⟨i', r, (upn_n (by omega)).trans h1, h2.mv e, fun g2 k k0 k1 => (h3 (by omega) k k0 k1).trans (hz _ (by omega) (by omega) (by omega)).symm⟩
set_option maxRecDepth 100000 in
set_option maxHeartbeats 4000000 in
theorem c_toggle {w : WD} {sz χ : Nat} {P : MP} (hC : CP w χ P) (hI : MInv P) (hN : WN w sz) (hs : χ + 44 ≤ sz) {p : Int} (r : -2147483648 ≤ p ∧ p < 2147483648) : CX iX6_toggle 2 9 [.ref χ, xI p] w sz (OKQ w χ (fun t r P' => togR P p t r P')) (EXQ w χ (fun t r P' => togR P p t r P') "java/lang/IndexOutOfBoundsException" 1) := by
  refine CX.ofZ (by decide) rfl (Nat.le_of_ble_eq_true rfl) (fun Z hZ hE => ?_)
  have hC0 := hC
  obtain ⟨hA, ⟨T, hS, hR⟩, ⟨hh, hH, hH2, hH3⟩, ⟨TX, hX, hX2, hX3⟩, ⟨TFi, hF⟩, ⟨mk1, hm1⟩, ⟨mk2, hm2⟩⟩ := hC0
  have hv := hI.1
  have hsh : ∀ k, 0 ≤ k → k < 160 → 0 ≤ T.1 k ∧ T.1 k ≤ 99 := fun k k0 k1 => by rw [hR.1 k k0 k1]; exact hv.1 k k0 k1
  have hz160 := hv.2.1
  have hs6 := hI.2.1
  have hVT := hI.2.2.2
  have hln := hVT.1
  refine V_aload_n dX6_toggle_0 0 rfl rfl ?_
  refine V_iload_n dX6_toggle_1 1 rfl rfl ?_
  refine V_x_X6_118 rfl (kc' := 1) (ks' := 3) (by decide) (c_needPick hC hI.1.2.1 (by omega)) dX6_toggle_2 hA rfl rfl (Nat.le_of_ble_eq_true rfl) (Nat.le_of_ble_eq_true rfl) (Nat.le_of_ble_eq_true rfl) (fun E w1 sz1 q => by obtain ⟨rfl, rfl, h9, hq⟩ := q; subst hZ; exact VX_out rfl ((EXQ.th hC hN h9 (fun t r P1 hR1 => hR1.elim (fun g => g.2) (fun g => absurd g.1 hq))))) (fun v w sz q => ?_)
  obtain ⟨rfl, rfl, rfl, hq2⟩ := q
  refine V_aload_n dX6_toggle_5 0 rfl rfl ?_
  refine V_g_X6_31 rfl dX6_toggle_6 hA rfl ?_
  refine V_aload_n dX6_toggle_9 0 rfl rfl ?_
  refine V_g_X6_24 rfl dX6_toggle_10 hA rfl ?_
  refine V_c_X6_64 rfl (by decide) (c_keep hC.2.2.1 hs6 hS hR) dX6_toggle_13 hH.1 rfl rfl (Nat.le_of_ble_eq_true rfl) (Nat.le_of_eq (Nat.zero_add _)) (Nat.le_of_eq (Nat.zero_add _)) (fun v w sz q => ?_)
  obtain ⟨rfl, rfl, hQ1, hfr1⟩ := q
  have hC1 : CS _ χ P.1 (isv P.2.1 + 1) (ZKP P) P.2.2.2.1 P.2.2.2.2 := CS.hist hC hQ1 (fun j hj _ => hfr1 j hj)
  have hT1 := TF.in_ (a := χ + 7) (n := 20) hN hs (by omega) (fun j hj => hfr1 j (by omega))
  have hC1b := hC1
  obtain ⟨hA, ⟨T, hS, hR⟩, -, ⟨TX, hX, hX2, hX3⟩, ⟨TFi, hF⟩, ⟨mk1, hm1⟩, ⟨mk2, hm2⟩⟩ := hC1b
  have hsh : ∀ k, 0 ≤ k → k < 160 → 0 ≤ T.1 k ∧ T.1 k ≤ 99 := fun k k0 k1 => by rw [hR.1 k k0 k1]; exact hv.1 k k0 k1
  refine V_aload_n dX6_toggle_16 0 rfl rfl ?_
  refine V_g_X6_24 rfl dX6_toggle_17 hA rfl ?_
  refine V_g_X6_122 rfl dX6_toggle_20 hS.1 rfl ?_
  refine V_iload_n dX6_toggle_23 1 rfl rfl ?_
  obtain ⟨i9, hg9, hP9, -⟩ := hR.at hv hq2.1 (show p < P.1 160 by omega)
  obtain ⟨d9, v9, cc9, f9, hI9, hi9, hd9, hv9, hcc9, hr0, hr1, hf9⟩ := hP9
  dsimp only at hi9 hd9 hr0 hr1 hf9
  have h79 := hv.2.2 p hq2.1 (by omega)
  have hi9l := hT1.1.lt (nn hi9)
  have hd9l := hT1.1.lt (nn hd9)
  have hv9l := hT1.1.lt (nn hv9)
  refine V_aald (t := 3) (fun _ => rfl) dX6_toggle_24 hS.2.2.1 (by omega) hg9 ?_
  refine V_astore_n dX6_toggle_25 2 rfl (by decide) ?_
  refine V_aload_n dX6_toggle_26 0 rfl rfl ?_
  refine V_g_X6_24 rfl dX6_toggle_27 hA rfl ?_
  refine V_g_X6_122 rfl dX6_toggle_30 hS.1 rfl ?_
  refine V_iload_n dX6_toggle_33 1 rfl rfl ?_
  refine V_n_X6_9 (kc' := 0) (ks' := 0) rfl dX6_toggle_34 (Nat.le_of_ble_eq_true rfl) (Nat.le_of_ble_eq_true rfl) ?_
  refine V_dup dX6_toggle_37 rfl ?_
  refine V_aload_n dX6_toggle_38 2 rfl rfl ?_
  refine V_g_X6_126 rfl dX6_toggle_39 ((xU_n (by omega)).trans hi9) rfl ?_
  refine V_aload_n dX6_toggle_42 2 rfl rfl ?_
  refine V_g_X6_130 rfl dX6_toggle_43 ((xU_n (by omega)).trans hi9) rfl ?_
  refine V_aload_n dX6_toggle_46 2 rfl rfl ?_
  refine V_g_X6_133 rfl dX6_toggle_47 ((xU_n (by omega)).trans hi9) rfl ?_
  refine V_if_ne 57 dX6_toggle_50 (by decide) (by omega) (fun h50 => ?_) (fun h50 => ?_)
  · try simp only [decide_eq_true_eq, decide_eq_false_iff_not, Bool.not_eq_true] at h50
    refine V_iconst dX6_toggle_57 ?_
    refine V_c_X6_16 rfl (by decide) (c_PickInit (b := false) xU_s) dX6_toggle_58 rfl rfl (Nat.le_of_ble_eq_true rfl) (Nat.le_of_eq (Nat.zero_add _)) (Nat.le_of_eq (Nat.zero_add _)) (fun v w2 sz2 q => ?_)
    obtain ⟨rfl, rfl, hu1⟩ := q
    have hag : ∀ j, j < sz → w2 j = w j := fun j hj => (hu1.2 j (by omega)).trans (xU_n (by omega))
    have hS2 : SW w2 w2 (χ + 4) T := SW.mv hS (fun j j0 j1 => hag j (by omega))
    refine S_a_picks hS2 dX6_toggle_61 (by omega) hu1.1 (fun w4 hS4 => ?_)
    have hag4 : ∀ j, imm χ j → j < sz → w4 j = w j := fun j hj hl => (SW.fr hS4 j (by omega)).trans (hag j hl)
    refine V_aload_n dX6_toggle_62 2 rfl rfl ?_
    refine V_g_X6_133 rfl dX6_toggle_63 ((hag4 _ hI9.1 hi9l).trans hi9) rfl ?_
    refine V_if_eq 73 dX6_toggle_66 (by decide) (by omega) (fun h66 => ?_) (fun h66 => ?_)
    · try simp only [decide_eq_true_eq, decide_eq_false_iff_not, Bool.not_eq_true] at h66
      exact absurd h66 h50
    · try simp only [decide_eq_true_eq, decide_eq_false_iff_not, Bool.not_eq_true] at h66
      refine V_iconst dX6_toggle_69 ?_
      refine V_goto 74 dX6_toggle_70 (by decide) ?_
      exact V_iret hE rfl dX6_toggle_74 ⟨⟨_, rfl⟩, hT1.tr ⟨fun j hj => (SW.fr hS4 j (by omega)).trans ((hu1.2 j (by omega)).trans ((xU_n (by omega)).trans (hT1.1 j (by omega)))), fun j hj hn => (SW.fr hS4 j (by omega)).trans (hag j (hT1.1.lt hn))⟩, fun t r P1 hR1 => by
        rcases hR1 with g | ⟨g1, g3, g4, g5, g8, g6⟩
        · exact absurd hq2 g.1
        refine ⟨g3, ?_, CP.sav2 (CS.now hC1 ⟨_, SW.rb hS4, hR.put (fun j hj hn => hag4 j hj (hT1.1.lt hn)) ⟨hq2.1, by omega⟩ (fun j j0 j1 hj => g6 j j0 j1 (by omega)) (PK.new (d := d9) (v := v9) (c := cc9) (f := f9) ⟨by omega, hI9.2.1, hI9.2.2⟩ ((SW.fr hS4 _ (by omega)).trans hu1.1) (((hag4 _ hI9.2.1 hd9l).trans hd9).trans (by (try dsimp only); rw [show (161 + 169 * p + 2) = 161 + 169 * p + 2 from rfl]; rw [(g6 (161 + 169 * p + 2) (by omega) (by omega) (by omega)), (g6 (161 + 169 * p + 3) (by omega) (by omega) (by omega)), (g6 (161 + 169 * p + 4) (by omega) (by omega) (by omega)), (g6 (161 + 169 * p + 6) (by omega) (by omega) (by omega)), (g6 (161 + 169 * p + 8) (by omega) (by omega) (by omega))])) ((hag4 _ hI9.2.2 hv9l).trans hv9) hcc9 (by (try dsimp only); rw [Int.add_zero] at hr0 ⊢; rw [g6 (161 + 169 * p) (by omega) (by omega) (by omega)]; exact hr0) (by (try dsimp only); rw [(g6 (161 + 169 * p + 1) (by omega) (by omega) (by omega))]; exact hr1) (by (try dsimp only); rw [(g6 (161 + 169 * p + 5) (by omega) (by omega) (by omega))]) (by (try dsimp only); rw [g8, g5]; show _ = b2i false; rw [b2i_f]; omega) (fun k k0 k1 => by (try dsimp only); rw [g6 _ (by omega) (by omega) (by omega)]; exact hf9 k k0 k1)) (by omega)⟩ (fun j hj hn => (SW.fr hS4 j (by omega)).trans (hag j (hT1.1.lt hn)))) hs6 g4⟩
        · rw [g5]; exact bE (by omega)⟩
  · try simp only [decide_eq_true_eq, decide_eq_false_iff_not, Bool.not_eq_true] at h50
    refine V_iconst dX6_toggle_53 ?_
    refine V_goto 58 dX6_toggle_54 (by decide) ?_
    refine V_c_X6_16 rfl (by decide) (c_PickInit (b := true) xU_s) dX6_toggle_58 rfl rfl (Nat.le_of_ble_eq_true rfl) (Nat.le_of_eq (Nat.zero_add _)) (Nat.le_of_eq (Nat.zero_add _)) (fun v w2 sz2 q => ?_)
    obtain ⟨rfl, rfl, hu1⟩ := q
    have hag : ∀ j, j < sz → w2 j = w j := fun j hj => (hu1.2 j (by omega)).trans (xU_n (by omega))
    have hS2 : SW w2 w2 (χ + 4) T := SW.mv hS (fun j j0 j1 => hag j (by omega))
    refine S_a_picks hS2 dX6_toggle_61 (by omega) hu1.1 (fun w4 hS4 => ?_)
    have hag4 : ∀ j, imm χ j → j < sz → w4 j = w j := fun j hj hl => (SW.fr hS4 j (by omega)).trans (hag j hl)
    refine V_aload_n dX6_toggle_62 2 rfl rfl ?_
    refine V_g_X6_133 rfl dX6_toggle_63 ((hag4 _ hI9.1 hi9l).trans hi9) rfl ?_
    refine V_if_eq 73 dX6_toggle_66 (by decide) (by omega) (fun h66 => ?_) (fun h66 => ?_)
    · try simp only [decide_eq_true_eq, decide_eq_false_iff_not, Bool.not_eq_true] at h66
      refine V_iconst dX6_toggle_73 ?_
      exact V_iret hE rfl dX6_toggle_74 ⟨⟨_, rfl⟩, hT1.tr ⟨fun j hj => (SW.fr hS4 j (by omega)).trans ((hu1.2 j (by omega)).trans ((xU_n (by omega)).trans (hT1.1 j (by omega)))), fun j hj hn => (SW.fr hS4 j (by omega)).trans (hag j (hT1.1.lt hn))⟩, fun t r P1 hR1 => by
        rcases hR1 with g | ⟨g1, g3, g4, g5, g8, g6⟩
        · exact absurd hq2 g.1
        refine ⟨g3, ?_, CP.sav2 (CS.now hC1 ⟨_, SW.rb hS4, hR.put (fun j hj hn => hag4 j hj (hT1.1.lt hn)) ⟨hq2.1, by omega⟩ (fun j j0 j1 hj => g6 j j0 j1 (by omega)) (PK.new (d := d9) (v := v9) (c := cc9) (f := f9) ⟨by omega, hI9.2.1, hI9.2.2⟩ ((SW.fr hS4 _ (by omega)).trans hu1.1) (((hag4 _ hI9.2.1 hd9l).trans hd9).trans (by (try dsimp only); rw [show (161 + 169 * p + 2) = 161 + 169 * p + 2 from rfl]; rw [(g6 (161 + 169 * p + 2) (by omega) (by omega) (by omega)), (g6 (161 + 169 * p + 3) (by omega) (by omega) (by omega)), (g6 (161 + 169 * p + 4) (by omega) (by omega) (by omega)), (g6 (161 + 169 * p + 6) (by omega) (by omega) (by omega)), (g6 (161 + 169 * p + 8) (by omega) (by omega) (by omega))])) ((hag4 _ hI9.2.2 hv9l).trans hv9) hcc9 (by (try dsimp only); rw [Int.add_zero] at hr0 ⊢; rw [g6 (161 + 169 * p) (by omega) (by omega) (by omega)]; exact hr0) (by (try dsimp only); rw [(g6 (161 + 169 * p + 1) (by omega) (by omega) (by omega))]; exact hr1) (by (try dsimp only); rw [(g6 (161 + 169 * p + 5) (by omega) (by omega) (by omega))]) (by (try dsimp only); rw [g8, g5]; show _ = b2i true; rw [b2i_t]; omega) (fun k k0 k1 => by (try dsimp only); rw [g6 _ (by omega) (by omega) (by omega)]; exact hf9 k k0 k1)) (by omega)⟩ (fun j hj hn => (SW.fr hS4 j (by omega)).trans (hag j (hT1.1.lt hn)))) hs6 g4⟩
        · rw [g5]; exact bE (by omega)⟩
    · try simp only [decide_eq_true_eq, decide_eq_false_iff_not, Bool.not_eq_true] at h66
      exact absurd h50 h66
set_option maxRecDepth 100000 in
set_option maxHeartbeats 4000000 in
theorem c_setKind {w : WD} {sz χ : Nat} {P : MP} (hC : CP w χ P) (hI : MInv P) (hN : WN w sz) (hs : χ + 44 ≤ sz) {p d : Int} (r : -2147483648 ≤ p ∧ p < 2147483648 ∧ -2147483648 ≤ d ∧ d < 2147483648) : CX iX6_setKind 3 15 [.ref χ, xI p, xI d] w sz (OKQ w χ (fun t r P' => kndR P p d t r P')) (EX2 w χ (fun t r P' => kndR P p d t r P') "java/lang/IndexOutOfBoundsException" "java/lang/IllegalArgumentException") := by
  refine CX.ofZ (by decide) rfl (Nat.le_of_ble_eq_true rfl) (fun Z hZ hE => ?_)
  have hC0 := hC
  obtain ⟨hA, ⟨T, hS, hR⟩, ⟨hh, hH, hH2, hH3⟩, ⟨TX, hX, hX2, hX3⟩, ⟨TFi, hF⟩, ⟨mk1, hm1⟩, ⟨mk2, hm2⟩⟩ := hC0
  have hv := hI.1
  have hsh : ∀ k, 0 ≤ k → k < 160 → 0 ≤ T.1 k ∧ T.1 k ≤ 99 := fun k k0 k1 => by rw [hR.1 k k0 k1]; exact hv.1 k k0 k1
  have hz160 := hv.2.1
  have hs6 := hI.2.1
  have hVT := hI.2.2.2
  have hln := hVT.1
  refine V_aload_n dX6_setKind_0 0 rfl rfl ?_
  refine V_iload_n dX6_setKind_1 1 rfl rfl ?_
  refine V_x_X6_118 rfl (kc' := 2) (ks' := 9) (by decide) (c_needPick hC hI.1.2.1 (by omega)) dX6_setKind_2 hA rfl rfl (Nat.le_of_ble_eq_true rfl) (Nat.le_of_ble_eq_true rfl) (Nat.le_of_ble_eq_true rfl) (fun E w1 sz1 q => by obtain ⟨rfl, rfl, h9, hq⟩ := q; subst hZ; exact VX_out rfl (Or.inl (EXQ.th hC hN h9 (fun t r P1 hR1 => hR1.elim (fun g => g.2) (fun g => g.elim (fun g => absurd g.1 hq) (fun g => absurd g.1 hq)))))) (fun v w sz q => ?_)
  obtain ⟨rfl, rfl, rfl, hq2⟩ := q
  refine V_iload_n dX6_setKind_5 2 rfl rfl ?_
  refine V_iconst dX6_setKind_6 ?_
  refine V_iconst dX6_setKind_7 ?_
  refine V_x_X6_60 rfl (kc' := 1) (ks' := 3) (by decide) (c_needRange (by omega)) dX6_setKind_8 rfl rfl (Nat.le_of_ble_eq_true rfl) (Nat.le_of_ble_eq_true rfl) (Nat.le_of_ble_eq_true rfl) (fun E w1 sz1 q => by obtain ⟨rfl, rfl, h9, hq⟩ := q; subst hZ; exact VX_out rfl (Or.inr (EXQ.th hC hN h9 (fun t r P1 hR1 => hR1.elim (fun g => absurd hq2 g.1) (fun g => g.elim (fun g => g.2.2) (fun g => absurd g.2.1 hq)))))) (fun v w sz q => ?_)
  obtain ⟨rfl, rfl, rfl, hq8⟩ := q
  refine V_aload_n dX6_setKind_11 0 rfl rfl ?_
  refine V_g_X6_31 rfl dX6_setKind_12 hA rfl ?_
  refine V_aload_n dX6_setKind_15 0 rfl rfl ?_
  refine V_g_X6_24 rfl dX6_setKind_16 hA rfl ?_
  refine V_c_X6_64 rfl (by decide) (c_keep hC.2.2.1 hs6 hS hR) dX6_setKind_19 hH.1 rfl rfl (Nat.le_of_ble_eq_true rfl) (Nat.le_of_eq (Nat.zero_add _)) (Nat.le_of_eq (Nat.zero_add _)) (fun v w sz q => ?_)
  obtain ⟨rfl, rfl, hQ1, hfr1⟩ := q
  have hC1 : CS _ χ P.1 (isv P.2.1 + 1) (ZKP P) P.2.2.2.1 P.2.2.2.2 := CS.hist hC hQ1 (fun j hj _ => hfr1 j hj)
  have hT1 := TF.in_ (a := χ + 7) (n := 20) hN hs (by omega) (fun j hj => hfr1 j (by omega))
  have hC1b := hC1
  obtain ⟨hA, ⟨T, hS, hR⟩, -, ⟨TX, hX, hX2, hX3⟩, ⟨TFi, hF⟩, ⟨mk1, hm1⟩, ⟨mk2, hm2⟩⟩ := hC1b
  have hsh : ∀ k, 0 ≤ k → k < 160 → 0 ≤ T.1 k ∧ T.1 k ≤ 99 := fun k k0 k1 => by rw [hR.1 k k0 k1]; exact hv.1 k k0 k1
  refine V_aload_n dX6_setKind_22 0 rfl rfl ?_
  refine V_g_X6_24 rfl dX6_setKind_23 hA rfl ?_
  refine V_g_X6_122 rfl dX6_setKind_26 hS.1 rfl ?_
  refine V_iload_n dX6_setKind_29 1 rfl rfl ?_
  obtain ⟨i9, hg9, hP9, -⟩ := hR.at hv hq2.1 (show p < P.1 160 by omega)
  obtain ⟨d9, v9, cc9, f9, hI9, hi9, hd9, hv9, hcc9, hr0, hr1, hf9⟩ := hP9
  dsimp only at hi9 hd9 hr0 hr1 hf9
  have h79 := hv.2.2 p hq2.1 (by omega)
  have hi9l := hT1.1.lt (nn hi9)
  have hd9l := hT1.1.lt (nn hd9)
  have hv9l := hT1.1.lt (nn hv9)
  refine V_aald (t := 3) (fun _ => rfl) dX6_setKind_30 hS.2.2.1 (by omega) hg9 ?_
  refine V_astore_n dX6_setKind_31 3 rfl (by decide) ?_
  refine V_aload_n dX6_setKind_32 0 rfl rfl ?_
  refine V_g_X6_24 rfl dX6_setKind_33 hA rfl ?_
  refine V_g_X6_122 rfl dX6_setKind_36 hS.1 rfl ?_
  refine V_iload_n dX6_setKind_39 1 rfl rfl ?_
  refine V_n_X6_9 (kc' := 0) (ks' := 0) rfl dX6_setKind_40 (Nat.le_of_ble_eq_true rfl) (Nat.le_of_ble_eq_true rfl) ?_
  refine V_dup dX6_setKind_43 rfl ?_
  refine V_aload_n dX6_setKind_44 3 rfl rfl ?_
  refine V_g_X6_126 rfl dX6_setKind_45 ((xU_n (by omega)).trans hi9) rfl ?_
  refine V_iload_n dX6_setKind_48 2 rfl rfl ?_
  refine V_aload_n dX6_setKind_49 3 rfl rfl ?_
  refine V_g_X6_133 rfl dX6_setKind_50 ((xU_n (by omega)).trans hi9) rfl ?_
  obtain ⟨b9, hb9⟩ : ∃ b : Bool, P.1 (161 + 169 * p + 7) = b2i b := by
    have h7 := h79.2.2.2.2.2.2.2.1
    by_cases q : P.1 (161 + 169 * p + 7) = 0
    · exact ⟨false, q⟩
    · exact ⟨true, by rw [b2i_t]; omega⟩
  rw [hb9]
  refine V_c_X6_16 rfl (by decide) (c_PickInit (b := b9) xU_s) dX6_setKind_53 rfl rfl (Nat.le_of_ble_eq_true rfl) (Nat.le_of_eq (Nat.zero_add _)) (Nat.le_of_eq (Nat.zero_add _)) (fun v w2 sz2 q => ?_)
  obtain ⟨rfl, rfl, hu1⟩ := q
  have hag : ∀ j, j < sz → w2 j = w j := fun j hj => (hu1.2 j (by omega)).trans (xU_n (by omega))
  have hS2 : SW w2 w2 (χ + 4) T := SW.mv hS (fun j j0 j1 => hag j (by omega))
  refine S_a_picks hS2 dX6_setKind_56 (by omega) hu1.1 (fun w4 hS4 => ?_)
  have hag4 : ∀ j, imm χ j → j < sz → w4 j = w j := fun j hj hl => (SW.fr hS4 j (by omega)).trans (hag j hl)
  refine V_aload_n dX6_setKind_57 3 rfl rfl ?_
  refine V_g_X6_130 rfl dX6_setKind_58 ((hag4 _ hI9.1 hi9l).trans hi9) rfl ?_
  exact V_iret hE rfl dX6_setKind_61 ⟨⟨_, rfl⟩, hT1.tr ⟨fun j hj => (SW.fr hS4 j (by omega)).trans ((hu1.2 j (by omega)).trans ((xU_n (by omega)).trans (hT1.1 j (by omega)))), fun j hj hn => (SW.fr hS4 j (by omega)).trans (hag j (hT1.1.lt hn))⟩, fun t r P1 hR1 => by
    rcases hR1 with g | g | ⟨g1, g2, g3, g4, g5, g8, g6⟩
    · exact absurd hq2 g.1
    · exact absurd hq8 g.2.1
    refine ⟨g3, ?_, CP.sav2 (CS.now hC1 ⟨_, SW.rb hS4, hR.put (fun j hj hn => hag4 j hj (hT1.1.lt hn)) ⟨hq2.1, by omega⟩ (fun j j0 j1 hj => g6 j j0 j1 (by omega)) (PK.new (d := d9) (v := v9) (c := cc9) (f := f9) ⟨by omega, hI9.2.1, hI9.2.2⟩ ((SW.fr hS4 _ (by omega)).trans hu1.1) (((hag4 _ hI9.2.1 hd9l).trans hd9).trans (by (try dsimp only); rw [show (161 + 169 * p + 2) = 161 + 169 * p + 2 from rfl]; rw [(g6 (161 + 169 * p + 2) (by omega) (by omega) (by omega)), (g6 (161 + 169 * p + 3) (by omega) (by omega) (by omega)), (g6 (161 + 169 * p + 4) (by omega) (by omega) (by omega)), (g6 (161 + 169 * p + 6) (by omega) (by omega) (by omega)), (g6 (161 + 169 * p + 8) (by omega) (by omega) (by omega))])) ((hag4 _ hI9.2.2 hv9l).trans hv9) hcc9 (by (try dsimp only); rw [Int.add_zero] at hr0 ⊢; rw [g6 (161 + 169 * p) (by omega) (by omega) (by omega)]; exact hr0) (by (try dsimp only); rw [(g6 (161 + 169 * p + 1) (by omega) (by omega) (by omega))]; exact hr1) g8 (by (try dsimp only); rw [(g6 (161 + 169 * p + 7) (by omega) (by omega) (by omega))]; exact hb9) (fun k k0 k1 => by (try dsimp only); rw [g6 _ (by omega) (by omega) (by omega)]; exact hf9 k k0 k1)) (by omega)⟩ (fun j hj hn => (SW.fr hS4 j (by omega)).trans (hag j (hT1.1.lt hn)))) hs6 g4⟩
    · rw [g5]⟩
