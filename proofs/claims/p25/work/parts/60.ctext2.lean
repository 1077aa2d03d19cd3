def undR (P : MP) (t r : Int) (P' : MP) : Prop := (P.2.1 = 0 ∧ t = 1 ∧ P' = P) ∨ (0 < P.2.1 ∧ t = 0 ∧ r = P.2.1 - 1 ∧ ∃ f, P' = (f, P.2.1 - 1, P.2.2) ∧ ∀ j, 0 ≤ j → j < 2189 → f j = P.2.2.1 (2189 * (P.2.1 - 1) + j))
/-- what stands for a saved state's numbers -/
abbrev ZKP (P : MP) : Int → Int → Int := fun i => if i = isv P.2.1 then P.1 else (fun i k => P.2.2.1 (2189 * i + k)) (if P.2.1 = 6 then i + 1 else i)
theorem CP.sav {w : WD} {χ : Nat} {P P' : MP} (h : CS w χ P'.z (isv P.2.1 + 1) (ZKP P) P.2.2.2.1 P.2.2.2.2) (hs : 0 ≤ P.2.1 ∧ P.2.1 ≤ 6) (hS : SavR P P') : CP w χ P' := by
  obtain ⟨z', s', sv', ln', tx'⟩ := P'
  obtain ⟨h1, h2, h3⟩ := hS
  have hi : 0 ≤ isv P.2.1 := by unfold isv; omega
  dsimp only at h1 h2 h3 h
  show CS w χ z' s' (fun i k => sv' (2189 * i + k)) ln' tx'
  rw [h1, show ln' = P.2.2.2.1 from congrArg Prod.fst h3, show tx' = P.2.2.2.2 from congrArg Prod.snd h3]
  refine h.c (fun _ _ _ => rfl) (fun i i0 i1 k k0 k1 => ?_) (fun _ _ _ => rfl)
  show sv' (2189 * i + k) = (if i = isv P.2.1 then P.1 else (fun i k => P.2.2.1 (2189 * i + k)) (if P.2.1 = 6 then i + 1 else i)) k
  by_cases q : i = isv P.2.1
  · rw [if_pos q, q]
    exact h2.1 k k0 k1
  · rw [if_neg q]
    exact h2.2 i k i0 (by omega) k0 k1
theorem SR.sh {w : WD} {χ : Nat} {T : ST} {z z' : Int → Int} {f : Int → Int} (h : SR w χ T z) (hf : ∀ k, 0 ≤ k → k < 160 → f k = z' k) (hr : Rst z z') : SR w χ (f, T.2) z' := by
  have e160 := hr 160 (by omega) (by omega)
  refine ⟨hf, h.2.1.trans e160.symm, fun p p0 p1 => ?_⟩
  obtain ⟨i, r, h1, h2, h3⟩ := h.2.2 p p0 p1
  exact ⟨i, r, h1, h2, fun q k k0 k1 => (h3 (by omega) k k0 k1).trans (hr _ (by omega) (by omega)).symm⟩
set_option maxRecDepth 100000 in
set_option maxHeartbeats 4000000 in
theorem c_undo {w : WD} {sz χ : Nat} {P : MP} (hC : CP w χ P) (hI : MInv P) (hN : WN w sz) (hs : χ + 44 ≤ sz) : CX iX6_undo 1 6 [.ref χ] w sz (OKQ w χ (fun t r P' => undR P t r P')) (EXQ w χ (fun t r P' => undR P t r P') "java/lang/IllegalStateException" 1) := by
  refine CX.ofZ (by decide) rfl (Nat.le_of_ble_eq_true rfl) (fun Z hZ hE => ?_)
  subst hZ
  have hC0 := hC
  obtain ⟨hA, ⟨T, hS, hR⟩, ⟨hh, hH, hH2, hH3⟩, ⟨TX, hX, hX2, hX3⟩, ⟨TFi, hF⟩, ⟨mk1, hm1⟩, ⟨mk2, hm2⟩⟩ := hC0
  have hv := hI.1
  have hsh : ∀ k, 0 ≤ k → k < 160 → 0 ≤ T.1 k ∧ T.1 k ≤ 99 := fun k k0 k1 => by rw [hR.1 k k0 k1]; exact hv.1 k k0 k1
  have hz160 := hv.2.1
  have hs6 := hI.2.1
  have hVT := hI.2.2.2
  have hln := hVT.1
  refine V_aload_n dX6_undo_0 0 rfl rfl ?_
  refine V_g_X6_31 rfl dX6_undo_1 hA rfl ?_
  refine V_g_X6_177 rfl dX6_undo_4 hH.1 rfl ?_
  refine V_if_gt 20 dX6_undo_7 (by decide) (by omega) (fun h7 => ?_) (fun h7 => ?_)
  · refine V_aload_n dX6_undo_20 0 rfl rfl ?_
    refine V_g_X6_31 rfl dX6_undo_21 hA rfl ?_
    refine V_aload_n dX6_undo_24 0 rfl rfl ?_
    refine V_g_X6_24 rfl dX6_undo_25 hA rfl ?_
    refine V_c_X6_182 rfl (by decide) (c_restore hC.2.2.1 (by omega) hS) dX6_undo_28 hH.1 rfl rfl (Nat.le_of_ble_eq_true rfl) (Nat.le_of_eq (Nat.zero_add _)) (Nat.le_of_eq (Nat.zero_add _)) (fun v w sz q => ?_)
    obtain ⟨rfl, rfl, hQ1, hT9, hfr⟩ := q
    obtain ⟨hq9, hHq, hHq2⟩ := hQ1
    have hQ1 : HQ _ χ (P.2.1 - 1) (fun i k => P.2.2.1 (2189 * i + k)) := ⟨hq9, hHq, hHq2⟩
    refine V_aload_n dX6_undo_31 0 rfl rfl ?_
    refine V_g_X6_31 rfl dX6_undo_32 ((hfr _ (by omega)).trans hA) rfl ?_
    refine V_g_X6_177 rfl dX6_undo_35 hHq.1 rfl ?_
    exact V_iret hE rfl dX6_undo_38 ⟨⟨_, rfl⟩, ⟨hN.fr (a := χ + 4) (n := 23) (by omega) (fun j hj => hfr j (by omega)), fun j hj _ => hfr j (by omega)⟩, fun t r P1 hR1 => by
      rcases hR1 with g | ⟨g1, g2, g3, f, g4, g5⟩
      · exact absurd g.1 (by omega)
      · refine ⟨g2, by rw [g3], ?_⟩
        rw [g4]
        obtain ⟨hh, hH9, hH8⟩ := hQ1
        have hC1 : CS w χ f (P.2.1 - 1) (fun i k => P.2.2.1 (2189 * i + k)) P.2.2.2.1 P.2.2.2.2 := by
          refine CS.c (z := fun k => P.2.2.1 (2189 * (P.2.1 - 1) + k)) ⟨(hfr _ (by omega)).trans hA, hT9, ⟨hh, hH9, hH8⟩, ⟨TX, XW.mv hX (fun j j0 j1 => hfr j (by omega)), hX2, hX3⟩, ⟨TFi, FW.mv hF (fun j j0 j1 => hfr j (by omega))⟩, ⟨mk1, (hfr _ (by omega)).trans hm1⟩, ⟨mk2, (hfr _ (by omega)).trans hm2⟩⟩ (fun k k0 k1 => g5 k k0 k1) (fun _ _ _ _ _ _ => rfl) (fun _ _ _ => rfl)
        exact hC1⟩
  · exact V_throw (text := "there is no saved state") rfl th_ise (List.mem_of_getElem? (i := 248) (by decide +kernel)) dX6_undo_10 dX6_undo_13 dX6_undo_14 dX6_undo_16 dX6_undo_19 (by decide) (Nat.le_of_ble_eq_true rfl) (Nat.le_of_ble_eq_true rfl) (Nat.le_of_ble_eq_true rfl) (fun sz9 h9 => EXQ.th hC hN h9 (fun t r P1 hR1 => hR1.elim (fun g => g.2) (fun g => absurd g.1 (by omega))))
set_option maxRecDepth 100000 in
set_option maxHeartbeats 4000000 in
theorem c_clean {w : WD} {sz χ : Nat} {P : MP} (hC : CP w χ P) (hI : MInv P) (hN : WN w sz) (hs : χ + 44 ≤ sz) : CT iX6_clean 0 0 [.ref χ] w sz (OKQ w χ (fun t r P' => clnR P t r P')) := by
  refine CT.ofZ (by decide) rfl (Nat.le_of_ble_eq_true rfl) (fun Z hE => ?_)
  have hC0 := hC
  obtain ⟨hA, ⟨T, hS, hR⟩, ⟨hh, hH, hH2, hH3⟩, ⟨TX, hX, hX2, hX3⟩, ⟨TFi, hF⟩, ⟨mk1, hm1⟩, ⟨mk2, hm2⟩⟩ := hC0
  have hv := hI.1
  have hsh : ∀ k, 0 ≤ k → k < 160 → 0 ≤ T.1 k ∧ T.1 k ≤ 99 := fun k k0 k1 => by rw [hR.1 k k0 k1]; exact hv.1 k k0 k1
  have hz160 := hv.2.1
  have hs6 := hI.2.1
  have hVT := hI.2.2.2
  have hln := hVT.1
  refine V_aload_n dX6_clean_0 0 rfl rfl ?_
  refine V_g_X6_31 rfl dX6_clean_1 hA rfl ?_
  refine V_aload_n dX6_clean_4 0 rfl rfl ?_
  refine V_g_X6_24 rfl dX6_clean_5 hA rfl ?_
  refine V_c_X6_64 rfl (by decide) (c_keep hC.2.2.1 hs6 hS hR) dX6_clean_8 hH.1 rfl rfl (Nat.le_of_ble_eq_true rfl) (Nat.le_of_eq (Nat.zero_add _)) (Nat.le_of_eq (Nat.zero_add _)) (fun v w sz q => ?_)
  obtain ⟨rfl, rfl, hQ1, hfr1⟩ := q
  have hC1 : CS _ χ P.1 (isv P.2.1 + 1) (ZKP P) P.2.2.2.1 P.2.2.2.2 := CS.hist hC hQ1 (fun j hj _ => hfr1 j hj)
  have hT1 := TF.in_ (a := χ + 7) (n := 20) hN hs (by omega) (fun j hj => hfr1 j (by omega))
  have hC1b := hC1
  obtain ⟨hA, ⟨T, hS, hR⟩, -, ⟨TX, hX, hX2, hX3⟩, ⟨TFi, hF⟩, ⟨mk1, hm1⟩, ⟨mk2, hm2⟩⟩ := hC1b
  have hsh : ∀ k, 0 ≤ k → k < 160 → 0 ≤ T.1 k ∧ T.1 k ≤ 99 := fun k k0 k1 => by rw [hR.1 k k0 k1]; exact hv.1 k k0 k1
  refine V_aload_n dX6_clean_11 0 rfl rfl ?_
  refine V_g_X6_24 rfl dX6_clean_12 hA rfl ?_
  refine V_c_X6_144 rfl (by decide) (c_removePicks hS hR (by omega) hv) dX6_clean_15 hS.1 rfl rfl (Nat.le_of_ble_eq_true rfl) (Nat.le_of_eq (Nat.zero_add _)) (Nat.le_of_eq (Nat.zero_add _)) (fun v w sz q => ?_)
  obtain ⟨rfl, g, hS9, hRm, rfl⟩ := q
  exact V_iret hE rfl dX6_clean_18 ⟨⟨_, rfl⟩, hT1.tr (TF.in_ (a := χ + 4) (n := 3) hT1.1 hs (by omega) (fun j hj => SW.fr hS9 j (by omega))), fun t r P1 hR1 => by
    obtain ⟨g1, g2, g3, g4, g5⟩ := hR1
    refine ⟨g1, by rw [g5], CP.sav (CS.now hC1 ⟨_, SW.rb hS9, fun k k0 k1 => (hR.1 k k0 k1).trans (g3.1 k k0 k1).symm, g4.symm, fun p p0 p1 => ?_⟩ (fun j hj _ => SW.fr hS9 j (by omega))) hs6 g2⟩
    by_cases e : p < P1.1 160
    · rw [g4] at e
      obtain ⟨p2, a1, a2, a3, a4⟩ := icin_onto hv (P.1 160).toNat (by omega) p p0 (by rw [show (((P.1 160).toNat : Nat) : Int) = P.1 160 by omega]; exact e)
      obtain ⟨i, r9, h1, h2, h3⟩ := hR.2.2 p2 a1 (by omega)
      refine ⟨i, r9, ?_, h2.mv (fun j hj _ => SW.fr hS9 j (by omega)), fun _ k k0 k1 => ?_⟩
      · show g p.toNat = some i
        rw [← a4, hRm.1 p2 a1 (by omega) a3]; exact h1
      · rw [h3 (by omega) k k0 k1, ← a4]
        exact (g3.2 p2 a1 (by omega) a3 k k0 k1).symm
    · obtain ⟨q', b0, b1, b2⟩ := hRm.2.2 p p0 p1
      obtain ⟨i, r9, h1, h2, h3⟩ := hR.2.2 q' b0 b1
      exact ⟨i, r9, b2.trans h1, h2.mv (fun j hj _ => SW.fr hS9 j (by omega)), fun q => absurd q e⟩⟩
theorem imS_c {z z' : Int → Int} {c : Int} (hz : 0 ≤ z 160 ∧ z 160 ≤ 12) (hc : 0 ≤ c ∧ c < 160) (h : ∀ k, 0 ≤ k → k < 2189 → z' k = z k) : imS z' c = imS z c := by
  have key : ∀ n : Nat, n ≤ 12 → imsk z' n c = imsk z n c := by
    intro n
    induction n with
    | zero => intro _; rfl
    | succ n ih =>
      intro hn
      have e1 : imsk z' ((n : Int) + 1) c = _ := imsk_s (by omega)
      have e2 : imsk z ((n : Int) + 1) c = _ := imsk_s (by omega)
      rw [show ((n + 1 : Nat) : Int) = (n : Int) + 1 by omega, e1, e2, h (161 + 169 * (n : Int) + 7) (by omega) (by omega), h (161 + 169 * (n : Int) + 5) (by omega) (by omega), h (161 + 169 * (n : Int) + (9 + c)) (by omega) (by omega), ih (by omega)]
  have e := key (z 160).toNat (by omega)
  rw [show (((z 160).toNat : Nat) : Int) = z 160 by omega] at e
  show imsk z' (z' 160) c = imsk z (z 160) c
  rw [h 160 (by omega) (by omega)]
  exact e
/-- the numbers behind a move -/
def zMv (z : Int → Int) (p u : Int) : Int → Int := fun j => if j < 161 then z j else z (161 + 169 * imv p u ((j - 161) / 169) + (j - 161) % 169)
theorem zMv_m {z : Int → Int} {p u : Int} : Moved z (zMv z p u) (imv p u) := by
  refine ⟨fun j j0 j1 => if_pos j1, fun q i q0 q1 i0 i1 => ?_⟩
  unfold zMv
  rw [if_neg (by omega), show (161 + 169 * q + i - 161) / 169 = q by omega, show (161 + 169 * q + i - 161) % 169 = i by omega]
theorem Moved.u {z f g m : Int → Int} (h : Moved z f m) (h' : Moved z g m) : ∀ k, 0 ≤ k → k < 2189 → f k = g k := by
  intro k k0 k1
  by_cases q : k < 161
  · rw [h.1 k k0 q, h'.1 k k0 q]
  · have e := h.2 ((k - 161) / 169) ((k - 161) % 169) (by omega) (by omega) (by omega) (by omega)
    have e' := h'.2 ((k - 161) / 169) ((k - 161) % 169) (by omega) (by omega) (by omega) (by omega)
    rw [show 161 + 169 * ((k - 161) / 169) + (k - 161) % 169 = k by omega] at e e'
    rw [e, e']
set_option maxRecDepth 100000 in
set_option maxHeartbeats 4000000 in
theorem c_reorder {w : WD} {sz χ : Nat} {P : MP} (hC : CP w χ P) (hI : MInv P) (hN : WN w sz) (hs : χ + 44 ≤ sz) {p u : Int} (r : -2147483648 ≤ p ∧ p < 2147483648 ∧ -2147483648 ≤ u ∧ u < 2147483648) : CX iX6_reorder 2 12 [.ref χ, xI p, xI u] w sz (OKQ w χ (fun t r P' => ordR P p u t r P')) (EXQ w χ (fun t r P' => ordR P p u t r P') "java/lang/IndexOutOfBoundsException" 1) := by
  refine CX.ofZ (by decide) rfl (Nat.le_of_ble_eq_true rfl) (fun Z hZ hE => ?_)
  subst hZ
  have hC0 := hC
  obtain ⟨hA, ⟨T, hS, hR⟩, ⟨hh, hH, hH2, hH3⟩, ⟨TX, hX, hX2, hX3⟩, ⟨TFi, hF⟩, ⟨mk1, hm1⟩, ⟨mk2, hm2⟩⟩ := hC0
  have hv := hI.1
  have hsh : ∀ k, 0 ≤ k → k < 160 → 0 ≤ T.1 k ∧ T.1 k ≤ 99 := fun k k0 k1 => by rw [hR.1 k k0 k1]; exact hv.1 k k0 k1
  have hz160 := hv.2.1
  have hs6 := hI.2.1
  have hVT := hI.2.2.2
  have hln := hVT.1
  refine V_aload_n dX6_reorder_0 0 rfl rfl ?_
  refine V_iload_n dX6_reorder_1 1 rfl rfl ?_
  refine V_x_X6_118 rfl (kc' := 1) (ks' := 6) (by decide) (c_needPick hC hI.1.2.1 (by omega)) dX6_reorder_2 hA rfl rfl (Nat.le_of_ble_eq_true rfl) (Nat.le_of_ble_eq_true rfl) (Nat.le_of_ble_eq_true rfl) (fun E w1 sz1 q => by obtain ⟨rfl, rfl, h9, hq⟩ := q; exact VX_out rfl ((EXQ.th hC hN h9 (fun t r P1 hR1 => hR1.elim (fun g => g.2) (fun g => absurd g.1 (fun g => hq g.1)))))) (fun v w sz q => ?_)
  obtain ⟨rfl, rfl, rfl, hq2⟩ := q
  refine V_aload_n dX6_reorder_5 0 rfl rfl ?_
  refine V_iload_n dX6_reorder_6 2 rfl rfl ?_
  refine V_x_X6_118 rfl (kc' := 0) (ks' := 0) (by decide) (c_needPick hC hI.1.2.1 (by omega)) dX6_reorder_7 hA rfl rfl (Nat.le_of_ble_eq_true rfl) (Nat.le_of_ble_eq_true rfl) (Nat.le_of_ble_eq_true rfl) (fun E w1 sz1 q => by obtain ⟨rfl, rfl, h9, hq⟩ := q; exact VX_out rfl ((EXQ.th hC hN h9 (fun t r P1 hR1 => hR1.elim (fun g => g.2) (fun g => absurd g.1 (fun g => hq g.2)))))) (fun v w sz q => ?_)
  obtain ⟨rfl, rfl, rfl, hq7⟩ := q
  refine V_aload_n dX6_reorder_10 0 rfl rfl ?_
  refine V_g_X6_31 rfl dX6_reorder_11 hA rfl ?_
  refine V_aload_n dX6_reorder_14 0 rfl rfl ?_
  refine V_g_X6_24 rfl dX6_reorder_15 hA rfl ?_
  refine V_c_X6_64 rfl (by decide) (c_keep hC.2.2.1 hs6 hS hR) dX6_reorder_18 hH.1 rfl rfl (Nat.le_of_ble_eq_true rfl) (Nat.le_of_eq (Nat.zero_add _)) (Nat.le_of_eq (Nat.zero_add _)) (fun v w sz q => ?_)
  obtain ⟨rfl, rfl, hQ1, hfr1⟩ := q
  have hC1 : CS _ χ P.1 (isv P.2.1 + 1) (ZKP P) P.2.2.2.1 P.2.2.2.2 := CS.hist hC hQ1 (fun j hj _ => hfr1 j hj)
  have hT1 := TF.in_ (a := χ + 7) (n := 20) hN hs (by omega) (fun j hj => hfr1 j (by omega))
  have hC1b := hC1
  obtain ⟨hA, ⟨T, hS, hR⟩, -, ⟨TX, hX, hX2, hX3⟩, ⟨TFi, hF⟩, ⟨mk1, hm1⟩, ⟨mk2, hm2⟩⟩ := hC1b
  have hsh : ∀ k, 0 ≤ k → k < 160 → 0 ≤ T.1 k ∧ T.1 k ≤ 99 := fun k k0 k1 => by rw [hR.1 k k0 k1]; exact hv.1 k k0 k1
  refine V_aload_n dX6_reorder_21 0 rfl rfl ?_
  refine V_g_X6_24 rfl dX6_reorder_22 hA rfl ?_
  refine V_aload_n dX6_reorder_25 0 rfl rfl ?_
  refine V_g_X6_53 rfl dX6_reorder_26 hA rfl ?_
  refine V_c_X6_83 rfl (by decide) (c_makeMask hS hR hv hm2 (by omega)) dX6_reorder_29 hS.1 rfl rfl (Nat.le_of_ble_eq_true rfl) (Nat.le_of_eq (Nat.zero_add _)) (Nat.le_of_eq (Nat.zero_add _)) (fun v w sz q => ?_)
  obtain ⟨rfl, rfl, b1, hu1, hb1⟩ := q
  have hC2 : CS _ χ P.1 (isv P.2.1 + 1) (ZKP P) P.2.2.2.1 P.2.2.2.2 := CS.mask hC1 (Or.inr rfl) hu1
  have hT2 := hT1.tr (TF.in_ (a := χ + 36) (n := 1) hT1.1 hs (by omega) (fun j hj => hu1.2 j (by omega)))
  replace hA := (hu1.2 _ (by omega)).trans hA
  replace hS := SW.mv hS (fun j j0 j1 => hu1.2 j (by omega))
  replace hR := hR.mv (fun j hj _ => hu1.2 j (by omega))
  replace hm1 := (hu1.2 _ (by omega)).trans hm1
  have hbf := hu1.1
  refine V_aload_n dX6_reorder_32 0 rfl rfl ?_
  refine V_g_X6_24 rfl dX6_reorder_33 hA rfl ?_
  refine V_iload_n dX6_reorder_36 1 rfl rfl ?_
  refine V_iload_n dX6_reorder_37 2 rfl rfl ?_
  refine V_c_X6_137 rfl (by decide) (c_movePick hS hR (by omega) (by omega) (by omega)) dX6_reorder_38 hS.1 rfl rfl (Nat.le_of_ble_eq_true rfl) (Nat.le_of_eq (Nat.zero_add _)) (Nat.le_of_eq (Nat.zero_add _)) (fun v w sz q => ?_)
  obtain ⟨rfl, rfl, g, hS3, hg⟩ := q
  have hT3 := hT2.tr (TF.in_ (a := χ + 4) (n := 3) hT2.1 hs (by omega) (fun j hj => SW.fr hS3 j (by omega)))
  have hvM : VZ (zMv P.1 p u) := hv.mv (m := imv p u) (fun q q0 q1 => by unfold imv; omega) zMv_m
  have hRM : SR w χ (T.1, g, T.2.2) (zMv P.1 p u) := by
    refine ⟨fun k k0 k1 => (hR.1 k k0 k1).trans (zMv_m.1 k k0 (by omega)).symm, hR.2.1.trans (zMv_m.1 160 (by omega) (by omega)).symm, fun q q0 q1 => ?_⟩
    have hi : 0 ≤ imv p u q ∧ imv p u q < 12 := by unfold imv; omega
    obtain ⟨i, r9, h1, h2, h3⟩ := hR.2.2 (imv p u q) hi.1 hi.2
    refine ⟨i, r9, (hg q q0 q1).trans h1, h2.mv (fun j hj _ => SW.fr hS3 j (by omega)), fun g1 k k0 k1 => ?_⟩
    rw [zMv_m.1 160 (by omega) (by omega)] at g1
    rw [h3 (by unfold imv; omega) k k0 k1]
    exact (zMv_m.2 q k q0 q1 k0 k1).symm
  replace hA := (SW.fr hS3 _ (by omega)).trans hA
  replace hS := SW.rb hS3
  replace hm1 := (SW.fr hS3 _ (by omega)).trans hm1
  replace hbf := (SW.fr hS3 _ (by omega)).trans hbf
  refine V_aload_n dX6_reorder_41 0 rfl rfl ?_
  refine V_g_X6_24 rfl dX6_reorder_42 hA rfl ?_
  refine V_aload_n dX6_reorder_45 0 rfl rfl ?_
  refine V_g_X6_49 rfl dX6_reorder_46 hA rfl ?_
  refine V_c_X6_83 rfl (by decide) (c_makeMask hS hRM hvM hm1 (by omega)) dX6_reorder_49 hS.1 rfl rfl (Nat.le_of_ble_eq_true rfl) (Nat.le_of_eq (Nat.zero_add _)) (Nat.le_of_eq (Nat.zero_add _)) (fun v w sz q => ?_)
  obtain ⟨rfl, rfl, m9, hu2, hm9⟩ := q
  replace hA := (hu2.2 _ (by omega)).trans hA
  replace hbf := (hu2.2 _ (by omega)).trans hbf
  have hbb : ∀ k, 0 ≤ k → k < 160 → 0 ≤ b1 k ∧ b1 k ≤ 100 := fun k k0 k1 => by rw [hb1 k k0 k1]; exact imsk_b hv ⟨k0, k1⟩ _ hv.2.1.1 (Int.le_refl _)
  have hmb : ∀ k, 0 ≤ k → k < 160 → 0 ≤ m9 k ∧ m9 k ≤ 100 := fun k k0 k1 => by rw [hm9 k k0 k1]; exact imsk_b hvM ⟨k0, k1⟩ _ hvM.2.1.1 (Int.le_refl _)
  refine V_aload_n dX6_reorder_52 0 rfl rfl ?_
  refine V_g_X6_53 rfl dX6_reorder_53 hA rfl ?_
  refine V_aload_n dX6_reorder_56 0 rfl rfl ?_
  refine V_g_X6_49 rfl dX6_reorder_57 hA rfl ?_
  refine V_c_X6_140 rfl (by decide) (c_differences hbf hu2.1 hbb hmb) dX6_reorder_60 rfl rfl (Nat.le_of_ble_eq_true rfl) (Nat.le_of_eq (Nat.zero_add _)) (Nat.le_of_eq (Nat.zero_add _)) (fun v w sz q => ?_)
  obtain ⟨rfl, rfl, rfl⟩ := q
  exact V_iret hE rfl dX6_reorder_63 ⟨⟨_, rfl⟩, hT3.tr (TF.in_ (a := χ + 35) (n := 1) hT3.1 hs (by omega) (fun j hj => hu2.2 j (by omega))), fun t r P1 hR1 => by
    rcases hR1 with g | ⟨g1, g2, g3, g4, g5⟩
    · exact absurd ⟨hq2, hq7⟩ g.1
    · have hz9 := g4.u zMv_m
      refine ⟨g2, ?_, CP.sav (CS.mask (CS.now hC2 ⟨_, hS, hRM.c hz9⟩ (fun j hj _ => SW.fr hS3 j (by omega))) (Or.inl rfl) hu2) hs6 g3⟩
      rw [g5]
      refine bE (isum_c (fun k k0 k1 => ?_))
      rw [hb1 k k0 k1, hm9 k k0 k1, imS_c hvM.2.1 ⟨k0, k1⟩ hz9]
      by_cases e : imS P.1 k = imS (zMv P.1 p u) k
      · rw [if_neg (fun q => q e), if_neg (fun q => q e.symm)]
      · rw [if_pos e, if_pos (fun q => e q.symm)]⟩
