/-! the class: texts, undo, picks removed and moved -/
theorem rdx_u {tx : Int → Int} {n r r' s h s' h' : Int} (a : rdx tx n r s h) (b : rdx tx n r' s' h') : r = r' := by
  have key : ∀ {r r' s h s' h' : Int}, rdx tx n r s h → rdx tx n r' s' h' → ¬ r < r' := by
    intro r r' s h s' h' a b q
    have h1 : (ird tx (r + 1)).1 = false := by
      rcases a.2.2 with ⟨e, -⟩ | ⟨-, e⟩
      · have := b.1; omega
      · exact e
    have h2 := ird_t (k := r + 1) (n := r') (by have := a.1; omega) (by omega) b.2.1
    rw [h1] at h2
    cases h2
  have h1 := key a b
  have h2 := key b a
  omega
def undR (P : MP) (t r : Int) (P' : MP) : Prop := (P.2.1 = 0 ∧ t = 1 ∧ P' = P) ∨ (0 < P.2.1 ∧ t = 0 ∧ r = P.2.1 - 1 ∧ ∃ f, P' = (f, P.2.1 - 1, P.2.2) ∧ ∀ j, 0 ≤ j → j < 2189 → f j = P.2.2.1 (2189 * (P.2.1 - 1) + j))
/-- what stands for a saved state's numbers -/
abbrev ZKP (P : MP) : Int → Int → Int := fun i => if i = isv P.2.1 then P.1 else (fun i k => P.2.2.1 (2189 * i + k)) (if P.2.1 = 6 then i + 1 else i)
theorem CP.sav {w : WD} {χ : Nat} {P P' : MP} (h : CS w χ P'.z (isv P.2.1 + 1) (ZKP P) P.2.2.2.1 P.2.2.2.2) (hs : 0 ≤ P.2.1 ∧ P.2.1 ≤ 6) (hS : SavR P P') : CP w χ P' := by
  obtain ⟨z', s', sv', ln', tx'⟩ := P'
  obtain ⟨h1, h2, h3⟩ := hS
  have hi : 0 ≤ isv P.2.1 := by unfold isv; omega
  dsimp only at h1 h2 h3 h
  show CS w χ z' s' (fun i k => sv' (2189 * i + k)) ln' tx'
  rw [h1, show ln' = P.2.2.2.1 from congrArg Prod.fst h3, show tx' = P.2.2.2.2 from congrArg Prod.snd h3]
  refine h.c (fun _ _ _ => rfl) (fun i i0 i1 k k0 k1 => ?_) (fun _ _ _ => rfl)
  show sv' (2189 * i + k) = (if i = isv P.2.1 then P.1 else (fun i k => P.2.2.1 (2189 * i + k)) (if P.2.1 = 6 then i + 1 else i)) k
  by_cases q : i = isv P.2.1
  · rw [if_pos q, q]
    exact h2.1 k k0 k1
  · rw [if_neg q]
    exact h2.2 i k i0 (by omega) k0 k1
theorem SR.sh {w : WD} {χ : Nat} {T : ST} {z z' : Int → Int} {f : Int → Int} (h : SR w χ T z) (hf : ∀ k, 0 ≤ k → k < 160 → f k = z' k) (hr : Rst z z') : SR w χ (f, T.2) z' := by
  have e160 := hr 160 (by omega) (by omega)
  refine ⟨hf, h.2.1.trans e160.symm, fun p p0 p1 => ?_⟩
  obtain ⟨i, r, h1, h2, h3⟩ := h.2.2 p p0 p1
  exact ⟨i, r, h1, h2, fun q k k0 k1 => (h3 (by omega) k k0 k1).trans (hr _ (by omega) (by omega)).symm⟩
set_option maxRecDepth 100000 in
set_option maxHeartbeats 4000000 in
theorem c_clearBuffer {w : WD} {sz χ : Nat} {P : MP} (hC : CP w χ P) (hI : MInv P) (hN : WN w sz) (hs : χ + 48 ≤ sz) : CT iX6_clearBuffer 0 0 [.ref χ] w sz (OKQ w χ (fun t r P' => clbR P t r P')) := by
  refine CT.ofZ (by decide) rfl (Nat.le_of_ble_eq_true rfl) (fun Z hE => ?_)
  have hC0 := hC
  obtain ⟨hA, ⟨T, hS, hR⟩, ⟨hh, hH, hH2, hH3⟩, ⟨TX, hX, hX2, hX3⟩, ⟨TFi, hF⟩, ⟨mk1, hm1⟩, ⟨mk2, hm2⟩⟩ := hC0
  have hv := hI.1
  have hsh : ∀ k, 0 ≤ k → k < 160 → 0 ≤ T.1 k ∧ T.1 k ≤ 99 := fun k k0 k1 => by rw [hR.1 k k0 k1]; exact hv.1 k k0 k1
  have hz160 := hv.2.1
  have hs6 := hI.2.1
  have hVT := hI.2.2.2
  have hln := hVT.1
  refine V_aload_n dX6_clearBuffer_0 0 rfl rfl ?_
  refine V_g_X6_38 rfl dX6_clearBuffer_1 hA rfl ?_
  refine V_g_X6_148 rfl dX6_clearBuffer_4 hX.1 rfl ?_
  rw [hX2]
  refine V_istore_n dX6_clearBuffer_7 1 rfl (by decide) ?_
  refine V_aload_n dX6_clearBuffer_8 0 rfl rfl ?_
  refine V_g_X6_38 rfl dX6_clearBuffer_9 hA rfl ?_
  refine V_iconst dX6_clearBuffer_12 ?_
  refine V_p_X6_148 rfl dX6_clearBuffer_13 hX.1 (Nat.le_of_ble_eq_true rfl) (fun _ => rfl) (fun _ => rfl) ?_
  refine V_iload_n dX6_clearBuffer_16 1 rfl rfl ?_
  exact V_iret hE rfl dX6_clearBuffer_17 ⟨⟨hN.fr (a := χ + 27) (n := 1) (by omega) (fun j hj => xU_n (by omega)), fun j hj _ => xU_n (by omega)⟩, fun t r P1 hR1 => by
    obtain ⟨g3, g4, g5⟩ := hR1
    refine ⟨g3, by rw [g4], ?_⟩
    rw [g5]
    exact CS.text hC ⟨(TX.1, 0), ⟨xU_s, (xU_n (by omega)).trans hX.2.1, fun _ _ => rfl⟩, rfl, fun j j0 j1 => by dsimp only at j1; omega⟩ (fun j hj _ => xU_n (by omega))⟩
set_option maxRecDepth 100000 in
set_option maxHeartbeats 4000000 in
theorem c_firstError {w : WD} {sz χ : Nat} {P : MP} (hC : CP w χ P) (hI : MInv P) (hN : WN w sz) (hs : χ + 48 ≤ sz) : CT iX6_firstError 0 0 [.ref χ] w sz (OKQ w χ (fun t r P' => errR P t r P')) := by
  refine CT.ofZ (by decide) rfl (Nat.le_of_ble_eq_true rfl) (fun Z hE => ?_)
  have hC0 := hC
  obtain ⟨hA, ⟨T, hS, hR⟩, ⟨hh, hH, hH2, hH3⟩, ⟨TX, hX, hX2, hX3⟩, ⟨TFi, hF⟩, ⟨mk1, hm1⟩, ⟨mk2, hm2⟩⟩ := hC0
  have hv := hI.1
  have hsh : ∀ k, 0 ≤ k → k < 160 → 0 ≤ T.1 k ∧ T.1 k ≤ 99 := fun k k0 k1 => by rw [hR.1 k k0 k1]; exact hv.1 k k0 k1
  have hz160 := hv.2.1
  have hs6 := hI.2.1
  have hVT := hI.2.2.2
  have hln := hVT.1
  refine V_aload_n dX6_firstError_0 0 rfl rfl ?_
  refine V_g_X6_38 rfl dX6_firstError_1 hA rfl ?_
  refine V_c_X6_156 rfl (by decide) (c_firstWrong (tx := P.2.2.2.2) hX ⟨by rw [hX2]; exact hln.1, by rw [hX2]; exact hln.2⟩ (fun j j0 j1 => hX3 j j0 (by rw [← hX2]; exact j1)) (fun j j0 j1 => hVT.2 j j0 (by rw [← hX2]; exact j1))) dX6_firstError_4 hX.1 rfl rfl (Nat.le_of_ble_eq_true rfl) (Nat.le_of_eq (Nat.zero_add _)) (Nat.le_of_eq (Nat.zero_add _)) (fun v w sz q => ?_)
  obtain ⟨rfl, rfl, r9, rfl, s9, h9, hrd⟩ := q
  rw [hX2] at hrd
  exact V_iret hE rfl dX6_firstError_7 ⟨TF.rf hN (Nat.le_refl _), fun t r P1 hR1 => by obtain ⟨g1, g2, s1, h1, g3⟩ := hR1; exact ⟨g1, by rw [rdx_u hrd g3], by rw [g2]; exact hC⟩⟩
set_option maxRecDepth 100000 in
set_option maxHeartbeats 4000000 in
theorem c_clean {w : WD} {sz χ : Nat} {P : MP} (hC : CP w χ P) (hI : MInv P) (hN : WN w sz) (hs : χ + 48 ≤ sz) : CT iX6_clean 0 0 [.ref χ] w sz (OKQ w χ (fun t r P' => clnR P t r P')) := by
  refine CT.ofZ (by decide) rfl (Nat.le_of_ble_eq_true rfl) (fun Z hE => ?_)
  have hC0 := hC
  obtain ⟨hA, ⟨T, hS, hR⟩, ⟨hh, hH, hH2, hH3⟩, ⟨TX, hX, hX2, hX3⟩, ⟨TFi, hF⟩, ⟨mk1, hm1⟩, ⟨mk2, hm2⟩⟩ := hC0
  have hv := hI.1
  have hsh : ∀ k, 0 ≤ k → k < 160 → 0 ≤ T.1 k ∧ T.1 k ≤ 99 := fun k k0 k1 => by rw [hR.1 k k0 k1]; exact hv.1 k k0 k1
  have hz160 := hv.2.1
  have hs6 := hI.2.1
  have hVT := hI.2.2.2
  have hln := hVT.1
  refine V_aload_n dX6_clean_0 0 rfl rfl ?_
  refine V_g_X6_31 rfl dX6_clean_1 hA rfl ?_
  refine V_aload_n dX6_clean_4 0 rfl rfl ?_
  refine V_g_X6_24 rfl dX6_clean_5 hA rfl ?_
  refine V_c_X6_64 rfl (by decide) (c_keep hC.2.2.1 hs6 hS hR) dX6_clean_8 hH.1 rfl rfl (Nat.le_of_ble_eq_true rfl) (Nat.le_of_eq (Nat.zero_add _)) (Nat.le_of_eq (Nat.zero_add _)) (fun v w sz q => ?_)
  obtain ⟨rfl, rfl, hQ1, hfr1⟩ := q
  have hC1 : CS _ χ P.1 (isv P.2.1 + 1) (ZKP P) P.2.2.2.1 P.2.2.2.2 := CS.hist hC hQ1 (fun j hj _ => hfr1 j hj)
  have hT1 := TF.in_ (a := χ + 7) (n := 20) hN hs (by omega) (fun j hj => hfr1 j (by omega))
  have hC1b := hC1
  obtain ⟨hA, ⟨T, hS, hR⟩, -, ⟨TX, hX, hX2, hX3⟩, ⟨TFi, hF⟩, ⟨mk1, hm1⟩, ⟨mk2, hm2⟩⟩ := hC1b
  have hsh : ∀ k, 0 ≤ k → k < 160 → 0 ≤ T.1 k ∧ T.1 k ≤ 99 := fun k k0 k1 => by rw [hR.1 k k0 k1]; exact hv.1 k k0 k1
  refine V_aload_n dX6_clean_11 0 rfl rfl ?_
  refine V_g_X6_24 rfl dX6_clean_12 hA rfl ?_
  refine V_c_X6_144 rfl (by decide) (c_removePicks hS hR (by omega) hv) dX6_clean_15 hS.1 rfl rfl (Nat.le_of_ble_eq_true rfl) (Nat.le_of_eq (Nat.zero_add _)) (Nat.le_of_eq (Nat.zero_add _)) (fun v w sz q => ?_)
  obtain ⟨rfl, g, hS9, hRm, rfl⟩ := q
  exact V_iret hE rfl dX6_clean_18 ⟨hT1.tr (TF.in_ (a := χ + 4) (n := 3) hT1.1 hs (by omega) (fun j hj => SW.fr hS9 j (by omega))), fun t r P1 hR1 => by
    obtain ⟨g1, g2, g3, g4, g5⟩ := hR1
    refine ⟨g1, by rw [g5], CP.sav (CS.now hC1 ⟨_, SW.rb hS9, fun k k0 k1 => (hR.1 k k0 k1).trans (g3.1 k k0 k1).symm, g4.symm, fun p p0 p1 => ?_⟩ (fun j hj _ => SW.fr hS9 j (by omega))) hs6 g2⟩
    by_cases e : p < P1.1 160
    · rw [g4] at e
      obtain ⟨p2, a1, a2, a3, a4⟩ := icin_onto hv (P.1 160).toNat (by omega) p p0 (by rw [show (((P.1 160).toNat : Nat) : Int) = P.1 160 by omega]; exact e)
      obtain ⟨i, r9, h1, h2, h3⟩ := hR.2.2 p2 a1 (by omega)
      refine ⟨i, r9, ?_, h2.mv (fun j hj _ => SW.fr hS9 j (by omega)), fun _ k k0 k1 => ?_⟩
      · show g p.toNat = some i
        rw [← a4, hRm.1 p2 a1 (by omega) a3]; exact h1
      · rw [h3 (by omega) k k0 k1, ← a4]
        exact (g3.2 p2 a1 (by omega) a3 k k0 k1).symm
    · obtain ⟨q', b0, b1, b2⟩ := hRm.2.2 p p0 p1
      obtain ⟨i, r9, h1, h2, h3⟩ := hR.2.2 q' b0 b1
      exact ⟨i, r9, b2.trans h1, h2.mv (fun j hj _ => SW.fr hS9 j (by omega)), fun q => absurd q e⟩⟩
