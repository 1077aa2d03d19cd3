/-! the reference: coverage, mix -/
def covD (z : Int → Int) : UInt64 := FP.ddiv (FP.i2d (Int32.ofInt (isum (imS z) 160))) 4670021707350671360
theorem imS_sum {z : Int → Int} (h : VZ z) : 0 ≤ isum (imS z) 160 ∧ isum (imS z) 160 ≤ 16000 := by
  have := isum_b (f := imS z) (lo := 0) (hi := 100) (k := 160) (by omega) (fun j j0 j1 => imsk_b h ⟨j0, j1⟩ _ h.2.1.1 (Int.le_refl _))
  omega
set_option maxRecDepth 100000 in
set_option maxHeartbeats 4000000 in
theorem m_mix {w0 w : WD} {sz μ : Nat} {P : MP} {K : MK} {z : Int} (hM : MW w0 w μ P K) : CT iX7_mix 0 0 [.ref μ, xJ z] w sz (fun o9 w' sz' => o9 = none ∧ sz' = sz ∧ MW w0 w' μ P (K.1, K.2.1, K.2.2.1, K.2.2.2.1, K.2.2.2.2.1, K.2.2.2.2.2.1, K.2.2.2.2.2.2.1, K.2.2.2.2.2.2.2.1, K.2.2.2.2.2.2.2.2.1, K.2.2.2.2.2.2.2.2.2.1, 31 * K.2.2.2.2.2.2.2.2.2.2 + z)) := by
  refine CT.ofZ (by decide) rfl (Nat.le_of_ble_eq_true rfl) (fun Z hE => ?_)
  refine V_aload_n dX7_mix_0 0 rfl rfl ?_
  refine V_ldc2 (z := 31) dX7_mix_1 (xG_at 1050 (by decide +kernel) rfl) ?_
  refine V_aload_n dX7_mix_4 0 rfl rfl ?_
  refine M_g_h hM rfl dX7_mix_5 ?_
  try dsimp only
  refine V_lmul dX7_mix_8 ?_
  refine V_lload_n dX7_mix_9 1 rfl rfl ?_
  refine V_ladd dX7_mix_10 ?_
  refine M_p_h hM rfl dX7_mix_11 (fun w hM => ?_)
  try dsimp only at hM
  exact V_vret hE rfl dX7_mix_14 ⟨rfl, rfl, hM⟩
set_option maxRecDepth 100000 in
set_option maxHeartbeats 4000000 in
theorem m_coverage {w0 w : WD} {sz μ : Nat} {P : MP} {K : MK} (hM : MW w0 w μ P K) (hv : VZ P.1) : CT iX7_coverage 0 0 [.ref μ] w sz (fun o9 w' sz' => sz' = sz ∧ MD w0 w' μ 0 P ∧ o9 = some (.double (covD P.1))) := by
  refine CT.ofZ (by decide) rfl (Nat.le_of_ble_eq_true rfl) (fun Z hE => ?_)
  refine V_aload_n dX7_coverage_0 0 rfl rfl ?_
  refine V_iconst dX7_coverage_1 ?_
  refine M_p_thrown hM rfl dX7_coverage_2 (fun w hM => ?_)
  try dsimp only at hM
  refine V_aload_n dX7_coverage_5 0 rfl rfl ?_
  refine V_c_X7_105 rfl (by decide) (m_layMask hM hv) dX7_coverage_6 hM.1 rfl rfl (Nat.le_of_ble_eq_true rfl) (Nat.le_of_eq (Nat.zero_add _)) (Nat.le_of_eq (Nat.zero_add _)) (fun v w sz q => ?_)
  try dsimp only at q
  obtain ⟨rfl, rfl, m, hM, hm⟩ := q
  refine V_aload_n dX7_coverage_9 0 rfl rfl ?_
  refine V_c_X7_160 rfl (by decide) (m_maskSum hM) dX7_coverage_10 hM.1 rfl rfl (Nat.le_of_ble_eq_true rfl) (Nat.le_of_eq (Nat.zero_add _)) (Nat.le_of_eq (Nat.zero_add _)) (fun v w sz q => ?_)
  try dsimp only at q
  obtain ⟨rfl, rfl, rfl⟩ := q
  rw [show isum m 160 = isum (imS P.1) 160 from isum_c hm]
  refine V_i2d dX7_coverage_13 ?_
  refine V_ldc2d (v := 4670021707350671360) dX7_coverage_14 (xG_at 1040 (by decide +kernel) rfl) ?_
  refine V_ddiv dX7_coverage_17 (shD_n (imS_sum hv)) ?_
  exact V_dret hE rfl dX7_coverage_18 ⟨rfl, ⟨_, hM, rfl⟩, rfl⟩
