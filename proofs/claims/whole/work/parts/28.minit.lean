/-! the reference: made anew -/
abbrev MF0 : List Value := [xI 0, .null, xI 0, .null, xI 0, .null, .null, .null, .null, .null, xI 0, .null, .null, xI 0, xI 0, xJ 0]
set_option maxRecDepth 100000 in
set_option maxHeartbeats 4000000 in
theorem m_init {w : WD} {μ : Nat} (h0 : w μ = some (xOb 7 MF0)) : CT iX7_init 9 16343 [.ref μ] w (μ + 1) (fun o9 w' sz' => o9 = none ∧ sz' = μ + 10 ∧ ∃ f, MW w w' μ (f, 0, (fun _ => 0), 0, (fun _ => 0)) (0, (fun _ => false), (fun _ => false), (fun _ => 0), (fun _ => false), 0, (fun _ => 0), (fun _ => 0), 0, 0, 0) ∧ ∀ j, 0 ≤ j → j < 2189 → f j = if j < 160 then 50 else 0) := by
  refine CT.ofZ (by decide) rfl (Nat.le_of_ble_eq_true rfl) (fun Z hE => ?_)
  refine V_aload_n dX7_init_0 0 rfl rfl ?_
  refine V_c_X7_1 rfl (by decide) (Nat.le_of_ble_eq_true rfl) dX7_init_1 ?_
  refine V_aload_n dX7_init_4 0 rfl rfl ?_
  refine V_sipush dX7_init_5 (by decide) ?_
  refine V_newI (kc' := 8) (ks' := 14154) (n := 2189) rfl (xG_at 120 (by decide +kernel) rfl) dX7_init_8 rfl (by decide) (by decide) (by decide) ?_
  refine V_p_X7_7 rfl rfl dX7_init_10 ((xU_n (by omega)).trans h0) (Nat.le_of_ble_eq_true rfl) (fun _ => rfl) (fun _ => rfl) ?_
  refine V_aload_n dX7_init_13 0 rfl rfl ?_
  refine V_sipush dX7_init_14 (by decide) ?_
  refine V_newI (kc' := 7) (ks' := 1020) (n := 13134) rfl (xG_at 120 (by decide +kernel) rfl) dX7_init_17 rfl (by decide) (by decide) (by decide) ?_
  refine V_p_X7_13 rfl rfl dX7_init_19 ((xU_n (by omega)).trans xU_s) (Nat.le_of_ble_eq_true rfl) (fun _ => rfl) (fun _ => rfl) ?_
  refine V_aload_n dX7_init_22 0 rfl rfl ?_
  refine V_bipush dX7_init_23 (by decide) ?_
  refine V_newI (kc' := 6) (ks' := 960) (n := 60) rfl (xG_at 120 (by decide +kernel) rfl) dX7_init_25 rfl (by decide) (by decide) (by decide) ?_
  refine V_p_X7_16 rfl rfl dX7_init_27 ((xU_n (by omega)).trans xU_s) (Nat.le_of_ble_eq_true rfl) (fun _ => rfl) (fun _ => rfl) ?_
  refine V_aload_n dX7_init_30 0 rfl rfl ?_
  refine V_sipush dX7_init_31 (by decide) ?_
  refine V_newB (kc' := 5) (ks' := 800) (n := 160) rfl (xG_at 222 (by decide +kernel) rfl) dX7_init_34 rfl (by decide) (by decide) (by decide) ?_
  refine V_p_X7_19 rfl rfl dX7_init_36 ((xU_n (by omega)).trans xU_s) (Nat.le_of_ble_eq_true rfl) (fun _ => rfl) (fun _ => rfl) ?_
  refine V_aload_n dX7_init_39 0 rfl rfl ?_
  refine V_sipush dX7_init_40 (by decide) ?_
  refine V_newB (kc' := 4) (ks' := 640) (n := 160) rfl (xG_at 222 (by decide +kernel) rfl) dX7_init_43 rfl (by decide) (by decide) (by decide) ?_
  refine V_p_X7_23 rfl rfl dX7_init_45 ((xU_n (by omega)).trans xU_s) (Nat.le_of_ble_eq_true rfl) (fun _ => rfl) (fun _ => rfl) ?_
  refine V_aload_n dX7_init_48 0 rfl rfl ?_
  refine V_sipush dX7_init_49 (by decide) ?_
  refine V_newI (kc' := 3) (ks' := 480) (n := 160) rfl (xG_at 120 (by decide +kernel) rfl) dX7_init_52 rfl (by decide) (by decide) (by decide) ?_
  refine V_p_X7_26 rfl rfl dX7_init_54 ((xU_n (by omega)).trans xU_s) (Nat.le_of_ble_eq_true rfl) (fun _ => rfl) (fun _ => rfl) ?_
  refine V_aload_n dX7_init_57 0 rfl rfl ?_
  refine V_sipush dX7_init_58 (by decide) ?_
  refine V_newB (kc' := 2) (ks' := 320) (n := 160) rfl (xG_at 222 (by decide +kernel) rfl) dX7_init_61 rfl (by decide) (by decide) (by decide) ?_
  refine V_p_X7_29 rfl rfl dX7_init_63 ((xU_n (by omega)).trans xU_s) (Nat.le_of_ble_eq_true rfl) (fun _ => rfl) (fun _ => rfl) ?_
  refine V_aload_n dX7_init_66 0 rfl rfl ?_
  refine V_sipush dX7_init_67 (by decide) ?_
  refine V_newI (kc' := 1) (ks' := 160) (n := 160) rfl (xG_at 120 (by decide +kernel) rfl) dX7_init_70 rfl (by decide) (by decide) (by decide) ?_
  refine V_p_X7_32 rfl rfl dX7_init_72 ((xU_n (by omega)).trans xU_s) (Nat.le_of_ble_eq_true rfl) (fun _ => rfl) (fun _ => rfl) ?_
  refine V_aload_n dX7_init_75 0 rfl rfl ?_
  refine V_sipush dX7_init_76 (by decide) ?_
  refine V_newI (kc' := 0) (ks' := 0) (n := 160) rfl (xG_at 120 (by decide +kernel) rfl) dX7_init_79 rfl (by decide) (by decide) (by decide) ?_
  refine V_p_X7_35 rfl rfl dX7_init_81 ((xU_n (by omega)).trans xU_s) (Nat.le_of_ble_eq_true rfl) (fun _ => rfl) (fun _ => rfl) ?_
  refine V_iconst dX7_init_84 ?_
  refine V_istore_n dX7_init_85 1 rfl (by decide) ?_
  refine (?_ : ∀ w9, MW w w9 μ (((fun _ => 0)), 0, (fun _ => 0), 0, (fun _ => 0)) (0, (fun _ => false), (fun _ => false), (fun _ => 0), (fun _ => false), 0, (fun _ => 0), (fun _ => 0), 0, 0, 0) → V iX7_init Z 0 0 w9 (μ + 10) 86 [some (.ref μ), some (xI 0)] []) _ ?_
  · intro w9 hM
    have L86 : ∀ k : Int, 0 ≤ k → k ≤ 160 → ∀ (w1 : WD) (f : Int → Int), MW w w1 μ (f, 0, (fun _ => 0), 0, (fun _ => 0)) (0, (fun _ => false), (fun _ => false), (fun _ => 0), (fun _ => false), 0, (fun _ => 0), (fun _ => 0), 0, 0, 0) → (∀ j, 0 ≤ j → j < 2189 → f j = if j < k then 50 else 0) → V iX7_init Z 0 0 w1 (μ + 10) 86 [some (.ref μ), some (xI k)] [] := by
      refine up_ind ?_
      intro k hk0 hk1 ih w1 f hM hf
      refine V_iload_n dX7_init_86 1 rfl rfl ?_
      refine V_sipush dX7_init_87 (by decide) ?_
      refine V_icmp_ge 107 dX7_init_90 (by decide) (by omega) (fun h90 => ?_) (fun h90 => ?_)
      · exact V_vret hE rfl dX7_init_107 ⟨rfl, rfl, f, hM, fun j q1 q2 => by rw [hf j q1 q2]; split <;> split <;> first | rfl | omega⟩
      · refine V_aload_n dX7_init_93 0 rfl rfl ?_
        refine M_g_z hM rfl dX7_init_94 ?_
        refine V_iload_n dX7_init_97 1 rfl rfl ?_
        refine V_bipush dX7_init_98 (by decide) ?_
        refine M_s_z hM dX7_init_100 (by first | omega | (dsimp only; omega) | (dsimp only at *; omega)) (fun w hM => ?_)
        try dsimp only at hM
        refine V_iinc dX7_init_101 rfl (by decide) ?_
        refine V_goto 86 dX7_init_104 (by decide) ?_
        refine ih (by omega) _ _ hM (fun j q1 q2 => ?_)
        by_cases q : j = k
        · rw [q, iu_s, if_pos (by omega)]
        · rw [iu_n q, hf j q1 q2]
          split <;> split <;> first | rfl | omega
    exact L86 (0) (by omega) (by omega) w9 (fun _ => 0) hM (fun j q1 q2 => by rw [if_neg (by omega)])
  · refine ⟨?_, ?_, ?_, ?_, ?_, ?_, ?_, ?_, ?_, ?_, fun j hj => ?_⟩
    · exact xU_s
    · exact (xU_n (by omega)).trans ((xU_n (by omega)).trans ((xU_n (by omega)).trans ((xU_n (by omega)).trans ((xU_n (by omega)).trans ((xU_n (by omega)).trans ((xU_n (by omega)).trans ((xU_n (by omega)).trans ((xU_n (by omega)).trans ((xU_n (by omega)).trans ((xU_n (by omega)).trans ((xU_n (by omega)).trans ((xU_n (by omega)).trans ((xU_n (by omega)).trans ((xU_n (by omega)).trans ((xU_n (by omega)).trans ((xU_n (by omega)).trans (xU_s)))))))))))))))))
    · exact (xU_n (by omega)).trans ((xU_n (by omega)).trans ((xU_n (by omega)).trans ((xU_n (by omega)).trans ((xU_n (by omega)).trans ((xU_n (by omega)).trans ((xU_n (by omega)).trans ((xU_n (by omega)).trans ((xU_n (by omega)).trans ((xU_n (by omega)).trans ((xU_n (by omega)).trans ((xU_n (by omega)).trans ((xU_n (by omega)).trans ((xU_n (by omega)).trans ((xU_n (by omega)).trans (xU_s)))))))))))))))
    · exact (xU_n (by omega)).trans ((xU_n (by omega)).trans ((xU_n (by omega)).trans ((xU_n (by omega)).trans ((xU_n (by omega)).trans ((xU_n (by omega)).trans ((xU_n (by omega)).trans ((xU_n (by omega)).trans ((xU_n (by omega)).trans ((xU_n (by omega)).trans ((xU_n (by omega)).trans ((xU_n (by omega)).trans ((xU_n (by omega)).trans (xU_s)))))))))))))
    · exact (xU_n (by omega)).trans ((xU_n (by omega)).trans ((xU_n (by omega)).trans ((xU_n (by omega)).trans ((xU_n (by omega)).trans ((xU_n (by omega)).trans ((xU_n (by omega)).trans ((xU_n (by omega)).trans ((xU_n (by omega)).trans ((xU_n (by omega)).trans ((xU_n (by omega)).trans (xU_s)))))))))))
    · exact (xU_n (by omega)).trans ((xU_n (by omega)).trans ((xU_n (by omega)).trans ((xU_n (by omega)).trans ((xU_n (by omega)).trans ((xU_n (by omega)).trans ((xU_n (by omega)).trans ((xU_n (by omega)).trans ((xU_n (by omega)).trans (xU_s)))))))))
    · exact (xU_n (by omega)).trans ((xU_n (by omega)).trans ((xU_n (by omega)).trans ((xU_n (by omega)).trans ((xU_n (by omega)).trans ((xU_n (by omega)).trans ((xU_n (by omega)).trans (xU_s)))))))
    · exact (xU_n (by omega)).trans ((xU_n (by omega)).trans ((xU_n (by omega)).trans ((xU_n (by omega)).trans ((xU_n (by omega)).trans (xU_s)))))
    · exact (xU_n (by omega)).trans ((xU_n (by omega)).trans ((xU_n (by omega)).trans (xU_s)))
    · exact (xU_n (by omega)).trans (xU_s)
    · exact (xU_n (by omega)).trans ((xU_n (by omega)).trans ((xU_n (by omega)).trans ((xU_n (by omega)).trans ((xU_n (by omega)).trans ((xU_n (by omega)).trans ((xU_n (by omega)).trans ((xU_n (by omega)).trans ((xU_n (by omega)).trans ((xU_n (by omega)).trans ((xU_n (by omega)).trans ((xU_n (by omega)).trans ((xU_n (by omega)).trans ((xU_n (by omega)).trans ((xU_n (by omega)).trans ((xU_n (by omega)).trans ((xU_n (by omega)).trans ((xU_n (by omega)).trans (rfl))))))))))))))))))
