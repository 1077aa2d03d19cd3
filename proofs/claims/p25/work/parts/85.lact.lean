/-! p25's law: an action, all of it -/
set_option maxRecDepth 100000 in
set_option maxHeartbeats 4000000 in
theorem l_act {w0 : WD} {χ sz : Nat} {P : MP} {g gl prf dd : Int → Int} {n a x y : Int} (hI : MInv P) (hP : LQ P.1 g gl prf n) (hdn : dd 0 = n) (hN : WN w0 sz) (hC : CP w0 χ P) (hA : LA w0 χ g gl prf dd) (ha : 0 ≤ a ∧ a < 14) (hx : 0 ≤ x ∧ x < 2147483648) (hy : 0 ≤ y ∧ y < 2147483648) : CT iL_act 19 290 [.ref χ, xI a, xI x, xI y, .ref (χ + 37), .ref (χ + 38), .ref (χ + 41), .ref (χ + 43)] w0 sz (QA w0 χ P) := by
  refine CT.ofZ (by decide) rfl (Nat.le_of_ble_eq_true rfl) (fun Z hE => ?_)
  have hn5 := hP.2.2.2.2.1
  refine V_iload_n dL_act_0 2 rfl rfl ?_
  refine V_bipush dL_act_1 (by decide) ?_
  refine V_c_L_53 rfl (by decide) (l_at hx (by omega)) dL_act_3 rfl rfl (Nat.le_of_ble_eq_true rfl) (Nat.le_of_eq (Nat.zero_add _)) (Nat.le_of_eq (Nat.zero_add _)) (fun v w sz q => ?_)
  obtain ⟨rfl, hw9, hs9⟩ := q
  obtain rfl := hw9.symm
  obtain rfl := hs9.symm
  have hu := iat_r (x := x) (n := 16) (by omega)
  generalize iat (x) 16 = u at hu ⊢
  refine V_istore dL_act_6 (by decide) ?_
  refine V_iload_n dL_act_8 3 rfl rfl ?_
  refine V_bipush dL_act_9 (by decide) ?_
  refine V_c_L_53 rfl (by decide) (l_at hy (by omega)) dL_act_11 rfl rfl (Nat.le_of_ble_eq_true rfl) (Nat.le_of_eq (Nat.zero_add _)) (Nat.le_of_eq (Nat.zero_add _)) (fun v w sz q => ?_)
  obtain ⟨rfl, hw9, hs9⟩ := q
  obtain rfl := hw9.symm
  obtain rfl := hs9.symm
  have hv := iat_r (x := y) (n := 10) (by omega)
  generalize iat (y) 10 = v at hv ⊢
  refine V_istore dL_act_14 (by decide) ?_
  have hu : iCell u v := by omega
  refine V_iload_n dL_act_16 1 rfl rfl ?_
  refine V_iconst dL_act_17 ?_
  refine V_icmp_lt 35 dL_act_18 (by decide) (by omega) (fun h18 => ?_) (fun h18 => ?_)
  · refine V_fg [true, true, true, true, true, true, true, true, true, true, false, false, false, false, false, false, false, false] ?_
    refine V_le (kc' := 3) (ks' := 18) (by decide) (by decide) ?_
    exact act_draw hE hI hP hdn hN hC hA hu ha hx hy
  · refine V_iload_n dL_act_21 1 rfl rfl ?_
    refine V_bipush dL_act_22 (by decide) ?_
    refine V_icmp_ge 269 dL_act_24 (by decide) (by omega) (fun h24 => ?_) (fun h24 => ?_)
    · refine V_iload_n dL_act_269 1 rfl rfl ?_
      refine V_bipush dL_act_270 (by decide) ?_
      refine V_icmp_ge 558 dL_act_272 (by decide) (by omega) (fun h272 => ?_) (fun h272 => ?_)
      · refine V_iload_n dL_act_558 1 rfl rfl ?_
        refine V_bipush dL_act_559 (by decide) ?_
        refine V_icmp_ne 695 dL_act_561 (by decide) (by omega) (fun h561 => ?_) (fun h561 => ?_)
        · refine V_iload_n dL_act_695 1 rfl rfl ?_
          refine V_bipush dL_act_696 (by decide) ?_
          refine V_icmp_ne 790 dL_act_698 (by decide) (by omega) (fun h698 => ?_) (fun h698 => ?_)
          · refine V_aload dL_act_790 rfl ?_
            refine V_iconst dL_act_792 ?_
            refine V_iald dL_act_793 hA.2.2.2 (by omega) ?_
            rw [hdn]
            refine V_if_ne 810 dL_act_794 (by decide) (by omega) (fun h794 => ?_) (fun h794 => ?_)
            · refine V_iload_n dL_act_810 2 rfl rfl ?_
              refine V_aload dL_act_811 rfl ?_
              refine V_iconst dL_act_813 ?_
              refine V_iald dL_act_814 hA.2.2.2 (by omega) ?_
              rw [hdn]
              refine V_c_L_53 rfl (by decide) (l_at hx (by omega)) dL_act_815 rfl rfl (Nat.le_of_ble_eq_true rfl) (Nat.le_of_eq (Nat.zero_add _)) (Nat.le_of_eq (Nat.zero_add _)) (fun v w sz q => ?_)
              obtain ⟨rfl, hw9, hs9⟩ := q
              obtain rfl := hw9.symm
              obtain rfl := hs9.symm
              have hp := iat_r (x := x) (n := n) (by omega)
              generalize hpe : iat x n = p at hp ⊢
              refine V_istore dL_act_818 (by decide) ?_
              refine V_iload_n dL_act_820 1 rfl rfl ?_
              refine V_bipush dL_act_821 (by decide) ?_
              refine V_icmp_ne 876 dL_act_823 (by decide) (by omega) (fun h823 => ?_) (fun h823 => ?_)
              · refine V_iload_n dL_act_876 1 rfl rfl ?_
                refine V_bipush dL_act_877 (by decide) ?_
                refine V_icmp_ne 936 dL_act_879 (by decide) (by omega) (fun h879 => ?_) (fun h879 => ?_)
                · refine V_fg [true, true, true, true, true, true, true, true, true, true, true, false, false, false, false, false, false, false] ?_
                  refine V_le (kc' := 3) (ks' := 32) (by decide) (by decide) ?_
                  exact act_reorder hE hI hP hdn hN hC hA hu ha hx hy hp hpe
                · refine V_fg [true, true, true, true, true, true, true, true, true, true, true, false, false, false, false, false, false, false] ?_
                  refine V_le (kc' := 3) (ks' := 15) (by decide) (by decide) ?_
                  exact act_kind hE hI hP hdn hN hC hA hu ha hx hy hp
              · refine V_fg [true, true, true, true, true, true, true, true, true, true, true, false, false, false, false, false, false, false] ?_
                refine V_le (kc' := 2) (ks' := 9) (by decide) (by decide) ?_
                exact act_toggle hE hI hP hdn hN hC hA hu ha hx hy hp
            · refine V_fg [true, true, true, true, true, true, true, true, true, true, false, false, false, false, false, false, false, false] ?_
              refine V_le (kc' := 0) (ks' := 0) (by decide) (by decide) ?_
              exact act_none hE hI hP hdn hN hC hA hu ha hx hy (by omega)
          · refine V_fg [true, true, true, true, true, true, true, true, true, true, false, false, false, false, false, false, false, false] ?_
            refine V_le (kc' := 0) (ks' := 0) (by decide) (by decide) ?_
            exact act_clean hE hI hP hdn hN hC hA hu ha hx hy
        · refine V_fg [true, true, true, true, true, true, true, true, true, true, false, false, false, false, false, false, false, false] ?_
          refine V_le (kc' := 1) (ks' := 6) (by decide) (by decide) ?_
          exact act_fill hE hI hP hdn hN hC hA hu ha hx hy
      · refine V_fg [true, true, true, true, true, true, true, true, true, true, false, false, false, false, false, false, false, false] ?_
        refine V_le (kc' := 19) (ks' := 290) (by decide) (by decide) ?_
        exact act_pick hE hI hP hdn hN hC hA hu ha hx hy (by omega)
    · refine V_aload dL_act_27 rfl ?_
      refine V_iconst dL_act_29 ?_
      refine V_iald dL_act_30 hA.2.2.2 (by omega) ?_
      rw [hdn]
      refine V_iconst dL_act_31 ?_
      refine V_icmp_ne 269 dL_act_32 (by decide) (by omega) (fun h32 => ?_) (fun h32 => ?_)
      · refine V_iload_n dL_act_269 1 rfl rfl ?_
        refine V_bipush dL_act_270 (by decide) ?_
        refine V_icmp_ge 558 dL_act_272 (by decide) (by omega) (fun h272 => ?_) (fun h272 => ?_)
        · refine V_iload_n dL_act_558 1 rfl rfl ?_
          refine V_bipush dL_act_559 (by decide) ?_
          refine V_icmp_ne 695 dL_act_561 (by decide) (by omega) (fun h561 => ?_) (fun h561 => ?_)
          · refine V_iload_n dL_act_695 1 rfl rfl ?_
            refine V_bipush dL_act_696 (by decide) ?_
            refine V_icmp_ne 790 dL_act_698 (by decide) (by omega) (fun h698 => ?_) (fun h698 => ?_)
            · refine V_aload dL_act_790 rfl ?_
              refine V_iconst dL_act_792 ?_
              refine V_iald dL_act_793 hA.2.2.2 (by omega) ?_
              rw [hdn]
              refine V_if_ne 810 dL_act_794 (by decide) (by omega) (fun h794 => ?_) (fun h794 => ?_)
              · refine V_iload_n dL_act_810 2 rfl rfl ?_
                refine V_aload dL_act_811 rfl ?_
                refine V_iconst dL_act_813 ?_
                refine V_iald dL_act_814 hA.2.2.2 (by omega) ?_
                rw [hdn]
                refine V_c_L_53 rfl (by decide) (l_at hx (by omega)) dL_act_815 rfl rfl (Nat.le_of_ble_eq_true rfl) (Nat.le_of_eq (Nat.zero_add _)) (Nat.le_of_eq (Nat.zero_add _)) (fun v w sz q => ?_)
                obtain ⟨rfl, hw9, hs9⟩ := q
                obtain rfl := hw9.symm
                obtain rfl := hs9.symm
                have hp := iat_r (x := x) (n := n) (by omega)
                generalize hpe : iat x n = p at hp ⊢
                refine V_istore dL_act_818 (by decide) ?_
                refine V_iload_n dL_act_820 1 rfl rfl ?_
                refine V_bipush dL_act_821 (by decide) ?_
                refine V_icmp_ne 876 dL_act_823 (by decide) (by omega) (fun h823 => ?_) (fun h823 => ?_)
                · refine V_iload_n dL_act_876 1 rfl rfl ?_
                  refine V_bipush dL_act_877 (by decide) ?_
                  refine V_icmp_ne 936 dL_act_879 (by decide) (by omega) (fun h879 => ?_) (fun h879 => ?_)
                  · refine V_fg [true, true, true, true, true, true, true, true, true, true, true, false, false, false, false, false, false, false] ?_
                    refine V_le (kc' := 3) (ks' := 32) (by decide) (by decide) ?_
                    exact act_reorder hE hI hP hdn hN hC hA hu ha hx hy hp hpe
                  · refine V_fg [true, true, true, true, true, true, true, true, true, true, true, false, false, false, false, false, false, false] ?_
                    refine V_le (kc' := 3) (ks' := 15) (by decide) (by decide) ?_
                    exact act_kind hE hI hP hdn hN hC hA hu ha hx hy hp
                · refine V_fg [true, true, true, true, true, true, true, true, true, true, true, false, false, false, false, false, false, false] ?_
                  refine V_le (kc' := 2) (ks' := 9) (by decide) (by decide) ?_
                  exact act_toggle hE hI hP hdn hN hC hA hu ha hx hy hp
              · refine V_fg [true, true, true, true, true, true, true, true, true, true, false, false, false, false, false, false, false, false] ?_
                refine V_le (kc' := 0) (ks' := 0) (by decide) (by decide) ?_
                exact act_none hE hI hP hdn hN hC hA hu ha hx hy (by omega)
            · refine V_fg [true, true, true, true, true, true, true, true, true, true, false, false, false, false, false, false, false, false] ?_
              refine V_le (kc' := 0) (ks' := 0) (by decide) (by decide) ?_
              exact act_clean hE hI hP hdn hN hC hA hu ha hx hy
          · refine V_fg [true, true, true, true, true, true, true, true, true, true, false, false, false, false, false, false, false, false] ?_
            refine V_le (kc' := 1) (ks' := 6) (by decide) (by decide) ?_
            exact act_fill hE hI hP hdn hN hC hA hu ha hx hy
        · refine V_fg [true, true, true, true, true, true, true, true, true, true, false, false, false, false, false, false, false, false] ?_
          refine V_le (kc' := 19) (ks' := 290) (by decide) (by decide) ?_
          exact act_pick hE hI hP hdn hN hC hA hu ha hx hy (by omega)
      · refine V_fg [true, true, true, true, true, true, true, true, true, true, false, false, false, false, false, false, false, false] ?_
        refine V_le (kc' := 3) (ks' := 18) (by decide) (by decide) ?_
        exact act_draw hE hI hP hdn hN hC hA hu ha hx hy
