/-! p25's law: a pick is moved -/
theorem LA.o {w w1 : WD} {χ a : Nat} {g gl pr dd : Int → Int} {e : va_E} (h : LA w χ g gl pr dd) (u : UA w w1 a e) (ha : χ + 44 ≤ a) : LA w1 χ g gl pr dd := ⟨(u.2 _ (by omega)).trans h.1, (u.2 _ (by omega)).trans h.2.1, (u.2 _ (by omega)).trans h.2.2.1, (u.2 _ (by omega)).trans h.2.2.2⟩
def PM (gl pr z : Int → Int) (n p k : Int) : Prop := ∀ q, 0 ≤ q → q < n → Pks gl pr z q (imv p k q)
theorem PM.up {gl pr z : Int → Int} {n p k : Int} (h : PM gl pr z n p k) (hk : 0 ≤ p ∧ p ≤ k ∧ k + 1 < n) : PM (mvf (160 * k) (160 * (k + 1)) 160 gl) (mvf (9 * k) (9 * (k + 1)) 9 pr) z n p (k + 1) := by
  intro q q0 q1
  by_cases e1 : q = k
  · rw [e1, show imv p (k + 1) k = imv p k (k + 1) by unfold imv; (repeat' split) <;> omega]
    exact (h (k + 1) (by omega) (by omega)).f
  · by_cases e2 : q = k + 1
    · rw [e2, show imv p (k + 1) (k + 1) = imv p k k by unfold imv; (repeat' split) <;> omega]
      exact (h k (by omega) (by omega)).t (by omega)
    · rw [show imv p (k + 1) q = imv p k q by unfold imv; (repeat' split) <;> omega]
      exact (h q q0 q1).n e1 e2
theorem PM.dn {gl pr z : Int → Int} {n p k : Int} (h : PM gl pr z n p k) (hk : 1 ≤ k ∧ k ≤ p ∧ p < n) : PM (mvf (160 * k) (160 * (k - 1)) 160 gl) (mvf (9 * k) (9 * (k - 1)) 9 pr) z n p (k - 1) := by
  intro q q0 q1
  by_cases e1 : q = k
  · rw [e1, show imv p (k - 1) k = imv p k (k - 1) by unfold imv; (repeat' split) <;> omega]
    exact (h (k - 1) (by omega) (by omega)).f
  · by_cases e2 : q = k - 1
    · rw [e2, show imv p (k - 1) (k - 1) = imv p k k by unfold imv; (repeat' split) <;> omega]
      exact (h k (by omega) (by omega)).t (by omega)
    · rw [show imv p (k - 1) q = imv p k q by unfold imv; (repeat' split) <;> omega]
      exact (h q q0 q1).n e1 e2
def mzf (z : Int → Int) (m : Int → Int) (j : Int) : Int := if j < 161 then z j else z (161 + 169 * m ((j - 161) / 169) + (j - 161) % 169)
def msD (z' z : Int → Int) (c : Int) : Int := if imS z' c ≠ imS z c then 1 else 0
theorem ord_ex {P : MP} {g gl gl1 pr pr1 : Int → Int} {n p t : Int} (hP : LQ P.1 g gl pr n) (hp : 0 ≤ p ∧ p < n) (ht : 0 ≤ t ∧ t < n) (h : PM gl1 pr1 P.1 n p t) (hg : B7 gl1) : ∃ P' : MP, ordR P p t 0 (isum (msD P'.1 P.1) 160) P' ∧ SavR P P' ∧ LQ P'.1 g gl1 pr1 n := by
  obtain ⟨P', e, hS⟩ := savR_ex P (mzf P.1 (imv p t))
  have hn := hP.2.2.2.2.1
  have hz := hP.2.2.2.1
  have elo : ∀ j, 0 ≤ j → j < 161 → P'.1 j = P.1 j := fun j _ h1 => by rw [e]; exact if_pos h1
  have emv : ∀ q i, 0 ≤ q → q < 12 → 0 ≤ i → i < 169 → P'.1 (161 + 169 * q + i) = P.1 (161 + 169 * imv p t q + i) := fun q i q0 q1 i0 i1 => by
    rw [e]
    unfold mzf
    rw [if_neg (by omega), show (161 + 169 * q + i - 161) / 169 = q by omega, show (161 + 169 * q + i - 161) % 169 = i by omega]
  refine ⟨P', ?_, hS, LQ.of hP.1 hg (fun k k0 k1 => (hP.2.2.1 k k0 k1).trans (elo k k0 (by omega)).symm) ((elo 160 (by omega) (by omega)).trans hz) hn (fun q q0 q1 => ⟨fun i i0 i1 => ?_, fun c c0 c1 => ?_⟩)⟩
  · unfold ordR
    exact Or.inr ⟨⟨by omega, by omega⟩, rfl, hS, ⟨elo, emv⟩, rfl⟩
  · rw [emv q i q0 (by omega) i0 (by omega)]
    exact (h q q0 q1).1 i i0 i1
  · rw [emv q (9 + c) q0 (by omega) (by omega) (by omega)]
    exact (h q q0 q1).2 c c0 c1
set_option maxRecDepth 100000 in
set_option maxHeartbeats 4000000 in
theorem act_reorder {Z : XZ} {w0 : WD} {χ sz : Nat} {P : MP} {g gl prf dd : Int → Int} {n a x y u v : Int} (hE : xEnd Z (QA w0 χ P)) (hI : MInv P) (hP : LQ P.1 g gl prf n) (hdn : dd 0 = n) (hN : WN w0 sz) (hC : CP w0 χ P) (hA : LA w0 χ g gl prf dd) (hu : iCell u v) (ha : 0 ≤ a ∧ a < 14) (hx : 0 ≤ x ∧ x < 2147483648) (hy : 0 ≤ y ∧ y < 2147483648) {p : Int} (hp : 0 ≤ p ∧ p < n) (hpe : iat x n = p) : V iL_act Z 3 32 w0 sz 936 [some (.ref χ), some (xI a), some (xI x), some (xI y), some (.ref (χ + 37)), some (.ref (χ + 38)), some (.ref (χ + 41)), some (.ref (χ + 43)), some (xI u), some (xI v), some (xI p), none, none, none, none, none, none, none] [] := by
  have hz4 := hP.2.2.2.1
  have hn5 := hP.2.2.2.2.1
  have hsz := hA.hs hN
  refine V_iload_n dL_act_936 3 rfl rfl ?_
  refine V_aload dL_act_937 rfl ?_
  refine V_iconst dL_act_939 ?_
  refine V_iald dL_act_940 hA.2.2.2 (by omega) ?_
  rw [hdn]
  refine V_c_L_53 rfl (by decide) (l_at hy (by omega)) dL_act_941 rfl rfl (Nat.le_of_ble_eq_true rfl) (Nat.le_of_eq (Nat.zero_add _)) (Nat.le_of_eq (Nat.zero_add _)) (fun v w sz q => ?_)
  obtain ⟨rfl, hw9, hs9⟩ := q
  obtain rfl := hw9.symm
  obtain rfl := hs9.symm
  have ht := iat_r (x := y) (n := n) (by omega)
  generalize iat (y) n = t at ht ⊢
  refine V_istore dL_act_944 (by decide) ?_
  refine V_bipush dL_act_946 (by decide) ?_
  refine V_newL (kc' := 2) (ks' := 12) (n := 20) rfl (xG_at 612 (by decide +kernel) rfl) dL_act_948 rfl (by decide) (by decide) (by decide) ?_
  refine V_astore dL_act_950 (by decide) ?_
  refine V_iconst dL_act_952 ?_
  refine V_istore dL_act_953 (by decide) ?_
  refine V_iconst dL_act_955 ?_
  refine V_istore dL_act_956 (by decide) ?_
  have L958 : ∀ k : Int, 0 ≤ k → k ≤ 160 → ∀ (w : WD) (G : Int → Int), LA w χ g gl prf dd → AF w0 w sz (sz + 1) χ → w sz = some (xPA 20 G) → B7 G → (∀ c, 0 ≤ c → c < k → G c = imS P.1 c) → V iL_act Z 2 12 w (sz + 1) 958 [some (.ref χ), some (xI a), some (xI x), some (xI y), some (.ref (χ + 37)), some (.ref (χ + 38)), some (.ref (χ + 41)), some (.ref (χ + 43)), some (xI u), some (xI v), some (xI p), some (xI t), some (.ref sz), some (xI 0), some (xI k), none, none, none] [] := by
    refine up_ind ?_
    intro k hk0 hk1 ih
    intro w G hL hAF hm hG hG2
    refine V_iload dL_act_958 rfl ?_
    refine V_sipush dL_act_960 (by decide) ?_
    refine V_icmp_ge 1007 dL_act_963 (by decide) (by omega) (fun h963 => ?_) (fun h963 => ?_)
    · have hG3 : ∀ c, 0 ≤ c → c < 160 → G c = imS P.1 c := fun c c0 c1 => hG2 c c0 (by omega)
      replace hG2 := hG3
      obtain ⟨mx, hmx⟩ : ∃ mx, (p ≤ t → mx = t) ∧ (t < p → mx = p) := by
        by_cases q : p ≤ t
        · exact ⟨t, fun _ => rfl, fun q2 => by omega⟩
        · exact ⟨p, fun q2 => by omega, fun _ => rfl⟩
      have hmx2 : p ≤ mx ∧ t ≤ mx ∧ mx < n := by omega
      have L1007 : ∀ k : Int, p ≤ k → k ≤ mx → ∀ (w : WD) (gl1 pr1 : Int → Int), LA w χ g gl1 pr1 dd → AF w0 w sz (sz + 1) χ → w sz = some (xPA 20 G) → B7 gl1 → PM gl1 pr1 P.1 n p k → V iL_act Z 2 12 w (sz + 1) 1007 [some (.ref χ), some (xI a), some (xI x), some (xI y), some (.ref (χ + 37)), some (.ref (χ + 38)), some (.ref (χ + 41)), some (.ref (χ + 43)), some (xI u), some (xI v), some (xI k), some (xI t), some (.ref sz), some (xI 0), none, none, none, none] [] := by
        refine up_ind ?_
        intro k hk0 hk1 ih
        intro w gl1 pr1 hL hAF hm hg1 hPM
        refine V_iload dL_act_1007 rfl ?_
        refine V_iload dL_act_1009 rfl ?_
        refine V_icmp_ge 1033 dL_act_1011 (by decide) (by omega) (fun h1011 => ?_) (fun h1011 => ?_)
        · have L1033 : ∀ k : Int, t ≤ k → k ≤ mx → ∀ (w : WD) (gl1 pr1 : Int → Int), LA w χ g gl1 pr1 dd → AF w0 w sz (sz + 1) χ → w sz = some (xPA 20 G) → B7 gl1 → PM gl1 pr1 P.1 n p k → V iL_act Z 2 12 w (sz + 1) 1033 [some (.ref χ), some (xI a), some (xI x), some (xI y), some (.ref (χ + 37)), some (.ref (χ + 38)), some (.ref (χ + 41)), some (.ref (χ + 43)), some (xI u), some (xI v), some (xI k), some (xI t), some (.ref sz), some (xI 0), none, none, none, none] [] := by
            refine down_ind ?_
            intro k hk0 hk1 ih
            intro w gl1 pr1 hL hAF hm hg1 hPM
            refine V_iload dL_act_1033 rfl ?_
            refine V_iload dL_act_1035 rfl ?_
            refine V_icmp_le 1059 dL_act_1037 (by decide) (by omega) (fun h1037 => ?_) (fun h1037 => ?_)
            · have hkt : k = t := by omega
              rw [hkt] at hPM ⊢
              obtain ⟨P2, hR, hS2, hLQ2⟩ := ord_ex hP hp ht hPM hg1
              have hI2 := ord_inv hI hR
              have hLQ : LQ P2.1 g gl1 pr1 (dd 0) := by rw [hdn]; exact hLQ2
              refine V_iconst dL_act_1059 ?_
              refine V_istore dL_act_1060 (by decide) ?_
              have L1062 : ∀ c : Int, 0 ≤ c → c ≤ 160 → V iL_act Z 2 12 w (sz + 1) 1062 [some (.ref χ), some (xI a), some (xI x), some (xI y), some (.ref (χ + 37)), some (.ref (χ + 38)), some (.ref (χ + 41)), some (.ref (χ + 43)), some (xI u), some (xI v), some (xI t), some (xI t), some (.ref sz), some (xI (isum (msD P2.1 P.1) c)), some (xI c), none, none, none] [] := by
                refine up_ind ?_
                intro c hc0 hc1 ihc
                refine V_iload dL_act_1062 rfl ?_
                refine V_sipush dL_act_1064 (by decide) ?_
                refine V_icmp_ge 1124 dL_act_1067 (by decide) (by omega) (fun h1067 => ?_) (fun h1067 => ?_)
                · have hC2 := hAF.C hN hC
                  have hc160 : c = 160 := by omega
                  subst hc160
                  refine V_aload_n dL_act_1124 0 rfl rfl ?_
                  refine V_iload_n dL_act_1125 2 rfl rfl ?_
                  refine V_aload dL_act_1126 rfl ?_
                  refine V_iconst dL_act_1128 ?_
                  refine V_iald dL_act_1129 hL.2.2.2 (by omega) ?_
                  rw [hdn]
                  refine V_c_L_53 rfl (by decide) (l_at hx (by omega)) dL_act_1130 rfl rfl (Nat.le_of_ble_eq_true rfl) (Nat.le_of_eq (Nat.zero_add _)) (Nat.le_of_eq (Nat.zero_add _)) (fun v w sz q => ?_)
                  obtain ⟨rfl, hw9, hs9⟩ := q
                  obtain rfl := hw9.symm
                  obtain rfl := hs9.symm
                  rw [hpe]
                  refine V_iload dL_act_1133 rfl ?_
                  refine V_c_L_108 rfl (kc' := 0) (ks' := 0) (by decide) ((c_reorder hC2 hI hAF.2.1 (hL.hs hAF.2.1) (by omega)).w1 hR) dL_act_1135 hC2.1 rfl rfl (Nat.le_of_ble_eq_true rfl) (by omega) (by omega) (fun v w1 sz1 q => ?_)
                  obtain ⟨rfl, hT1, hC1⟩ := q
                  refine V_iload dL_act_1138 rfl ?_
                  refine V_icmp_neS (t := 1147) (rfl) dL_act_1140 (by decide) ?_
                  refine V_iconst dL_act_1143 ?_
                  refine V_goto 1148 dL_act_1144 (by decide) ?_
                  exact V_zret (b := true) hE rfl dL_act_1148 ⟨rfl, P2, g, gl1, pr1, dd, hI2, hS2, hLQ, hT1.1, hC1, hL.T hT1, hAF.K hN hT1⟩
                · refine V_iload dL_act_1070 rfl ?_
                  refine V_aload dL_act_1072 rfl ?_
                  refine V_iconst dL_act_1074 ?_
                  refine V_iload dL_act_1075 rfl ?_
                  refine V_bipush dL_act_1077 (by decide) ?_
                  refine V_iremN dL_act_1079 (by first | omega | (dsimp only; omega) | exact iAnd_0 | exact iOr_0 | exact iShl_0 | exact iShr_0) ?_
                  refine V_iload dL_act_1080 rfl ?_
                  refine V_bipush dL_act_1082 (by decide) ?_
                  refine V_idivN dL_act_1084 (by first | omega | (dsimp only; omega) | exact iAnd_0 | exact iOr_0 | exact iShl_0 | exact iShr_0) ?_
                  refine V_c_L_12 rfl (by decide) (l_of (n := 20) hm hG (by omega) (by omega) (by omega) (by omega)) dL_act_1085 rfl rfl (Nat.le_of_ble_eq_true rfl) (Nat.le_of_eq (Nat.zero_add _)) (Nat.le_of_eq (Nat.zero_add _)) (fun v w sz q => ?_)
                  obtain ⟨rfl, hw9, hs9⟩ := q
                  obtain rfl := hw9.symm
                  obtain rfl := hs9.symm
                  rw [show 8 * 0 + 16 * (c / 16) + c % 16 = c by omega, hG2 c hc0 (by omega)]
                  refine V_iload dL_act_1088 rfl ?_
                  refine V_bipush dL_act_1090 (by decide) ?_
                  refine V_iremN dL_act_1092 (by first | omega | (dsimp only; omega) | exact iAnd_0 | exact iOr_0 | exact iShl_0 | exact iShr_0) ?_
                  refine V_iload dL_act_1093 rfl ?_
                  refine V_bipush dL_act_1095 (by decide) ?_
                  refine V_idivN dL_act_1097 (by first | omega | (dsimp only; omega) | exact iAnd_0 | exact iOr_0 | exact iShl_0 | exact iShr_0) ?_
                  refine V_aload dL_act_1098 rfl ?_
                  refine V_aload dL_act_1100 rfl ?_
                  refine V_aload dL_act_1102 rfl ?_
                  refine V_c_L_39 rfl (by decide) (l_mask hL.2.1 hL.2.2.1 hL.2.2.2 hdn hLQ2 hI2.1 (by omega)) dL_act_1104 rfl rfl (Nat.le_of_ble_eq_true rfl) (Nat.le_of_eq (Nat.zero_add _)) (Nat.le_of_eq (Nat.zero_add _)) (fun v w sz q => ?_)
                  obtain ⟨rfl, hw9, hs9⟩ := q
                  obtain rfl := hw9.symm
                  obtain rfl := hs9.symm
                  rw [show 16 * (c / 16) + c % 16 = c by omega]
                  have hm1 : 0 ≤ imS P.1 c ∧ imS P.1 c ≤ 100 := imsk_b hI.1 (c := c) (by omega) (P.1 160) (by have := hI.1.2.1; omega) (Int.le_refl _)
                  have hm2 : 0 ≤ imS P2.1 c ∧ imS P2.1 c ≤ 100 := imsk_b hI2.1 (c := c) (by omega) (P2.1 160) (by have := hI2.1.2.1; omega) (Int.le_refl _)
                  have J1115 : ∀ e : Int, e = (if imS P2.1 c ≠ imS P.1 c then 1 else 0) → V iL_act Z 2 12 w (sz + 1) 1115 [some (.ref χ), some (xI a), some (xI x), some (xI y), some (.ref (χ + 37)), some (.ref (χ + 38)), some (.ref (χ + 41)), some (.ref (χ + 43)), some (xI u), some (xI v), some (xI t), some (xI t), some (.ref sz), some (xI (isum (msD P2.1 P.1) c)), some (xI c), none, none, none] [xI e, xI (isum (msD P2.1 P.1) c)] := by
                    intro e he
                    refine V_iadd dL_act_1115 ?_
                    rw [show isum (msD P2.1 P.1) c + e = isum (msD P2.1 P.1) (c + 1) by rw [isum_s hc0, he]; rfl]
                    refine V_istore dL_act_1116 (by decide) ?_
                    refine V_iinc dL_act_1118 rfl (by decide) ?_
                    refine V_goto 1062 dL_act_1121 (by decide) ?_
                    refine V_fg [true, true, true, true, true, true, true, true, true, true, true, true, true, true, true, false, false, false] ?_
                    exact ihc (by omega)
                  refine V_icmp_eq 1114 dL_act_1107 (by decide) (by omega) (fun h1107 => ?_) (fun h1107 => ?_)
                  · refine V_iconst dL_act_1114 ?_
                    exact J1115 _ (by first | exact (if_pos (by omega)).symm | exact (if_neg (by omega)).symm)
                  · refine V_iconst dL_act_1110 ?_
                    refine V_goto 1115 dL_act_1111 (by decide) ?_
                    exact J1115 _ (by first | exact (if_pos (by omega)).symm | exact (if_neg (by omega)).symm)
              refine V_fg [true, true, true, true, true, true, true, true, true, true, true, true, true, true, true, false, false, false] ?_
              exact L1062 0 (by omega) (by omega)
            · refine V_iload dL_act_1040 rfl ?_
              refine V_iload dL_act_1042 rfl ?_
              refine V_iconst dL_act_1044 ?_
              refine V_isub dL_act_1045 ?_
              refine V_aload dL_act_1046 rfl ?_
              refine V_aload dL_act_1048 rfl ?_
              refine V_c_L_94 rfl (by decide) (l_move hL.2.1 hL.2.2.1 (by omega) (by omega) (by omega)) dL_act_1050 rfl rfl (Nat.le_of_ble_eq_true rfl) (Nat.le_of_eq (Nat.zero_add _)) (Nat.le_of_eq (Nat.zero_add _)) (fun v9 w1 sz9 q => ?_)
              obtain ⟨rfl, rfl, hl2, hp2, hfr⟩ := q
              have hPM := hPM.dn (by omega)
              have hm := (hfr sz (by omega) (by omega)).trans hm
              have hL : LA w1 χ g _ _ dd := ⟨(hfr _ (by omega) (by omega)).trans hL.1, hl2, hp2, (hfr _ (by omega) (by omega)).trans hL.2.2.2⟩
              have hAF : AF w0 w1 sz (sz + 1) χ := ⟨by omega, fun j hj => (hfr j (by omega) (by omega)).trans (hAF.2.1 j hj), fun j hj a1 a2 a3 a4 => (hfr j a2 a3).trans (hAF.2.2 j hj a1 a2 a3 a4)⟩
              have hg1 := hg1.mv9 (A := 160 * k) (B := 160 * (k - 1)) (k := 160)
              refine V_iinc dL_act_1053 rfl (by decide) ?_
              rw [show k + -1 = k - 1 from rfl]
              refine V_goto 1033 dL_act_1056 (by decide) ?_
              refine V_fg [true, true, true, true, true, true, true, true, true, true, true, true, true, true, false, false, false, false] ?_
              exact ih (by omega) _ _ _ hL hAF hm hg1 hPM
          refine V_fg [true, true, true, true, true, true, true, true, true, true, true, true, true, true, false, false, false, false] ?_
          exact L1033 k (by omega) (by omega) w gl1 pr1 hL hAF hm hg1 hPM
        · refine V_iload dL_act_1014 rfl ?_
          refine V_iload dL_act_1016 rfl ?_
          refine V_iconst dL_act_1018 ?_
          refine V_iadd dL_act_1019 ?_
          refine V_aload dL_act_1020 rfl ?_
          refine V_aload dL_act_1022 rfl ?_
          refine V_c_L_94 rfl (by decide) (l_move hL.2.1 hL.2.2.1 (by omega) (by omega) (by omega)) dL_act_1024 rfl rfl (Nat.le_of_ble_eq_true rfl) (Nat.le_of_eq (Nat.zero_add _)) (Nat.le_of_eq (Nat.zero_add _)) (fun v9 w1 sz9 q => ?_)
          obtain ⟨rfl, rfl, hl2, hp2, hfr⟩ := q
          have hPM := hPM.up (by omega)
          have hm := (hfr sz (by omega) (by omega)).trans hm
          have hL : LA w1 χ g _ _ dd := ⟨(hfr _ (by omega) (by omega)).trans hL.1, hl2, hp2, (hfr _ (by omega) (by omega)).trans hL.2.2.2⟩
          have hAF : AF w0 w1 sz (sz + 1) χ := ⟨by omega, fun j hj => (hfr j (by omega) (by omega)).trans (hAF.2.1 j hj), fun j hj a1 a2 a3 a4 => (hfr j a2 a3).trans (hAF.2.2 j hj a1 a2 a3 a4)⟩
          have hg1 := hg1.mv9 (A := 160 * k) (B := 160 * (k + 1)) (k := 160)
          refine V_iinc dL_act_1027 rfl (by decide) ?_
          refine V_goto 1007 dL_act_1030 (by decide) ?_
          refine V_fg [true, true, true, true, true, true, true, true, true, true, true, true, true, true, false, false, false, false] ?_
          exact ih (by omega) _ _ _ hL hAF hm hg1 hPM
      refine V_fg [true, true, true, true, true, true, true, true, true, true, true, true, true, true, false, false, false, false] ?_
      exact L1007 p (by omega) (by omega) w gl prf hL hAF hm hP.2.1 (fun q q0 q1 => by rw [show imv p p q = q by unfold imv; (repeat' split) <;> omega]; exact hP.pks q0 q1)
    · refine V_aload dL_act_966 rfl ?_
      refine V_iconst dL_act_968 ?_
      refine V_iload dL_act_969 rfl ?_
      refine V_bipush dL_act_971 (by decide) ?_
      refine V_iremN dL_act_973 (by first | omega | (dsimp only; omega) | exact iAnd_0 | exact iOr_0 | exact iShl_0 | exact iShr_0) ?_
      refine V_iload dL_act_974 rfl ?_
      refine V_bipush dL_act_976 (by decide) ?_
      refine V_idivN dL_act_978 (by first | omega | (dsimp only; omega) | exact iAnd_0 | exact iOr_0 | exact iShl_0 | exact iShr_0) ?_
      refine V_iload dL_act_979 rfl ?_
      refine V_bipush dL_act_981 (by decide) ?_
      refine V_iremN dL_act_983 (by first | omega | (dsimp only; omega) | exact iAnd_0 | exact iOr_0 | exact iShl_0 | exact iShr_0) ?_
      refine V_iload dL_act_984 rfl ?_
      refine V_bipush dL_act_986 (by decide) ?_
      refine V_idivN dL_act_988 (by first | omega | (dsimp only; omega) | exact iAnd_0 | exact iOr_0 | exact iShl_0 | exact iShr_0) ?_
      refine V_aload dL_act_989 rfl ?_
      refine V_aload dL_act_991 rfl ?_
      refine V_aload dL_act_993 rfl ?_
      refine V_c_L_39 rfl (by decide) (l_mask hL.2.1 hL.2.2.1 hL.2.2.2 hdn hP hI.1 (by omega)) dL_act_995 rfl rfl (Nat.le_of_ble_eq_true rfl) (Nat.le_of_eq (Nat.zero_add _)) (Nat.le_of_eq (Nat.zero_add _)) (fun v w sz q => ?_)
      obtain ⟨rfl, hw9, hs9⟩ := q
      obtain rfl := hw9.symm
      obtain rfl := hs9.symm
      rw [show 16 * (k / 16) + k % 16 = k by omega]
      have hmv : 0 ≤ imS P.1 k ∧ imS P.1 k ≤ 100 := imsk_b hI.1 (c := k) (by omega) (P.1 160) (by have := hI.1.2.1; omega) (Int.le_refl _)
      refine V_c_L_34 rfl (by decide) (l_put (n := 20) hm hG (by omega) (by omega) (by omega) (by omega) (by omega)) dL_act_998 rfl rfl (Nat.le_of_ble_eq_true rfl) (Nat.le_of_eq (Nat.zero_add _)) (Nat.le_of_eq (Nat.zero_add _)) (fun v9 w1 sz9 q => ?_)
      obtain ⟨rfl, hw9, hs9⟩ := q
      obtain rfl := hw9.symm
      obtain rfl := hs9.symm
      rw [show 8 * 0 + 16 * (k / 16) + k % 16 = k by omega]
      have u9 := (UA.st hm : UA w (xU w sz (xPA 20 (iu G k (imS P.1 k)))) sz _)
      have hL := hL.o u9 (by omega)
      have hAF := hAF.U u9 (by omega) (by omega)
      have hm : xU w sz (xPA 20 (iu G k (imS P.1 k))) sz = some (xPA 20 (iu G k (imS P.1 k))) := xU_s
      have hG := hG.u (k := k) (v := imS P.1 k) (by omega)
      have hG2 : ∀ c, 0 ≤ c → c < k + 1 → iu G k (imS P.1 k) c = imS P.1 c := fun c c0 c1 => by
        by_cases q : c = k
        · rw [q, iu_s]
        · rw [iu_n q]; exact hG2 c c0 (by omega)
      refine V_iinc dL_act_1001 rfl (by decide) ?_
      refine V_goto 958 dL_act_1004 (by decide) ?_
      refine V_fg [true, true, true, true, true, true, true, true, true, true, true, true, true, true, true, false, false, false] ?_
      exact ih (by omega) _ _ hL hAF hm hG hG2
  refine V_fg [true, true, true, true, true, true, true, true, true, true, true, true, true, true, true, false, false, false] ?_
  exact L958 0 (by omega) (by omega) _ (fun _ => 0) ⟨(xU_n (by omega)).trans hA.1, (xU_n (by omega)).trans hA.2.1, (xU_n (by omega)).trans hA.2.2.1, (xU_n (by omega)).trans hA.2.2.2⟩ ⟨by omega, fun j hj => (xU_n (by omega)).trans (hN j (by omega)), fun j hj _ _ _ _ => xU_n (by omega)⟩ xU_s (fun _ => ⟨by show (0 : Int) ≤ 0; omega, by show (0 : Int) ≤ 127; omega⟩) (fun c c0 c1 => by omega)
