/-! the reference: digest -/
theorem nmx_c {f g : Int → Int} {h : Int} : ∀ n : Nat, (∀ j : Int, 0 ≤ j → j < n → f j = g j) → nmx f h n = nmx g h n
  | 0, _ => rfl
  | n + 1, q => by
    show 31 * nmx f h n + f n = 31 * nmx g h n + g n
    rw [nmx_c n (fun j h1 h2 => q j h1 (by omega)), q n (by omega) (by omega)]
theorem imx_c {f g : Int → Int} {h k : Int} (q : ∀ j, 0 ≤ j → j < k → f j = g j) : imx f h k = imx g h k := nmx_c _ (fun j h1 h2 => q j h1 (by omega))
def dg3 (P : MP) : Int := imx (fun c => ipic P.1 (c / 12) (c % 12)) (imx (fun b => icel P.1 (imS P.1) (b / 3) (b % 3)) (imx (fun a => icnt P.1 (imS P.1) P.2.1 a) 2131 9) 480) (12 * P.1 160)
noncomputable def dg4 (P : MP) : Int := 31 * (31 * dg3 P + (iArs P.1 0 160).2) + (iArs P.1 10 160).2
/-- the digest, with the sizes of the six areas -/
noncomputable def idg (P : MP) (g : Int → Int) : Int := imx P.2.2.2.2 (31 * (31 * imx g (dg4 P) 6 + covL P.1) + P.2.2.2.1) P.2.2.2.1
set_option maxRecDepth 100000 in
set_option maxHeartbeats 4000000 in
theorem m_digest {w0 w : WD} {sz μ : Nat} {P : MP} {K : MK} (hM : MW w0 w μ P K) (hv : VZ P.1) (hs : 0 ≤ P.2.1 ∧ P.2.1 ≤ 6) (ht : VT P) : CT iX7_digest 0 0 [.ref μ] w sz (fun o9 w' sz' => sz' = sz ∧ (∃ g, (∀ j, 0 ≤ j → j < 6 → arN P.1 0 11 0 j (g j)) ∧ o9 = some (xJ (idg P g))) ∧ MD w0 w' μ 0 P) := by
  have hzp := hv.2.1
  have hl9 := ht.1
  have ab0 := iArs_b (z := P.1) (L := 0)
  have ab1 := iArs_b (z := P.1) (L := 10)
  refine CT.ofZ (by decide) rfl (Nat.le_of_ble_eq_true rfl) (fun Z hE => ?_)
  refine V_aload_n dX7_digest_0 0 rfl rfl ?_
  refine V_iconst dX7_digest_1 ?_
  refine M_p_thrown hM rfl dX7_digest_2 (fun w hM => ?_)
  try dsimp only at hM
  refine V_aload_n dX7_digest_5 0 rfl rfl ?_
  refine V_ldc2 (z := 2131) dX7_digest_6 (xG_at 1045 (by decide +kernel) rfl) ?_
  refine M_p_h hM rfl dX7_digest_9 (fun w hM => ?_)
  try dsimp only at hM
  refine V_aload_n dX7_digest_12 0 rfl rfl ?_
  refine V_c_X7_105 rfl (by decide) (m_layMask hM hv) dX7_digest_13 hM.1 rfl rfl (Nat.le_of_ble_eq_true rfl) (Nat.le_of_eq (Nat.zero_add _)) (Nat.le_of_eq (Nat.zero_add _)) (fun v w sz q => ?_)
  try dsimp only at q
  obtain ⟨rfl, rfl, m, hM, hm⟩ := q
  refine V_iconst dX7_digest_16 ?_
  refine V_istore_n dX7_digest_17 1 rfl (by decide) ?_
  have L18 : ∀ a : Int, 0 ≤ a → a ≤ 9 → ∀ (w : WD) (K1 : MK), MW w0 w μ P K1 → K1.1 = 0 → K1.2.2.2.2.2.2.1 = m → K1.2.2.2.2.2.2.2.2.2.2 = imx (fun a => icnt P.1 (imS P.1) P.2.1 a) 2131 a → V iX7_digest Z 0 0 w sz 18 [some (.ref μ), some (xI a)] [] := by
    refine up_ind ?_
    intro a ha0 ha1 iha w K1 hM k0 k1 k2
    refine V_iload_n dX7_digest_18 1 rfl rfl ?_
    refine V_bipush dX7_digest_19 (by decide) ?_
    refine V_icmp_ge 40 dX7_digest_21 (by decide) (by omega) (fun h21 => ?_) (fun h21 => ?_)
    · refine V_iconst dX7_digest_40 ?_
      refine V_istore_n dX7_digest_41 1 rfl (by decide) ?_
      have L42 : ∀ b : Int, 0 ≤ b → b ≤ 480 → ∀ (w : WD) (K1 : MK), MW w0 w μ P K1 → K1.1 = 0 → K1.2.2.2.2.2.2.1 = m → K1.2.2.2.2.2.2.2.2.2.2 = imx (fun b => icel P.1 (imS P.1) (b / 3) (b % 3)) (imx (fun a => icnt P.1 (imS P.1) P.2.1 a) 2131 9) b → V iX7_digest Z 0 0 w sz 42 [some (.ref μ), some (xI b)] [] := by
        refine up_ind ?_
        intro b hb0 hb1 ihb w K1 hM k0 k1 k2
        refine V_iload_n dX7_digest_42 1 rfl rfl ?_
        refine V_sipush dX7_digest_43 (by decide) ?_
        refine V_icmp_ge 70 dX7_digest_46 (by decide) (by omega) (fun h46 => ?_) (fun h46 => ?_)
        · refine V_iconst dX7_digest_70 ?_
          refine V_istore_n dX7_digest_71 1 rfl (by decide) ?_
          have L72 : ∀ c : Int, 0 ≤ c → c ≤ (12 * P.1 160) → ∀ (w : WD) (K1 : MK), MW w0 w μ P K1 → K1.1 = 0 → K1.2.2.2.2.2.2.1 = m → K1.2.2.2.2.2.2.2.2.2.2 = imx (fun c => ipic P.1 (c / 12) (c % 12)) (imx (fun b => icel P.1 (imS P.1) (b / 3) (b % 3)) (imx (fun a => icnt P.1 (imS P.1) P.2.1 a) 2131 9) 480) c → V iX7_digest Z 0 0 w sz 72 [some (.ref μ), some (xI c)] [] := by
            refine up_ind ?_
            intro c hc0 hc1 ihc w K1 hM k0 k1 k2
            refine V_iload_n dX7_digest_72 1 rfl rfl ?_
            refine V_bipush dX7_digest_73 (by decide) ?_
            refine V_aload_n dX7_digest_75 0 rfl rfl ?_
            refine M_g_z hM rfl dX7_digest_76 ?_
            refine V_sipush dX7_digest_79 (by decide) ?_
            refine M_l_z hM dX7_digest_82 (by first | omega | (dsimp only; omega) | (dsimp only at *; omega)) ?_
            try dsimp only
            refine V_imul dX7_digest_83 ?_
            refine V_icmp_ge 110 dX7_digest_84 (by decide) (by omega) (fun h84 => ?_) (fun h84 => ?_)
            · replace k2 : K1.2.2.2.2.2.2.2.2.2.2 = dg3 P := k2.trans (congrArg _ (show c = 12 * P.1 160 by omega))
              refine V_aload_n dX7_digest_110 0 rfl rfl ?_
              refine V_aload_n dX7_digest_111 0 rfl rfl ?_
              refine V_iconst dX7_digest_112 ?_
              refine V_c_X7_186 rfl (by decide) (m_areasAnswer hM hv.1 (by omega)) dX7_digest_113 hM.1 rfl rfl (Nat.le_of_ble_eq_true rfl) (Nat.le_of_eq (Nat.zero_add _)) (Nat.le_of_eq (Nat.zero_add _)) (fun v w sz q => ?_)
              try dsimp only at q
              obtain ⟨rfl, r9, K3, rfl, hM, g0, g1, g3, hR⟩ := q
              subst hR
              replace k0 := g0.trans k0
              replace k1 := g1.trans k1
              replace k2 := g3.trans k2
              refine V_i2l dX7_digest_116 (by omega) ?_
              refine V_c_X7_199 rfl (by decide) (m_mix hM) dX7_digest_117 hM.1 rfl rfl (Nat.le_of_ble_eq_true rfl) (Nat.le_of_eq (Nat.zero_add _)) (Nat.le_of_eq (Nat.zero_add _)) (fun v w sz q => ?_)
              try dsimp only at q
              obtain ⟨rfl, rfl, hM⟩ := q
              replace k2 := congrArg (fun x => 31 * x + (iArs P.1 0 160).2) k2
              refine V_aload_n dX7_digest_120 0 rfl rfl ?_
              refine V_aload_n dX7_digest_121 0 rfl rfl ?_
              refine V_bipush dX7_digest_122 (by decide) ?_
              refine V_c_X7_186 rfl (by decide) (m_areasAnswer hM hv.1 (by omega)) dX7_digest_124 hM.1 rfl rfl (Nat.le_of_ble_eq_true rfl) (Nat.le_of_eq (Nat.zero_add _)) (Nat.le_of_eq (Nat.zero_add _)) (fun v w sz q => ?_)
              try dsimp only at q
              obtain ⟨rfl, r9, K3, rfl, hM, g0, g1, g3, hR⟩ := q
              subst hR
              replace k0 := g0.trans k0
              replace k1 := g1.trans k1
              replace k2 := g3.trans k2
              refine V_i2l dX7_digest_127 (by omega) ?_
              refine V_c_X7_199 rfl (by decide) (m_mix hM) dX7_digest_128 hM.1 rfl rfl (Nat.le_of_ble_eq_true rfl) (Nat.le_of_eq (Nat.zero_add _)) (Nat.le_of_eq (Nat.zero_add _)) (fun v w sz q => ?_)
              try dsimp only at q
              obtain ⟨rfl, rfl, hM⟩ := q
              replace k2 := congrArg (fun x => 31 * x + (iArs P.1 10 160).2) k2
              refine V_iconst dX7_digest_131 ?_
              refine V_istore_n dX7_digest_132 1 rfl (by decide) ?_
              have L133 : ∀ d : Int, 0 ≤ d → d ≤ 6 → ∀ (w : WD) (K1 : MK) (g : Int → Int), MW w0 w μ P K1 → K1.1 = 0 → K1.2.2.2.2.2.2.1 = m → (∀ j, 0 ≤ j → j < d → arN P.1 0 11 0 j (g j)) → K1.2.2.2.2.2.2.2.2.2.2 = imx g (dg4 P) d → V iX7_digest Z 0 0 w sz 133 [some (.ref μ), some (xI d)] [] := by
                refine up_ind ?_
                intro d hd0 hd1 ihd w K1 g hM k0 k1 hg k2
                refine V_iload_n dX7_digest_133 1 rfl rfl ?_
                refine V_bipush dX7_digest_134 (by decide) ?_
                refine V_icmp_ge 159 dX7_digest_136 (by decide) (by omega) (fun h136 => ?_) (fun h136 => ?_)
                · have kd6 : d = 6 := by omega
                  rw [kd6] at k2 hg
                  refine V_aload_n dX7_digest_159 0 rfl rfl ?_
                  refine V_aload_n dX7_digest_160 0 rfl rfl ?_
                  refine V_c_X7_160 rfl (by decide) (m_maskSum hM) dX7_digest_161 hM.1 rfl rfl (Nat.le_of_ble_eq_true rfl) (Nat.le_of_eq (Nat.zero_add _)) (Nat.le_of_eq (Nat.zero_add _)) (fun v w sz q => ?_)
                  try dsimp only at q
                  obtain ⟨rfl, rfl, rfl⟩ := q
                  rw [k1, show isum m 160 = isum (imS P.1) 160 from isum_c hm]
                  refine V_i2d dX7_digest_164 ?_
                  refine V_ldc2d (v := 4670021707350671360) dX7_digest_165 (xG_at 1040 (by decide +kernel) rfl) ?_
                  refine V_ddiv dX7_digest_168 (shD_n (imS_sum hv)) ?_
                  refine V_c_X7_203 rfl (by decide) (d_bits (b := covD P.1) (n64_cmp (cov_n hv))) dX7_digest_169 rfl rfl (Nat.le_of_ble_eq_true rfl) (Nat.le_of_eq (Nat.zero_add _)) (Nat.le_of_eq (Nat.zero_add _)) (fun v w sz q => ?_)
                  try dsimp only at q
                  obtain ⟨rfl, rfl, rfl⟩ := q
                  rw [covL_v]
                  refine V_c_X7_199 rfl (by decide) (m_mix hM) dX7_digest_172 hM.1 rfl rfl (Nat.le_of_ble_eq_true rfl) (Nat.le_of_eq (Nat.zero_add _)) (Nat.le_of_eq (Nat.zero_add _)) (fun v w sz q => ?_)
                  try dsimp only at q
                  obtain ⟨rfl, rfl, hM⟩ := q
                  replace k2 := congrArg (fun x => 31 * x + covL P.1) k2
                  refine V_aload_n dX7_digest_175 0 rfl rfl ?_
                  refine V_aload_n dX7_digest_176 0 rfl rfl ?_
                  refine M_g_length hM rfl dX7_digest_177 ?_
                  try dsimp only
                  refine V_i2l dX7_digest_180 (by omega) ?_
                  refine V_c_X7_199 rfl (by decide) (m_mix hM) dX7_digest_181 hM.1 rfl rfl (Nat.le_of_ble_eq_true rfl) (Nat.le_of_eq (Nat.zero_add _)) (Nat.le_of_eq (Nat.zero_add _)) (fun v w sz q => ?_)
                  try dsimp only at q
                  obtain ⟨rfl, rfl, hM⟩ := q
                  replace k2 := congrArg (fun x => 31 * x + P.2.2.2.1) k2
                  refine V_iconst dX7_digest_184 ?_
                  refine V_istore_n dX7_digest_185 1 rfl (by decide) ?_
                  have L186 : ∀ e : Int, 0 ≤ e → e ≤ P.2.2.2.1 → ∀ (w : WD) (K1 : MK), MW w0 w μ P K1 → K1.1 = 0 → K1.2.2.2.2.2.2.1 = m → K1.2.2.2.2.2.2.2.2.2.2 = imx P.2.2.2.2 (31 * (31 * imx g (dg4 P) 6 + covL P.1) + P.2.2.2.1) e → V iX7_digest Z 0 0 w sz 186 [some (.ref μ), some (xI e)] [] := by
                    refine up_ind ?_
                    intro e he0 he1 ihe w K1 hM k0 k1 k2
                    refine V_iload_n dX7_digest_186 1 rfl rfl ?_
                    refine V_aload_n dX7_digest_187 0 rfl rfl ?_
                    refine M_g_length hM rfl dX7_digest_188 ?_
                    try dsimp only
                    refine V_icmp_ge 211 dX7_digest_191 (by decide) (by omega) (fun h191 => ?_) (fun h191 => ?_)
                    · refine V_aload_n dX7_digest_211 0 rfl rfl ?_
                      refine M_g_h hM rfl dX7_digest_212 ?_
                      try dsimp only
                      exact V_lret hE rfl dX7_digest_215 ⟨rfl, ⟨g, hg, congrArg (fun x => some (xJ x)) (k2.trans (congrArg _ (show e = P.2.2.2.1 by omega)))⟩, _, hM, k0⟩
                    · refine V_aload_n dX7_digest_194 0 rfl rfl ?_
                      refine V_aload_n dX7_digest_195 0 rfl rfl ?_
                      refine M_g_text hM rfl dX7_digest_196 ?_
                      refine V_iload_n dX7_digest_199 1 rfl rfl ?_
                      refine M_l_text hM dX7_digest_200 (by first | omega | (dsimp only; omega) | (dsimp only at *; omega)) ?_
                      try dsimp only
                      have tb := ht.2 e he0 (by omega)
                      refine V_i2l dX7_digest_201 (by omega) ?_
                      refine V_c_X7_199 rfl (by decide) (m_mix hM) dX7_digest_202 hM.1 rfl rfl (Nat.le_of_ble_eq_true rfl) (Nat.le_of_eq (Nat.zero_add _)) (Nat.le_of_eq (Nat.zero_add _)) (fun v w sz q => ?_)
                      try dsimp only at q
                      obtain ⟨rfl, rfl, hM⟩ := q
                      replace k2 := congrArg (fun x => 31 * x + P.2.2.2.2 e) k2
                      refine V_iinc dX7_digest_205 rfl (by decide) ?_
                      refine V_goto 186 dX7_digest_208 (by decide) ?_
                      exact ihe (by omega) _ _ hM k0 k1 (k2.trans (imx_s he0).symm)
                  exact L186 (0) (by omega) (by omega) w _ hM k0 k1 k2
                · refine V_aload_n dX7_digest_139 0 rfl rfl ?_
                  refine V_aload_n dX7_digest_140 0 rfl rfl ?_
                  refine V_iconst dX7_digest_141 ?_
                  refine V_bipush dX7_digest_142 (by decide) ?_
                  refine V_iconst dX7_digest_144 ?_
                  refine V_iload_n dX7_digest_145 1 rfl rfl ?_
                  refine V_c_X7_175 rfl (by decide) (m_areaAnswer hM hv.1 (by omega) (by omega) (by omega) (by omega)) dX7_digest_146 hM.1 rfl rfl (Nat.le_of_ble_eq_true rfl) (Nat.le_of_eq (Nat.zero_add _)) (Nat.le_of_eq (Nat.zero_add _)) (fun v w sz q => ?_)
                  try dsimp only at q
                  obtain ⟨rfl, r9, K3, rfl, hM, g0, g1, g3, hR⟩ := q
                  replace k0 := g0.trans k0
                  replace k1 := g1.trans k1
                  replace k2 := g3.trans k2
                  have rb := arN_b hR
                  refine V_i2l dX7_digest_149 (by omega) ?_
                  refine V_c_X7_199 rfl (by decide) (m_mix hM) dX7_digest_150 hM.1 rfl rfl (Nat.le_of_ble_eq_true rfl) (Nat.le_of_eq (Nat.zero_add _)) (Nat.le_of_eq (Nat.zero_add _)) (fun v w sz q => ?_)
                  try dsimp only at q
                  obtain ⟨rfl, rfl, hM⟩ := q
                  replace k2 := congrArg (fun x => 31 * x + r9) k2
                  refine V_iinc dX7_digest_153 rfl (by decide) ?_
                  refine V_goto 133 dX7_digest_156 (by decide) ?_
                  refine ihd (by omega) _ _ (iu g d r9) hM k0 k1 (fun j q1 q2 => ?_) (k2.trans ?_)
                  · by_cases q : j = d
                    · rw [q, iu_s]; exact hR
                    · rw [iu_n q]; exact hg j q1 (by omega)
                  · rw [imx_s hd0, iu_s, imx_c (g := g) (fun j q1 q2 => iu_n (by omega))]
              exact L133 (0) (by omega) (by omega) w _ (fun _ => 0) hM k0 k1 (fun j q1 q2 => by omega) k2
            · refine V_aload_n dX7_digest_87 0 rfl rfl ?_
              refine V_aload_n dX7_digest_88 0 rfl rfl ?_
              refine V_iload_n dX7_digest_89 1 rfl rfl ?_
              refine V_bipush dX7_digest_90 (by decide) ?_
              refine V_idivN dX7_digest_92 (by omega) ?_
              refine V_iload_n dX7_digest_93 1 rfl rfl ?_
              refine V_bipush dX7_digest_94 (by decide) ?_
              refine V_iremN dX7_digest_96 (by omega) ?_
              refine V_c_X7_148 rfl (by decide) (m_pickedNow hM hzp hv.lev (by omega) (by omega)) dX7_digest_97 hM.1 rfl rfl (Nat.le_of_ble_eq_true rfl) (Nat.le_of_eq (Nat.zero_add _)) (Nat.le_of_eq (Nat.zero_add _)) (fun v w sz q => ?_)
              try dsimp only at q
              obtain ⟨rfl, rfl, rfl⟩ := q
              have cb := ipic_b (p := c / 12) (a := c % 12) hv (by omega) (by omega)
              refine V_i2l dX7_digest_100 (by omega) ?_
              refine V_c_X7_199 rfl (by decide) (m_mix hM) dX7_digest_101 hM.1 rfl rfl (Nat.le_of_ble_eq_true rfl) (Nat.le_of_eq (Nat.zero_add _)) (Nat.le_of_eq (Nat.zero_add _)) (fun v w sz q => ?_)
              try dsimp only at q
              obtain ⟨rfl, rfl, hM⟩ := q
              replace k2 := congrArg (fun x => 31 * x + ipic P.1 (c / 12) (c % 12)) k2
              refine V_iinc dX7_digest_104 rfl (by decide) ?_
              refine V_goto 72 dX7_digest_107 (by decide) ?_
              exact ihc (by omega) _ _ hM k0 k1 (k2.trans (imx_s hc0).symm)
          exact L72 (0) (by omega) (by omega) w K1 hM k0 k1 (k2.trans (congrArg _ (show b = 480 by omega)))
        · refine V_aload_n dX7_digest_49 0 rfl rfl ?_
          refine V_aload_n dX7_digest_50 0 rfl rfl ?_
          refine V_iload_n dX7_digest_51 1 rfl rfl ?_
          refine V_iconst dX7_digest_52 ?_
          refine V_idivN dX7_digest_53 (by omega) ?_
          refine V_iload_n dX7_digest_54 1 rfl rfl ?_
          refine V_iconst dX7_digest_55 ?_
          refine V_iremN dX7_digest_56 (by omega) ?_
          refine V_c_X7_145 rfl (by decide) (m_cellNow hM hzp hv.lev (by omega) (by omega)) dX7_digest_57 hM.1 rfl rfl (Nat.le_of_ble_eq_true rfl) (Nat.le_of_eq (Nat.zero_add _)) (Nat.le_of_eq (Nat.zero_add _)) (fun v w sz q => ?_)
          try dsimp only at q
          obtain ⟨rfl, rfl, rfl⟩ := q
          rw [show icel P.1 K1.2.2.2.2.2.2.1 (b / 3) (b % 3) = icel P.1 (imS P.1) (b / 3) (b % 3) from icel_c (by rw [k1]; exact hm _ (by omega) (by omega))]
          have cb := icel_b (c := b / 3) (a := b % 3) hv (by omega)
          refine V_i2l dX7_digest_60 (by omega) ?_
          refine V_c_X7_199 rfl (by decide) (m_mix hM) dX7_digest_61 hM.1 rfl rfl (Nat.le_of_ble_eq_true rfl) (Nat.le_of_eq (Nat.zero_add _)) (Nat.le_of_eq (Nat.zero_add _)) (fun v w sz q => ?_)
          try dsimp only at q
          obtain ⟨rfl, rfl, hM⟩ := q
          replace k2 := congrArg (fun x => 31 * x + icel P.1 (imS P.1) (b / 3) (b % 3)) k2
          refine V_iinc dX7_digest_64 rfl (by decide) ?_
          refine V_goto 42 dX7_digest_67 (by decide) ?_
          exact ihb (by omega) _ _ hM k0 k1 (k2.trans (imx_s hb0).symm)
      exact L42 (0) (by omega) (by omega) w K1 hM k0 k1 (k2.trans (congrArg _ (show a = 9 by omega)))
    · refine V_aload_n dX7_digest_24 0 rfl rfl ?_
      refine V_aload_n dX7_digest_25 0 rfl rfl ?_
      refine V_iload_n dX7_digest_26 1 rfl rfl ?_
      refine V_c_X7_172 rfl (by decide) (m_counted hM hzp (fun k g1 g2 => by rw [k1, hm k g1 g2]; exact imsk_b hv ⟨g1, g2⟩ _ hv.2.1.1 (Int.le_refl _)) hv.1 (by omega)) dX7_digest_27 hM.1 rfl rfl (Nat.le_of_ble_eq_true rfl) (Nat.le_of_eq (Nat.zero_add _)) (Nat.le_of_eq (Nat.zero_add _)) (fun v w sz q => ?_)
      try dsimp only at q
      obtain ⟨rfl, rfl, rfl⟩ := q
      rw [show icnt P.1 K1.2.2.2.2.2.2.1 P.2.1 a = icnt P.1 (imS P.1) P.2.1 a from (by rw [k1]; exact icnt_c hm)]
      have cb := icnt_b (a := a) hv hs ⟨ha0, by omega⟩
      refine V_i2l dX7_digest_30 (by omega) ?_
      refine V_c_X7_199 rfl (by decide) (m_mix hM) dX7_digest_31 hM.1 rfl rfl (Nat.le_of_ble_eq_true rfl) (Nat.le_of_eq (Nat.zero_add _)) (Nat.le_of_eq (Nat.zero_add _)) (fun v w sz q => ?_)
      try dsimp only at q
      obtain ⟨rfl, rfl, hM⟩ := q
      replace k2 := congrArg (fun x => 31 * x + icnt P.1 (imS P.1) P.2.1 a) k2
      refine V_iinc dX7_digest_34 rfl (by decide) ?_
      refine V_goto 18 dX7_digest_37 (by decide) ?_
      exact iha (by omega) _ _ hM k0 k1 (k2.trans (imx_s ha0).symm)
  exact L18 (0) (by omega) (by omega) w _ hM rfl rfl rfl
