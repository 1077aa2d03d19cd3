/-! the class: digest -/
theorem Rch_z {z z' : Int → Int} {L : Int} {A : Int → Bool} {s k : Int} (h : ∀ k, 0 ≤ k → k < 160 → z k = z' k) (g : Rch z L A s k) : Rch z' L A s k := fun X h1 h2 => g X h1 (fun i j g1 i0 i1 j0 j1 ga gs gl => h2 i j g1 i0 i1 j0 j1 ga gs (by rw [← h i i0 i1, ← h j j0 j1]; exact gl))
theorem Rch_ze {z z' : Int → Int} {L : Int} (h : ∀ k, 0 ≤ k → k < 160 → z k = z' k) : Rch z L = Rch z' L := by
  funext A s k
  exact propext ⟨Rch_z h, Rch_z (fun k k0 k1 => (h k k0 k1).symm)⟩
theorem aP_z {z z' : Int → Int} {f L a : Int} (h : ∀ k, 0 ≤ k → k < 160 → z k = z' k) (hf : 0 ≤ f ∧ f < 160) : ∀ k, 0 ≤ k → k < 160 → (aP z f L a k ↔ aP z' f L a k) := by
  intro k k0 k1
  unfold aP
  rw [h k k0 k1, h f hf.1 hf.2, Rch_ze h]
theorem arN_z {z z' : Int → Int} {f l a g r : Int} (h : ∀ k, 0 ≤ k → k < 160 → z k = z' k) (hf : 0 ≤ f ∧ f < 160) : arN z f l a g r → arN z' f l a g r := by
  rintro ⟨u, A, h1, h2, h3⟩
  exact ⟨u, A, wiA_c (aP_z h hf) h1, fun k k0 k1 => (h2 k k0 k1).trans (arA_c (aP_z h hf) h1.1), h3⟩
theorem arI_z {z z' : Int → Int} {f l a g c : Int} (h : ∀ k, 0 ≤ k → k < 160 → z k = z' k) (hf : 0 ≤ f ∧ f < 160) : arI z f l a g c ↔ arI z' f l a g c := by
  have key : ∀ {z z' : Int → Int}, (∀ k, 0 ≤ k → k < 160 → z k = z' k) → arI z f l a g c → arI z' f l a g c := by
    rintro z z' h ⟨u, h1, h2⟩
    exact ⟨u, wiA_c (aP_z h hf) h1, (arA_c (aP_z h hf) h1.1).mp h2⟩
  exact ⟨key h, key (fun k k0 k1 => (h k k0 k1).symm)⟩
theorem likA_z {z z' : Int → Int} {c e a g r : Int} (h : ∀ k, 0 ≤ k → k < 160 → z k = z' k) (hf : 0 ≤ c ∧ c < 160) : likA z c e a g r → likA z' c e a g r := by
  rintro (⟨h1, h2, h3⟩ | ⟨h1, h2⟩)
  · exact Or.inl ⟨h1, (arI_z h hf).mp h2, fun l l0 l1 q => h3 l l0 l1 ((arI_z h hf).mpr q)⟩
  · exact Or.inr ⟨h1, fun l l0 l1 q => h2 l l0 l1 ((arI_z h hf).mpr q)⟩
theorem gapA_z {z z' : Int → Int} {c e l r : Int} (h : ∀ k, 0 ≤ k → k < 160 → z k = z' k) (hf : 0 ≤ c ∧ c < 160) : gapA z c e l r → gapA z' c e l r := by
  rintro (⟨h1, h2, h3⟩ | ⟨h1, h2⟩)
  · exact Or.inl ⟨h1, fun q => h2 ((arI_z h hf).mpr q), fun g g0 g1 => (arI_z h hf).mp (h3 g g0 g1)⟩
  · exact Or.inr ⟨h1, fun g g0 g1 => (arI_z h hf).mp (h2 g g0 g1)⟩
theorem nArs_z {z z' : Int → Int} {L : Int} (h : ∀ k, 0 ≤ k → k < 160 → z k = z' k) : ∀ n, nArs z L n = nArs z' L n
  | 0 => rfl
  | n + 1 => by
    show (if (nArs z L n).1 n = true then nArs z L n else (fun j => @decide ((nArs z L n).1 j = true ∨ Rch z L (nArs z L n).1 n j) (Classical.propDecidable _), (nArs z L n).2 + 1)) = _
    rw [nArs_z h n, Rch_ze h]
    rfl
theorem iArs_z {z z' : Int → Int} {L k : Int} (h : ∀ k, 0 ≤ k → k < 160 → z k = z' k) : iArs z L k = iArs z' L k := nArs_z h _
theorem arN_u {z : Int → Int} {f l a g r r' : Int} (h : arN z f l a g r) (h' : arN z f l a g r') : r = r' := by
  obtain ⟨u, A, h1, h2, h3⟩ := h
  obtain ⟨u', A', h1', h2', h3'⟩ := h'
  have e := wiA_u h1 h1'
  subst e
  rw [h3, h3']
  exact isum_c (fun j j0 j1 => by rw [show A j = A' j from Bool.eq_iff_iff.mpr ((h2 j j0 j1).trans (h2' j j0 j1).symm)])
theorem covD_sh {z : Int → Int} (h : VZ z) : covD z = shD (isum (imS z) 160).toNat := by
  have := imS_sum h
  unfold covD shD
  rw [show (((isum (imS z) 160).toNat : Nat) : Int) = isum (imS z) 160 by omega]
set_option maxRecDepth 100000 in
set_option maxHeartbeats 4000000 in
theorem c_digest {w0 : WD} {sz χ : Nat} {P : MP} (hC : CP w0 χ P) (hI : MInv P) (hN : WN w0 sz) (hs : χ + 48 ≤ sz) : CT iX6_digest 0 0 [.ref χ] w0 sz (fun o9 w' sz' => sz' = sz ∧ TF w0 w' sz χ ∧ CP w' χ P ∧ ∃ g, (∀ j, 0 ≤ j → j < 6 → arN P.1 0 11 0 j (g j)) ∧ o9 = some (xJ (idg P g))) := by
  refine CT.ofZ (by decide) rfl (Nat.le_of_ble_eq_true rfl) (fun Z hE => ?_)
  have hv := hI.1
  have hVT := hI.2.2.2
  have hln := hVT.1
  have hT := TF.rf (χ := χ) hN (Nat.le_refl sz)
  refine V_ldc2 (z := 2131) dX6_digest_0 (xG_at 352 (by decide +kernel) rfl) ?_
  refine V_lstore_n dX6_digest_3 1 rfl (by decide) ?_
  refine V_iconst dX6_digest_4 ?_
  refine V_istore_n dX6_digest_5 3 rfl (by decide) ?_
  have L6 : ∀ k : Int, 0 ≤ k → k ≤ 9 → ∀ (w : WD), CP w χ P → TF w0 w sz χ → V iX6_digest Z 0 0 w sz 6 [some (.ref χ), some (xJ (imx (fun a => icnt P.1 (imS P.1) P.2.1 a) 2131 k)), none, some (xI k)] [] := by
    refine up_ind ?_
    intro k hk0 hk1 ih w hC hT
    refine V_iload_n dX6_digest_6 3 rfl rfl ?_
    refine V_bipush dX6_digest_7 (by decide) ?_
    refine V_icmp_gt 29 dX6_digest_9 (by decide) (by omega) (fun h9 => ?_) (fun h9 => ?_)
    · have hk9 : k = 9 := by omega
      subst hk9
      refine V_aload_n dX6_digest_29 0 rfl rfl ?_
      refine V_lload_n dX6_digest_30 1 rfl rfl ?_
      refine V_c_X6_217 rfl (by decide) (c_mixCells hC hI) dX6_digest_31 hC.1 rfl rfl (Nat.le_of_ble_eq_true rfl) (Nat.le_of_eq (Nat.zero_add _)) (Nat.le_of_eq (Nat.zero_add _)) (fun v w sz q => ?_)
      obtain ⟨rfl, rfl, rfl⟩ := q
      refine V_lstore_n dX6_digest_34 1 rfl (by decide) ?_
      refine V_aload_n dX6_digest_35 0 rfl rfl ?_
      refine V_lload_n dX6_digest_36 1 rfl rfl ?_
      refine V_c_X6_221 rfl (by decide) (c_mixPicks hC hI) dX6_digest_37 hC.1 rfl rfl (Nat.le_of_ble_eq_true rfl) (Nat.le_of_eq (Nat.zero_add _)) (Nat.le_of_eq (Nat.zero_add _)) (fun v w sz q => ?_)
      obtain ⟨rfl, rfl, rfl⟩ := q
      refine V_lstore_n dX6_digest_40 1 rfl (by decide) ?_
      refine V_lload_n dX6_digest_41 1 rfl rfl ?_
      refine V_aload_n dX6_digest_42 0 rfl rfl ?_
      have hC0 := hC
      obtain ⟨hA, ⟨T, hS, hR⟩, ⟨hh, hH, hH2, hH3⟩, ⟨TX, hX, hX2, hX3⟩, ⟨TFi, hF⟩, ⟨mk1, hm1⟩, ⟨mk2, hm2⟩⟩ := hC0
      have hsh : ∀ k, 0 ≤ k → k < 160 → 0 ≤ T.1 k ∧ T.1 k ≤ 99 := fun k k0 k1 => by rw [hR.1 k k0 k1]; exact hv.1 k k0 k1
      refine V_g_X6_45 rfl dX6_digest_43 hA rfl ?_
      refine V_aload_n dX6_digest_46 0 rfl rfl ?_
      refine V_g_X6_24 rfl dX6_digest_47 hA rfl ?_
      refine V_g_X6_87 rfl dX6_digest_50 hS.1 rfl ?_
      refine V_iconst dX6_digest_53 ?_
      refine V_c_X6_205 rfl (by decide) (c_parts (z := T.1) hF hS.2.1 (by omega) hsh (by omega)) dX6_digest_54 hF.1 rfl rfl (Nat.le_of_ble_eq_true rfl) (Nat.le_of_eq (Nat.zero_add _)) (Nat.le_of_eq (Nat.zero_add _)) (fun v w sz q => ?_)
      obtain ⟨rfl, rfl, T1, hF1⟩ := q
      replace hC : CP _ χ P := CS.find hC ⟨T1, FW.rb hF1⟩ (fun j hj _ => FW.fr hF1 j (by omega))
      replace hT := hT.tr (TF.in_ (a := χ + 29) (n := 6) hT.1 hs (by omega) (fun j hj => FW.fr hF1 j (by omega)))
      rw [iArs_z hR.1]
      refine V_i2l dX6_digest_57 (by have := iArs_b (z := P.1) (L := 0); omega) ?_
      refine V_c_X6_213 rfl (by decide) (c_mix) dX6_digest_58 rfl rfl (Nat.le_of_ble_eq_true rfl) (Nat.le_of_eq (Nat.zero_add _)) (Nat.le_of_eq (Nat.zero_add _)) (fun v w sz q => ?_)
      obtain ⟨rfl, rfl, rfl⟩ := q
      refine V_lstore_n dX6_digest_61 1 rfl (by decide) ?_
      refine V_lload_n dX6_digest_62 1 rfl rfl ?_
      refine V_aload_n dX6_digest_63 0 rfl rfl ?_
      have hC0 := hC
      obtain ⟨hA, ⟨T, hS, hR⟩, ⟨hh, hH, hH2, hH3⟩, ⟨TX, hX, hX2, hX3⟩, ⟨TFi, hF⟩, ⟨mk1, hm1⟩, ⟨mk2, hm2⟩⟩ := hC0
      have hsh : ∀ k, 0 ≤ k → k < 160 → 0 ≤ T.1 k ∧ T.1 k ≤ 99 := fun k k0 k1 => by rw [hR.1 k k0 k1]; exact hv.1 k k0 k1
      refine V_g_X6_45 rfl dX6_digest_64 hA rfl ?_
      refine V_aload_n dX6_digest_67 0 rfl rfl ?_
      refine V_g_X6_24 rfl dX6_digest_68 hA rfl ?_
      refine V_g_X6_87 rfl dX6_digest_71 hS.1 rfl ?_
      refine V_bipush dX6_digest_74 (by decide) ?_
      refine V_c_X6_205 rfl (by decide) (c_parts (z := T.1) hF hS.2.1 (by omega) hsh (by omega)) dX6_digest_76 hF.1 rfl rfl (Nat.le_of_ble_eq_true rfl) (Nat.le_of_eq (Nat.zero_add _)) (Nat.le_of_eq (Nat.zero_add _)) (fun v w sz q => ?_)
      obtain ⟨rfl, rfl, T1, hF1⟩ := q
      replace hC : CP _ χ P := CS.find hC ⟨T1, FW.rb hF1⟩ (fun j hj _ => FW.fr hF1 j (by omega))
      replace hT := hT.tr (TF.in_ (a := χ + 29) (n := 6) hT.1 hs (by omega) (fun j hj => FW.fr hF1 j (by omega)))
      rw [iArs_z hR.1]
      refine V_i2l dX6_digest_79 (by have := iArs_b (z := P.1) (L := 10); omega) ?_
      refine V_c_X6_213 rfl (by decide) (c_mix) dX6_digest_80 rfl rfl (Nat.le_of_ble_eq_true rfl) (Nat.le_of_eq (Nat.zero_add _)) (Nat.le_of_eq (Nat.zero_add _)) (fun v w sz q => ?_)
      obtain ⟨rfl, rfl, rfl⟩ := q
      refine V_lstore_n dX6_digest_83 1 rfl (by decide) ?_
      refine V_iconst dX6_digest_84 ?_
      refine V_istore_n dX6_digest_85 3 rfl (by decide) ?_
      have L86 : ∀ k : Int, 0 ≤ k → k ≤ 6 → ∀ (w : WD), CP w χ P → TF w0 w sz χ → ∀ g : Int → Int, (∀ j, 0 ≤ j → j < k → arN P.1 0 11 0 j (g j)) → V iX6_digest Z 0 0 w sz 86 [some (.ref χ), some (xJ (imx g (dg4 P) k)), none, some (xI k)] [] := by
        refine up_ind ?_
        intro k hk0 hk1 ih w hC hT g hg
        have hC0 := hC
        obtain ⟨hA, ⟨T, hS, hR⟩, ⟨hh, hH, hH2, hH3⟩, ⟨TX, hX, hX2, hX3⟩, ⟨TFi, hF⟩, ⟨mk1, hm1⟩, ⟨mk2, hm2⟩⟩ := hC0
        have hsh : ∀ k, 0 ≤ k → k < 160 → 0 ≤ T.1 k ∧ T.1 k ≤ 99 := fun k k0 k1 => by rw [hR.1 k k0 k1]; exact hv.1 k k0 k1
        refine V_iload_n dX6_digest_86 3 rfl rfl ?_
        refine V_iconst dX6_digest_87 ?_
        refine V_icmp_gt 122 dX6_digest_88 (by decide) (by omega) (fun h88 => ?_) (fun h88 => ?_)
        · have hk6 : k = 6 := by omega
          subst hk6
          refine V_lload_n dX6_digest_122 1 rfl rfl ?_
          refine V_aload_n dX6_digest_123 0 rfl rfl ?_
          refine V_c_X6_224 rfl (by decide) (c_cov hC hI) dX6_digest_124 hC.1 rfl rfl (Nat.le_of_ble_eq_true rfl) (Nat.le_of_eq (Nat.zero_add _)) (Nat.le_of_eq (Nat.zero_add _)) (fun v w sz q => ?_)
          obtain ⟨rfl, rfl, hC, hfr⟩ := q
          replace hT := hT.tr (TF.in_ (a := χ + 35) (n := 1) hT.1 hs (by omega) (fun j hj => hfr j (by omega)))
          rw [covD_sh hv]
          refine V_c_X6_228 rfl (by decide) (c_bitsOf (by have := imS_sum hv; omega)) dX6_digest_127 rfl rfl (Nat.le_of_ble_eq_true rfl) (Nat.le_of_eq (Nat.zero_add _)) (Nat.le_of_eq (Nat.zero_add _)) (fun v w sz q => ?_)
          obtain ⟨rfl, rfl, rfl⟩ := q
          rw [← covD_sh hv, covL_v]
          refine V_c_X6_213 rfl (by decide) (c_mix) dX6_digest_130 rfl rfl (Nat.le_of_ble_eq_true rfl) (Nat.le_of_eq (Nat.zero_add _)) (Nat.le_of_eq (Nat.zero_add _)) (fun v w sz q => ?_)
          obtain ⟨rfl, rfl, rfl⟩ := q
          refine V_lstore_n dX6_digest_133 1 rfl (by decide) ?_
          have hC0 := hC
          obtain ⟨hA, ⟨T, hS, hR⟩, ⟨hh, hH, hH2, hH3⟩, ⟨TX, hX, hX2, hX3⟩, ⟨TFi, hF⟩, ⟨mk1, hm1⟩, ⟨mk2, hm2⟩⟩ := hC0
          have hsh : ∀ k, 0 ≤ k → k < 160 → 0 ≤ T.1 k ∧ T.1 k ≤ 99 := fun k k0 k1 => by rw [hR.1 k k0 k1]; exact hv.1 k k0 k1
          refine V_lload_n dX6_digest_134 1 rfl rfl ?_
          refine V_aload_n dX6_digest_135 0 rfl rfl ?_
          refine V_g_X6_38 rfl dX6_digest_136 hA rfl ?_
          refine V_g_X6_148 rfl dX6_digest_139 hX.1 rfl ?_
          rw [hX2]
          refine V_i2l dX6_digest_142 (by omega) ?_
          refine V_c_X6_213 rfl (by decide) (c_mix) dX6_digest_143 rfl rfl (Nat.le_of_ble_eq_true rfl) (Nat.le_of_eq (Nat.zero_add _)) (Nat.le_of_eq (Nat.zero_add _)) (fun v w sz q => ?_)
          obtain ⟨rfl, rfl, rfl⟩ := q
          refine V_lstore_n dX6_digest_146 1 rfl (by decide) ?_
          refine V_iconst dX6_digest_147 ?_
          refine V_istore_n dX6_digest_148 3 rfl (by decide) ?_
          have L149 : ∀ k : Int, 0 ≤ k → k ≤ P.2.2.2.1 → V iX6_digest Z 0 0 w sz 149 [some (.ref χ), some (xJ (imx P.2.2.2.2 (31 * (31 * imx g (dg4 P) 6 + covL P.1) + P.2.2.2.1) k)), none, some (xI k)] [] := by
            refine up_ind ?_
            intro k hk0 hk1 ih
            refine V_iload_n dX6_digest_149 3 rfl rfl ?_
            refine V_aload_n dX6_digest_150 0 rfl rfl ?_
            refine V_g_X6_38 rfl dX6_digest_151 hA rfl ?_
            refine V_g_X6_148 rfl dX6_digest_154 hX.1 rfl ?_
            rw [hX2]
            refine V_icmp_ge 187 dX6_digest_157 (by decide) (by omega) (fun h157 => ?_) (fun h157 => ?_)
            · refine V_lload_n dX6_digest_187 1 rfl rfl ?_
              exact V_lret hE rfl dX6_digest_188 ⟨rfl, hT, hC, g, fun j g1 g2 => hg j g1 (by omega), by rw [show k = P.2.2.2.1 by omega]; rfl⟩
            · refine V_iload_n dX6_digest_160 3 rfl rfl ?_
              refine V_bipush dX6_digest_161 (by decide) ?_
              refine V_icmp_ge 187 dX6_digest_163 (by decide) (by omega) (fun h163 => ?_) (fun h163 => ?_)
              · refine V_lload_n dX6_digest_187 1 rfl rfl ?_
                exact V_lret hE rfl dX6_digest_188 ⟨rfl, hT, hC, g, fun j g1 g2 => hg j g1 (by omega), by rw [show k = P.2.2.2.1 by omega]; rfl⟩
              · refine V_lload_n dX6_digest_166 1 rfl rfl ?_
                refine V_aload_n dX6_digest_167 0 rfl rfl ?_
                refine V_g_X6_38 rfl dX6_digest_168 hA rfl ?_
                refine V_g_X6_232 rfl dX6_digest_171 hX.1 rfl ?_
                refine V_iload_n dX6_digest_174 3 rfl rfl ?_
                refine V_iald dX6_digest_175 hX.2.1 (by omega) ?_
                rw [hX3 k hk0 (by omega)]
                have htb := hVT.2 k hk0 (by omega)
                refine V_i2l dX6_digest_176 (by omega) ?_
                refine V_c_X6_213 rfl (by decide) (c_mix) dX6_digest_177 rfl rfl (Nat.le_of_ble_eq_true rfl) (Nat.le_of_eq (Nat.zero_add _)) (Nat.le_of_eq (Nat.zero_add _)) (fun v w sz q => ?_)
                obtain ⟨rfl, rfl, rfl⟩ := q
                refine V_lstore_n dX6_digest_180 1 rfl (by decide) ?_
                refine V_iinc dX6_digest_181 rfl (by decide) ?_
                refine V_goto 149 dX6_digest_184 (by decide) ?_
                refine V_fg [true, true, false, true] ?_
                rw [imx_s hk0] at ih
                exact ih (by omega)
          refine V_fg [true, true, false, true] ?_
          exact L149 (0) (by omega) (by omega)
        · refine V_lload_n dX6_digest_91 1 rfl rfl ?_
          refine V_aload_n dX6_digest_92 0 rfl rfl ?_
          refine V_g_X6_45 rfl dX6_digest_93 hA rfl ?_
          refine V_aload_n dX6_digest_96 0 rfl rfl ?_
          refine V_g_X6_24 rfl dX6_digest_97 hA rfl ?_
          refine V_g_X6_87 rfl dX6_digest_100 hS.1 rfl ?_
          refine V_iconst dX6_digest_103 ?_
          refine V_bipush dX6_digest_104 (by decide) ?_
          refine V_iconst dX6_digest_106 ?_
          refine V_iload_n dX6_digest_107 3 rfl rfl ?_
          refine V_c_X6_104 rfl (by decide) (c_search (z := T.1) hF hS.2.1 (by omega) hsh (by omega) (by omega) (by omega) (by omega)) dX6_digest_108 hF.1 rfl rfl (Nat.le_of_ble_eq_true rfl) (Nat.le_of_eq (Nat.zero_add _)) (Nat.le_of_eq (Nat.zero_add _)) (fun v w sz q => ?_)
          obtain ⟨rfl, T1, hF1, hwi, hR1, rfl⟩ := q
          replace hC : CP _ χ P := CS.find hC ⟨T1, FW.rb hF1⟩ (fun j hj _ => FW.fr hF1 j (by omega))
          replace hT := hT.tr (TF.in_ (a := χ + 29) (n := 6) hT.1 hs (by omega) (fun j hj => FW.fr hF1 j (by omega)))
          have har := arN_z (f := 0) (l := 11) (a := 0) (g := k) hR.1 (by omega) ⟨_, _, hwi, hR1, rfl⟩
          have harb := arN_b har
          refine V_i2l dX6_digest_111 (by omega) ?_
          refine V_c_X6_213 rfl (by decide) (c_mix) dX6_digest_112 rfl rfl (Nat.le_of_ble_eq_true rfl) (Nat.le_of_eq (Nat.zero_add _)) (Nat.le_of_eq (Nat.zero_add _)) (fun v w sz q => ?_)
          obtain ⟨rfl, rfl, rfl⟩ := q
          refine V_lstore_n dX6_digest_115 1 rfl (by decide) ?_
          refine V_iinc dX6_digest_116 rfl (by decide) ?_
          refine V_goto 86 dX6_digest_119 (by decide) ?_
          refine V_fg [true, true, false, true] ?_
          have ih2 := ih (by omega) _ hC hT (iu g k (isum (fun k => b2i (T1.2.2.2.1 k)) 160)) (fun j g1 g2 => ?_)
          · rw [imx_s hk0, imx_c (g := g) (fun j g1 g2 => iu_n (by omega)), iu_s] at ih2
            exact ih2
          by_cases e : j = k
          · rw [e, iu_s]; exact har
          · rw [iu_n e]; exact hg j g1 (by omega)
      refine V_fg [true, true, false, true] ?_
      exact L86 (0) (by omega) (by omega) _ hC hT (fun _ => 0) (fun j g1 g2 => by omega)
    · refine V_lload_n dX6_digest_12 1 rfl rfl ?_
      refine V_aload_n dX6_digest_13 0 rfl rfl ?_
      refine V_iload_n dX6_digest_14 3 rfl rfl ?_
      refine V_c_X6_195 rfl (by decide) (c_number hC hI (by omega)) dX6_digest_15 hC.1 rfl rfl (Nat.le_of_ble_eq_true rfl) (Nat.le_of_eq (Nat.zero_add _)) (Nat.le_of_eq (Nat.zero_add _)) (fun v w sz q => ?_)
      obtain ⟨rfl, rfl, hC, hfr⟩ := q
      replace hT := hT.tr (TF.in_ (a := χ + 35) (n := 1) hT.1 hs (by omega) (fun j hj => hfr j (by omega)))
      refine V_i2l dX6_digest_18 (by have := icnt_b (a := k) hI.1 hI.2.1 (by omega); omega) ?_
      refine V_c_X6_213 rfl (by decide) (c_mix) dX6_digest_19 rfl rfl (Nat.le_of_ble_eq_true rfl) (Nat.le_of_eq (Nat.zero_add _)) (Nat.le_of_eq (Nat.zero_add _)) (fun v w sz q => ?_)
      obtain ⟨rfl, rfl, rfl⟩ := q
      refine V_lstore_n dX6_digest_22 1 rfl (by decide) ?_
      refine V_iinc dX6_digest_23 rfl (by decide) ?_
      refine V_goto 6 dX6_digest_26 (by decide) ?_
      refine V_fg [true, true, false, true] ?_
      rw [imx_s hk0] at ih
      exact ih (by omega) _ hC hT
  refine V_fg [true, true, false, true] ?_
  exact L6 (0) (by omega) (by omega) _ hC hT
