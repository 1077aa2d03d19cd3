/-! p25's law: picks that are out are removed -/
def CI (z : Int → Int) (n k : Int) (gl pr : Int → Int) : Prop := B7 gl ∧ (∀ p, 0 ≤ p → p < k → z (161 + 169 * p + 7) = 1 → Pks gl pr z (icin z p) p) ∧ ∀ p, k ≤ p → p < n → Pks gl pr z p p
theorem CI.skip {z gl pr : Int → Int} {n k : Int} (h : CI z n k gl pr) (hk : z (161 + 169 * k + 7) ≠ 1) : CI z n (k + 1) gl pr := ⟨h.1, fun p p0 p1 hp => h.2.1 p p0 (by
  by_cases e : p = k
  · rw [e] at hp; exact absurd hp hk
  · omega) hp, fun p p0 p1 => h.2.2 p (by omega) p1⟩
theorem CI.stay {z gl pr : Int → Int} {n k : Int} (h : CI z n k gl pr) (hk : 0 ≤ k ∧ k < n) (e : icin z k = k) : CI z n (k + 1) gl pr := ⟨h.1, fun p p0 p1 hp => by
  by_cases q : p = k
  · rw [q, e]; exact h.2.2 k (Int.le_refl _) hk.2
  · exact h.2.1 p p0 (by omega) hp, fun p p0 p1 => h.2.2 p (by omega) p1⟩
theorem CI.move {z gl pr : Int → Int} {n k : Int} (h : CI z n k gl pr) (hv : VZ z) (hz : z 160 = n) (hk : 0 ≤ k ∧ k < n) (e : icin z k < k) : CI z n (k + 1) (mvf (160 * k) (160 * icin z k) 160 gl) (mvf (9 * k) (9 * icin z k) 9 pr) := ⟨h.1.mv9, fun p p0 p1 hp => by
  by_cases q : p = k
  · rw [q]; exact (h.2.2 k (Int.le_refl _) hk.2).t (by omega)
  · have m := icin_m hv p0 (show p < k by omega) (by omega)
    exact (h.2.1 p p0 (by omega) hp).n (by omega) (by omega), fun p p0 p1 => (h.2.2 p (by omega) p1).n (by omega) (by omega)⟩
def czf (z gl pr : Int → Int) (m j : Int) : Int := if j < 160 then z j else if j = 160 then m else if (j - 161) % 169 < 9 then pr (9 * ((j - 161) / 169) + (j - 161) % 169) else gl (160 * ((j - 161) / 169) + ((j - 161) % 169 - 9))
theorem cln_ex {P : MP} {g gl pr : Int → Int} {n : Int} (hv : VZ P.1) (hz : P.1 160 = n) (hn : 0 ≤ n ∧ n ≤ 3) (h : CI P.1 n n gl pr) (hg : B7 g) (hg2 : ∀ k, 0 ≤ k → k < 160 → g k = P.1 k) : ∃ P' : MP, clnR P 0 (n - icin P.1 n) P' ∧ SavR P P' ∧ LQ P'.1 g gl pr (icin P.1 n) := by
  obtain ⟨P', e, hS⟩ := savR_ex P (czf P.1 gl pr (icin P.1 n))
  have hb := icin_b hv hn.1 (by omega)
  have e160 : P'.1 160 = icin P.1 n := by rw [e]; exact (if_neg (by omega)).trans (if_pos rfl)
  have elo : ∀ j, j < 160 → P'.1 j = P.1 j := fun j h1 => by rw [e]; exact if_pos h1
  have epr : ∀ q i, 0 ≤ q → 0 ≤ i → i < 9 → P'.1 (161 + 169 * q + i) = pr (9 * q + i) := fun q i q0 i0 i1 => by
    rw [e]
    unfold czf
    rw [if_neg (by omega), if_neg (by omega), show (161 + 169 * q + i - 161) % 169 = i by omega, show (161 + 169 * q + i - 161) / 169 = q by omega, if_pos i1]
  have elv : ∀ q c, 0 ≤ q → 0 ≤ c → c < 160 → P'.1 (161 + 169 * q + (9 + c)) = gl (160 * q + c) := fun q c q0 c0 c1 => by
    rw [e]
    unfold czf
    rw [if_neg (by omega), if_neg (by omega), show (161 + 169 * q + (9 + c) - 161) % 169 = 9 + c by omega, show (161 + 169 * q + (9 + c) - 161) / 169 = q by omega, if_neg (by omega), show 9 + c - 9 = c by omega]
  refine ⟨P', ?_, hS, LQ.of hg h.1 (fun k k0 k1 => (hg2 k k0 k1).trans (elo k k1).symm) e160 (by omega) (fun p p0 p1 => ⟨fun i i0 i1 => (epr p i p0 i0 i1).symm, fun c c0 c1 => (elv p c p0 c0 c1).symm⟩)⟩
  unfold clnR
  rw [hz]
  refine ⟨rfl, hS, ⟨fun j _ h1 => elo j h1, fun p p0 p1 hp k k0 k1 => ?_⟩, e160, rfl⟩
  have hq := h.2.1 p p0 p1 hp
  have hb2 := icin_b hv p0 (show p ≤ P.1 160 by omega)
  by_cases q : k < 9
  · rw [epr _ k hb2.1 k0 q]
    exact hq.1 k k0 q
  · rw [show 161 + 169 * icin P.1 p + k = 161 + 169 * icin P.1 p + (9 + (k - 9)) by omega, elv _ _ hb2.1 (by omega) (by omega), hq.2 (k - 9) (by omega) (by omega), show 161 + 169 * p + (9 + (k - 9)) = 161 + 169 * p + k by omega]
set_option maxRecDepth 100000 in
set_option maxHeartbeats 4000000 in
theorem act_clean {Z : XZ} {w0 : WD} {χ sz : Nat} {P : MP} {g gl prf dd : Int → Int} {n a x y u v : Int} (hE : xEnd Z (QA w0 χ P)) (hI : MInv P) (hP : LQ P.1 g gl prf n) (hdn : dd 0 = n) (hN : WN w0 sz) (hC : CP w0 χ P) (hA : LA w0 χ g gl prf dd) (hu : iCell u v) (ha : 0 ≤ a ∧ a < 14) (hx : 0 ≤ x ∧ x < 2147483648) (hy : 0 ≤ y ∧ y < 2147483648) : V iL_act Z 0 0 w0 sz 701 [some (.ref χ), some (xI a), some (xI x), some (xI y), some (.ref (χ + 37)), some (.ref (χ + 38)), some (.ref (χ + 41)), some (.ref (χ + 43)), some (xI u), some (xI v), none, none, none, none, none, none, none, none] [] := by
  have hz4 := hP.2.2.2.1
  have hn5 := hP.2.2.2.2.1
  have hAF : AF w0 w0 sz sz χ := AF.rf hN
  have hL := hA
  refine V_iconst dL_act_701 ?_
  refine V_istore dL_act_702 (by decide) ?_
  refine V_iconst dL_act_704 ?_
  refine V_istore dL_act_705 (by decide) ?_
  have L707 : ∀ k : Int, 0 ≤ k → k ≤ n → ∀ (w : WD) (gl1 pr1 : Int → Int), LA w χ g gl1 pr1 dd → AF w0 w sz sz χ → CI P.1 n k gl1 pr1 → V iL_act Z 0 0 w sz 707 [some (.ref χ), some (xI a), some (xI x), some (xI y), some (.ref (χ + 37)), some (.ref (χ + 38)), some (.ref (χ + 41)), some (.ref (χ + 43)), some (xI u), some (xI v), some (xI (icin P.1 k)), some (xI k), none, none, none, none, none, none] [] := by
    refine up_ind ?_
    intro k hk0 hk1 ih
    intro w gl1 pr1 hL hAF hCI
    have hcb := icin_b hI.1 hk0 (show k ≤ P.1 160 by omega)
    refine V_iload dL_act_707 rfl ?_
    refine V_aload dL_act_709 rfl ?_
    refine V_iconst dL_act_711 ?_
    refine V_iald dL_act_712 hL.2.2.2 (by omega) ?_
    rw [hdn]
    refine V_icmp_ge 760 dL_act_713 (by decide) (by omega) (fun h713 => ?_) (fun h713 => ?_)
    · have hkn : k = n := by omega
      subst hkn
      refine V_aload dL_act_760 rfl ?_
      refine V_iconst dL_act_762 ?_
      refine V_iald dL_act_763 hL.2.2.2 (by omega) ?_
      rw [hdn]
      refine V_iload dL_act_764 rfl ?_
      refine V_isub dL_act_766 ?_
      refine V_istore dL_act_767 (by decide) ?_
      refine V_aload dL_act_769 rfl ?_
      refine V_iconst dL_act_771 ?_
      refine V_iload dL_act_772 rfl ?_
      refine V_dst hL hAF dL_act_774 (fun w u9 hL hAF => ?_)
      obtain ⟨P2, hR, hS2, hLQ⟩ := cln_ex hI.1 hz4 hn5 hCI hP.1 hP.2.2.1
      have hC2 := hAF.C hN hC
      have hLQ : LQ P2.1 g gl1 pr1 (iu dd 0 (icin P.1 k) 0) := by rw [iu_s]; exact hLQ
      refine V_aload_n dL_act_775 0 rfl rfl ?_
      refine V_c_L_98 rfl (kc' := 0) (ks' := 0) (by decide) ((c_clean hC2 hI hAF.2.1 (hL.hs hAF.2.1)).w0 hR) dL_act_776 hC2.1 rfl rfl (Nat.le_of_ble_eq_true rfl) (by omega) (by omega) (fun v w1 sz1 q => ?_)
      obtain ⟨rfl, hT1, hC1⟩ := q
      refine V_iload dL_act_779 rfl ?_
      refine V_icmp_neS (t := 788) (rfl) dL_act_781 (by decide) ?_
      refine V_iconst dL_act_784 ?_
      refine V_goto 789 dL_act_785 (by decide) ?_
      exact V_zret (b := true) hE rfl dL_act_789 ⟨rfl, P2, g, gl1, pr1, (iu dd 0 (icin P.1 k)), cln_inv hI hR, hS2, hLQ, hT1.1, hC1, hL.T hT1, hAF.K hN hT1⟩
    · refine V_aload dL_act_716 rfl ?_
      refine V_bipush dL_act_718 (by decide) ?_
      refine V_iload dL_act_720 rfl ?_
      refine V_imul dL_act_722 ?_
      refine V_bipush dL_act_723 (by decide) ?_
      refine V_iadd dL_act_725 ?_
      have hk7 := (hCI.2.2 k (Int.le_refl _) h713).1 7 (by omega) (by omega)
      have v7 := (hI.1.2.2 k hk0 (by omega)).2.2.2.2.2.2.2.1
      refine V_iald dL_act_726 hL.2.2.1 (by omega) ?_
      refine V_if_ne 733 dL_act_727 (by decide) (by omega) (fun h727 => ?_) (fun h727 => ?_)
      · refine V_iload dL_act_733 rfl ?_
        refine V_iload dL_act_735 rfl ?_
        refine V_icmp_ge 751 dL_act_737 (by decide) (by omega) (fun h737 => ?_) (fun h737 => ?_)
        · have hCI := hCI.stay ⟨hk0, h713⟩ (by omega)
          have hci : icin P.1 (k + 1) = icin P.1 k + 1 := by rw [icin_s hk0]; omega
          refine V_iinc dL_act_751 rfl (by decide) ?_
          rw [← hci]
          refine V_iinc dL_act_754 rfl (by decide) ?_
          refine V_goto 707 dL_act_757 (by decide) ?_
          refine V_fg [true, true, true, true, true, true, true, true, true, true, true, true, false, false, false, false, false, false] ?_
          exact ih (by omega) _ _ _ hL hAF hCI
        · refine V_iload dL_act_740 rfl ?_
          refine V_iload dL_act_742 rfl ?_
          refine V_aload dL_act_744 rfl ?_
          refine V_aload dL_act_746 rfl ?_
          refine V_c_L_94 rfl (by decide) (l_move hL.2.1 hL.2.2.1 (by omega) (by omega) (by omega)) dL_act_748 rfl rfl (Nat.le_of_ble_eq_true rfl) (Nat.le_of_eq (Nat.zero_add _)) (Nat.le_of_eq (Nat.zero_add _)) (fun v9 w1 sz9 q => ?_)
          obtain ⟨rfl, rfl, hl2, hp2, hfr⟩ := q
          have hCI := hCI.move hI.1 hz4 ⟨hk0, h713⟩ (by omega)
          have hsz2 := hL.hs hAF.2.1
          have hL : LA w1 χ g _ _ dd := ⟨(hfr _ (by omega) (by omega)).trans hL.1, hl2, hp2, (hfr _ (by omega) (by omega)).trans hL.2.2.2⟩
          have hAF : AF w0 w1 sz9 sz9 χ := ⟨Nat.le_refl _, fun j hj => (hfr j (by omega) (by omega)).trans (hAF.2.1 j hj), fun j hj a1 a2 a3 a4 => (hfr j a2 a3).trans (hAF.2.2 j hj a1 a2 a3 a4)⟩
          have hci : icin P.1 (k + 1) = icin P.1 k + 1 := by rw [icin_s hk0]; omega
          refine V_iinc dL_act_751 rfl (by decide) ?_
          rw [← hci]
          refine V_iinc dL_act_754 rfl (by decide) ?_
          refine V_goto 707 dL_act_757 (by decide) ?_
          refine V_fg [true, true, true, true, true, true, true, true, true, true, true, true, false, false, false, false, false, false] ?_
          exact ih (by omega) _ _ _ hL hAF hCI
      · have hCI := hCI.skip (by omega)
        have hci : icin P.1 (k + 1) = icin P.1 k := by rw [icin_s hk0]; omega
        rw [← hci]
        refine V_goto 754 dL_act_730 (by decide) ?_
        refine V_iinc dL_act_754 rfl (by decide) ?_
        refine V_goto 707 dL_act_757 (by decide) ?_
        refine V_fg [true, true, true, true, true, true, true, true, true, true, true, true, false, false, false, false, false, false] ?_
        exact ih (by omega) _ _ _ hL hAF hCI
  refine V_fg [true, true, true, true, true, true, true, true, true, true, true, true, false, false, false, false, false, false] ?_
  exact L707 0 (by omega) (by omega) w0 gl prf hL hAF ⟨hP.2.1, fun p p0 p1 => by omega, fun p p0 p1 => hP.pks p0 p1⟩
