/-! p25's law: actions on single picks -/
theorem LQ.pks {z g gl pr : Int → Int} {n p : Int} (h : LQ z g gl pr n) (p0 : 0 ≤ p) (p1 : p < n) : Pks gl pr z p p := ⟨fun i i0 i1 => h.2.2.2.2.2.1 p i p0 p1 i0 i1, fun c c0 c1 => h.2.2.2.2.2.2 p c p0 p1 c0 c1⟩
theorem LQ.of {z g gl pr : Int → Int} {n : Int} (h1 : B7 g) (h2 : B7 gl) (h3 : ∀ k, 0 ≤ k → k < 160 → g k = z k) (h4 : z 160 = n) (h5 : 0 ≤ n ∧ n ≤ 3) (h6 : ∀ p, 0 ≤ p → p < n → Pks gl pr z p p) : LQ z g gl pr n := ⟨h1, h2, h3, h4, h5, fun p i p0 p1 i0 i1 => (h6 p p0 p1).1 i i0 i1, fun p c p0 p1 c0 c1 => (h6 p p0 p1).2 c c0 c1⟩
section LROWS4
variable {I : XI} {Z : XZ} {kc ks : Nat} {w0 w : WD} {s0 sz pc χ : Nat} {lv : List (Option Value)} {st : List Value} {g gl prf dd : Int → Int}
theorem V_prst {z x : Int} (hL : LA w χ g gl prf dd) (hF : AF w0 w s0 sz χ) (hd : decode I.cc pc = .ok (.iastore, 1)) (r : 0 ≤ z ∧ z < 27) (kk : ∀ w1, UA w w1 (χ + 41) (xIA 27 (iu prf z x)) → LA w1 χ g gl (iu prf z x) dd → AF w0 w1 s0 sz χ → V I Z kc ks w1 sz (pc + 1) lv st) : V I Z kc ks w sz pc lv (xI x :: xI z :: .ref (χ + 41) :: st) :=
  V_iast hd hL.2.2.1 r (kk _ (UA.st hL.2.2.1) (hL.r (UA.st hL.2.2.1)) (hF.U (UA.st hL.2.2.1) (by omega) (by have := hL.hs hF.2.1; omega)))
theorem V_dst {x : Int} (hL : LA w χ g gl prf dd) (hF : AF w0 w s0 sz χ) (hd : decode I.cc pc = .ok (.iastore, 1)) (kk : ∀ w1, UA w w1 (χ + 43) (xIA 1 (iu dd 0 x)) → LA w1 χ g gl prf (iu dd 0 x) → AF w0 w1 s0 sz χ → V I Z kc ks w1 sz (pc + 1) lv st) : V I Z kc ks w sz pc lv (xI x :: xI 0 :: .ref (χ + 43) :: st) :=
  V_iast hd hL.2.2.2 (by omega) (kk _ (UA.st hL.2.2.2) (hL.d (UA.st hL.2.2.2)) (hF.U (UA.st hL.2.2.2) (by omega) (by have := hL.hs hF.2.1; omega)))
end LROWS4
theorem tog_ex {P : MP} {p : Int} (hp : isP P.1 p) : ∃ P' : MP, togR P p 0 (1 - P.1 (161 + 169 * p + 7)) P' ∧ SavR P P' ∧ P'.1 = iu P.1 (161 + 169 * p + 7) (1 - P.1 (161 + 169 * p + 7)) := by
  obtain ⟨P', e, hS⟩ := savR_ex P (iu P.1 (161 + 169 * p + 7) (1 - P.1 (161 + 169 * p + 7)))
  refine ⟨P', ?_, hS, e⟩
  unfold togR
  exact Or.inr ⟨hp, rfl, hS, rfl, by rw [e, iu_s], fun j _ _ hj => by rw [e, iu_n hj]⟩
theorem knd_ex {P : MP} {p d : Int} (hp : isP P.1 p) (hd : 0 ≤ d ∧ d ≤ 3) : ∃ P' : MP, kndR P p d 0 (P.1 (161 + 169 * p + 5)) P' ∧ SavR P P' ∧ P'.1 = iu P.1 (161 + 169 * p + 5) d := by
  obtain ⟨P', e, hS⟩ := savR_ex P (iu P.1 (161 + 169 * p + 5) d)
  refine ⟨P', ?_, hS, e⟩
  unfold kndR
  exact Or.inr (Or.inr ⟨hp, hd, rfl, hS, rfl, by rw [e, iu_s], fun j _ _ hj => by rw [e, iu_n hj]⟩)
theorem cln0_ex {P : MP} (h : P.1 160 = 0) : ∃ P' : MP, clnR P 0 0 P' ∧ SavR P P' ∧ P'.1 = P.1 := by
  obtain ⟨P', e, hS⟩ := savR_ex P P.1
  refine ⟨P', ?_, hS, e⟩
  unfold clnR
  refine ⟨rfl, hS, ⟨fun j _ _ => by rw [e], fun p p0 p1 => by omega⟩, ?_, ?_⟩
  · rw [e, h]
    rfl
  · rw [h]
    rfl
theorem LQ.set1 {z g gl pr : Int → Int} {n p i v : Int} (h : LQ z g gl pr n) (hp : 0 ≤ p ∧ p < n) (hi : 0 ≤ i ∧ i < 9) : LQ (iu z (161 + 169 * p + i) v) g gl (iu pr (9 * p + i) v) n := by
  obtain ⟨a1, a2, a3, a4, a5, a6, a7⟩ := h
  refine ⟨a1, a2, fun k k0 k1 => by rw [iu_n (by omega)]; exact a3 k k0 k1, by rw [iu_n (by omega)]; exact a4, a5, fun q j q0 q1 j0 j1 => ?_, fun q c q0 q1 c0 c1 => by rw [iu_n (by omega)]; exact a7 q c q0 q1 c0 c1⟩
  by_cases e : q = p ∧ j = i
  · rw [e.1, e.2, iu_s, iu_s]
  · rw [iu_n (by omega), iu_n (by omega)]
    exact a6 q j q0 q1 j0 j1
set_option maxRecDepth 100000 in
set_option maxHeartbeats 4000000 in
theorem act_toggle {Z : XZ} {w0 : WD} {χ sz : Nat} {P : MP} {g gl prf dd : Int → Int} {n a x y u v : Int} (hE : xEnd Z (QA w0 χ P)) (hI : MInv P) (hP : LQ P.1 g gl prf n) (hdn : dd 0 = n) (hN : WN w0 sz) (hC : CP w0 χ P) (hA : LA w0 χ g gl prf dd) (hu : iCell u v) (ha : 0 ≤ a ∧ a < 14) (hx : 0 ≤ x ∧ x < 2147483648) (hy : 0 ≤ y ∧ y < 2147483648) {p : Int} (hp : 0 ≤ p ∧ p < n) : V iL_act Z 2 9 w0 sz 826 [some (.ref χ), some (xI a), some (xI x), some (xI y), some (.ref (χ + 37)), some (.ref (χ + 38)), some (.ref (χ + 41)), some (.ref (χ + 43)), some (xI u), some (xI v), some (xI p), none, none, none, none, none, none, none] [] := by
  have hz4 := hP.2.2.2.1
  have hn5 := hP.2.2.2.2.1
  have hAF : AF w0 w0 sz sz χ := AF.rf hN
  have hL := hA
  refine V_aload dL_act_826 rfl ?_
  refine V_bipush dL_act_828 (by decide) ?_
  refine V_iload dL_act_830 rfl ?_
  refine V_imul dL_act_832 ?_
  refine V_bipush dL_act_833 (by decide) ?_
  refine V_iadd dL_act_835 ?_
  refine V_iconst dL_act_836 ?_
  refine V_aload dL_act_837 rfl ?_
  refine V_bipush dL_act_839 (by decide) ?_
  refine V_iload dL_act_841 rfl ?_
  refine V_imul dL_act_843 ?_
  refine V_bipush dL_act_844 (by decide) ?_
  refine V_iadd dL_act_846 ?_
  refine V_iald dL_act_847 hL.2.2.1 (by omega) ?_
  refine V_isub dL_act_848 ?_
  refine V_prst hL hAF dL_act_849 (by omega) (fun w u9 hL hAF => ?_)
  have hp7 := hP.2.2.2.2.2.1 p 7 hp.1 hp.2 (by omega) (by omega)
  obtain ⟨P2, hR, hS2, hz⟩ := tog_ex (P := P) (p := p) (by omega)
  have hC2 := hAF.C hN hC
  have hLQ : LQ P2.1 g gl (iu prf (9 * p + 7) (1 - prf (9 * p + 7))) (dd 0) := by rw [hz, hdn, hp7]; exact hP.set1 hp (by omega)
  refine V_aload_n dL_act_850 0 rfl rfl ?_
  refine V_iload dL_act_851 rfl ?_
  refine V_c_L_102 rfl (kc' := 0) (ks' := 0) (by decide) ((c_toggle hC2 hI hAF.2.1 (hL.hs hAF.2.1) (by omega)).w1 hR) dL_act_853 hC2.1 rfl rfl (Nat.le_of_ble_eq_true rfl) (by omega) (by omega) (fun v w1 sz1 q => ?_)
  obtain ⟨rfl, hT1, hC1⟩ := q
  refine V_aload dL_act_856 rfl ?_
  refine V_bipush dL_act_858 (by decide) ?_
  refine V_iload dL_act_860 rfl ?_
  refine V_imul dL_act_862 ?_
  refine V_bipush dL_act_863 (by decide) ?_
  refine V_iadd dL_act_865 ?_
  refine V_iald dL_act_866 (hL.T hT1).2.2.1 (by omega) ?_
  rw [iu_s]
  refine V_icmp_neS (t := 874) (by rw [hp7]) dL_act_867 (by decide) ?_
  refine V_iconst dL_act_870 ?_
  refine V_goto 875 dL_act_871 (by decide) ?_
  exact V_zret (b := true) hE rfl dL_act_875 ⟨rfl, P2, g, gl, (iu prf (9 * p + 7) (1 - prf (9 * p + 7))), dd, tog_inv hI hR, hS2, hLQ, hT1.1, hC1, hL.T hT1, hAF.K hN hT1⟩
set_option maxRecDepth 100000 in
set_option maxHeartbeats 4000000 in
theorem act_kind {Z : XZ} {w0 : WD} {χ sz : Nat} {P : MP} {g gl prf dd : Int → Int} {n a x y u v : Int} (hE : xEnd Z (QA w0 χ P)) (hI : MInv P) (hP : LQ P.1 g gl prf n) (hdn : dd 0 = n) (hN : WN w0 sz) (hC : CP w0 χ P) (hA : LA w0 χ g gl prf dd) (hu : iCell u v) (ha : 0 ≤ a ∧ a < 14) (hx : 0 ≤ x ∧ x < 2147483648) (hy : 0 ≤ y ∧ y < 2147483648) {p : Int} (hp : 0 ≤ p ∧ p < n) : V iL_act Z 3 15 w0 sz 882 [some (.ref χ), some (xI a), some (xI x), some (xI y), some (.ref (χ + 37)), some (.ref (χ + 38)), some (.ref (χ + 41)), some (.ref (χ + 43)), some (xI u), some (xI v), some (xI p), none, none, none, none, none, none, none] [] := by
  have hz4 := hP.2.2.2.1
  have hn5 := hP.2.2.2.2.1
  have hAF : AF w0 w0 sz sz χ := AF.rf hN
  have hL := hA
  refine V_aload dL_act_882 rfl ?_
  refine V_bipush dL_act_884 (by decide) ?_
  refine V_iload dL_act_886 rfl ?_
  refine V_imul dL_act_888 ?_
  refine V_iconst dL_act_889 ?_
  refine V_iadd dL_act_890 ?_
  have hp5 := hP.2.2.2.2.2.1 p 5 hp.1 hp.2 (by omega) (by omega)
  refine V_iald dL_act_891 hL.2.2.1 (by omega) ?_
  refine V_istore dL_act_892 (by decide) ?_
  refine V_aload dL_act_894 rfl ?_
  refine V_bipush dL_act_896 (by decide) ?_
  refine V_iload dL_act_898 rfl ?_
  refine V_imul dL_act_900 ?_
  refine V_iconst dL_act_901 ?_
  refine V_iadd dL_act_902 ?_
  refine V_iload_n dL_act_903 3 rfl rfl ?_
  refine V_iconst dL_act_904 ?_
  refine V_c_L_53 rfl (by decide) (l_at hy (by omega)) dL_act_905 rfl rfl (Nat.le_of_ble_eq_true rfl) (Nat.le_of_eq (Nat.zero_add _)) (Nat.le_of_eq (Nat.zero_add _)) (fun v w sz q => ?_)
  obtain ⟨rfl, hw9, hs9⟩ := q
  obtain rfl := hw9.symm
  obtain rfl := hs9.symm
  have hdk := iat_r (x := y) (n := 4) (by omega)
  generalize iat (y) 4 = dk at hdk ⊢
  refine V_prst hL hAF dL_act_908 (by omega) (fun w u9 hL hAF => ?_)
  obtain ⟨P2, hR, hS2, hz⟩ := knd_ex (P := P) (p := p) (d := dk) (by omega) (by omega)
  have hC2 := hAF.C hN hC
  have hLQ : LQ P2.1 g gl (iu prf (9 * p + 5) dk) (dd 0) := by rw [hz, hdn]; exact hP.set1 hp (by omega)
  refine V_aload_n dL_act_909 0 rfl rfl ?_
  refine V_iload dL_act_910 rfl ?_
  refine V_aload dL_act_912 rfl ?_
  refine V_bipush dL_act_914 (by decide) ?_
  refine V_iload dL_act_916 rfl ?_
  refine V_imul dL_act_918 ?_
  refine V_iconst dL_act_919 ?_
  refine V_iadd dL_act_920 ?_
  refine V_iald dL_act_921 hL.2.2.1 (by omega) ?_
  rw [iu_s]
  refine V_c_L_105 rfl (kc' := 0) (ks' := 0) (by decide) ((c_setKind hC2 hI hAF.2.1 (hL.hs hAF.2.1) (by omega)).w2 hR) dL_act_922 hC2.1 rfl rfl (Nat.le_of_ble_eq_true rfl) (by omega) (by omega) (fun v w1 sz1 q => ?_)
  obtain ⟨rfl, hT1, hC1⟩ := q
  refine V_iload dL_act_925 rfl ?_
  refine V_icmp_neS (t := 934) (hp5.symm) dL_act_927 (by decide) ?_
  refine V_iconst dL_act_930 ?_
  refine V_goto 935 dL_act_931 (by decide) ?_
  exact V_zret (b := true) hE rfl dL_act_935 ⟨rfl, P2, g, gl, (iu prf (9 * p + 5) dk), dd, knd_inv hI hR, hS2, hLQ, hT1.1, hC1, hL.T hT1, hAF.K hN hT1⟩
set_option maxRecDepth 100000 in
set_option maxHeartbeats 4000000 in
theorem act_none {Z : XZ} {w0 : WD} {χ sz : Nat} {P : MP} {g gl prf dd : Int → Int} {n a x y u v : Int} (hE : xEnd Z (QA w0 χ P)) (hI : MInv P) (hP : LQ P.1 g gl prf n) (hdn : dd 0 = n) (hN : WN w0 sz) (hC : CP w0 χ P) (hA : LA w0 χ g gl prf dd) (hu : iCell u v) (ha : 0 ≤ a ∧ a < 14) (hx : 0 ≤ x ∧ x < 2147483648) (hy : 0 ≤ y ∧ y < 2147483648) (hn0 : n = 0) : V iL_act Z 0 0 w0 sz 797 [some (.ref χ), some (xI a), some (xI x), some (xI y), some (.ref (χ + 37)), some (.ref (χ + 38)), some (.ref (χ + 41)), some (.ref (χ + 43)), some (xI u), some (xI v), none, none, none, none, none, none, none, none] [] := by
  have hz4 := hP.2.2.2.1
  have hn5 := hP.2.2.2.2.1
  have hAF : AF w0 w0 sz sz χ := AF.rf hN
  have hL := hA
  obtain ⟨P2, hR, hS2, hz⟩ := cln0_ex (P := P) (by omega)
  have hC2 := hAF.C hN hC
  have hLQ : LQ P2.1 g gl prf (dd 0) := by rw [hz, hdn]; exact hP
  refine V_aload_n dL_act_797 0 rfl rfl ?_
  refine V_c_L_98 rfl (kc' := 0) (ks' := 0) (by decide) ((c_clean hC2 hI hAF.2.1 (hL.hs hAF.2.1)).w0 hR) dL_act_798 hC2.1 rfl rfl (Nat.le_of_ble_eq_true rfl) (by omega) (by omega) (fun v w1 sz1 q => ?_)
  obtain ⟨rfl, hT1, hC1⟩ := q
  refine V_if_ne 808 dL_act_801 (by decide) (by omega) (fun h801 => ?_) (fun h801 => ?_)
  · exact absurd rfl h801
  · refine V_iconst dL_act_804 ?_
    refine V_goto 809 dL_act_805 (by decide) ?_
    exact V_zret (b := true) hE rfl dL_act_809 ⟨rfl, P2, g, gl, prf, dd, cln_inv hI hR, hS2, hLQ, hT1.1, hC1, hL.T hT1, hAF.K hN hT1⟩
