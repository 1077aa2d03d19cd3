/-! p25's law: from its first instruction -/
theorem V_n_L_44 {I : XI} {Z : XZ} {kc ks kc' ks' : Nat} {w : WD} {sz pc : Nat} {lv : List (Option Value)} {st : List Value} (ho : I.y.cls = RL) (hd : decode I.cc pc = .ok (.new 44, 3)) (h1 : kc' + 1 ≤ kc) (h2 : ks' + 6 ≤ ks) (kk : V I Z kc' ks' (xU w sz (xOb 6 [.null, .null, .null, .null, .null, .null])) (sz + 1) (pc + 3) lv (.ref sz :: st)) : V I Z kc ks w sz pc lv st :=
  V_new (C := RX6) (T := TX6) (N := 6) (ty := tyX6) (fs := [.null, .null, .null, .null, .null, .null]) rfl inX6 tyX6_ok (by rw [ho]; exact xG_at 36 (by decide +kernel) rfl) (xG_at 37 (by decide +kernel) rfl) (xG_at 20 (by decide +kernel) rfl) (fun Γ j hj => by rcases (show j = 0 ∨ j = 1 ∨ j = 2 ∨ j = 3 ∨ j = 4 ∨ j = 5 by omega) with rfl | rfl | rfl | rfl | rfl | rfl <;> rfl) hd h1 h2 kk
theorem icnt_7 {z f : Int → Int} {s : Int} : icnt z f s 7 = idif z := (if_neg (by decide)).trans ((if_neg (by decide)).trans ((if_neg (by decide)).trans ((if_neg (by decide)).trans ((if_neg (by decide)).trans ((if_neg (by decide)).trans ((if_neg (by decide)).trans (if_pos rfl)))))))
theorem idif_50 {z : Int → Int} (h : ∀ k, 0 ≤ k → k < 160 → z k = 50) : idif z = 1 := by
  unfold idif
  have e : isum (fun s => b2i (iex (fun j => decide (z j = s)) 160)) 100 = isum (iu (fun _ => 0) 50 1) 100 := by
    refine isum_c (fun s s0 s1 => ?_)
    by_cases q : s = 50
    · rw [q, iu_s, show iex (fun j => decide (z j = 50)) 160 = true from (iex_iff (by omega)).mpr ⟨0, by omega, by omega, decide_eq_true (h 0 (by omega) (by omega))⟩]
      rfl
    · rw [iu_n q]
      cases e2 : iex (fun j => decide (z j = s)) 160 with
      | false => rfl
      | true =>
        obtain ⟨j, j0, j1, j2⟩ := (iex_iff (by omega)).mp e2
        have j3 := of_decide_eq_true j2
        rw [h j j0 j1] at j3
        exact absurd j3.symm q
  rw [e, isum_iu (by omega) (by omega)]
  have e3 : isum (fun _ => 0) 100 = 0 := nsum_0 (fun _ _ _ => rfl)
  rw [e3]
  rfl
def P50 : MP := ((fun k => if k < 160 then 50 else 0), 0, (fun _ => 0), 0, (fun _ => 0))
set_option maxRecDepth 100000 in
set_option maxHeartbeats 4000000 in
theorem law_A {Z : XZ} (hZ : ∀ (kc ks : Nat) (w : WD) (sz : Nat) (lv : List (Option Value)), V iL_law Z kc ks w sz 379 lv [xI 1]) {χ : Nat} {w0 : WD} {sz : Nat} (hN : WN w0 sz) (hC : CP w0 χ P50) (hA : LA w0 χ (fun _ => 0) (fun _ => 0) (fun _ => 0) (fun _ => 0)) (h39 : w0 (χ + 39) = some (xLA 60 (fun _ => 0))) (h40 : w0 (χ + 40) = some (xLA 20 (fun _ => 0))) (h42 : w0 (χ + 42) = some (xIA 27 (fun _ => 0))) : V iL_law Z 34806 211652 w0 sz 47 [some (.ref 0), some (.ref χ), some (.ref (χ + 37)), some (.ref (χ + 38)), some (.ref (χ + 39)), some (.ref (χ + 40)), some (.ref (χ + 41)), some (.ref (χ + 42)), some (.ref (χ + 43)), none, none, none, none, none] [] := by
  refine V_iconst dL_law_47 ?_
  refine V_istore dL_law_48 (by decide) ?_
  have L50 : ∀ k : Int, 0 ≤ k → k ≤ 160 → ∀ (w : WD) (G : Int → Int), UA w0 w (χ + 37) (xPA 20 G) → B7 G → (∀ c, 0 ≤ c → c < k → G c = 50) → V iL_law Z 34806 211652 w sz 50 [some (.ref 0), some (.ref χ), some (.ref (χ + 37)), some (.ref (χ + 38)), some (.ref (χ + 39)), some (.ref (χ + 40)), some (.ref (χ + 41)), some (.ref (χ + 42)), some (.ref (χ + 43)), some (xI k), none, none, none, none] [] := by
    refine up_ind ?_
    intro k hk0 hk1 ih
    intro w G hU hG hG2
    refine V_iload dL_law_50 rfl ?_
    refine V_sipush dL_law_52 (by decide) ?_
    refine V_icmp_ge 81 dL_law_55 (by decide) (by omega) (fun h55 => ?_) (fun h55 => ?_)
    · have hk160 : k = 160 := by omega
      subst hk160
      have hsz := hA.hs hN
      have hAw := hA.g hU
      have hNw : WN w sz := fun j hj => (hU.2 j (by omega)).trans (hN j hj)
      have hCw : CP w χ P50 := hC.mv (fun j hj hn => hU.2 j (by omega))
      have hI0 : MInv P50 := inv_0 (fun j _ _ => rfl)
      have hz0 : ∀ k, 0 ≤ k → k < 160 → P50.1 k = 50 := fun k _ k1 => if_pos k1
      have hP0 : LQ P50.1 G (fun _ => 0) (fun _ => 0) 0 := LQ.of hG (fun _ => ⟨by show (0 : Int) ≤ 0; omega, by show (0 : Int) ≤ 127; omega⟩) (fun k k0 k1 => (hG2 k k0 k1).trans (hz0 k k0 k1).symm) (show (if (160 : Int) < 160 then (50 : Int) else 0) = 0 from if_neg (by decide)) (by omega) (fun p p0 p1 => by omega)
      refine V_aload_n dL_law_81 1 rfl rfl ?_
      refine V_iconst dL_law_82 ?_
      refine V_aload_n dL_law_83 2 rfl rfl ?_
      refine V_aload_n dL_law_84 3 rfl rfl ?_
      refine V_aload dL_law_85 rfl ?_
      refine V_aload dL_law_87 rfl ?_
      refine V_c_L_112 rfl (kc' := 33761) (ks' := 205382) (by decide) (l_told (n := 0) hI0 hP0 rfl (by omega) hNw hCw hAw) dL_law_89 rfl rfl (Nat.le_of_ble_eq_true rfl) (by omega) (by omega) (fun v w2 sz2 q => ?_)
      obtain ⟨rfl, hT2, hC2⟩ := q
      have hA2 := hAw.T hT2
      refine V_ifeqB 105 dL_law_92 (by decide) (fun h92 => ?_) (fun h92 => ?_)
      · try simp only [decide_eq_true_eq, decide_eq_false_iff_not, Bool.not_eq_true] at h92
        exact absurd h92 (by decide)
      · try simp only [decide_eq_true_eq, decide_eq_false_iff_not, Bool.not_eq_true] at h92
        refine V_aload_n dL_law_95 1 rfl rfl ?_
        refine V_bipush dL_law_96 (by decide) ?_
        refine V_c_L_59 rfl (kc' := 33760) (ks' := 205376) (by decide) ((c_count hC2 hI0 hT2.1 (hA2.hs hT2.1) (by omega)).w1 (cntR_0 (by omega))) dL_law_98 hC2.1 rfl rfl (Nat.le_of_ble_eq_true rfl) (by omega) (by omega) (fun v w3 sz3 q => ?_)
        obtain ⟨rfl, hT3, hC3⟩ := q
        refine V_iconst dL_law_101 ?_
        refine V_icmp_eqS (t := 107) (by rw [icnt_7]; exact idif_50 hz0) dL_law_102 (by decide) ?_
        refine V_fg [true, true, true, true, true, true, true, true, true, false, false, false, false, false] ?_
        exact law_B hZ (χ := χ) (P := P50) (g := G) (gl := fun _ => 0) (prf := fun _ => 0) (dd := fun _ => 0) ⟨hI0, hP0, hT3.1, hC3, hA2.T hT3, ⟨_, (hT3.2 _ (by omega) (nn ((hT2.2 _ (by omega) (nn ((hU.2 _ (by omega)).trans h39))).trans ((hU.2 _ (by omega)).trans h39)))).trans ((hT2.2 _ (by omega) (nn ((hU.2 _ (by omega)).trans h39))).trans ((hU.2 _ (by omega)).trans h39))⟩, ⟨_, (hT3.2 _ (by omega) (nn ((hT2.2 _ (by omega) (nn ((hU.2 _ (by omega)).trans h40))).trans ((hU.2 _ (by omega)).trans h40)))).trans ((hT2.2 _ (by omega) (nn ((hU.2 _ (by omega)).trans h40))).trans ((hU.2 _ (by omega)).trans h40))⟩, ⟨_, (hT3.2 _ (by omega) (nn ((hT2.2 _ (by omega) (nn ((hU.2 _ (by omega)).trans h42))).trans ((hU.2 _ (by omega)).trans h42)))).trans ((hT2.2 _ (by omega) (nn ((hU.2 _ (by omega)).trans h42))).trans ((hU.2 _ (by omega)).trans h42))⟩⟩
    · refine V_aload_n dL_law_58 2 rfl rfl ?_
      refine V_iconst dL_law_59 ?_
      refine V_iload dL_law_60 rfl ?_
      refine V_bipush dL_law_62 (by decide) ?_
      refine V_iremN dL_law_64 (by first | omega | (dsimp only; omega) | exact iAnd_0 | exact iOr_0 | exact iShl_0 | exact iShr_0) ?_
      refine V_iload dL_law_65 rfl ?_
      refine V_bipush dL_law_67 (by decide) ?_
      refine V_idivN dL_law_69 (by first | omega | (dsimp only; omega) | exact iAnd_0 | exact iOr_0 | exact iShl_0 | exact iShr_0) ?_
      refine V_bipush dL_law_70 (by decide) ?_
      refine V_c_L_34 rfl (by decide) (l_put (n := 20) hU.1 hG (by omega) (by omega) (by omega) (by omega) (by omega)) dL_law_72 rfl rfl (Nat.le_of_ble_eq_true rfl) (Nat.le_of_eq (Nat.zero_add _)) (Nat.le_of_eq (Nat.zero_add _)) (fun v w1 sz1 q => ?_)
      obtain ⟨rfl, hw9, hs9⟩ := q
      obtain rfl := hw9.symm
      obtain rfl := hs9.symm
      rw [show 8 * 0 + 16 * (k / 16) + k % 16 = k by omega]
      have hU := (hU.u : UA w0 (xU w (χ + 37) (xPA 20 (iu G k 50))) (χ + 37) _)
      have hG := hG.u (k := k) (v := 50) (by omega)
      have hG2 : ∀ c, 0 ≤ c → c < k + 1 → iu G k 50 c = 50 := fun c c0 c1 => by
        by_cases q : c = k
        · rw [q, iu_s]
        · rw [iu_n q]; exact hG2 c c0 (by omega)
      refine V_iinc dL_law_75 rfl (by decide) ?_
      refine V_goto 50 dL_law_78 (by decide) ?_
      refine V_fg [true, true, true, true, true, true, true, true, true, true, false, false, false, false] ?_
      exact ih (by omega) _ _ hU hG hG2
  refine V_fg [true, true, true, true, true, true, true, true, true, true, false, false, false, false] ?_
  exact L50 0 (by omega) (by omega) w0 (fun _ => 0) (UA.rf hA.1) (fun _ => ⟨by show (0 : Int) ≤ 0; omega, by show (0 : Int) ≤ 127; omega⟩) (fun c c0 c1 => by omega)
set_option maxRecDepth 100000 in
set_option maxHeartbeats 4000000 in
theorem k_all {Z : XZ} (hZ : ∀ (kc ks : Nat) (w : WD) (sz : Nat) (lv : List (Option Value)), V iL_law Z kc ks w sz 379 lv [xI 1]) : V iL_law Z 40000 300000 (fun _ => none) 1 0 [some (.ref 0), none, none, none, none, none, none, none, none, none, none, none, none, none] [] := by
  refine V_n_L_44 (kc' := 39999) (ks' := 299994) rfl dL_law_0 (by decide) (by decide) ?_
  refine V_dup dL_law_3 rfl ?_
  refine V_c_L_111 rfl (kc' := 39963) (ks' := 297402) (by decide) (c_init (χ := 1) xU_s (fun j hj => (xU_n (by omega)).trans rfl)) dL_law_4 rfl rfl (Nat.le_of_ble_eq_true rfl) (by decide) (by decide) (fun v w1 sz1 q => ?_)
  obtain ⟨rfl, rfl, hN1, hC1⟩ := q
  refine V_astore_n dL_law_7 1 rfl (by decide) ?_
  refine V_bipush dL_law_8 (by decide) ?_
  refine V_newL (kc' := 39962) (ks' := 297382) (n := 20) rfl (xG_at 612 (by decide +kernel) rfl) dL_law_10 rfl (by decide) (by decide) (by decide) ?_
  refine V_astore_n dL_law_12 2 rfl (by decide) ?_
  refine V_bipush dL_law_13 (by decide) ?_
  refine V_newL (kc' := 39961) (ks' := 297322) (n := 60) rfl (xG_at 612 (by decide +kernel) rfl) dL_law_15 rfl (by decide) (by decide) (by decide) ?_
  refine V_astore_n dL_law_17 3 rfl (by decide) ?_
  refine V_bipush dL_law_18 (by decide) ?_
  refine V_newL (kc' := 39960) (ks' := 297262) (n := 60) rfl (xG_at 612 (by decide +kernel) rfl) dL_law_20 rfl (by decide) (by decide) (by decide) ?_
  refine V_astore dL_law_22 (by decide) ?_
  refine V_bipush dL_law_24 (by decide) ?_
  refine V_newL (kc' := 39959) (ks' := 297242) (n := 20) rfl (xG_at 612 (by decide +kernel) rfl) dL_law_26 rfl (by decide) (by decide) (by decide) ?_
  refine V_astore dL_law_28 (by decide) ?_
  refine V_bipush dL_law_30 (by decide) ?_
  refine V_newI (kc' := 39958) (ks' := 297215) (n := 27) rfl (xG_at 83 (by decide +kernel) rfl) dL_law_32 rfl (by decide) (by decide) (by decide) ?_
  refine V_astore dL_law_34 (by decide) ?_
  refine V_bipush dL_law_36 (by decide) ?_
  refine V_newI (kc' := 39957) (ks' := 297188) (n := 27) rfl (xG_at 83 (by decide +kernel) rfl) dL_law_38 rfl (by decide) (by decide) (by decide) ?_
  refine V_astore dL_law_40 (by decide) ?_
  refine V_iconst dL_law_42 ?_
  refine V_newI (kc' := 39956) (ks' := 297187) (n := 1) rfl (xG_at 83 (by decide +kernel) rfl) dL_law_43 rfl (by decide) (by decide) (by decide) ?_
  refine V_astore dL_law_45 (by decide) ?_
  refine V_le (kc' := 34806) (ks' := 211652) (by decide) (by decide) ?_
  exact law_A hZ (χ := 1) (fun j hj => (xU_n (by omega)).trans ((xU_n (by omega)).trans ((xU_n (by omega)).trans ((xU_n (by omega)).trans ((xU_n (by omega)).trans ((xU_n (by omega)).trans ((xU_n (by omega)).trans (hN1 j (by omega)))))))))
    (hC1.mv (fun j hj hn => (xU_n (by have := hN1.lt hn; omega)).trans ((xU_n (by have := hN1.lt hn; omega)).trans ((xU_n (by have := hN1.lt hn; omega)).trans ((xU_n (by have := hN1.lt hn; omega)).trans ((xU_n (by have := hN1.lt hn; omega)).trans ((xU_n (by have := hN1.lt hn; omega)).trans (xU_n (by have := hN1.lt hn; omega)))))))))
    ⟨(xU_n (by omega)).trans ((xU_n (by omega)).trans ((xU_n (by omega)).trans ((xU_n (by omega)).trans ((xU_n (by omega)).trans ((xU_n (by omega)).trans (xU_s)))))), (xU_n (by omega)).trans ((xU_n (by omega)).trans ((xU_n (by omega)).trans ((xU_n (by omega)).trans ((xU_n (by omega)).trans (xU_s))))), (xU_n (by omega)).trans ((xU_n (by omega)).trans (xU_s)), xU_s⟩ ((xU_n (by omega)).trans ((xU_n (by omega)).trans ((xU_n (by omega)).trans ((xU_n (by omega)).trans (xU_s))))) ((xU_n (by omega)).trans ((xU_n (by omega)).trans ((xU_n (by omega)).trans (xU_s)))) ((xU_n (by omega)).trans (xU_s))
