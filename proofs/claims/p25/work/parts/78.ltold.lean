/-! p25's law: what is told -/
theorem icnt_0 {z f : Int → Int} {s : Int} : icnt z f s 0 = z 160 := if_pos rfl
theorem icnt_1 {z f : Int → Int} {s : Int} : icnt z f s 1 = isum (fun p => z (161 + 169 * p + 7)) (z 160) := (if_neg (by decide)).trans (if_pos rfl)
theorem icnt_2 {z f : Int → Int} {s : Int} : icnt z f s 2 = isum (fun k => if 100 ≤ f k then 1 else 0) 160 := (if_neg (by decide)).trans ((if_neg (by decide)).trans (if_pos rfl))
theorem icnt_3 {z f : Int → Int} {s : Int} : icnt z f s 3 = isum (fun k => if 1 ≤ f k then 1 else 0) 160 := (if_neg (by decide)).trans ((if_neg (by decide)).trans ((if_neg (by decide)).trans (if_pos rfl)))
theorem icnt_4 {z f : Int → Int} {s : Int} : icnt z f s 4 = isum f 160 := (if_neg (by decide)).trans ((if_neg (by decide)).trans ((if_neg (by decide)).trans ((if_neg (by decide)).trans (if_pos rfl))))
theorem icnt_5 {z f : Int → Int} {s : Int} : icnt z f s 5 = isum (iegr f) 11 := (if_neg (by decide)).trans ((if_neg (by decide)).trans ((if_neg (by decide)).trans ((if_neg (by decide)).trans ((if_neg (by decide)).trans (if_pos rfl)))))
theorem icnt_6 {z f : Int → Int} {s : Int} : icnt z f s 6 = isum z 160 := (if_neg (by decide)).trans ((if_neg (by decide)).trans ((if_neg (by decide)).trans ((if_neg (by decide)).trans ((if_neg (by decide)).trans ((if_neg (by decide)).trans (if_pos rfl))))))
theorem ipic_9 {z : Int → Int} {p : Int} : ipic z p 9 = isum (fun k => if 100 ≤ z (161 + 169 * p + (9 + k)) then 1 else 0) 160 := (if_neg (by decide)).trans (isum_c (fun k _ _ => (if_neg (by decide)).trans (by rw [if_pos rfl])))
theorem ipic_10 {z : Int → Int} {p : Int} : ipic z p 10 = isum (fun k => if 1 ≤ z (161 + 169 * p + (9 + k)) then 1 else 0) 160 := (if_neg (by decide)).trans (isum_c (fun k _ _ => (if_neg (by decide)).trans (by rw [if_neg (show ¬ (10 : Int) = 9 by decide)])))
theorem ipic_11 {z : Int → Int} {p : Int} : ipic z p 11 = isum (fun k => z (161 + 169 * p + (9 + k))) 160 := (if_neg (by decide)).trans (isum_c (fun k _ _ => if_pos rfl))
def QT (w0 : WD) (χ : Nat) (P : MP) : XQ := fun o9 w' sz' => o9 = some (xB true) ∧ TF w0 w' sz' χ ∧ CP w' χ P
set_option maxRecDepth 100000 in
set_option maxHeartbeats 4000000 in
theorem told_C {Z : XZ} {w0 : WD} {χ : Nat} {P : MP} {g gl prf dd : Int → Int} {n x : Int} (hE : xEnd Z (QT w0 χ P)) (hI : MInv P) (hP : LQ P.1 g gl prf n) (hdn : dd 0 = n) (hx : 0 ≤ x ∧ x ≤ 1073741823) {w : WD} {sz : Nat} (hT : TF w0 w sz χ) (hC : CP w χ P) (hA : LA w χ g gl prf dd) : V iL_told Z 7 42 w sz 642 [some (.ref χ), some (xI x), some (.ref (χ + 37)), some (.ref (χ + 38)), some (.ref (χ + 41)), some (.ref (χ + 43)), some (xI (isum (fun c => if 100 ≤ imS P.1 c then 1 else 0) 160)), some (xI (isum (fun c => if 1 ≤ imS P.1 c then 1 else 0) 160)), some (xI (isum (imS P.1) 160)), some (xI (isum P.1 160)), some (xI (isum (lE (imS P.1)) 160)), some (xI (isum (fun p => P.1 (161 + 169 * p + 7)) n)), none, none, none, none, none, none, none, none] [] := by
  refine V_aload_n dL_told_642 0 rfl rfl ?_
  refine V_iconst dL_told_643 ?_
  refine V_c_L_59 rfl (kc' := 6) (ks' := 36) (by decide) ((c_count hC hI hT.1 (hA.hs hT.1) (by omega)).w1 (cntR_0 (by omega))) dL_told_644 hC.1 rfl rfl (Nat.le_of_ble_eq_true rfl) (by omega) (by omega) (fun v w1 sz1 q => ?_)
  obtain ⟨rfl, hT1, hC⟩ := q
  have hA := hA.T hT1
  have hT := hT.tr hT1
  refine V_aload dL_told_647 rfl ?_
  refine V_iconst dL_told_649 ?_
  refine V_iald dL_told_650 hA.2.2.2 (by omega) ?_
  refine V_icmp_neS (t := 734) (by rw [icnt_0, hdn]; exact hP.2.2.2.1) dL_told_651 (by decide) ?_
  refine V_aload_n dL_told_654 0 rfl rfl ?_
  refine V_iconst dL_told_655 ?_
  refine V_c_L_59 rfl (kc' := 5) (ks' := 30) (by decide) ((c_count hC hI hT.1 (hA.hs hT.1) (by omega)).w1 (cntR_0 (by omega))) dL_told_656 hC.1 rfl rfl (Nat.le_of_ble_eq_true rfl) (by omega) (by omega) (fun v w1 sz1 q => ?_)
  obtain ⟨rfl, hT1, hC⟩ := q
  have hA := hA.T hT1
  have hT := hT.tr hT1
  refine V_iload dL_told_659 rfl ?_
  refine V_icmp_neS (t := 734) (by rw [icnt_1, hP.2.2.2.1]) dL_told_661 (by decide) ?_
  refine V_aload_n dL_told_664 0 rfl rfl ?_
  refine V_iconst dL_told_665 ?_
  refine V_c_L_59 rfl (kc' := 4) (ks' := 24) (by decide) ((c_count hC hI hT.1 (hA.hs hT.1) (by omega)).w1 (cntR_0 (by omega))) dL_told_666 hC.1 rfl rfl (Nat.le_of_ble_eq_true rfl) (by omega) (by omega) (fun v w1 sz1 q => ?_)
  obtain ⟨rfl, hT1, hC⟩ := q
  have hA := hA.T hT1
  have hT := hT.tr hT1
  refine V_iload dL_told_669 rfl ?_
  refine V_icmp_neS (t := 734) (icnt_2) dL_told_671 (by decide) ?_
  refine V_aload_n dL_told_674 0 rfl rfl ?_
  refine V_iconst dL_told_675 ?_
  refine V_c_L_59 rfl (kc' := 3) (ks' := 18) (by decide) ((c_count hC hI hT.1 (hA.hs hT.1) (by omega)).w1 (cntR_0 (by omega))) dL_told_676 hC.1 rfl rfl (Nat.le_of_ble_eq_true rfl) (by omega) (by omega) (fun v w1 sz1 q => ?_)
  obtain ⟨rfl, hT1, hC⟩ := q
  have hA := hA.T hT1
  have hT := hT.tr hT1
  refine V_iload dL_told_679 rfl ?_
  refine V_icmp_neS (t := 734) (icnt_3) dL_told_681 (by decide) ?_
  refine V_aload_n dL_told_684 0 rfl rfl ?_
  refine V_iconst dL_told_685 ?_
  refine V_c_L_59 rfl (kc' := 2) (ks' := 12) (by decide) ((c_count hC hI hT.1 (hA.hs hT.1) (by omega)).w1 (cntR_0 (by omega))) dL_told_686 hC.1 rfl rfl (Nat.le_of_ble_eq_true rfl) (by omega) (by omega) (fun v w1 sz1 q => ?_)
  obtain ⟨rfl, hT1, hC⟩ := q
  have hA := hA.T hT1
  have hT := hT.tr hT1
  refine V_iload dL_told_689 rfl ?_
  refine V_icmp_neS (t := 734) (icnt_4) dL_told_691 (by decide) ?_
  refine V_aload_n dL_told_694 0 rfl rfl ?_
  refine V_iconst dL_told_695 ?_
  refine V_c_L_59 rfl (kc' := 1) (ks' := 6) (by decide) ((c_count hC hI hT.1 (hA.hs hT.1) (by omega)).w1 (cntR_0 (by omega))) dL_told_696 hC.1 rfl rfl (Nat.le_of_ble_eq_true rfl) (by omega) (by omega) (fun v w1 sz1 q => ?_)
  obtain ⟨rfl, hT1, hC⟩ := q
  have hA := hA.T hT1
  have hT := hT.tr hT1
  refine V_iload dL_told_699 rfl ?_
  refine V_icmp_neS (t := 734) (by rw [icnt_5]; exact (lE_sum _).symm) dL_told_701 (by decide) ?_
  refine V_aload_n dL_told_704 0 rfl rfl ?_
  refine V_bipush dL_told_705 (by decide) ?_
  refine V_c_L_59 rfl (kc' := 0) (ks' := 0) (by decide) ((c_count hC hI hT.1 (hA.hs hT.1) (by omega)).w1 (cntR_0 (by omega))) dL_told_707 hC.1 rfl rfl (Nat.le_of_ble_eq_true rfl) (by omega) (by omega) (fun v w1 sz1 q => ?_)
  obtain ⟨rfl, hT1, hC⟩ := q
  have hA := hA.T hT1
  have hT := hT.tr hT1
  refine V_iload dL_told_710 rfl ?_
  refine V_icmp_neS (t := 734) (icnt_6) dL_told_712 (by decide) ?_
  refine V_aload_n dL_told_715 0 rfl rfl ?_
  refine V_c_L_62 rfl (by decide) (c_cov hC hI) dL_told_716 hC.1 rfl rfl (Nat.le_of_ble_eq_true rfl) (Nat.le_of_eq (Nat.zero_add _)) (Nat.le_of_eq (Nat.zero_add _)) (fun v w1 sz1 q => ?_)
  obtain ⟨rfl, rfl, hC, hf⟩ := q
  have hs := hA.hs hT.1
  have hT := hT.tr (⟨fun j hj => (hf j (by omega)).trans (hT.1 j hj), fun j hj _ => hf j (by omega)⟩ : TF _ _ _ χ)
  refine V_iload dL_told_719 rfl ?_
  refine V_i2d dL_told_721 ?_
  refine V_ldc2d (v := 4670021707350671360) dL_told_722 (xG_at 445 (by decide +kernel) rfl) ?_
  refine V_ddiv dL_told_725 (cov_n hI.1) ?_
  refine V_dcmp dL_told_726 ?_
  have e9 : Op.cmpValue (FP.dcmp (covD P.1) (FP.ddiv (FP.i2d (Int32.ofInt (isum (imS P.1) 160))) 4670021707350671360)) .l = 0 := n64_cmp (cov_n hI.1)
  rw [e9]
  show V _ _ _ _ _ _ _ _ [xI 0]
  refine V_if_ne 734 dL_told_727 (by decide) (by omega) (fun h727 => ?_) (fun h727 => ?_)
  · exact absurd rfl h727
  · refine V_iconst dL_told_730 ?_
    refine V_goto 735 dL_told_731 (by decide) ?_
    exact V_zret (b := true) hE rfl dL_told_735 ⟨rfl, hT, hC⟩
set_option maxRecDepth 100000 in
set_option maxHeartbeats 4000000 in
theorem told_B {Z : XZ} {w0 : WD} {χ : Nat} {P : MP} {g gl prf dd : Int → Int} {n x : Int} (hE : xEnd Z (QT w0 χ P)) (hI : MInv P) (hP : LQ P.1 g gl prf n) (hdn : dd 0 = n) (hx : 0 ≤ x ∧ x ≤ 1073741823) {w : WD} {sz : Nat} (hT : TF w0 w sz χ) (hC : CP w χ P) (hA : LA w χ g gl prf dd) : V iL_told Z 85 510 w sz 391 [some (.ref χ), some (xI x), some (.ref (χ + 37)), some (.ref (χ + 38)), some (.ref (χ + 41)), some (.ref (χ + 43)), some (xI (isum (fun c => if 100 ≤ imS P.1 c then 1 else 0) 160)), some (xI (isum (fun c => if 1 ≤ imS P.1 c then 1 else 0) 160)), some (xI (isum (imS P.1) 160)), some (xI (isum P.1 160)), some (xI (isum (lE (imS P.1)) 160)), some (xI 0), none, none, none, none, none, none, none, none] [] := by
  have hn3 := hP.2.2.2.2.1
  have hzn := hP.2.2.2.1
  refine V_le (kc' := (7 + (26 * (n - (0 : Int))).toNat)) (ks' := (42 + (156 * (n - (0 : Int))).toNat)) (by omega) (by omega) ?_
  refine V_iconst dL_told_391 ?_
  refine V_istore dL_told_392 (by decide) ?_
  have L394 : ∀ k : Int, 0 ≤ k → k ≤ n → ∀ (w : WD) (sz : Nat), TF w0 w sz χ → CP w χ P → LA w χ g gl prf dd → V iL_told Z (7 + (26 * (n - k)).toNat) (42 + (156 * (n - k)).toNat) w sz 394 [some (.ref χ), some (xI x), some (.ref (χ + 37)), some (.ref (χ + 38)), some (.ref (χ + 41)), some (.ref (χ + 43)), some (xI (isum (fun c => if 100 ≤ imS P.1 c then 1 else 0) 160)), some (xI (isum (fun c => if 1 ≤ imS P.1 c then 1 else 0) 160)), some (xI (isum (imS P.1) 160)), some (xI (isum P.1 160)), some (xI (isum (lE (imS P.1)) 160)), some (xI (isum (fun p => P.1 (161 + 169 * p + 7)) k)), some (xI k), none, none, none, none, none, none, none] [] := by
    refine up_ind ?_
    intro k hk0 hk1 ih
    intro w sz hT hC hA
    refine V_iload dL_told_394 rfl ?_
    refine V_aload dL_told_396 rfl ?_
    refine V_iconst dL_told_398 ?_
    refine V_iald dL_told_399 hA.2.2.2 (by omega) ?_
    rw [hdn]
    refine V_icmp_ge 642 dL_told_400 (by decide) (by omega) (fun h400 => ?_) (fun h400 => ?_)
    · rw [show k = n by omega]
      refine V_fg [true, true, true, true, true, true, true, true, true, true, true, true, false, false, false, false, false, false, false, false] ?_
      refine V_le (kc' := 7) (ks' := 42) (by omega) (by omega) ?_
      exact told_C hE hI hP hdn hx hT hC hA
    · refine V_iconst dL_told_403 ?_
      refine V_istore dL_told_404 (by decide) ?_
      refine V_iconst dL_told_406 ?_
      refine V_istore dL_told_407 (by decide) ?_
      refine V_iconst dL_told_409 ?_
      refine V_istore dL_told_410 (by decide) ?_
      refine V_iload dL_told_412 rfl ?_
      refine V_aload dL_told_414 rfl ?_
      refine V_bipush dL_told_416 (by decide) ?_
      refine V_iload dL_told_418 rfl ?_
      refine V_imul dL_told_420 ?_
      refine V_bipush dL_told_421 (by decide) ?_
      refine V_iadd dL_told_423 ?_
      refine V_iald dL_told_424 hA.2.2.1 (by omega) ?_
      refine V_iadd dL_told_425 ?_
      rw [hP.2.2.2.2.2.1 k 7 hk0 h400 (by omega) (by omega), show isum (fun p => P.1 (161 + 169 * p + 7)) k + P.1 (161 + 169 * k + 7) = isum (fun p => P.1 (161 + 169 * p + 7)) (k + 1) from (isum_s hk0).symm]
      refine V_istore dL_told_426 (by decide) ?_
      refine V_iconst dL_told_428 ?_
      refine V_istore dL_told_429 (by decide) ?_
      have L431 : ∀ c : Int, 0 ≤ c → c ≤ 160 → V iL_told Z (7 + 8 + 18 + (26 * (n - (k + 1))).toNat) (42 + 48 + 108 + (156 * (n - (k + 1))).toNat) w sz 431 [some (.ref χ), some (xI x), some (.ref (χ + 37)), some (.ref (χ + 38)), some (.ref (χ + 41)), some (.ref (χ + 43)), some (xI (isum (fun c => if 100 ≤ imS P.1 c then 1 else 0) 160)), some (xI (isum (fun c => if 1 ≤ imS P.1 c then 1 else 0) 160)), some (xI (isum (imS P.1) 160)), some (xI (isum P.1 160)), some (xI (isum (lE (imS P.1)) 160)), some (xI (isum (fun p => P.1 (161 + 169 * p + 7)) (k + 1))), some (xI k), some (xI (isum (fun c => P.1 (161 + 169 * k + (9 + c))) c)), some (xI (isum (fun c => if 1 ≤ P.1 (161 + 169 * k + (9 + c)) then 1 else 0) c)), some (xI (isum (fun c => if 100 ≤ P.1 (161 + 169 * k + (9 + c)) then 1 else 0) c)), some (xI c), none, none, none] [] := by
        refine up_ind ?_
        intro c hc0 hc1 ihc
        refine V_iload dL_told_431 rfl ?_
        refine V_sipush dL_told_433 (by decide) ?_
        refine V_icmp_ge 505 dL_told_436 (by decide) (by omega) (fun h436 => ?_) (fun h436 => ?_)
        · have hc160 : c = 160 := by omega
          subst hc160
          refine V_iconst dL_told_505 ?_
          refine V_istore dL_told_506 (by decide) ?_
          have L508 : ∀ i : Int, 0 ≤ i → i ≤ 9 → ∀ (w : WD) (sz : Nat), TF w0 w sz χ → CP w χ P → LA w χ g gl prf dd → V iL_told Z (7 + 8 + (2 * (9 - i)).toNat + (26 * (n - (k + 1))).toNat) (42 + 48 + (12 * (9 - i)).toNat + (156 * (n - (k + 1))).toNat) w sz 508 [some (.ref χ), some (xI x), some (.ref (χ + 37)), some (.ref (χ + 38)), some (.ref (χ + 41)), some (.ref (χ + 43)), some (xI (isum (fun c => if 100 ≤ imS P.1 c then 1 else 0) 160)), some (xI (isum (fun c => if 1 ≤ imS P.1 c then 1 else 0) 160)), some (xI (isum (imS P.1) 160)), some (xI (isum P.1 160)), some (xI (isum (lE (imS P.1)) 160)), some (xI (isum (fun p => P.1 (161 + 169 * p + 7)) (k + 1))), some (xI k), some (xI (isum (fun c => P.1 (161 + 169 * k + (9 + c))) 160)), some (xI (isum (fun c => if 1 ≤ P.1 (161 + 169 * k + (9 + c)) then 1 else 0) 160)), some (xI (isum (fun c => if 100 ≤ P.1 (161 + 169 * k + (9 + c)) then 1 else 0) 160)), some (xI i), none, none, none] [] := by
            refine up_ind ?_
            intro i hi0 hi1 ihi
            intro w sz hT hC hA
            refine V_iload dL_told_508 rfl ?_
            refine V_bipush dL_told_510 (by decide) ?_
            refine V_icmp_ge 545 dL_told_512 (by decide) (by omega) (fun h512 => ?_) (fun h512 => ?_)
            · refine V_iload_n dL_told_545 1 rfl rfl ?_
              refine V_iload dL_told_546 rfl ?_
              refine V_ishrZ dL_told_548 (by first | omega | (dsimp only; omega) | exact iAnd_0 | exact iOr_0 | exact iShl_0 | exact iShr_0) (by first | omega | (dsimp only; omega) | exact iAnd_0 | exact iOr_0 | exact iShl_0 | exact iShr_0) ?_
              refine V_sipush dL_told_549 (by decide) ?_
              refine V_c_L_53 rfl (by decide) (l_at (by have := iShr_l (a := x) (s := k) hx.1; have := iShr_0 (a := x) (b := k); omega) (by omega)) dL_told_552 rfl rfl (Nat.le_of_ble_eq_true rfl) (Nat.le_of_eq (Nat.zero_add _)) (Nat.le_of_eq (Nat.zero_add _)) (fun v w sz q => ?_)
              obtain ⟨rfl, hw9, hs9⟩ := q
              obtain rfl := hw9.symm
              obtain rfl := hs9.symm
              have hc9 := iat_r (x := iShr x k) (n := 160) (by omega)
              generalize iat (iShr x k) 160 = c9 at hc9 ⊢
              refine V_istore dL_told_555 (by decide) ?_
              refine V_aload_n dL_told_557 0 rfl rfl ?_
              refine V_iload dL_told_558 rfl ?_
              refine V_bipush dL_told_560 (by decide) ?_
              refine V_c_L_49 rfl (kc' := 7 + 6 + (26 * (n - (k + 1))).toNat) (ks' := 42 + 36 + (156 * (n - (k + 1))).toNat) (by decide) ((c_picked hC hI hT.1 (hA.hs hT.1) (by omega)).w2 (pkdR_0 (by omega) (by omega))) dL_told_562 hC.1 rfl rfl (Nat.le_of_ble_eq_true rfl) (by omega) (by omega) (fun v w1 sz1 q => ?_)
              obtain ⟨rfl, hT1, hC⟩ := q
              have hA := hA.T hT1
              have hT := hT.tr hT1
              refine V_iload dL_told_565 rfl ?_
              refine V_icmp_neS (t := 634) (ipic_9) dL_told_567 (by decide) ?_
              refine V_aload_n dL_told_570 0 rfl rfl ?_
              refine V_iload dL_told_571 rfl ?_
              refine V_bipush dL_told_573 (by decide) ?_
              refine V_c_L_49 rfl (kc' := 7 + 4 + (26 * (n - (k + 1))).toNat) (ks' := 42 + 24 + (156 * (n - (k + 1))).toNat) (by decide) ((c_picked hC hI hT.1 (hA.hs hT.1) (by omega)).w2 (pkdR_0 (by omega) (by omega))) dL_told_575 hC.1 rfl rfl (Nat.le_of_ble_eq_true rfl) (by omega) (by omega) (fun v w1 sz1 q => ?_)
              obtain ⟨rfl, hT1, hC⟩ := q
              have hA := hA.T hT1
              have hT := hT.tr hT1
              refine V_iload dL_told_578 rfl ?_
              refine V_icmp_neS (t := 634) (ipic_10) dL_told_580 (by decide) ?_
              refine V_aload_n dL_told_583 0 rfl rfl ?_
              refine V_iload dL_told_584 rfl ?_
              refine V_bipush dL_told_586 (by decide) ?_
              refine V_c_L_49 rfl (kc' := 7 + 2 + (26 * (n - (k + 1))).toNat) (ks' := 42 + 12 + (156 * (n - (k + 1))).toNat) (by decide) ((c_picked hC hI hT.1 (hA.hs hT.1) (by omega)).w2 (pkdR_0 (by omega) (by omega))) dL_told_588 hC.1 rfl rfl (Nat.le_of_ble_eq_true rfl) (by omega) (by omega) (fun v w1 sz1 q => ?_)
              obtain ⟨rfl, hT1, hC⟩ := q
              have hA := hA.T hT1
              have hT := hT.tr hT1
              refine V_iload dL_told_591 rfl ?_
              refine V_icmp_neS (t := 634) (ipic_11) dL_told_593 (by decide) ?_
              refine V_aload_n dL_told_596 0 rfl rfl ?_
              refine V_iload dL_told_597 rfl ?_
              refine V_iload dL_told_599 rfl ?_
              refine V_bipush dL_told_601 (by decide) ?_
              refine V_iremN dL_told_603 (by first | omega | (dsimp only; omega) | exact iAnd_0 | exact iOr_0 | exact iShl_0 | exact iShr_0) ?_
              refine V_iload dL_told_604 rfl ?_
              refine V_bipush dL_told_606 (by decide) ?_
              refine V_idivN dL_told_608 (by first | omega | (dsimp only; omega) | exact iAnd_0 | exact iOr_0 | exact iShl_0 | exact iShr_0) ?_
              refine V_c_L_56 rfl (kc' := 7 + 0 + (26 * (n - (k + 1))).toNat) (ks' := 42 + 0 + (156 * (n - (k + 1))).toNat) (by decide) ((c_level hC hI hT.1 (hA.hs hT.1) (by omega)).w1 (lvlR_0 (by omega) (by omega))) dL_told_609 hC.1 rfl rfl (Nat.le_of_ble_eq_true rfl) (by omega) (by omega) (fun v w1 sz1 q => ?_)
              obtain ⟨rfl, hT1, hC⟩ := q
              have hA := hA.T hT1
              have hT := hT.tr hT1
              refine V_aload_n dL_told_612 3 rfl rfl ?_
              refine V_bipush dL_told_613 (by decide) ?_
              refine V_iload dL_told_615 rfl ?_
              refine V_imul dL_told_617 ?_
              refine V_iload dL_told_618 rfl ?_
              refine V_bipush dL_told_620 (by decide) ?_
              refine V_iremN dL_told_622 (by first | omega | (dsimp only; omega) | exact iAnd_0 | exact iOr_0 | exact iShl_0 | exact iShr_0) ?_
              refine V_iload dL_told_623 rfl ?_
              refine V_bipush dL_told_625 (by decide) ?_
              refine V_idivN dL_told_627 (by first | omega | (dsimp only; omega) | exact iAnd_0 | exact iOr_0 | exact iShl_0 | exact iShr_0) ?_
              refine V_c_L_12 rfl (by decide) (l_of (n := 60) hA.2.1 hP.2.1 (by omega) (by omega) (by omega) (by omega)) dL_told_628 rfl rfl (Nat.le_of_ble_eq_true rfl) (Nat.le_of_eq (Nat.zero_add _)) (Nat.le_of_eq (Nat.zero_add _)) (fun v w sz q => ?_)
              obtain ⟨rfl, hw9, hs9⟩ := q
              obtain rfl := hw9.symm
              obtain rfl := hs9.symm
              refine V_icmp_eqS (t := 636) (by rw [show 8 * (20 * k) + 16 * (c9 / 16) + c9 % 16 = 160 * k + (16 * (c9 / 16) + c9 % 16) by omega, hP.2.2.2.2.2.2 k _ hk0 h400 (by omega) (by omega)]) dL_told_631 (by decide) ?_
              refine V_iinc dL_told_636 rfl (by decide) ?_
              refine V_goto 394 dL_told_639 (by decide) ?_
              refine V_fg [true, true, true, true, true, true, true, true, true, true, true, true, true, false, false, false, false, false, false, false] ?_
              exact ih (by omega) _ _ hT hC hA
            · refine V_aload_n dL_told_515 0 rfl rfl ?_
              refine V_iload dL_told_516 rfl ?_
              refine V_iload dL_told_518 rfl ?_
              refine V_c_L_49 rfl (kc' := 7 + 8 + (2 * (9 - (i + 1))).toNat + (26 * (n - (k + 1))).toNat) (ks' := 42 + 48 + (12 * (9 - (i + 1))).toNat + (156 * (n - (k + 1))).toNat) (by decide) ((c_picked hC hI hT.1 (hA.hs hT.1) (by omega)).w2 (pkdR_0 (by omega) (by omega))) dL_told_520 hC.1 rfl rfl (Nat.le_of_ble_eq_true rfl) (by omega) (by omega) (fun v w1 sz1 q => ?_)
              obtain ⟨rfl, hT1, hC⟩ := q
              have hA := hA.T hT1
              have hT := hT.tr hT1
              refine V_aload dL_told_523 rfl ?_
              refine V_bipush dL_told_525 (by decide) ?_
              refine V_iload dL_told_527 rfl ?_
              refine V_imul dL_told_529 ?_
              refine V_iload dL_told_530 rfl ?_
              refine V_iadd dL_told_532 ?_
              refine V_iald dL_told_533 hA.2.2.1 (by omega) ?_
              refine V_icmp_eqS (t := 539) (by rw [hP.2.2.2.2.2.1 k i hk0 h400 hi0 h512]; exact if_pos h512) dL_told_534 (by decide) ?_
              refine V_iinc dL_told_539 rfl (by decide) ?_
              refine V_goto 508 dL_told_542 (by decide) ?_
              refine V_fg [true, true, true, true, true, true, true, true, true, true, true, true, true, true, true, true, true, false, false, false] ?_
              exact ihi (by omega) _ _ hT hC hA
          refine V_fg [true, true, true, true, true, true, true, true, true, true, true, true, true, true, true, true, true, false, false, false] ?_
          refine V_le (kc' := 7 + 8 + (2 * (9 - (0 : Int))).toNat + (26 * (n - (k + 1))).toNat) (ks' := 42 + 48 + (12 * (9 - (0 : Int))).toNat + (156 * (n - (k + 1))).toNat) (by omega) (by omega) ?_
          exact L508 0 (by omega) (by omega) w sz hT hC hA
        · refine V_aload_n dL_told_439 3 rfl rfl ?_
          refine V_bipush dL_told_440 (by decide) ?_
          refine V_iload dL_told_442 rfl ?_
          refine V_imul dL_told_444 ?_
          refine V_iload dL_told_445 rfl ?_
          refine V_bipush dL_told_447 (by decide) ?_
          refine V_iremN dL_told_449 (by first | omega | (dsimp only; omega) | exact iAnd_0 | exact iOr_0 | exact iShl_0 | exact iShr_0) ?_
          refine V_iload dL_told_450 rfl ?_
          refine V_bipush dL_told_452 (by decide) ?_
          refine V_idivN dL_told_454 (by first | omega | (dsimp only; omega) | exact iAnd_0 | exact iOr_0 | exact iShl_0 | exact iShr_0) ?_
          refine V_c_L_12 rfl (by decide) (l_of (n := 60) hA.2.1 hP.2.1 (by omega) (by omega) (by omega) (by omega)) dL_told_455 rfl rfl (Nat.le_of_ble_eq_true rfl) (Nat.le_of_eq (Nat.zero_add _)) (Nat.le_of_eq (Nat.zero_add _)) (fun v w sz q => ?_)
          obtain ⟨rfl, hw9, hs9⟩ := q
          obtain rfl := hw9.symm
          obtain rfl := hs9.symm
          rw [show 8 * (20 * k) + 16 * (c / 16) + c % 16 = 160 * k + c by omega, hP.2.2.2.2.2.2 k c hk0 (by omega) hc0 (by omega)]
          have hpv := hI.1.lev k c hk0 (by omega) hc0 (by omega)
          refine V_istore dL_told_458 (by decide) ?_
          refine V_iload dL_told_460 rfl ?_
          refine V_iload dL_told_462 rfl ?_
          refine V_iadd dL_told_464 ?_
          rw [show isum (fun c => P.1 (161 + 169 * k + (9 + c))) c + P.1 (161 + 169 * k + (9 + c)) = isum (fun c => P.1 (161 + 169 * k + (9 + c))) (c + 1) from (isum_s hc0).symm]
          refine V_istore dL_told_465 (by decide) ?_
          have J479 : ∀ v1 : Int, v1 = (if 1 ≤ P.1 (161 + 169 * k + (9 + c)) then 1 else 0) → V iL_told Z (7 + 8 + 18 + (26 * (n - (k + 1))).toNat) (42 + 48 + 108 + (156 * (n - (k + 1))).toNat) w sz 479 [some (.ref χ), some (xI x), some (.ref (χ + 37)), some (.ref (χ + 38)), some (.ref (χ + 41)), some (.ref (χ + 43)), some (xI (isum (fun c => if 100 ≤ imS P.1 c then 1 else 0) 160)), some (xI (isum (fun c => if 1 ≤ imS P.1 c then 1 else 0) 160)), some (xI (isum (imS P.1) 160)), some (xI (isum P.1 160)), some (xI (isum (lE (imS P.1)) 160)), some (xI (isum (fun p => P.1 (161 + 169 * p + 7)) (k + 1))), some (xI k), some (xI (isum (fun c => P.1 (161 + 169 * k + (9 + c))) (c + 1))), some (xI (isum (fun c => if 1 ≤ P.1 (161 + 169 * k + (9 + c)) then 1 else 0) c)), some (xI (isum (fun c => if 100 ≤ P.1 (161 + 169 * k + (9 + c)) then 1 else 0) c)), some (xI c), some (xI (P.1 (161 + 169 * k + (9 + c)))), none, none] [xI v1, xI (isum (fun c => if 1 ≤ P.1 (161 + 169 * k + (9 + c)) then 1 else 0) c)] := by
            intro v1 hv1
            refine V_iadd dL_told_479 ?_
            rw [show isum (fun c => if 1 ≤ P.1 (161 + 169 * k + (9 + c)) then 1 else 0) c + v1 = isum (fun c => if 1 ≤ P.1 (161 + 169 * k + (9 + c)) then 1 else 0) (c + 1) by rw [isum_s hc0, hv1]]
            refine V_istore dL_told_480 (by decide) ?_
            have J496 : ∀ v2 : Int, v2 = (if 100 ≤ P.1 (161 + 169 * k + (9 + c)) then 1 else 0) → V iL_told Z (7 + 8 + 18 + (26 * (n - (k + 1))).toNat) (42 + 48 + 108 + (156 * (n - (k + 1))).toNat) w sz 496 [some (.ref χ), some (xI x), some (.ref (χ + 37)), some (.ref (χ + 38)), some (.ref (χ + 41)), some (.ref (χ + 43)), some (xI (isum (fun c => if 100 ≤ imS P.1 c then 1 else 0) 160)), some (xI (isum (fun c => if 1 ≤ imS P.1 c then 1 else 0) 160)), some (xI (isum (imS P.1) 160)), some (xI (isum P.1 160)), some (xI (isum (lE (imS P.1)) 160)), some (xI (isum (fun p => P.1 (161 + 169 * p + 7)) (k + 1))), some (xI k), some (xI (isum (fun c => P.1 (161 + 169 * k + (9 + c))) (c + 1))), some (xI (isum (fun c => if 1 ≤ P.1 (161 + 169 * k + (9 + c)) then 1 else 0) (c + 1))), some (xI (isum (fun c => if 100 ≤ P.1 (161 + 169 * k + (9 + c)) then 1 else 0) c)), some (xI c), some (xI (P.1 (161 + 169 * k + (9 + c)))), none, none] [xI v2, xI (isum (fun c => if 100 ≤ P.1 (161 + 169 * k + (9 + c)) then 1 else 0) c)] := by
              intro v2 hv2
              refine V_iadd dL_told_496 ?_
              rw [show isum (fun c => if 100 ≤ P.1 (161 + 169 * k + (9 + c)) then 1 else 0) c + v2 = isum (fun c => if 100 ≤ P.1 (161 + 169 * k + (9 + c)) then 1 else 0) (c + 1) by rw [isum_s hc0, hv2]]
              refine V_istore dL_told_497 (by decide) ?_
              refine V_iinc dL_told_499 rfl (by decide) ?_
              refine V_goto 431 dL_told_502 (by decide) ?_
              refine V_fg [true, true, true, true, true, true, true, true, true, true, true, true, true, true, true, true, true, false, false, false] ?_
              exact ihc (by omega)
            refine V_iload dL_told_482 rfl ?_
            refine V_iload dL_told_484 rfl ?_
            refine V_bipush dL_told_486 (by decide) ?_
            refine V_icmp_ne 495 dL_told_488 (by decide) (by omega) (fun h488 => ?_) (fun h488 => ?_)
            · refine V_iconst dL_told_495 ?_
              exact J496 _ (by first | exact (if_pos (by omega)).symm | exact (if_neg (by omega)).symm)
            · refine V_iconst dL_told_491 ?_
              refine V_goto 496 dL_told_492 (by decide) ?_
              exact J496 _ (by first | exact (if_pos (by omega)).symm | exact (if_neg (by omega)).symm)
          refine V_iload dL_told_467 rfl ?_
          refine V_iload dL_told_469 rfl ?_
          refine V_if_le 478 dL_told_471 (by decide) (by omega) (fun h471 => ?_) (fun h471 => ?_)
          · refine V_iconst dL_told_478 ?_
            exact J479 _ (by first | exact (if_pos (by omega)).symm | exact (if_neg (by omega)).symm)
          · refine V_iconst dL_told_474 ?_
            refine V_goto 479 dL_told_475 (by decide) ?_
            exact J479 _ (by first | exact (if_pos (by omega)).symm | exact (if_neg (by omega)).symm)
      refine V_fg [true, true, true, true, true, true, true, true, true, true, true, true, true, true, true, true, true, false, false, false] ?_
      refine V_le (kc' := 7 + 8 + 18 + (26 * (n - (k + 1))).toNat) (ks' := 42 + 48 + 108 + (156 * (n - (k + 1))).toNat) (by omega) (by omega) ?_
      exact L431 0 (by omega) (by omega)
  refine V_fg [true, true, true, true, true, true, true, true, true, true, true, true, true, false, false, false, false, false, false, false] ?_
  exact L394 0 (by omega) (by omega) w sz hT hC hA
set_option maxRecDepth 100000 in
set_option maxHeartbeats 4000000 in
theorem told_A {Z : XZ} {w0 : WD} {χ : Nat} {P : MP} {g gl prf dd : Int → Int} {n x : Int} (hE : xEnd Z (QT w0 χ P)) (hI : MInv P) (hP : LQ P.1 g gl prf n) (hdn : dd 0 = n) (hx : 0 ≤ x ∧ x ≤ 1073741823) {w : WD} {sz : Nat} (hT : TF w0 w sz χ) (hC : CP w χ P) (hA : LA w χ g gl prf dd) : V iL_told Z 1045 6270 w sz 0 [some (.ref χ), some (xI x), some (.ref (χ + 37)), some (.ref (χ + 38)), some (.ref (χ + 41)), some (.ref (χ + 43)), none, none, none, none, none, none, none, none, none, none, none, none, none, none] [] := by
  have hn3 := hP.2.2.2.2.1
  have hzn := hP.2.2.2.1
  refine V_le (kc' := (85 + (6 * (160 - (0 : Int))).toNat)) (ks' := (510 + (36 * (160 - (0 : Int))).toNat)) (by omega) (by omega) ?_
  refine V_iconst dL_told_0 ?_
  refine V_istore dL_told_1 (by decide) ?_
  refine V_iconst dL_told_3 ?_
  refine V_istore dL_told_4 (by decide) ?_
  refine V_iconst dL_told_6 ?_
  refine V_istore dL_told_7 (by decide) ?_
  refine V_iconst dL_told_9 ?_
  refine V_istore dL_told_10 (by decide) ?_
  refine V_iconst dL_told_12 ?_
  refine V_istore dL_told_13 (by decide) ?_
  refine V_iconst dL_told_15 ?_
  refine V_istore dL_told_16 (by decide) ?_
  refine V_iconst dL_told_18 ?_
  refine V_istore dL_told_19 (by decide) ?_
  have L21 : ∀ k : Int, 0 ≤ k → k ≤ 160 → ∀ (w : WD) (sz : Nat), TF w0 w sz χ → CP w χ P → LA w χ g gl prf dd → V iL_told Z (85 + (6 * (160 - k)).toNat) (510 + (36 * (160 - k)).toNat) w sz 21 [some (.ref χ), some (xI x), some (.ref (χ + 37)), some (.ref (χ + 38)), some (.ref (χ + 41)), some (.ref (χ + 43)), some (xI (isum (fun c => if 100 ≤ imS P.1 c then 1 else 0) k)), some (xI (isum (fun c => if 1 ≤ imS P.1 c then 1 else 0) k)), some (xI (isum (imS P.1) k)), some (xI (isum P.1 k)), some (xI (isum (lE (imS P.1)) k)), some (xI 0), some (xI k), none, none, none, none, none, none, none] [] := by
    refine up_ind ?_
    intro k hk0 hk1 ih
    intro w sz hT hC hA
    refine V_iload dL_told_21 rfl ?_
    refine V_sipush dL_told_23 (by decide) ?_
    refine V_icmp_ge 391 dL_told_26 (by decide) (by omega) (fun h26 => ?_) (fun h26 => ?_)
    · rw [show k = 160 by omega]
      refine V_fg [true, true, true, true, true, true, true, true, true, true, true, true, false, false, false, false, false, false, false, false] ?_
      refine V_le (kc' := 85) (ks' := 510) (by omega) (by omega) ?_
      exact told_B hE hI hP hdn hx hT hC hA
    · refine V_iload dL_told_29 rfl ?_
      refine V_bipush dL_told_31 (by decide) ?_
      refine V_iremN dL_told_33 (by first | omega | (dsimp only; omega) | exact iAnd_0 | exact iOr_0 | exact iShl_0 | exact iShr_0) ?_
      refine V_istore dL_told_34 (by decide) ?_
      refine V_iload dL_told_36 rfl ?_
      refine V_bipush dL_told_38 (by decide) ?_
      refine V_idivN dL_told_40 (by first | omega | (dsimp only; omega) | exact iAnd_0 | exact iOr_0 | exact iShl_0 | exact iShr_0) ?_
      refine V_istore dL_told_41 (by decide) ?_
      refine V_iload dL_told_43 rfl ?_
      refine V_iload dL_told_45 rfl ?_
      refine V_aload_n dL_told_47 3 rfl rfl ?_
      refine V_aload dL_told_48 rfl ?_
      refine V_aload dL_told_50 rfl ?_
      refine V_c_L_39 rfl (by decide) (l_mask hA.2.1 hA.2.2.1 hA.2.2.2 hdn hP hI.1 (by omega)) dL_told_52 rfl rfl (Nat.le_of_ble_eq_true rfl) (Nat.le_of_eq (Nat.zero_add _)) (Nat.le_of_eq (Nat.zero_add _)) (fun v w sz q => ?_)
      obtain ⟨rfl, hw9, hs9⟩ := q
      obtain rfl := hw9.symm
      obtain rfl := hs9.symm
      rw [show 16 * (k / 16) + k % 16 = k by omega]
      refine V_istore dL_told_55 (by decide) ?_
      have J82 : ∀ r : Int, r = rtM (imS P.1) k → V iL_told Z (85 + (6 * (160 - k)).toNat) (510 + (36 * (160 - k)).toNat) w sz 82 [some (.ref χ), some (xI x), some (.ref (χ + 37)), some (.ref (χ + 38)), some (.ref (χ + 41)), some (.ref (χ + 43)), some (xI (isum (fun c => if 100 ≤ imS P.1 c then 1 else 0) k)), some (xI (isum (fun c => if 1 ≤ imS P.1 c then 1 else 0) k)), some (xI (isum (imS P.1) k)), some (xI (isum P.1 k)), some (xI (isum (lE (imS P.1)) k)), some (xI 0), some (xI k), some (xI (k % 16)), some (xI (k / 16)), some (xI (imS P.1 k)), none, none, none, none] [xI r] := by
        intro r hr
        have hm : 0 ≤ imS P.1 k ∧ imS P.1 k ≤ 100 := imsk_b hI.1 (c := k) (by omega) (P.1 160) (by omega) (Int.le_refl _)
        have hrr : 0 ≤ r ∧ r ≤ 100 := by rw [hr]; unfold rtM; split; exact imsk_b hI.1 (c := k + 1) (by omega) (P.1 160) (by omega) (Int.le_refl _); omega
        refine V_istore dL_told_82 (by decide) ?_
        have J109 : ∀ b : Int, b = beM (imS P.1) k → V iL_told Z (85 + (6 * (160 - k)).toNat) (510 + (36 * (160 - k)).toNat) w sz 109 [some (.ref χ), some (xI x), some (.ref (χ + 37)), some (.ref (χ + 38)), some (.ref (χ + 41)), some (.ref (χ + 43)), some (xI (isum (fun c => if 100 ≤ imS P.1 c then 1 else 0) k)), some (xI (isum (fun c => if 1 ≤ imS P.1 c then 1 else 0) k)), some (xI (isum (imS P.1) k)), some (xI (isum P.1 k)), some (xI (isum (lE (imS P.1)) k)), some (xI 0), some (xI k), some (xI (k % 16)), some (xI (k / 16)), some (xI (imS P.1 k)), some (xI r), none, none, none] [xI b] := by
          intro b hb
          have hbr : 0 ≤ b ∧ b ≤ 100 := by rw [hb]; unfold beM; split; exact imsk_b hI.1 (c := k + 16) (by omega) (P.1 160) (by omega) (Int.le_refl _); omega
          refine V_istore dL_told_109 (by decide) ?_
          have J125 : ∀ s1 : Int, s1 = (if 100 ≤ (imS P.1 k) then 1 else 0) → V iL_told Z (85 + (6 * (160 - k)).toNat) (510 + (36 * (160 - k)).toNat) w sz 125 [some (.ref χ), some (xI x), some (.ref (χ + 37)), some (.ref (χ + 38)), some (.ref (χ + 41)), some (.ref (χ + 43)), some (xI (isum (fun c => if 100 ≤ imS P.1 c then 1 else 0) k)), some (xI (isum (fun c => if 1 ≤ imS P.1 c then 1 else 0) k)), some (xI (isum (imS P.1) k)), some (xI (isum P.1 k)), some (xI (isum (lE (imS P.1)) k)), some (xI 0), some (xI k), some (xI (k % 16)), some (xI (k / 16)), some (xI (imS P.1 k)), some (xI r), some (xI b), none, none] [xI s1, xI (isum (fun c => if 100 ≤ imS P.1 c then 1 else 0) k)] := by
            intro s1 hs1
            refine V_iadd dL_told_125 ?_
            rw [show isum (fun c => if 100 ≤ imS P.1 c then 1 else 0) k + s1 = isum (fun c => if 100 ≤ imS P.1 c then 1 else 0) (k + 1) by rw [isum_s hk0, hs1]]
            refine V_istore dL_told_126 (by decide) ?_
            have J140 : ∀ s2 : Int, s2 = (if 1 ≤ (imS P.1 k) then 1 else 0) → V iL_told Z (85 + (6 * (160 - k)).toNat) (510 + (36 * (160 - k)).toNat) w sz 140 [some (.ref χ), some (xI x), some (.ref (χ + 37)), some (.ref (χ + 38)), some (.ref (χ + 41)), some (.ref (χ + 43)), some (xI (isum (fun c => if 100 ≤ imS P.1 c then 1 else 0) (k + 1))), some (xI (isum (fun c => if 1 ≤ imS P.1 c then 1 else 0) k)), some (xI (isum (imS P.1) k)), some (xI (isum P.1 k)), some (xI (isum (lE (imS P.1)) k)), some (xI 0), some (xI k), some (xI (k % 16)), some (xI (k / 16)), some (xI (imS P.1 k)), some (xI r), some (xI b), none, none] [xI s2, xI (isum (fun c => if 1 ≤ imS P.1 c then 1 else 0) k)] := by
              intro s2 hs2
              refine V_iadd dL_told_140 ?_
              rw [show isum (fun c => if 1 ≤ imS P.1 c then 1 else 0) k + s2 = isum (fun c => if 1 ≤ imS P.1 c then 1 else 0) (k + 1) by rw [isum_s hk0, hs2]]
              refine V_istore dL_told_141 (by decide) ?_
              refine V_iload dL_told_143 rfl ?_
              refine V_iload dL_told_145 rfl ?_
              refine V_iadd dL_told_147 ?_
              rw [show isum (imS P.1) k + imS P.1 k = isum (imS P.1) (k + 1) from (isum_s hk0).symm]
              refine V_istore dL_told_148 (by decide) ?_
              refine V_iload dL_told_150 rfl ?_
              refine V_aload_n dL_told_152 2 rfl rfl ?_
              refine V_iconst dL_told_153 ?_
              refine V_iload dL_told_154 rfl ?_
              refine V_iload dL_told_156 rfl ?_
              refine V_c_L_12 rfl (by decide) (l_of (n := 20) hA.1 hP.1 (by omega) (by omega) (by omega) (by omega)) dL_told_158 rfl rfl (Nat.le_of_ble_eq_true rfl) (Nat.le_of_eq (Nat.zero_add _)) (Nat.le_of_eq (Nat.zero_add _)) (fun v w sz q => ?_)
              obtain ⟨rfl, hw9, hs9⟩ := q
              obtain rfl := hw9.symm
              obtain rfl := hs9.symm
              rw [show 8 * 0 + 16 * (k / 16) + k % 16 = k by omega, hP.2.2.1 k hk0 (by omega)]
              refine V_iadd dL_told_161 ?_
              rw [show isum P.1 k + P.1 k = isum P.1 (k + 1) from (isum_s hk0).symm]
              refine V_istore dL_told_162 (by decide) ?_
              have J178 : ∀ a1 : Int, a1 = (if 50 ≤ (imS P.1 k) then 1 else 0) → V iL_told Z (85 + (6 * (160 - k)).toNat) (510 + (36 * (160 - k)).toNat) w sz 178 [some (.ref χ), some (xI x), some (.ref (χ + 37)), some (.ref (χ + 38)), some (.ref (χ + 41)), some (.ref (χ + 43)), some (xI (isum (fun c => if 100 ≤ imS P.1 c then 1 else 0) (k + 1))), some (xI (isum (fun c => if 1 ≤ imS P.1 c then 1 else 0) (k + 1))), some (xI (isum (imS P.1) (k + 1))), some (xI (isum P.1 (k + 1))), some (xI (isum (lE (imS P.1)) k)), some (xI 0), some (xI k), some (xI (k % 16)), some (xI (k / 16)), some (xI (imS P.1 k)), some (xI r), some (xI b), none, none] [xI a1, xI (isum (lE (imS P.1)) k)] := by
                intro a1 ha1
                have ra1 : 0 ≤ a1 ∧ a1 ≤ 1 := by rw [ha1]; split <;> omega
                have J190 : ∀ b1 : Int, b1 = (if 50 ≤ r then 1 else 0) → V iL_told Z (85 + (6 * (160 - k)).toNat) (510 + (36 * (160 - k)).toNat) w sz 190 [some (.ref χ), some (xI x), some (.ref (χ + 37)), some (.ref (χ + 38)), some (.ref (χ + 41)), some (.ref (χ + 43)), some (xI (isum (fun c => if 100 ≤ imS P.1 c then 1 else 0) (k + 1))), some (xI (isum (fun c => if 1 ≤ imS P.1 c then 1 else 0) (k + 1))), some (xI (isum (imS P.1) (k + 1))), some (xI (isum P.1 (k + 1))), some (xI (isum (lE (imS P.1)) k)), some (xI 0), some (xI k), some (xI (k % 16)), some (xI (k / 16)), some (xI (imS P.1 k)), some (xI r), some (xI b), none, none] [xI b1, xI a1, xI (isum (lE (imS P.1)) k)] := by
                  intro b1 hb1
                  have rb1 : 0 ≤ b1 ∧ b1 ≤ 1 := by rw [hb1]; split <;> omega
                  have J198 : ∀ e1 : Int, e1 = (eN a1 b1) → V iL_told Z (85 + (6 * (160 - k)).toNat) (510 + (36 * (160 - k)).toNat) w sz 198 [some (.ref χ), some (xI x), some (.ref (χ + 37)), some (.ref (χ + 38)), some (.ref (χ + 41)), some (.ref (χ + 43)), some (xI (isum (fun c => if 100 ≤ imS P.1 c then 1 else 0) (k + 1))), some (xI (isum (fun c => if 1 ≤ imS P.1 c then 1 else 0) (k + 1))), some (xI (isum (imS P.1) (k + 1))), some (xI (isum P.1 (k + 1))), some (xI (isum (lE (imS P.1)) k)), some (xI 0), some (xI k), some (xI (k % 16)), some (xI (k / 16)), some (xI (imS P.1 k)), some (xI r), some (xI b), none, none] [xI e1, xI (isum (lE (imS P.1)) k)] := by
                    intro e1 he1
                    refine V_iadd dL_told_198 ?_
                    refine V_istore dL_told_199 (by decide) ?_
                    have J215 : ∀ a2 : Int, a2 = (if 50 ≤ (imS P.1 k) then 1 else 0) → V iL_told Z (85 + (6 * (160 - k)).toNat) (510 + (36 * (160 - k)).toNat) w sz 215 [some (.ref χ), some (xI x), some (.ref (χ + 37)), some (.ref (χ + 38)), some (.ref (χ + 41)), some (.ref (χ + 43)), some (xI (isum (fun c => if 100 ≤ imS P.1 c then 1 else 0) (k + 1))), some (xI (isum (fun c => if 1 ≤ imS P.1 c then 1 else 0) (k + 1))), some (xI (isum (imS P.1) (k + 1))), some (xI (isum P.1 (k + 1))), some (xI (isum (lE (imS P.1)) k + e1)), some (xI 0), some (xI k), some (xI (k % 16)), some (xI (k / 16)), some (xI (imS P.1 k)), some (xI r), some (xI b), none, none] [xI a2, xI (isum (lE (imS P.1)) k + e1)] := by
                      intro a2 ha2
                      have ra2 : 0 ≤ a2 ∧ a2 ≤ 1 := by rw [ha2]; split <;> omega
                      have J227 : ∀ b2 : Int, b2 = (if 50 ≤ b then 1 else 0) → V iL_told Z (85 + (6 * (160 - k)).toNat) (510 + (36 * (160 - k)).toNat) w sz 227 [some (.ref χ), some (xI x), some (.ref (χ + 37)), some (.ref (χ + 38)), some (.ref (χ + 41)), some (.ref (χ + 43)), some (xI (isum (fun c => if 100 ≤ imS P.1 c then 1 else 0) (k + 1))), some (xI (isum (fun c => if 1 ≤ imS P.1 c then 1 else 0) (k + 1))), some (xI (isum (imS P.1) (k + 1))), some (xI (isum P.1 (k + 1))), some (xI (isum (lE (imS P.1)) k + e1)), some (xI 0), some (xI k), some (xI (k % 16)), some (xI (k / 16)), some (xI (imS P.1 k)), some (xI r), some (xI b), none, none] [xI b2, xI a2, xI (isum (lE (imS P.1)) k + e1)] := by
                        intro b2 hb2
                        have rb2 : 0 ≤ b2 ∧ b2 ≤ 1 := by rw [hb2]; split <;> omega
                        have J235 : ∀ e2 : Int, e2 = (eN a2 b2) → V iL_told Z (85 + (6 * (160 - k)).toNat) (510 + (36 * (160 - k)).toNat) w sz 235 [some (.ref χ), some (xI x), some (.ref (χ + 37)), some (.ref (χ + 38)), some (.ref (χ + 41)), some (.ref (χ + 43)), some (xI (isum (fun c => if 100 ≤ imS P.1 c then 1 else 0) (k + 1))), some (xI (isum (fun c => if 1 ≤ imS P.1 c then 1 else 0) (k + 1))), some (xI (isum (imS P.1) (k + 1))), some (xI (isum P.1 (k + 1))), some (xI (isum (lE (imS P.1)) k + e1)), some (xI 0), some (xI k), some (xI (k % 16)), some (xI (k / 16)), some (xI (imS P.1 k)), some (xI r), some (xI b), none, none] [xI e2, xI (isum (lE (imS P.1)) k + e1)] := by
                          intro e2 he2
                          refine V_iadd dL_told_235 ?_
                          refine V_istore dL_told_236 (by decide) ?_
                          have J272 : ∀ e3 : Int, e3 = (if 50 ≤ (imS P.1 k) then (if k % 16 = 0 then 1 else 0) + (if k / 16 = 0 then 1 else 0) else 0) → V iL_told Z (85 + (6 * (160 - k)).toNat) (510 + (36 * (160 - k)).toNat) w sz 272 [some (.ref χ), some (xI x), some (.ref (χ + 37)), some (.ref (χ + 38)), some (.ref (χ + 41)), some (.ref (χ + 43)), some (xI (isum (fun c => if 100 ≤ imS P.1 c then 1 else 0) (k + 1))), some (xI (isum (fun c => if 1 ≤ imS P.1 c then 1 else 0) (k + 1))), some (xI (isum (imS P.1) (k + 1))), some (xI (isum P.1 (k + 1))), some (xI (isum (lE (imS P.1)) k + e1 + e2)), some (xI 0), some (xI k), some (xI (k % 16)), some (xI (k / 16)), some (xI (imS P.1 k)), some (xI r), some (xI b), none, none] [xI e3, xI (isum (lE (imS P.1)) k + e1 + e2)] := by
                            intro e3 he3
                            have hle : lE (imS P.1) k = e1 + e2 + e3 := by rw [he1, he2, he3, ha1, ha2, hb1, hb2, hr, hb]; rfl
                            refine V_iadd dL_told_272 ?_
                            rw [show isum (lE (imS P.1)) k + e1 + e2 + e3 = isum (lE (imS P.1)) (k + 1) by rw [isum_s hk0, hle]; omega]
                            refine V_istore dL_told_273 (by decide) ?_
                            refine V_iload dL_told_275 rfl ?_
                            refine V_iload_n dL_told_277 1 rfl rfl ?_
                            refine V_iadd dL_told_278 ?_
                            refine V_iconst dL_told_279 ?_
                            refine V_iremN dL_told_280 (by first | omega | (dsimp only; omega) | exact iAnd_0 | exact iOr_0 | exact iShl_0 | exact iShr_0) ?_
                            refine V_if_le 287 dL_told_281 (by decide) (by omega) (fun h281 => ?_) (fun h281 => ?_)
                            · refine V_iconst dL_told_287 ?_
                              refine V_istore dL_told_288 (by decide) ?_
                              refine V_iconst dL_told_290 ?_
                              refine V_istore dL_told_291 (by decide) ?_
                              have L293 : ∀ i : Int, 0 ≤ i → i ≤ n → V iL_told Z (85 + (6 * (160 - k)).toNat) (510 + (36 * (160 - k)).toNat) w sz 293 [some (.ref χ), some (xI x), some (.ref (χ + 37)), some (.ref (χ + 38)), some (.ref (χ + 41)), some (.ref (χ + 43)), some (xI (isum (fun c => if 100 ≤ imS P.1 c then 1 else 0) (k + 1))), some (xI (isum (fun c => if 1 ≤ imS P.1 c then 1 else 0) (k + 1))), some (xI (isum (imS P.1) (k + 1))), some (xI (isum P.1 (k + 1))), some (xI (isum (lE (imS P.1)) (k + 1))), some (xI 0), some (xI k), some (xI (k % 16)), some (xI (k / 16)), some (xI (imS P.1 k)), some (xI r), some (xI b), some (xI (isum (fun p => if 0 < P.1 (161 + 169 * p + (9 + k)) then 1 else 0) i)), some (xI i)] [] := by
                                refine up_ind ?_
                                intro i hi0 hi1 ihi
                                refine V_iload dL_told_293 rfl ?_
                                refine V_aload dL_told_295 rfl ?_
                                refine V_iconst dL_told_297 ?_
                                refine V_iald dL_told_298 hA.2.2.2 (by omega) ?_
                                rw [hdn]
                                refine V_icmp_ge 334 dL_told_299 (by decide) (by omega) (fun h299 => ?_) (fun h299 => ?_)
                                · refine V_aload_n dL_told_334 0 rfl rfl ?_
                                  refine V_iload dL_told_335 rfl ?_
                                  refine V_iload dL_told_337 rfl ?_
                                  refine V_iconst dL_told_339 ?_
                                  refine V_c_L_43 rfl (kc' := 85 + (6 * (160 - (k + 1))).toNat + 4) (ks' := 510 + (36 * (160 - (k + 1))).toNat + 24) (by decide) ((c_cell hC hI hT.1 (hA.hs hT.1) (by omega)).w2 (celR_0 (by omega) (by omega))) dL_told_340 hC.1 rfl rfl (Nat.le_of_ble_eq_true rfl) (by omega) (by omega) (fun v w1 sz1 q => ?_)
                                  obtain ⟨rfl, hT1, hC⟩ := q
                                  have hA := hA.T hT1
                                  have hT := hT.tr hT1
                                  rw [show 16 * (k / 16) + k % 16 = k by omega]
                                  refine V_aload_n dL_told_343 2 rfl rfl ?_
                                  refine V_iconst dL_told_344 ?_
                                  refine V_iload dL_told_345 rfl ?_
                                  refine V_iload dL_told_347 rfl ?_
                                  refine V_c_L_12 rfl (by decide) (l_of (n := 20) hA.1 hP.1 (by omega) (by omega) (by omega) (by omega)) dL_told_349 rfl rfl (Nat.le_of_ble_eq_true rfl) (Nat.le_of_eq (Nat.zero_add _)) (Nat.le_of_eq (Nat.zero_add _)) (fun v w sz q => ?_)
                                  obtain ⟨rfl, hw9, hs9⟩ := q
                                  obtain rfl := hw9.symm
                                  obtain rfl := hs9.symm
                                  rw [show 8 * 0 + 16 * (k / 16) + k % 16 = k by omega, hP.2.2.1 k hk0 (by omega)]
                                  refine V_icmp_neS (t := 383) (if_pos rfl) dL_told_352 (by decide) ?_
                                  refine V_aload_n dL_told_355 0 rfl rfl ?_
                                  refine V_iload dL_told_356 rfl ?_
                                  refine V_iload dL_told_358 rfl ?_
                                  refine V_iconst dL_told_360 ?_
                                  refine V_c_L_43 rfl (kc' := 85 + (6 * (160 - (k + 1))).toNat + 2) (ks' := 510 + (36 * (160 - (k + 1))).toNat + 12) (by decide) ((c_cell hC hI hT.1 (hA.hs hT.1) (by omega)).w2 (celR_0 (by omega) (by omega))) dL_told_361 hC.1 rfl rfl (Nat.le_of_ble_eq_true rfl) (by omega) (by omega) (fun v w1 sz1 q => ?_)
                                  obtain ⟨rfl, hT1, hC⟩ := q
                                  have hA := hA.T hT1
                                  have hT := hT.tr hT1
                                  rw [show 16 * (k / 16) + k % 16 = k by omega]
                                  refine V_iload dL_told_364 rfl ?_
                                  refine V_icmp_neS (t := 383) ((if_neg (by decide)).trans (if_pos rfl)) dL_told_366 (by decide) ?_
                                  refine V_aload_n dL_told_369 0 rfl rfl ?_
                                  refine V_iload dL_told_370 rfl ?_
                                  refine V_iload dL_told_372 rfl ?_
                                  refine V_iconst dL_told_374 ?_
                                  refine V_c_L_43 rfl (kc' := 85 + (6 * (160 - (k + 1))).toNat + 0) (ks' := 510 + (36 * (160 - (k + 1))).toNat + 0) (by decide) ((c_cell hC hI hT.1 (hA.hs hT.1) (by omega)).w2 (celR_0 (by omega) (by omega))) dL_told_375 hC.1 rfl rfl (Nat.le_of_ble_eq_true rfl) (by omega) (by omega) (fun v w1 sz1 q => ?_)
                                  obtain ⟨rfl, hT1, hC⟩ := q
                                  have hA := hA.T hT1
                                  have hT := hT.tr hT1
                                  rw [show 16 * (k / 16) + k % 16 = k by omega]
                                  refine V_iload dL_told_378 rfl ?_
                                  refine V_icmp_eqS (t := 385) (by rw [show i = n by omega, ← hzn]; exact (if_neg (by decide)).trans (if_neg (by decide))) dL_told_380 (by decide) ?_
                                  refine V_iinc dL_told_385 rfl (by decide) ?_
                                  refine V_goto 21 dL_told_388 (by decide) ?_
                                  refine V_fg [true, true, true, true, true, true, true, true, true, true, true, true, true, false, false, false, false, false, false, false] ?_
                                  refine V_le (kc' := 85 + (6 * (160 - (k + 1))).toNat) (ks' := 510 + (36 * (160 - (k + 1))).toNat) (by omega) (by omega) ?_
                                  exact ih (by omega) _ _ hT hC hA
                                · have J325 : ∀ q1 : Int, q1 = (if 0 < P.1 (161 + 169 * i + (9 + k)) then 1 else 0) → V iL_told Z (85 + (6 * (160 - k)).toNat) (510 + (36 * (160 - k)).toNat) w sz 325 [some (.ref χ), some (xI x), some (.ref (χ + 37)), some (.ref (χ + 38)), some (.ref (χ + 41)), some (.ref (χ + 43)), some (xI (isum (fun c => if 100 ≤ imS P.1 c then 1 else 0) (k + 1))), some (xI (isum (fun c => if 1 ≤ imS P.1 c then 1 else 0) (k + 1))), some (xI (isum (imS P.1) (k + 1))), some (xI (isum P.1 (k + 1))), some (xI (isum (lE (imS P.1)) (k + 1))), some (xI 0), some (xI k), some (xI (k % 16)), some (xI (k / 16)), some (xI (imS P.1 k)), some (xI r), some (xI b), some (xI (isum (fun p => if 0 < P.1 (161 + 169 * p + (9 + k)) then 1 else 0) i)), some (xI i)] [xI q1, xI (isum (fun p => if 0 < P.1 (161 + 169 * p + (9 + k)) then 1 else 0) i)] := by
                                    intro q1 hq1
                                    refine V_iadd dL_told_325 ?_
                                    rw [show isum (fun p => if 0 < P.1 (161 + 169 * p + (9 + k)) then 1 else 0) i + q1 = isum (fun p => if 0 < P.1 (161 + 169 * p + (9 + k)) then 1 else 0) (i + 1) by rw [isum_s hi0, hq1]]
                                    refine V_istore dL_told_326 (by decide) ?_
                                    refine V_iinc dL_told_328 rfl (by decide) ?_
                                    refine V_goto 293 dL_told_331 (by decide) ?_
                                    refine V_fg [true, true, true, true, true, true, true, true, true, true, true, true, true, true, true, true, true, true, true, true] ?_
                                    exact ihi (by omega)
                                  refine V_iload dL_told_302 rfl ?_
                                  refine V_aload_n dL_told_304 3 rfl rfl ?_
                                  refine V_bipush dL_told_305 (by decide) ?_
                                  refine V_iload dL_told_307 rfl ?_
                                  refine V_imul dL_told_309 ?_
                                  refine V_iload dL_told_310 rfl ?_
                                  refine V_iload dL_told_312 rfl ?_
                                  refine V_c_L_12 rfl (by decide) (l_of (n := 60) hA.2.1 hP.2.1 (by omega) (by omega) (by omega) (by omega)) dL_told_314 rfl rfl (Nat.le_of_ble_eq_true rfl) (Nat.le_of_eq (Nat.zero_add _)) (Nat.le_of_eq (Nat.zero_add _)) (fun v w sz q => ?_)
                                  obtain ⟨rfl, hw9, hs9⟩ := q
                                  obtain rfl := hw9.symm
                                  obtain rfl := hs9.symm
                                  rw [show 8 * (20 * i) + 16 * (k / 16) + k % 16 = 160 * i + k by omega, hP.2.2.2.2.2.2 i k hi0 (by omega) hk0 (by omega)]
                                  have hpv := hI.1.lev i k hi0 (by omega) hk0 (by omega)
                                  refine V_if_le 324 dL_told_317 (by decide) (by omega) (fun h317 => ?_) (fun h317 => ?_)
                                  · refine V_iconst dL_told_324 ?_
                                    exact J325 _ (by first | exact (if_pos (by omega)).symm | exact (if_neg (by omega)).symm)
                                  · refine V_iconst dL_told_320 ?_
                                    refine V_goto 325 dL_told_321 (by decide) ?_
                                    exact J325 _ (by first | exact (if_pos (by omega)).symm | exact (if_neg (by omega)).symm)
                              refine V_fg [true, true, true, true, true, true, true, true, true, true, true, true, true, true, true, true, true, true, true, true] ?_
                              exact L293 0 (by omega) (by omega)
                            · refine V_goto 385 dL_told_284 (by decide) ?_
                              refine V_iinc dL_told_385 rfl (by decide) ?_
                              refine V_goto 21 dL_told_388 (by decide) ?_
                              refine V_fg [true, true, true, true, true, true, true, true, true, true, true, true, true, false, false, false, false, false, false, false] ?_
                              refine V_le (kc' := 85 + (6 * (160 - (k + 1))).toNat) (ks' := 510 + (36 * (160 - (k + 1))).toNat) (by omega) (by omega) ?_
                              exact ih (by omega) _ _ hT hC hA
                          refine V_iload dL_told_238 rfl ?_
                          refine V_iload dL_told_240 rfl ?_
                          refine V_bipush dL_told_242 (by decide) ?_
                          refine V_icmp_lt 271 dL_told_244 (by decide) (by omega) (fun h244 => ?_) (fun h244 => ?_)
                          · refine V_iconst dL_told_271 ?_
                            exact J272 _ (if_neg (by omega)).symm
                          · have J257 : ∀ a3 : Int, a3 = (if k % 16 = 0 then 1 else 0) → V iL_told Z (85 + (6 * (160 - k)).toNat) (510 + (36 * (160 - k)).toNat) w sz 257 [some (.ref χ), some (xI x), some (.ref (χ + 37)), some (.ref (χ + 38)), some (.ref (χ + 41)), some (.ref (χ + 43)), some (xI (isum (fun c => if 100 ≤ imS P.1 c then 1 else 0) (k + 1))), some (xI (isum (fun c => if 1 ≤ imS P.1 c then 1 else 0) (k + 1))), some (xI (isum (imS P.1) (k + 1))), some (xI (isum P.1 (k + 1))), some (xI (isum (lE (imS P.1)) k + e1 + e2)), some (xI 0), some (xI k), some (xI (k % 16)), some (xI (k / 16)), some (xI (imS P.1 k)), some (xI r), some (xI b), none, none] [xI a3, xI (isum (lE (imS P.1)) k + e1 + e2)] := by
                              intro a3 ha3
                              have J267 : ∀ b3 : Int, b3 = (if k / 16 = 0 then 1 else 0) → V iL_told Z (85 + (6 * (160 - k)).toNat) (510 + (36 * (160 - k)).toNat) w sz 267 [some (.ref χ), some (xI x), some (.ref (χ + 37)), some (.ref (χ + 38)), some (.ref (χ + 41)), some (.ref (χ + 43)), some (xI (isum (fun c => if 100 ≤ imS P.1 c then 1 else 0) (k + 1))), some (xI (isum (fun c => if 1 ≤ imS P.1 c then 1 else 0) (k + 1))), some (xI (isum (imS P.1) (k + 1))), some (xI (isum P.1 (k + 1))), some (xI (isum (lE (imS P.1)) k + e1 + e2)), some (xI 0), some (xI k), some (xI (k % 16)), some (xI (k / 16)), some (xI (imS P.1 k)), some (xI r), some (xI b), none, none] [xI b3, xI a3, xI (isum (lE (imS P.1)) k + e1 + e2)] := by
                                intro b3 hb3
                                refine V_iadd dL_told_267 ?_
                                refine V_goto 272 dL_told_268 (by decide) ?_
                                exact J272 _ (by rw [if_pos h244, ha3, hb3])
                              refine V_iload dL_told_257 rfl ?_
                              refine V_if_ne 266 dL_told_259 (by decide) (by omega) (fun h259 => ?_) (fun h259 => ?_)
                              · refine V_iconst dL_told_266 ?_
                                exact J267 _ (by first | exact (if_pos (by omega)).symm | exact (if_neg (by omega)).symm)
                              · refine V_iconst dL_told_262 ?_
                                refine V_goto 267 dL_told_263 (by decide) ?_
                                exact J267 _ (by first | exact (if_pos (by omega)).symm | exact (if_neg (by omega)).symm)
                            refine V_iload dL_told_247 rfl ?_
                            refine V_if_ne 256 dL_told_249 (by decide) (by omega) (fun h249 => ?_) (fun h249 => ?_)
                            · refine V_iconst dL_told_256 ?_
                              exact J257 _ (by first | exact (if_pos (by omega)).symm | exact (if_neg (by omega)).symm)
                            · refine V_iconst dL_told_252 ?_
                              refine V_goto 257 dL_told_253 (by decide) ?_
                              exact J257 _ (by first | exact (if_pos (by omega)).symm | exact (if_neg (by omega)).symm)
                        refine V_icmp_eq 234 dL_told_227 (by decide) (by omega) (fun h227 => ?_) (fun h227 => ?_)
                        · refine V_iconst dL_told_234 ?_
                          exact J235 _ (by unfold eN; first | exact (if_pos (by omega)).symm | exact (if_neg (by omega)).symm)
                        · refine V_iconst dL_told_230 ?_
                          refine V_goto 235 dL_told_231 (by decide) ?_
                          exact J235 _ (by unfold eN; first | exact (if_pos (by omega)).symm | exact (if_neg (by omega)).symm)
                      refine V_iload dL_told_215 rfl ?_
                      refine V_bipush dL_told_217 (by decide) ?_
                      refine V_icmp_lt 226 dL_told_219 (by decide) (by omega) (fun h219 => ?_) (fun h219 => ?_)
                      · refine V_iconst dL_told_226 ?_
                        exact J227 _ (by first | exact (if_pos (by omega)).symm | exact (if_neg (by omega)).symm)
                      · refine V_iconst dL_told_222 ?_
                        refine V_goto 227 dL_told_223 (by decide) ?_
                        exact J227 _ (by first | exact (if_pos (by omega)).symm | exact (if_neg (by omega)).symm)
                    refine V_iload dL_told_201 rfl ?_
                    refine V_iload dL_told_203 rfl ?_
                    refine V_bipush dL_told_205 (by decide) ?_
                    refine V_icmp_lt 214 dL_told_207 (by decide) (by omega) (fun h207 => ?_) (fun h207 => ?_)
                    · refine V_iconst dL_told_214 ?_
                      exact J215 _ (by first | exact (if_pos (by omega)).symm | exact (if_neg (by omega)).symm)
                    · refine V_iconst dL_told_210 ?_
                      refine V_goto 215 dL_told_211 (by decide) ?_
                      exact J215 _ (by first | exact (if_pos (by omega)).symm | exact (if_neg (by omega)).symm)
                  refine V_icmp_eq 197 dL_told_190 (by decide) (by omega) (fun h190 => ?_) (fun h190 => ?_)
                  · refine V_iconst dL_told_197 ?_
                    exact J198 _ (by unfold eN; first | exact (if_pos (by omega)).symm | exact (if_neg (by omega)).symm)
                  · refine V_iconst dL_told_193 ?_
                    refine V_goto 198 dL_told_194 (by decide) ?_
                    exact J198 _ (by unfold eN; first | exact (if_pos (by omega)).symm | exact (if_neg (by omega)).symm)
                refine V_iload dL_told_178 rfl ?_
                refine V_bipush dL_told_180 (by decide) ?_
                refine V_icmp_lt 189 dL_told_182 (by decide) (by omega) (fun h182 => ?_) (fun h182 => ?_)
                · refine V_iconst dL_told_189 ?_
                  exact J190 _ (by first | exact (if_pos (by omega)).symm | exact (if_neg (by omega)).symm)
                · refine V_iconst dL_told_185 ?_
                  refine V_goto 190 dL_told_186 (by decide) ?_
                  exact J190 _ (by first | exact (if_pos (by omega)).symm | exact (if_neg (by omega)).symm)
              refine V_iload dL_told_164 rfl ?_
              refine V_iload dL_told_166 rfl ?_
              refine V_bipush dL_told_168 (by decide) ?_
              refine V_icmp_lt 177 dL_told_170 (by decide) (by omega) (fun h170 => ?_) (fun h170 => ?_)
              · refine V_iconst dL_told_177 ?_
                exact J178 _ (by first | exact (if_pos (by omega)).symm | exact (if_neg (by omega)).symm)
              · refine V_iconst dL_told_173 ?_
                refine V_goto 178 dL_told_174 (by decide) ?_
                exact J178 _ (by first | exact (if_pos (by omega)).symm | exact (if_neg (by omega)).symm)
            refine V_iload dL_told_128 rfl ?_
            refine V_iload dL_told_130 rfl ?_
            refine V_if_le 139 dL_told_132 (by decide) (by omega) (fun h132 => ?_) (fun h132 => ?_)
            · refine V_iconst dL_told_139 ?_
              exact J140 _ (by first | exact (if_pos (by omega)).symm | exact (if_neg (by omega)).symm)
            · refine V_iconst dL_told_135 ?_
              refine V_goto 140 dL_told_136 (by decide) ?_
              exact J140 _ (by first | exact (if_pos (by omega)).symm | exact (if_neg (by omega)).symm)
          refine V_iload dL_told_111 rfl ?_
          refine V_iload dL_told_113 rfl ?_
          refine V_bipush dL_told_115 (by decide) ?_
          refine V_icmp_ne 124 dL_told_117 (by decide) (by omega) (fun h117 => ?_) (fun h117 => ?_)
          · refine V_iconst dL_told_124 ?_
            exact J125 _ (by first | exact (if_pos (by omega)).symm | exact (if_neg (by omega)).symm)
          · refine V_iconst dL_told_120 ?_
            refine V_goto 125 dL_told_121 (by decide) ?_
            exact J125 _ (by first | exact (if_pos (by omega)).symm | exact (if_neg (by omega)).symm)
        refine V_iload dL_told_84 rfl ?_
        refine V_bipush dL_told_86 (by decide) ?_
        refine V_icmp_ge 108 dL_told_88 (by decide) (by omega) (fun h88 => ?_) (fun h88 => ?_)
        · refine V_iconst dL_told_108 ?_
          exact J109 _ (if_neg (by omega)).symm
        · refine V_iload dL_told_91 rfl ?_
          refine V_iload dL_told_93 rfl ?_
          refine V_iconst dL_told_95 ?_
          refine V_iadd dL_told_96 ?_
          refine V_aload_n dL_told_97 3 rfl rfl ?_
          refine V_aload dL_told_98 rfl ?_
          refine V_aload dL_told_100 rfl ?_
          refine V_c_L_39 rfl (by decide) (l_mask hA.2.1 hA.2.2.1 hA.2.2.2 hdn hP hI.1 (by omega)) dL_told_102 rfl rfl (Nat.le_of_ble_eq_true rfl) (Nat.le_of_eq (Nat.zero_add _)) (Nat.le_of_eq (Nat.zero_add _)) (fun v w sz q => ?_)
          obtain ⟨rfl, hw9, hs9⟩ := q
          obtain rfl := hw9.symm
          obtain rfl := hs9.symm
          rw [show 16 * (k / 16 + 1) + k % 16 = k + 16 by omega]
          refine V_goto 109 dL_told_105 (by decide) ?_
          exact J109 _ (if_pos h88).symm
      refine V_iload dL_told_57 rfl ?_
      refine V_bipush dL_told_59 (by decide) ?_
      refine V_icmp_ge 81 dL_told_61 (by decide) (by omega) (fun h61 => ?_) (fun h61 => ?_)
      · refine V_iconst dL_told_81 ?_
        exact J82 _ (if_neg (by omega)).symm
      · refine V_iload dL_told_64 rfl ?_
        refine V_iconst dL_told_66 ?_
        refine V_iadd dL_told_67 ?_
        refine V_iload dL_told_68 rfl ?_
        refine V_aload_n dL_told_70 3 rfl rfl ?_
        refine V_aload dL_told_71 rfl ?_
        refine V_aload dL_told_73 rfl ?_
        refine V_c_L_39 rfl (by decide) (l_mask hA.2.1 hA.2.2.1 hA.2.2.2 hdn hP hI.1 (by omega)) dL_told_75 rfl rfl (Nat.le_of_ble_eq_true rfl) (Nat.le_of_eq (Nat.zero_add _)) (Nat.le_of_eq (Nat.zero_add _)) (fun v w sz q => ?_)
        obtain ⟨rfl, hw9, hs9⟩ := q
        obtain rfl := hw9.symm
        obtain rfl := hs9.symm
        rw [show 16 * (k / 16) + (k % 16 + 1) = k + 1 by omega]
        refine V_goto 82 dL_told_78 (by decide) ?_
        exact J82 _ (if_pos h61).symm
  refine V_fg [true, true, true, true, true, true, true, true, true, true, true, true, true, false, false, false, false, false, false, false] ?_
  exact L21 0 (by omega) (by omega) w sz hT hC hA
theorem l_told {w0 : WD} {χ sz : Nat} {P : MP} {g gl prf dd : Int → Int} {n x : Int} (hI : MInv P) (hP : LQ P.1 g gl prf n) (hdn : dd 0 = n) (hx : 0 ≤ x ∧ x ≤ 1073741823) (hN : WN w0 sz) (hC : CP w0 χ P) (hA : LA w0 χ g gl prf dd) : CT iL_told 1045 6270 [.ref χ, xI x, .ref (χ + 37), .ref (χ + 38), .ref (χ + 41), .ref (χ + 43)] w0 sz (QT w0 χ P) := by
  refine CT.ofZ (by decide) rfl (Nat.le_of_ble_eq_true rfl) (fun Z hE => ?_)
  exact told_A hE hI hP hdn hx (TF.rf hN (Nat.le_refl _)) hC hA
