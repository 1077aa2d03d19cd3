/-! the class: the bits of a share -/
theorem bkN_t {x : UInt64} (h : bkN x = true) : vf_n64 x := by
  have h2 := of_decide_eq_true h
  exact h2
theorem bkA_t {n : Nat} (h1 : 1 ≤ n) (h2 : n ≤ 8000) : Op.cmpValue (FP.dcmp (shD n) 0) .g = Int32.ofInt 1 ∧ Op.cmpValue (FP.dcmp (shD n) 4607182418800017408) .g = Int32.ofInt (-1) ∧ FP.dmul (shD n) 4611686018427387904 = shD (2 * n) ∧ shD (2 * n) = shD n + 4503599627370496 := by
  have h := bk_all (n := n) (by omega)
  unfold bk at h
  rw [if_neg (by omega), if_pos (by omega)] at h
  unfold bkA at h
  rw [Bool.and_eq_true, Bool.and_eq_true, Bool.and_eq_true] at h
  exact ⟨(of_decide_eq_true h.1).trans (by decide), (of_decide_eq_true h.2.1).trans (by decide), of_decide_eq_true h.2.2.1, of_decide_eq_true h.2.2.2⟩
theorem bkB_t {n : Nat} (h1 : 8000 < n) (h2 : n < 16000) : Op.cmpValue (FP.dcmp (shD n) 0) .g = Int32.ofInt 1 ∧ Op.cmpValue (FP.dcmp (shD n) 4607182418800017408) .g = Int32.ofInt (-1) ∧ vf_n64 (bkM n) ∧ Op.cmpValue (FP.dcmp (bkM n) 4607182418800017408) .g = Int32.ofInt 1 ∧ vf_n64 (FP.dsub (bkM n) 4607182418800017408) ∧ vf_n64 (bkS (bkM n)) ∧ (1022 : Int64) <<< 52 + FP.d2l (bkS (bkM n)) = (shD n).toInt64 := by
  have h := bk_all (n := n) (by omega)
  unfold bk at h
  rw [if_neg (by omega), if_neg (by omega), if_pos (by omega)] at h
  unfold bkB at h
  rw [Bool.and_eq_true, Bool.and_eq_true, Bool.and_eq_true, Bool.and_eq_true, Bool.and_eq_true, Bool.and_eq_true] at h
  exact ⟨(of_decide_eq_true h.1).trans (by decide), (of_decide_eq_true h.2.1).trans (by decide), bkN_t h.2.2.1, (of_decide_eq_true h.2.2.2.1).trans (by decide), bkN_t h.2.2.2.2.1, bkN_t h.2.2.2.2.2.1, of_decide_eq_true h.2.2.2.2.2.2⟩
theorem bk_16000 : shD 16000 = 4607182418800017408 ∧ Op.cmpValue (FP.dcmp (shD 16000) 0) .g = Int32.ofInt 1 ∧ Op.cmpValue (FP.dcmp (shD 16000) 4607182418800017408) .g = Int32.ofInt 0 ∧ bkN (FP.dsub (shD 16000) 4607182418800017408) = true ∧ bkN (bkS (shD 16000)) = true ∧ (1023 : Int64) <<< 52 + FP.d2l (bkS (shD 16000)) = (shD 16000).toInt64 := by decide +kernel
theorem bk_n0 : Op.cmpValue (FP.dcmp (shD 0) 0) .g = Int32.ofInt 0 ∧ (shD 0).toInt64 = Int64.ofInt 0 := by decide +kernel
theorem bk_sh : ∀ i : Fin 16, Int64.ofInt (1022 - ((i : Nat) : Int)) <<< 52 = (1022 : Int64) <<< 52 - (UInt64.ofNat ((i : Nat) * 4503599627370496)).toInt64 ∧ Int64.ofInt (1023 - ((i : Nat) : Int)) <<< 52 = (1023 : Int64) <<< 52 - (UInt64.ofNat ((i : Nat) * 4503599627370496)).toInt64 := by decide +kernel
theorem i64_mv {A u X S c : Int64} (hc : c = A - u) (h : A + X = S + u) : c + X = S := by
  rw [hc, Int64.sub_eq_add_neg, Int64.add_assoc, Int64.add_comm (-u) X, ← Int64.add_assoc, ← Int64.sub_eq_add_neg, h, Int64.add_sub_cancel]
theorem V_laddX {I : XI} {Z : XZ} {kc ks : Nat} {w : WD} {sz pc : Nat} {lv : List (Option Value)} {st : List Value} {x y : Int64} (hd : decode I.cc pc = .ok (.ladd, 1)) (kk : V I Z kc ks w sz (pc + 1) lv (.long (x + y) :: st)) : V I Z kc ks w sz pc lv (.long y :: .long x :: st) :=
  V_st (fun Γ p l e R s m args below meth c H locs cells slots ls Q C N L _ _ kk => lv_ladd C.1 C.2.1 hd kk) kk
set_option maxRecDepth 100000 in
set_option maxHeartbeats 4000000 in
theorem bo_tail {Z : XZ} {w : WD} {sz : Nat} {s f : UInt64} {e i c : Int} {A : Int64} (hE : xEnd Z (pR (some (.long A)) w sz)) (hi : 0 ≤ i ∧ i < 64) (hc : Op.cmpValue (FP.dcmp f 4607182418800017408) .g = Int32.ofInt c) (hc2 : 0 ≤ c ∧ c ≤ 1) (h1 : vf_n64 (FP.dsub f 4607182418800017408)) (h2 : vf_n64 (FP.dmul (FP.dsub f 4607182418800017408) 4841369599423283200)) (hA : Int64.ofInt e <<< 52 + FP.d2l (bkS f) = A) : V iX6_bitsOf Z 0 0 w sz 18 [some (.double s), none, some (.double f), none, some (xJ e), none, some (xI i)] [] := by
  refine V_iload dX6_bitsOf_18 rfl ?_
  refine V_bipush dX6_bitsOf_20 (by decide) ?_
  refine V_icmp_ge 49 dX6_bitsOf_22 (by decide) (by omega) (fun h22 => ?_) (fun h22 => ?_)
  · exact absurd h22 (by omega)
  · refine V_dload_n dX6_bitsOf_25 2 rfl rfl ?_
    refine V_dconst1 dX6_bitsOf_26 ?_
    refine V_dcmp dX6_bitsOf_27 ?_
    rw [hc]
    refine V_if_ge (a := c) 49 dX6_bitsOf_28 (by decide) (by omega) (fun h28 => ?_) (fun h28 => ?_)
    · refine V_lload dX6_bitsOf_49 rfl ?_
      refine V_bipush dX6_bitsOf_51 (by decide) ?_
      refine V_lshl dX6_bitsOf_53 ?_
      rw [show (Int32.ofInt 52).toInt64 &&& 63 = 52 by decide]
      refine V_dload_n dX6_bitsOf_54 2 rfl rfl ?_
      refine V_dconst1 dX6_bitsOf_55 ?_
      refine V_dsub dX6_bitsOf_56 (by assumption) ?_
      refine V_ldc2d (v := 4841369599423283200) dX6_bitsOf_57 (xG_at 452 (by decide +kernel) rfl) ?_
      refine V_dmul dX6_bitsOf_60 (by assumption) ?_
      refine V_d2l dX6_bitsOf_61 ?_
      refine V_laddX dX6_bitsOf_62 ?_
      exact V_lret hE rfl dX6_bitsOf_63 ⟨by rw [← hA]; rfl, rfl, rfl⟩
    · exact absurd h28 (by omega)
set_option maxRecDepth 100000 in
set_option maxHeartbeats 4000000 in
theorem bo_step {Z : XZ} {w : WD} {sz : Nat} {s f : UInt64} {e i : Int} (hi : 0 ≤ i ∧ i < 64) (hc : Op.cmpValue (FP.dcmp f 4607182418800017408) .g = Int32.ofInt (-1)) (h1 : vf_n64 (FP.dmul f 4611686018427387904)) (kk : V iX6_bitsOf Z 0 0 w sz 18 [some (.double s), none, some (.double (FP.dmul f 4611686018427387904)), none, some (xJ (e - 1)), none, some (xI (i + 1))] []) : V iX6_bitsOf Z 0 0 w sz 18 [some (.double s), none, some (.double f), none, some (xJ e), none, some (xI i)] [] := by
  refine V_iload dX6_bitsOf_18 rfl ?_
  refine V_bipush dX6_bitsOf_20 (by decide) ?_
  refine V_icmp_ge 49 dX6_bitsOf_22 (by decide) (by omega) (fun h22 => ?_) (fun h22 => ?_)
  · exact absurd h22 (by omega)
  · refine V_dload_n dX6_bitsOf_25 2 rfl rfl ?_
    refine V_dconst1 dX6_bitsOf_26 ?_
    refine V_dcmp dX6_bitsOf_27 ?_
    rw [hc]
    refine V_if_ge (a := -1) 49 dX6_bitsOf_28 (by decide) (by omega) (fun h28 => ?_) (fun h28 => ?_)
    · exact absurd h28 (by omega)
    · refine V_dload_n dX6_bitsOf_31 2 rfl rfl ?_
      refine V_ldc2d (v := 4611686018427387904) dX6_bitsOf_32 (xG_at 451 (by decide +kernel) rfl) ?_
      refine V_dmul dX6_bitsOf_35 (by assumption) ?_
      refine V_dstore_n dX6_bitsOf_36 2 rfl (by decide) ?_
      refine V_lload dX6_bitsOf_37 rfl ?_
      refine V_lconst (z := 1) dX6_bitsOf_39 (by decide) ?_
      refine V_lsub dX6_bitsOf_40 ?_
      refine V_lstore dX6_bitsOf_41 (by decide) ?_
      refine V_iinc dX6_bitsOf_43 rfl (by decide) ?_
      refine V_goto 18 dX6_bitsOf_46 (by decide) ?_
      refine V_fg [true, false, true, false, true, false, true] ?_
      exact kk
theorem bo_loop {Z : XZ} {w : WD} {sz n : Nat} (hE : xEnd Z (pR (some (.long (shD n).toInt64)) w sz)) : ∀ i : Int, 0 ≤ i → i ≤ 14 → ∀ m : Nat, 2 ^ i.toNat ≤ m → m ≤ 16000 → shD m = shD n + UInt64.ofNat (i.toNat * 4503599627370496) → V iX6_bitsOf Z 0 0 w sz 18 [some (.double (shD n)), none, some (.double (shD m)), none, some (xJ (1023 - i)), none, some (xI i)] [] := by
  refine up_ind ?_
  intro i i0 i1 ih m hm hm2 he
  have h14 : i < 14 := by
    by_cases q : i < 14
    · exact q
    · exfalso
      rw [show i = 14 by omega] at hm
      have : (2 : Nat) ^ (14 : Int).toNat = 16384 := rfl
      omega
  have hp : 1 ≤ 2 ^ i.toNat := Nat.one_le_two_pow
  have ei : ((i.toNat : Nat) : Int) = i := by omega
  have hsum : (shD m).toInt64 = (shD n).toInt64 + (UInt64.ofNat (i.toNat * 4503599627370496)).toInt64 := by rw [he, UInt64.toInt64_add]
  have hsh := bk_sh ⟨i.toNat, by omega⟩
  rw [show ((⟨i.toNat, by omega⟩ : Fin 16) : Nat) = i.toNat from rfl, ei] at hsh
  by_cases c1 : m ≤ 8000
  · obtain ⟨-, a2, a3, a4⟩ := bkA_t (n := m) (by omega) c1
    refine bo_step ⟨i0, by omega⟩ a2 (by rw [a3]; exact shD_n (x := ((2 * m : Nat) : Int)) (by omega)) ?_
    rw [a3, show 1023 - i - 1 = 1023 - (i + 1) by omega]
    refine ih (by omega) (2 * m) ?_ (by omega) ?_
    · rw [show (i + 1).toNat = i.toNat + 1 by omega, Nat.pow_succ]
      omega
    · rw [a4, he, show (i + 1).toNat = i.toNat + 1 by omega, Nat.add_mul, Nat.one_mul, UInt64.ofNat_add, UInt64.add_assoc]
      rfl
  · by_cases c2 : m < 16000
    · obtain ⟨-, a2, a3, a4, a5, a6, a7⟩ := bkB_t (n := m) (by omega) c2
      refine bo_step ⟨i0, by omega⟩ a2 a3 ?_
      refine bo_tail (c := 1) (A := (shD n).toInt64) hE ⟨by omega, by omega⟩ a4 (by omega) a5 a6 ?_
      rw [show 1023 - i - 1 = 1022 - i by omega]
      exact i64_mv hsh.1 (a7.trans hsum)
    · obtain ⟨a1, -, a3, a4, a5, a6⟩ := bk_16000
      have em : m = 16000 := by omega
      subst em
      exact bo_tail (c := 0) (A := (shD n).toInt64) hE ⟨by omega, by omega⟩ a3 (by omega) (bkN_t a4) (bkN_t a5) (i64_mv hsh.2 (a6.trans hsum))
set_option maxRecDepth 100000 in
set_option maxHeartbeats 4000000 in
theorem c_bitsOf {w : WD} {sz n : Nat} (hn : n ≤ 16000) : CT iX6_bitsOf 0 0 [.double (shD n)] w sz (pR (some (.long (shD n).toInt64)) w sz) := by
  refine CT.ofZ (by decide) rfl (Nat.le_of_ble_eq_true rfl) (fun Z hE => ?_)
  obtain ⟨c, hc, hc2⟩ : ∃ c : Int, Op.cmpValue (FP.dcmp (shD n) 0) .g = Int32.ofInt c ∧ ((n = 0 ∧ c = 0) ∨ (1 ≤ n ∧ c = 1)) := by
    by_cases q : n = 0
    · subst q; exact ⟨0, bk_n0.1, Or.inl ⟨rfl, rfl⟩⟩
    · refine ⟨1, ?_, Or.inr ⟨by omega, rfl⟩⟩
      by_cases q1 : n ≤ 8000
      · exact (bkA_t (by omega) q1).1
      · by_cases q2 : n < 16000
        · exact (bkB_t (by omega) q2).1
        · rw [show n = 16000 by omega]; exact bk_16000.2.1
  refine V_dload_n dX6_bitsOf_0 0 rfl rfl ?_
  refine V_dconst0 dX6_bitsOf_1 ?_
  refine V_dcmp dX6_bitsOf_2 ?_
  rw [hc]
  refine V_if_gt (a := c) 8 dX6_bitsOf_3 (by decide) (by omega) (fun h3 => ?_) (fun h3 => ?_)
  · refine V_dload_n dX6_bitsOf_8 0 rfl rfl ?_
    refine V_dstore_n dX6_bitsOf_9 2 rfl (by decide) ?_
    refine V_ldc2 (z := 1023) dX6_bitsOf_10 (xG_at 450 (by decide +kernel) rfl) ?_
    refine V_lstore dX6_bitsOf_13 (by decide) ?_
    refine V_iconst dX6_bitsOf_15 ?_
    refine V_istore dX6_bitsOf_16 (by decide) ?_
    refine V_fg [true, false, true, false, true, false, true] ?_
    exact bo_loop hE 0 (by omega) (by omega) n (by show 1 ≤ n; omega) hn (by show shD n = shD n + 0; exact (UInt64.add_zero _).symm)
  · refine V_lconst (z := 0) dX6_bitsOf_6 (by decide) ?_
    exact V_lret hE rfl dX6_bitsOf_7 ⟨by rw [show n = 0 by omega, bk_n0.2], rfl, rfl⟩
