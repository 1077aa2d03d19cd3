/-! p25's law: two picks changed with each other -/
theorem CP.mv {w w' : WD} {χ : Nat} {P : MP} (h : CP w χ P) (e : ∀ j, (χ ≤ j ∧ j < χ + 37) ∨ imm χ j → w j ≠ none → w' j = w j) : CP w' χ P := CS.mv h e
def mvf (A B k : Int) (h : Int → Int) (b : Int) : Int := if A ≤ b ∧ b < A + k then h (b - A + B) else if B ≤ b ∧ b < B + k then h (b - B + A) else h b
theorem mvf_0 {A B : Int} {h : Int → Int} : mvf A B 0 h = h := by
  funext b
  unfold mvf
  rw [if_neg (by omega), if_neg (by omega)]
theorem B7.mv9 {A B k : Int} {h : Int → Int} (hB : B7 h) : B7 (mvf A B k h) := by
  intro b
  unfold mvf
  split
  · exact hB _
  · split
    · exact hB _
    · exact hB _
theorem pk_c {h h' : Int → Int} {j : Int} (e : ∀ m, 0 ≤ m → m < 8 → h (8 * j + m) = h' (8 * j + m)) : pk h j = pk h' j := by
  have e2 : pn h j = pn h' j := hn_c 8 _ _ (fun m hm => by show (h (8 * j + (m : Int))).toNat = (h' (8 * j + (m : Int))).toNat; rw [e m (by omega) (by omega)])
  unfold pk
  rw [e2]
theorem pk_sh {h h' : Int → Int} {i j : Int} (e : ∀ m, 0 ≤ m → m < 8 → h (8 * i + m) = h' (8 * j + m)) : pk h i = pk h' j := by
  have e2 : pn h i = pn h' j := hn_c 8 _ _ (fun m hm => by show (h (8 * i + (m : Int))).toNat = (h' (8 * j + (m : Int))).toNat; rw [e m (by omega) (by omega)])
  unfold pk
  rw [e2]
theorem mvf_a {A B k b : Int} {h : Int → Int} (q : A ≤ b ∧ b < A + k) : mvf A B k h b = h (b - A + B) := if_pos q
theorem mvf_b {A B k b : Int} {h : Int → Int} (q1 : ¬ (A ≤ b ∧ b < A + k)) (q : B ≤ b ∧ b < B + k) : mvf A B k h b = h (b - B + A) := (if_neg q1).trans (if_pos q)
theorem mvf_n {A B k b : Int} {h : Int → Int} (q1 : ¬ (A ≤ b ∧ b < A + k)) (q : ¬ (B ≤ b ∧ b < B + k)) : mvf A B k h b = h b := (if_neg q1).trans (if_neg q)
/-- one place more -/
theorem mvf_s {F T k : Int} {h : Int → Int} (hne : 160 * F + 160 ≤ 160 * T ∨ 160 * T + 160 ≤ 160 * F) (hk : 0 ≤ k ∧ k < 20) : iu (iu (pk (mvf (160 * F) (160 * T) (8 * k) h)) (20 * F + k) (pk (mvf (160 * F) (160 * T) (8 * k) h) (20 * T + k))) (20 * T + k) (pk (mvf (160 * F) (160 * T) (8 * k) h) (20 * F + k)) = pk (mvf (160 * F) (160 * T) (8 * (k + 1)) h) := by
  funext j
  by_cases q1 : j = 20 * T + k
  · rw [q1, iu_s]
    refine pk_sh (fun m m0 m1 => ?_)
    rw [mvf_n (by omega) (by omega), mvf_b (by omega) (by omega)]
    congr 1
    omega
  · rw [iu_n q1]
    by_cases q2 : j = 20 * F + k
    · rw [q2, iu_s]
      refine pk_sh (fun m m0 m1 => ?_)
      rw [mvf_n (by omega) (by omega), mvf_a (by omega)]
      congr 1
      omega
    · rw [iu_n q2]
      refine pk_c (fun m m0 m1 => ?_)
      by_cases a1 : 160 * F ≤ 8 * j + m ∧ 8 * j + m < 160 * F + 8 * k
      · rw [mvf_a a1, mvf_a (by omega)]
      · by_cases a2 : 160 * T ≤ 8 * j + m ∧ 8 * j + m < 160 * T + 8 * k
        · rw [mvf_b a1 a2, mvf_b (by omega) (by omega)]
        · rw [mvf_n a1 a2, mvf_n (by omega) (by omega)]
theorem mvf_i {F T k : Int} {h : Int → Int} (hne : 9 * F + 9 ≤ 9 * T ∨ 9 * T + 9 ≤ 9 * F) (hk : 0 ≤ k ∧ k < 9) : iu (iu (mvf (9 * F) (9 * T) k h) (9 * F + k) (mvf (9 * F) (9 * T) k h (9 * T + k))) (9 * T + k) (mvf (9 * F) (9 * T) k h (9 * F + k)) = mvf (9 * F) (9 * T) (k + 1) h := by
  funext j
  by_cases q1 : j = 9 * T + k
  · rw [q1, iu_s, mvf_n (by omega) (by omega), mvf_b (by omega) (by omega)]
    congr 1
    omega
  · rw [iu_n q1]
    by_cases q2 : j = 9 * F + k
    · rw [q2, iu_s, mvf_n (by omega) (by omega), mvf_a (by omega)]
      congr 1
      omega
    · rw [iu_n q2]
      by_cases a1 : 9 * F ≤ j ∧ j < 9 * F + k
      · rw [mvf_a a1, mvf_a (by omega)]
      · by_cases a2 : 9 * T ≤ j ∧ j < 9 * T + k
        · rw [mvf_b a1 a2, mvf_b (by omega) (by omega)]
        · rw [mvf_n a1 a2, mvf_n (by omega) (by omega)]
/-- picks by their places -/
def Pks (gl pr : Int → Int) (z : Int → Int) (q p : Int) : Prop := (∀ i, 0 ≤ i → i < 9 → pr (9 * q + i) = z (161 + 169 * p + i)) ∧ ∀ c, 0 ≤ c → c < 160 → gl (160 * q + c) = z (161 + 169 * p + (9 + c))
theorem Pks.t {gl pr z : Int → Int} {F T p : Int} (h : Pks gl pr z F p) (hF : F ≠ T) : Pks (mvf (160 * F) (160 * T) 160 gl) (mvf (9 * F) (9 * T) 9 pr) z T p := by
  refine ⟨fun i i0 i1 => ?_, fun c c0 c1 => ?_⟩
  · rw [mvf_b (by omega) (by omega), show 9 * T + i - 9 * T + 9 * F = 9 * F + i by omega]
    exact h.1 i i0 i1
  · rw [mvf_b (by omega) (by omega), show 160 * T + c - 160 * T + 160 * F = 160 * F + c by omega]
    exact h.2 c c0 c1
theorem Pks.f {gl pr z : Int → Int} {F T p : Int} (h : Pks gl pr z T p) : Pks (mvf (160 * F) (160 * T) 160 gl) (mvf (9 * F) (9 * T) 9 pr) z F p := by
  refine ⟨fun i i0 i1 => ?_, fun c c0 c1 => ?_⟩
  · rw [mvf_a (by omega), show 9 * F + i - 9 * F + 9 * T = 9 * T + i by omega]
    exact h.1 i i0 i1
  · rw [mvf_a (by omega), show 160 * F + c - 160 * F + 160 * T = 160 * T + c by omega]
    exact h.2 c c0 c1
theorem Pks.n {gl pr z : Int → Int} {F T q p : Int} (h : Pks gl pr z q p) (h1 : q ≠ F) (h2 : q ≠ T) : Pks (mvf (160 * F) (160 * T) 160 gl) (mvf (9 * F) (9 * T) 9 pr) z q p := by
  refine ⟨fun i i0 i1 => ?_, fun c c0 c1 => ?_⟩
  · rw [mvf_n (by omega) (by omega)]
    exact h.1 i i0 i1
  · rw [mvf_n (by omega) (by omega)]
    exact h.2 c c0 c1
def QMV (w0 : WD) (sz le pr : Nat) (gl prf : Int → Int) (F T : Int) : XQ := fun o9 w' sz' => o9 = none ∧ sz' = sz ∧ w' le = some (xPA 60 (mvf (160 * F) (160 * T) 160 gl)) ∧ w' pr = some (xIA 27 (mvf (9 * F) (9 * T) 9 prf)) ∧ ∀ j, j ≠ le → j ≠ pr → w' j = w0 j
set_option maxRecDepth 100000 in
set_option maxHeartbeats 4000000 in
theorem l_move {w0 : WD} {sz le pr : Nat} {gl prf : Int → Int} {F T : Int} (hl : w0 le = some (xPA 60 gl)) (hp : w0 pr = some (xIA 27 prf)) (hF : 0 ≤ F ∧ F ≤ 2) (hT : 0 ≤ T ∧ T ≤ 2) (hne : F ≠ T) : CT iL_move 0 0 [xI F, xI T, .ref le, .ref pr] w0 sz (QMV w0 sz le pr gl prf F T) := by
  refine CT.ofZ (by decide) rfl (Nat.le_of_ble_eq_true rfl) (fun Z hE => ?_)
  have hne2 : le ≠ pr := fun e => by rw [e, hp] at hl; cases hl
  refine V_iconst dL_move_0 ?_
  refine V_istore dL_move_1 (by decide) ?_
  have L3 : ∀ k : Int, 0 ≤ k → k ≤ 20 → ∀ w : WD, UA w0 w le (xPA 60 (mvf (160 * F) (160 * T) (8 * k) gl)) → V iL_move Z 0 0 w sz 3 [some (xI F), some (xI T), some (.ref le), some (.ref pr), some (xI k), none, none] [] := by
    refine up_ind ?_
    intro k hk0 hk1 ih
    intro w hU
    refine V_iload dL_move_3 rfl ?_
    refine V_bipush dL_move_5 (by decide) ?_
    refine V_icmp_ge 56 dL_move_7 (by decide) (by omega) (fun h7 => ?_) (fun h7 => ?_)
    · obtain ⟨w2, hw2⟩ : ∃ w2, w2 = w := ⟨w, rfl⟩
      rw [← hw2] at hU ⊢
      rw [show k = 20 by omega, show (8 * (20 : Int)) = 160 from rfl] at hU
      have hp2 : w2 pr = some (xIA 27 prf) := (hU.2 pr (Ne.symm hne2)).trans hp
      refine V_iconst dL_move_56 ?_
      refine V_istore dL_move_57 (by decide) ?_
      have L59 : ∀ k : Int, 0 ≤ k → k ≤ 9 → ∀ w : WD, UA w2 w pr (xIA 27 (mvf (9 * F) (9 * T) k prf)) → V iL_move Z 0 0 w sz 59 [some (xI F), some (xI T), some (.ref le), some (.ref pr), some (xI k), none, none] [] := by
        refine up_ind ?_
        intro k hk0 hk1 ih
        intro w hV
        refine V_iload dL_move_59 rfl ?_
        refine V_bipush dL_move_61 (by decide) ?_
        refine V_icmp_ge 112 dL_move_63 (by decide) (by omega) (fun h63 => ?_) (fun h63 => ?_)
        · rw [show k = 9 by omega] at hV
          exact V_vret hE rfl dL_move_112 ⟨rfl, rfl, (hV.2 le hne2).trans hU.1, hV.1, fun j h1 h2 => (hV.2 j h2).trans (hU.2 j h1)⟩
        · refine V_aload_n dL_move_66 3 rfl rfl ?_
          refine V_bipush dL_move_67 (by decide) ?_
          refine V_iload_n dL_move_69 0 rfl rfl ?_
          refine V_imul dL_move_70 ?_
          refine V_iload dL_move_71 rfl ?_
          refine V_iadd dL_move_73 ?_
          refine V_iald dL_move_74 hV.1 (by omega) ?_
          refine V_istore dL_move_75 (by decide) ?_
          refine V_aload_n dL_move_77 3 rfl rfl ?_
          refine V_bipush dL_move_78 (by decide) ?_
          refine V_iload_n dL_move_80 0 rfl rfl ?_
          refine V_imul dL_move_81 ?_
          refine V_iload dL_move_82 rfl ?_
          refine V_iadd dL_move_84 ?_
          refine V_aload_n dL_move_85 3 rfl rfl ?_
          refine V_bipush dL_move_86 (by decide) ?_
          refine V_iload_n dL_move_88 1 rfl rfl ?_
          refine V_imul dL_move_89 ?_
          refine V_iload dL_move_90 rfl ?_
          refine V_iadd dL_move_92 ?_
          refine V_iald dL_move_93 hV.1 (by omega) ?_
          refine V_iast dL_move_94 hV.1 (by omega) ?_
          have hV := (hV.u : UA w2 (xU w pr (xIA 27 (iu (mvf (9 * F) (9 * T) k prf) (9 * F + k) ((mvf (9 * F) (9 * T) k prf) (9 * T + k))))) pr _)
          refine V_aload_n dL_move_95 3 rfl rfl ?_
          refine V_bipush dL_move_96 (by decide) ?_
          refine V_iload_n dL_move_98 1 rfl rfl ?_
          refine V_imul dL_move_99 ?_
          refine V_iload dL_move_100 rfl ?_
          refine V_iadd dL_move_102 ?_
          refine V_iload dL_move_103 rfl ?_
          refine V_iast dL_move_105 hV.1 (by omega) ?_
          rw [xU_xU, mvf_i (by omega) (by omega)]
          have hV := (hV.u : UA w2 (xU (xU w pr (xIA 27 (iu (mvf (9 * F) (9 * T) k prf) (9 * F + k) ((mvf (9 * F) (9 * T) k prf) (9 * T + k))))) pr (xIA 27 (mvf (9 * F) (9 * T) (k + 1) prf))) pr _)
          rw [xU_xU] at hV
          refine V_iinc dL_move_106 rfl (by decide) ?_
          refine V_goto 59 dL_move_109 (by decide) ?_
          refine V_fg [true, true, true, true, true, false, false] ?_
          exact ih (by omega) _ hV
      refine V_fg [true, true, true, true, true, false, false] ?_
      exact L59 (0) (by omega) (by omega) w2 (by rw [mvf_0]; exact UA.rf hp2)
    · refine V_aload_n dL_move_10 2 rfl rfl ?_
      refine V_bipush dL_move_11 (by decide) ?_
      refine V_iload_n dL_move_13 0 rfl rfl ?_
      refine V_imul dL_move_14 ?_
      refine V_iload dL_move_15 rfl ?_
      refine V_iadd dL_move_17 ?_
      refine V_lald dL_move_18 hU.1 (by omega) ?_ (hn := by omega)
      refine V_lstore dL_move_19 (by decide) ?_
      refine V_aload_n dL_move_21 2 rfl rfl ?_
      refine V_bipush dL_move_22 (by decide) ?_
      refine V_iload_n dL_move_24 0 rfl rfl ?_
      refine V_imul dL_move_25 ?_
      refine V_iload dL_move_26 rfl ?_
      refine V_iadd dL_move_28 ?_
      refine V_aload_n dL_move_29 2 rfl rfl ?_
      refine V_bipush dL_move_30 (by decide) ?_
      refine V_iload_n dL_move_32 1 rfl rfl ?_
      refine V_imul dL_move_33 ?_
      refine V_iload dL_move_34 rfl ?_
      refine V_iadd dL_move_36 ?_
      refine V_lald dL_move_37 hU.1 (by omega) ?_ (hn := by omega)
      refine V_last dL_move_38 hU.1 (by omega) ?_ (hn := by omega)
      have hU := (hU.u : UA w0 (xU w le (xLA 60 (iu (pk (mvf (160 * F) (160 * T) (8 * k) gl)) (20 * F + k) (pk (mvf (160 * F) (160 * T) (8 * k) gl) (20 * T + k))))) le _)
      refine V_aload_n dL_move_39 2 rfl rfl ?_
      refine V_bipush dL_move_40 (by decide) ?_
      refine V_iload_n dL_move_42 1 rfl rfl ?_
      refine V_imul dL_move_43 ?_
      refine V_iload dL_move_44 rfl ?_
      refine V_iadd dL_move_46 ?_
      refine V_lload dL_move_47 rfl ?_
      refine V_last dL_move_49 hU.1 (by omega) ?_ (hn := by omega)
      rw [xU_xU, mvf_s (by omega) (by omega)]
      have hU := (hU.u : UA w0 (xU (xU w le (xLA 60 (iu (pk (mvf (160 * F) (160 * T) (8 * k) gl)) (20 * F + k) (pk (mvf (160 * F) (160 * T) (8 * k) gl) (20 * T + k))))) le (xPA 60 (mvf (160 * F) (160 * T) (8 * (k + 1)) gl))) le _)
      rw [xU_xU] at hU
      refine V_iinc dL_move_50 rfl (by decide) ?_
      refine V_goto 3 dL_move_53 (by decide) ?_
      refine V_fg [true, true, true, true, true, false, false] ?_
      exact ih (by omega) _ hU
  refine V_fg [true, true, true, true, true, false, false] ?_
  exact L3 (0) (by omega) (by omega) w0 (by rw [show (8 * (0 : Int)) = 0 from rfl, mvf_0]; exact UA.rf hl)
