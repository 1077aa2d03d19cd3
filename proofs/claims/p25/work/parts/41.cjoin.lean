/-! the class: squares that are joined -/
def Sds (a : Int → Prop) (s : Int → Int) : Prop := ∀ c, 0 ≤ c → c < 160 → Sid a s c
theorem Sds.at {a : Int → Prop} {s : Int → Int} {x y w : Int} (h : Sds a s) (hw : 0 ≤ w) : w < sdA s x y ↔ iCell x y ∧ sqA a w (16 * y + x) := (Sid.one (c := -1) (d := 16 * y + x) (fun j j0 j1 => h j (by omega) j1) (fun q => by omega)).2 w hw
theorem Sds.b {a : Int → Prop} {s : Int → Int} {x y : Int} (h : Sds a s) : 0 ≤ sdA s x y ∧ sdA s x y ≤ 16 := (Sid.one (c := -1) (d := 16 * y + x) (fun j j0 j1 => h j (by omega) j1) (fun q => by omega)).1
theorem liA_i {a : Int → Prop} {s : Int → Int} {c w x y : Int} (h : Sds a s) (hw : 0 ≤ w) (hc : 0 ≤ c ∧ c < 160) (hx : c % 16 - w ≤ x ∧ x ≤ c % 16) (hy : c / 16 - w ≤ y ∧ y ≤ c / 16) (g : w < sdA s x y) : liA a c w := by
  obtain ⟨g1, g2⟩ := (h.at hw).mp g
  exact ⟨16 * y + x, by omega, by omega, g2, by omega, by omega⟩
theorem liA_n {a : Int → Prop} {s : Int → Int} {c w : Int} (h : Sds a s) (hw : 0 ≤ w) (hc : 0 ≤ c ∧ c < 160) (g : ∀ y x, c / 16 - w ≤ y → y ≤ c / 16 → c % 16 - w ≤ x → x ≤ c % 16 → ¬ w < sdA s x y) : ¬ liA a c w := by
  rintro ⟨q, q0, q1, q2, q3⟩
  refine g (q / 16) (q % 16) (by omega) (by omega) (by omega) (by omega) ((h.at hw).mpr ⟨by omega, ?_⟩)
  rw [show 16 * (q / 16) + q % 16 = q by omega]
  exact q2
abbrev S0A (s : Int → Int) (u : Int) : Int → Bool := fun j => decide (u < s j)
abbrev SJA (s : Int → Int) (u : Int) (J : Int → Bool) : Int → Bool := fun j => S0A s u j && !J j
def JK (a : Int → Prop) (f u : Int) (s : Int → Int) (J : Int → Bool) (l : Int → Int) (n : Int) : Prop := JI a f u (S0A s u) l (SJA s u J) n
theorem JI.c {a : Int → Prop} {f u n : Int} {S0 S S' : Int → Bool} {l : Int → Int} (h : JI a f u S0 l S n) (e : ∀ j, 0 ≤ j → j < 160 → S' j = S j) : JI a f u S0 l S' n := by
  obtain ⟨h1, h2, h3, h4⟩ := h
  refine ⟨?_, fun q q0 q1 => ?_, fun j j0 j1 hj => h3 j j0 j1 (by rw [← e j j0 j1]; exact hj), fun j j0 j1 g1 g2 => h4 j j0 j1 g1 (by rw [← e j j0 j1]; exact g2)⟩
  · rw [h1, show cnt S' = cnt S from isum_c (fun j j0 j1 => by rw [e j j0 j1])]
  · obtain ⟨g1, g2, g3, g4, g5⟩ := h2 q q0 q1
    exact ⟨g1, g2, g3, by rw [e _ g1 g2]; exact g4, g5⟩
theorem JK.start {a : Int → Prop} {f u : Int} {s : Int → Int} {J : Int → Bool} {l : Int → Int} (h : ∀ j, 0 ≤ j → j < 160 → J j = false) : JK a f u s J l 0 := JI.start.c (fun j j0 j1 => by show (S0A s u j && !J j) = _; rw [h j j0 j1]; exact Bool.and_true _)
theorem JK.le {a : Int → Prop} {f u n : Int} {s : Int → Int} {J : Int → Bool} {l : Int → Int} (h : JK a f u s J l n) : n ≤ 160 := JI.le h
theorem JK.ge {a : Int → Prop} {f u n : Int} {s : Int → Int} {J : Int → Bool} {l : Int → Int} (h : JK a f u s J l n) : 0 ≤ n := by
  have e := h.1
  have : cnt (SJA s u J) ≤ cnt (S0A s u) := by
    have key : ∀ m : Nat, (m : Int) ≤ 160 → nsum (fun k => b2i (SJA s u J k)) m ≤ nsum (fun k => b2i (S0A s u k)) m := by
      intro m
      induction m with
      | zero => intro _; exact Int.le_refl _
      | succ m ih =>
        intro hm
        have h2 : b2i (SJA s u J m) ≤ b2i (S0A s u m) := by
          cases e2 : SJA s u J m with
          | false => exact (b2i_r _).1
          | true => rw [h.2.2.1 m (by omega) (by omega) e2]; exact Int.le_refl _
        have h3 := ih (by omega)
        show nsum _ m + b2i (SJA s u J m) ≤ nsum _ m + b2i (S0A s u m)
        omega
    exact key _ (by omega)
  omega
theorem JK.add {a : Int → Prop} {f u n k : Int} {s : Int → Int} {J : Int → Bool} {l : Int → Int} (h : JK a f u s J l n) (h0 : 0 ≤ k) (h1 : k < 160) (hs : u < s k) (hk : J k = false) (hj : joA a f u k) : JK a f u s (iu J k true) (iu l n k) (n + 1) := by
  refine (JI.add h h0 h1 ?_ hj).c (fun j j0 j1 => ?_)
  · show (decide (u < s k) && !J k) = true
    rw [decide_eq_true hs, hk]
    rfl
  · by_cases e : j = k
    · rw [e, iu_s]
      show (decide (u < s k) && !(iu J k true) k) = false
      rw [iu_s]
      exact Bool.and_false _
    · rw [iu_n e]
      show (decide (u < s j) && !(iu J k true) j) = (decide (u < s j) && !J j)
      rw [iu_n e]
theorem JK.lt {a : Int → Prop} {f u n k : Int} {s : Int → Int} {J : Int → Bool} {l : Int → Int} (h : JK a f u s J l n) (h0 : 0 ≤ k) (h1 : k < 160) (hs : u < s k) (hk : J k = false) : n < 160 := JI.lt h h0 h1 (by show (decide (u < s k) && !J k) = true; rw [decide_eq_true hs, hk]; rfl)
def JM (J : Int → Bool) (l : Int → Int) (n : Int) (J' : Int → Bool) (l' : Int → Int) (n' : Int) : Prop := (∀ j, J j = true → J' j = true) ∧ (∀ q, 0 ≤ q → q < n → l' q = l q) ∧ n ≤ n'
theorem JM.rf {J : Int → Bool} {l : Int → Int} {n : Int} : JM J l n J l n := ⟨fun _ h => h, fun _ _ _ => rfl, by omega⟩
theorem JM.tr {J J' J'' : Int → Bool} {l l' l'' : Int → Int} {n n' n'' : Int} (h : JM J l n J' l' n') (g : JM J' l' n' J'' l'' n'') : JM J l n J'' l'' n'' := ⟨fun j q => g.1 j (h.1 j q), fun q q0 q1 => (g.2.1 q q0 (by have := h.2.2; omega)).trans (h.2.1 q q0 q1), by have := h.2.2; have := g.2.2; omega⟩
theorem JM.add {J : Int → Bool} {l : Int → Int} {n k : Int} : JM J l n (iu J k true) (iu l n k) (n + 1) := ⟨fun j h => by
  by_cases e : j = k
  · rw [e, iu_s]
  · rw [iu_n e]; exact h, fun q _ q1 => iu_n (by omega), by omega⟩
set_option maxRecDepth 100000 in
set_option maxHeartbeats 4000000 in
theorem c_liesInSquare {w0 w : WD} {sz φ : Nat} {T : FT} {c : Int} (hM : FW w0 w φ T) (hs : Sds (fun k => T.1 k = true) T.2.1) (hw : 0 ≤ T.2.2.2.2.2.2 ∧ T.2.2.2.2.2.2 ≤ 5) (hc : 0 ≤ c ∧ c < 160) : CT iX0_liesInSquare 0 0 [.ref φ, xI c] w sz (fun v w' sz' => w' = w ∧ sz' = sz ∧ ∃ b, v = some (xB b) ∧ (b = true ↔ liA (fun k => T.1 k = true) c T.2.2.2.2.2.2)) := by
  refine CT.ofZ (by decide) rfl (Nat.le_of_ble_eq_true rfl) (fun Z hE => ?_)
  refine V_iload_n dX0_liesInSquare_0 1 rfl rfl ?_
  refine V_bipush dX0_liesInSquare_1 (by decide) ?_
  refine V_iremN dX0_liesInSquare_3 (by omega) ?_
  refine V_istore_n dX0_liesInSquare_4 2 rfl (by decide) ?_
  refine V_iload_n dX0_liesInSquare_5 1 rfl rfl ?_
  refine V_bipush dX0_liesInSquare_6 (by decide) ?_
  refine V_idivN dX0_liesInSquare_8 (by omega) ?_
  refine V_istore_n dX0_liesInSquare_9 3 rfl (by decide) ?_
  refine V_iload_n dX0_liesInSquare_10 3 rfl rfl ?_
  refine V_aload_n dX0_liesInSquare_11 0 rfl rfl ?_
  refine F_g_width hM rfl dX0_liesInSquare_12 ?_
  try dsimp only
  refine V_isub dX0_liesInSquare_15 ?_
  refine V_istore dX0_liesInSquare_16 (by decide) ?_
  have L18 : ∀ i : Int, c / 16 - T.2.2.2.2.2.2 ≤ i → i ≤ c / 16 + 1 → (∀ y x, c / 16 - T.2.2.2.2.2.2 ≤ y → y < i → c % 16 - T.2.2.2.2.2.2 ≤ x → x ≤ c % 16 → ¬ T.2.2.2.2.2.2 < sdA T.2.1 x y) → V iX0_liesInSquare Z 0 0 w sz 18 [some (.ref φ), some (xI c), some (xI (c % 16)), some (xI (c / 16)), some (xI i), none] [] := by
    refine up_ind ?_
    intro i hi0 hi1 ihi hn
    refine V_iload dX0_liesInSquare_18 rfl ?_
    refine V_iload_n dX0_liesInSquare_20 3 rfl rfl ?_
    refine V_icmp_gt 67 dX0_liesInSquare_21 (by decide) (by omega) (fun h21 => ?_) (fun h21 => ?_)
    · refine V_iconst dX0_liesInSquare_67 ?_
      exact V_zret (b := false) hE rfl dX0_liesInSquare_68 ⟨rfl, rfl, false, rfl, fun g => (Bool.false_ne_true g).elim, fun g => absurd g (liA_n hs hw.1 hc (fun y x g1 g2 g3 g4 => hn y x g1 (by omega) g3 g4))⟩
    · refine V_iload_n dX0_liesInSquare_24 2 rfl rfl ?_
      refine V_aload_n dX0_liesInSquare_25 0 rfl rfl ?_
      refine F_g_width hM rfl dX0_liesInSquare_26 ?_
      try dsimp only
      refine V_isub dX0_liesInSquare_29 ?_
      refine V_istore dX0_liesInSquare_30 (by decide) ?_
      have L32 : ∀ j : Int, c % 16 - T.2.2.2.2.2.2 ≤ j → j ≤ c % 16 + 1 → (∀ x, c % 16 - T.2.2.2.2.2.2 ≤ x → x < j → ¬ T.2.2.2.2.2.2 < sdA T.2.1 x i) → V iX0_liesInSquare Z 0 0 w sz 32 [some (.ref φ), some (xI c), some (xI (c % 16)), some (xI (c / 16)), some (xI i), some (xI j)] [] := by
        refine up_ind ?_
        intro j hj0 hj1 ihj hm
        have sb := hs.b (x := j) (y := i)
        refine V_iload dX0_liesInSquare_32 rfl ?_
        refine V_iload_n dX0_liesInSquare_34 2 rfl rfl ?_
        refine V_icmp_gt 61 dX0_liesInSquare_35 (by decide) (by omega) (fun h35 => ?_) (fun h35 => ?_)
        · refine V_iinc dX0_liesInSquare_61 rfl (by decide) ?_
          refine V_goto 18 dX0_liesInSquare_64 (by decide) ?_
          refine V_fg [true, true, true, true, true, false] ?_
          refine ihi (by omega) (fun y x g1 g2 g3 g4 => ?_)
          by_cases e : y = i
          · rw [e]; exact hm x g3 (by omega)
          · exact hn y x g1 (by omega) g3 g4
        · refine V_aload_n dX0_liesInSquare_38 0 rfl rfl ?_
          refine V_iload dX0_liesInSquare_39 rfl ?_
          refine V_iload dX0_liesInSquare_41 rfl ?_
          refine V_c_X0_86 rfl (by decide) (c_sideAt hM (by omega)) dX0_liesInSquare_43 hM.1 rfl rfl (Nat.le_of_ble_eq_true rfl) (Nat.le_of_eq (Nat.zero_add _)) (Nat.le_of_eq (Nat.zero_add _)) (fun v w sz q => ?_)
          try dsimp only at q
          obtain ⟨rfl, rfl, rfl⟩ := q
          refine V_aload_n dX0_liesInSquare_46 0 rfl rfl ?_
          refine F_g_width hM rfl dX0_liesInSquare_47 ?_
          try dsimp only
          refine V_icmp_le 55 dX0_liesInSquare_50 (by decide) (by omega) (fun h50 => ?_) (fun h50 => ?_)
          · refine V_iinc dX0_liesInSquare_55 rfl (by decide) ?_
            refine V_goto 32 dX0_liesInSquare_58 (by decide) ?_
            refine ihj (by omega) (fun x g1 g2 => ?_)
            by_cases e : x = j
            · rw [e]; omega
            · exact hm x g1 (by omega)
          · refine V_iconst dX0_liesInSquare_53 ?_
            exact V_zret (b := true) hE rfl dX0_liesInSquare_54 ⟨rfl, rfl, true, rfl, fun _ => liA_i hs hw.1 hc ⟨hj0, by omega⟩ ⟨hi0, by omega⟩ (by omega), fun _ => rfl⟩
      exact L32 ((c % 16 - T.2.2.2.2.2.2)) (by omega) (by omega) (fun x g1 g2 => by omega)
  refine V_fg [true, true, true, true, true, false] ?_
  exact L18 ((c / 16 - T.2.2.2.2.2.2)) (by omega) (by omega) (fun y x g1 g2 => by omega)
set_option maxRecDepth 100000 in
set_option maxHeartbeats 4000000 in
theorem c_join {w0 w : WD} {sz φ : Nat} {T : FT} {f : Int} {J : Int → Bool} {l : Int → Int} {n : Int} {x y : Int} (hM : FW w0 w φ (T.1, T.2.1, J, T.2.2.2.1, l, n, T.2.2.2.2.2.2)) (hs : Sds (fun k => T.1 k = true) T.2.1) (hw : 0 ≤ T.2.2.2.2.2.2 ∧ T.2.2.2.2.2.2 ≤ 5) (hK : JK (fun k => T.1 k = true) f T.2.2.2.2.2.2 T.2.1 J l n) (r : -1000 ≤ x ∧ x ≤ 1000 ∧ -1000 ≤ y ∧ y ≤ 1000) (hj : T.2.2.2.2.2.2 < sdA T.2.1 x y → joA (fun k => T.1 k = true) f T.2.2.2.2.2.2 (16 * y + x)) : CT iX0_join 0 0 [.ref φ, xI x, xI y] w sz (fun v w' sz' => v = none ∧ sz' = sz ∧ ∃ J1 l1 n1, FW w0 w' φ (T.1, T.2.1, J1, T.2.2.2.1, l1, n1, T.2.2.2.2.2.2) ∧ JK (fun k => T.1 k = true) f T.2.2.2.2.2.2 T.2.1 J1 l1 n1 ∧ (T.2.2.2.2.2.2 < sdA T.2.1 x y → J1 (16 * y + x) = true) ∧ JM J l n J1 l1 n1) := by
  refine CT.ofZ (by decide) rfl (Nat.le_of_ble_eq_true rfl) (fun Z hE => ?_)
  refine V_aload_n dX0_join_0 0 rfl rfl ?_
  refine V_iload_n dX0_join_1 1 rfl rfl ?_
  refine V_iload_n dX0_join_2 2 rfl rfl ?_
  refine V_c_X0_86 rfl (by decide) (c_sideAt hM (by omega)) dX0_join_3 hM.1 rfl rfl (Nat.le_of_ble_eq_true rfl) (Nat.le_of_eq (Nat.zero_add _)) (Nat.le_of_eq (Nat.zero_add _)) (fun v w sz q => ?_)
  try dsimp only at q
  obtain ⟨rfl, rfl, rfl⟩ := q
  refine V_aload_n dX0_join_6 0 rfl rfl ?_
  refine F_g_width hM rfl dX0_join_7 ?_
  try dsimp only
  refine V_icmp_le 26 dX0_join_10 (by decide) (by first | omega | (have sb := hs.b (x := x) (y := y); omega)) (fun h10 => ?_) (fun h10 => ?_)
  · exact V_vret hE rfl dX0_join_26 ⟨rfl, rfl, J, l, n, hM, hK, fun g => by omega, JM.rf⟩
  · have h9 : T.2.2.2.2.2.2 < sdA T.2.1 x y := by omega
    have hx9 := (hs.at hw.1).mp h9
    have hc9 : 0 ≤ 16 * y + x ∧ 16 * y + x < 160 := by have := hx9.1; omega
    have hsd : T.2.2.2.2.2.2 < T.2.1 (16 * y + x) := by unfold sdA at h9; rw [if_pos hx9.1] at h9; exact h9
    refine V_aload_n dX0_join_13 0 rfl rfl ?_
    refine V_aload_n dX0_join_14 0 rfl rfl ?_
    refine F_g_joined hM rfl dX0_join_15 ?_
    refine V_iload_n dX0_join_18 1 rfl rfl ?_
    refine V_iload_n dX0_join_19 2 rfl rfl ?_
    refine V_c_X0_96 rfl (by decide) (c_cellAt) dX0_join_20 rfl rfl (Nat.le_of_ble_eq_true rfl) (Nat.le_of_eq (Nat.zero_add _)) (Nat.le_of_eq (Nat.zero_add _)) (fun v w sz q => ?_)
    try dsimp only at q
    obtain ⟨rfl, rfl, rfl⟩ := q
    refine V_c_X0_61 rfl (by decide) (c_enter_joined hM hc9 ⟨hK.ge, hK.le⟩) dX0_join_23 hM.1 rfl rfl (Nat.le_of_ble_eq_true rfl) (Nat.le_of_eq (Nat.zero_add _)) (Nat.le_of_eq (Nat.zero_add _)) (fun v w sz q => ?_)
    try dsimp only at q
    obtain ⟨rfl, rfl, q⟩ := q
    obtain ⟨J1, l1, n1, hM1, hK1, hJ1, hJM⟩ : ∃ J1 l1 n1, FW w0 w φ (T.1, T.2.1, J1, T.2.2.2.1, l1, n1, T.2.2.2.2.2.2) ∧ JK (fun k => T.1 k = true) f T.2.2.2.2.2.2 T.2.1 J1 l1 n1 ∧ J1 (16 * y + x) = true ∧ JM J l n J1 l1 n1 := by
      have hlt := hx9.2.1
      rcases q with ⟨q1, q2, hM⟩ | ⟨q1, hM⟩
      · exact ⟨_, _, _, hM, hK.add hc9.1 hc9.2 hsd q1 (hj h9), iu_s, JM.add⟩
      · refine ⟨J, l, n, hM, hK, ?_, JM.rf⟩
        cases e : J (16 * y + x) with
        | true => rfl
        | false => exact absurd ⟨e, hK.lt hc9.1 hc9.2 hsd e⟩ q1
    exact V_vret hE rfl dX0_join_26 ⟨rfl, rfl, J1, l1, n1, hM1, hK1, fun _ => hJ1, hJM⟩
set_option maxRecDepth 100000 in
set_option maxHeartbeats 4000000 in
theorem c_joinSquaresOver {w0 w : WD} {sz φ : Nat} {T : FT} {f : Int} (hM : FW w0 w φ T) (hs : Sds (fun k => T.1 k = true) T.2.1) (hw : 0 ≤ T.2.2.2.2.2.2 ∧ T.2.2.2.2.2.2 ≤ 5) (hf : 0 ≤ f ∧ f < 160) : CT iX0_joinSquaresOver 0 0 [.ref φ, xI f] w sz (fun v w' sz' => v = none ∧ sz' = sz ∧ ∃ J l n, FW w0 w' φ (T.1, T.2.1, J, T.2.2.2.1, l, n, T.2.2.2.2.2.2) ∧ JK (fun k => T.1 k = true) f T.2.2.2.2.2.2 T.2.1 J l n ∧ ∀ j, 0 ≤ j → j < 160 → sqA (fun k => T.1 k = true) T.2.2.2.2.2.2 j → iLies f j T.2.2.2.2.2.2 → J j = true) := by
  refine CT.ofZ (by decide) rfl (Nat.le_of_ble_eq_true rfl) (fun Z hE => ?_)
  refine V_aload_n dX0_joinSquaresOver_0 0 rfl rfl ?_
  refine F_g_joined hM rfl dX0_joinSquaresOver_1 ?_
  refine V_c_X0_43 rfl (by decide) (c_clear hM.2.2.2.1) dX0_joinSquaresOver_4 rfl rfl (Nat.le_of_ble_eq_true rfl) (Nat.le_of_eq (Nat.zero_add _)) (Nat.le_of_eq (Nat.zero_add _)) (fun v w sz q => ?_)
  try dsimp only at q
  obtain ⟨rfl, rfl, g9, hu9, hg9⟩ := q
  replace hM := FW.u_joined hM hu9
  refine V_aload_n dX0_joinSquaresOver_7 0 rfl rfl ?_
  refine V_iconst dX0_joinSquaresOver_8 ?_
  refine F_p_queued hM rfl dX0_joinSquaresOver_9 (fun w hM => ?_)
  try dsimp only at hM
  refine V_iload_n dX0_joinSquaresOver_12 1 rfl rfl ?_
  refine V_bipush dX0_joinSquaresOver_13 (by decide) ?_
  refine V_iremN dX0_joinSquaresOver_15 (by omega) ?_
  refine V_istore_n dX0_joinSquaresOver_16 2 rfl (by decide) ?_
  refine V_iload_n dX0_joinSquaresOver_17 1 rfl rfl ?_
  refine V_bipush dX0_joinSquaresOver_18 (by decide) ?_
  refine V_idivN dX0_joinSquaresOver_20 (by omega) ?_
  refine V_istore_n dX0_joinSquaresOver_21 3 rfl (by decide) ?_
  refine V_iload_n dX0_joinSquaresOver_22 3 rfl rfl ?_
  refine V_aload_n dX0_joinSquaresOver_23 0 rfl rfl ?_
  refine F_g_width hM rfl dX0_joinSquaresOver_24 ?_
  try dsimp only
  refine V_isub dX0_joinSquaresOver_27 ?_
  refine V_istore dX0_joinSquaresOver_28 (by decide) ?_
  have L30 : ∀ i : Int, f / 16 - T.2.2.2.2.2.2 ≤ i → i ≤ f / 16 + 1 → ∀ (w : WD) (J : Int → Bool) (l : Int → Int) (n : Int), FW w0 w φ (T.1, T.2.1, J, T.2.2.2.1, l, n, T.2.2.2.2.2.2) → JK (fun k => T.1 k = true) f T.2.2.2.2.2.2 T.2.1 J l n → (∀ y x, f / 16 - T.2.2.2.2.2.2 ≤ y → y < i → f % 16 - T.2.2.2.2.2.2 ≤ x → x ≤ f % 16 → T.2.2.2.2.2.2 < sdA T.2.1 x y → J (16 * y + x) = true) → V iX0_joinSquaresOver Z 0 0 w sz 30 [some (.ref φ), some (xI f), some (xI (f % 16)), some (xI (f / 16)), some (xI i), none] [] := by
    refine up_ind ?_
    intro i hi0 hi1 ihi w J l n hM hK hn
    refine V_iload dX0_joinSquaresOver_30 rfl ?_
    refine V_iload_n dX0_joinSquaresOver_32 3 rfl rfl ?_
    refine V_icmp_gt 70 dX0_joinSquaresOver_33 (by decide) (by omega) (fun h33 => ?_) (fun h33 => ?_)
    · exact V_vret hE rfl dX0_joinSquaresOver_70 ⟨rfl, rfl, J, l, n, hM, hK, fun j g1 g2 g3 g4 => by have := hn (j / 16) (j % 16) (by omega) (by omega) (by omega) (by omega) ((hs.at hw.1).mpr ⟨by omega, by rw [show 16 * (j / 16) + j % 16 = j by omega]; exact g3⟩); rw [show 16 * (j / 16) + j % 16 = j by omega] at this; exact this⟩
    · refine V_iload_n dX0_joinSquaresOver_36 2 rfl rfl ?_
      refine V_aload_n dX0_joinSquaresOver_37 0 rfl rfl ?_
      refine F_g_width hM rfl dX0_joinSquaresOver_38 ?_
      try dsimp only
      refine V_isub dX0_joinSquaresOver_41 ?_
      refine V_istore dX0_joinSquaresOver_42 (by decide) ?_
      have L44 : ∀ j : Int, f % 16 - T.2.2.2.2.2.2 ≤ j → j ≤ f % 16 + 1 → ∀ (w : WD) (J : Int → Bool) (l : Int → Int) (n : Int), FW w0 w φ (T.1, T.2.1, J, T.2.2.2.1, l, n, T.2.2.2.2.2.2) → JK (fun k => T.1 k = true) f T.2.2.2.2.2.2 T.2.1 J l n → (∀ y x, f / 16 - T.2.2.2.2.2.2 ≤ y → y < i → f % 16 - T.2.2.2.2.2.2 ≤ x → x ≤ f % 16 → T.2.2.2.2.2.2 < sdA T.2.1 x y → J (16 * y + x) = true) → (∀ x, f % 16 - T.2.2.2.2.2.2 ≤ x → x < j → T.2.2.2.2.2.2 < sdA T.2.1 x i → J (16 * i + x) = true) → V iX0_joinSquaresOver Z 0 0 w sz 44 [some (.ref φ), some (xI f), some (xI (f % 16)), some (xI (f / 16)), some (xI i), some (xI j)] [] := by
        refine up_ind ?_
        intro j hj0 hj1 ihj w J l n hM hK hn hm
        refine V_iload dX0_joinSquaresOver_44 rfl ?_
        refine V_iload_n dX0_joinSquaresOver_46 2 rfl rfl ?_
        refine V_icmp_gt 64 dX0_joinSquaresOver_47 (by decide) (by omega) (fun h47 => ?_) (fun h47 => ?_)
        · refine V_iinc dX0_joinSquaresOver_64 rfl (by decide) ?_
          refine V_goto 30 dX0_joinSquaresOver_67 (by decide) ?_
          refine V_fg [true, true, true, true, true, false] ?_
          refine ihi (by omega) _ _ _ _ hM hK (fun y x g1 g2 g3 g4 => ?_)
          by_cases e : y = i
          · rw [e]; exact hm x g3 (by omega)
          · exact hn y x g1 (by omega) g3 g4
        · refine V_aload_n dX0_joinSquaresOver_50 0 rfl rfl ?_
          refine V_iload dX0_joinSquaresOver_51 rfl ?_
          refine V_iload dX0_joinSquaresOver_53 rfl ?_
          refine V_c_X0_99 rfl (by decide) (c_join (T := T) hM hs hw hK (by omega) (fun g => by have g2 := (hs.at hw.1).mp g; exact joA_seed (by omega) (by omega) g2.2 (by omega))) dX0_joinSquaresOver_55 hM.1 rfl rfl (Nat.le_of_ble_eq_true rfl) (Nat.le_of_eq (Nat.zero_add _)) (Nat.le_of_eq (Nat.zero_add _)) (fun v w sz q => ?_)
          try dsimp only at q
          obtain ⟨rfl, rfl, J1, l1, n1, hM1, hK1, hJ1, hJM⟩ := q
          refine V_iinc dX0_joinSquaresOver_58 rfl (by decide) ?_
          refine V_goto 44 dX0_joinSquaresOver_61 (by decide) ?_
          refine ihj (by omega) _ _ _ _ hM1 hK1 (fun y x g1 g2 g3 g4 g5 => hJM.1 _ (hn y x g1 g2 g3 g4 g5)) (fun x g1 g2 g3 => ?_)
          by_cases e : x = j
          · rw [e] at g3 ⊢; exact hJ1 g3
          · exact hJM.1 _ (hm x g1 (by omega) g3)
      exact L44 ((f % 16 - T.2.2.2.2.2.2)) (by omega) (by omega) _ _ _ _ hM hK hn (fun x g1 g2 => by omega)
  refine V_fg [true, true, true, true, true, false] ?_
  exact L30 ((f / 16 - T.2.2.2.2.2.2)) (by omega) (by omega) _ _ _ _ hM (JK.start hg9) (fun y x g1 g2 => by omega)
theorem adj_of {u c j : Int} (hu : 0 ≤ u) (hc : 0 ≤ c ∧ c < 160) (hj : 0 ≤ j ∧ j < 160) (hx : -(if u < 1 then 1 else u) ≤ j % 16 - c % 16 ∧ j % 16 - c % 16 ≤ if u < 1 then 1 else u) (hy : -(if u < 1 then 1 else u) ≤ j / 16 - c / 16 ∧ j / 16 - c / 16 ≤ if u < 1 then 1 else u) (hd : 0 < u ∨ j / 16 - c / 16 = 0 ∨ j % 16 - c % 16 = 0) (hn : j ≠ c) : adj u c j := by
  unfold adj
  by_cases e : u = 0
  · rw [if_pos e]
    unfold stp iabs
    omega
  · rw [if_neg e]
    unfold ifar iabs
    omega
theorem adj_bd {u c j : Int} (hu : 0 ≤ u) (h : adj u c j) : -(if u < 1 then 1 else u) ≤ j % 16 - c % 16 ∧ (j % 16 - c % 16 ≤ if u < 1 then 1 else u) ∧ -(if u < 1 then 1 else u) ≤ j / 16 - c / 16 ∧ (j / 16 - c / 16 ≤ if u < 1 then 1 else u) ∧ (0 < u ∨ j / 16 - c / 16 = 0 ∨ j % 16 - c % 16 = 0) := by
  unfold adj at h
  by_cases e : u = 0
  · rw [if_pos e] at h
    unfold stp iabs at h
    omega
  · rw [if_neg e] at h
    unfold ifar iabs at h
    omega
theorem joA_adj {a : Int → Prop} {f u n h x y : Int} {s : Int → Int} {J : Int → Bool} {l : Int → Int} (hK : JK a f u s J l n) (hh : 0 ≤ h ∧ h < n) (hl : 0 ≤ l h ∧ l h < 160) (hx : -(if u < 1 then 1 else u) ≤ x ∧ x ≤ if u < 1 then 1 else u) (hy : -(if u < 1 then 1 else u) ≤ y ∧ y ≤ if u < 1 then 1 else u) (hu : 0 ≤ u) (hd : 0 < u ∨ y = 0 ∨ x = 0) (hX : 0 ≤ l h % 16 + x ∧ l h % 16 + x ≤ 15) (hY : 0 ≤ l h / 16 + y ∧ l h / 16 + y ≤ 9) (hq : sqA a u (16 * (l h / 16 + y) + (l h % 16 + x))) : joA a f u (16 * (l h / 16 + y) + (l h % 16 + x)) := by
  have g := hK.2.1 h hh.1 hh.2
  by_cases e : x = 0 ∧ y = 0
  · rw [e.1, e.2, show 16 * (l h / 16 + 0) + (l h % 16 + 0) = l h by omega]
    exact g.2.2.2.2
  · refine joA_step g.2.2.2.2 g.1 g.2.1 (by omega) (by omega) hq ?_
    have e1 : (16 * (l h / 16 + y) + (l h % 16 + x)) % 16 = l h % 16 + x := by omega
    have e2 : (16 * (l h / 16 + y) + (l h % 16 + x)) / 16 = l h / 16 + y := by omega
    exact adj_of hu hl (by omega) (by rw [e1]; omega) (by rw [e2]; omega) (by rw [e1, e2]; omega) (by omega)
set_option maxRecDepth 100000 in
set_option maxHeartbeats 4000000 in
theorem c_joinAround {w0 w : WD} {sz φ : Nat} {T : FT} {f : Int} {J : Int → Bool} {l : Int → Int} {n : Int} {h : Int} (hM : FW w0 w φ (T.1, T.2.1, J, T.2.2.2.1, l, n, T.2.2.2.2.2.2)) (hs : Sds (fun k => T.1 k = true) T.2.1) (hw : 0 ≤ T.2.2.2.2.2.2 ∧ T.2.2.2.2.2.2 ≤ 5) (hK : JK (fun k => T.1 k = true) f T.2.2.2.2.2.2 T.2.1 J l n) (hh : 0 ≤ h ∧ h < n) (hlh : 0 ≤ l h ∧ l h < 160) : CT iX0_joinAround 0 0 [.ref φ, xI (l h)] w sz (fun v w' sz' => v = none ∧ sz' = sz ∧ ∃ J1 l1 n1, FW w0 w' φ (T.1, T.2.1, J1, T.2.2.2.1, l1, n1, T.2.2.2.2.2.2) ∧ JK (fun k => T.1 k = true) f T.2.2.2.2.2.2 T.2.1 J1 l1 n1 ∧ JM J l n J1 l1 n1 ∧ ∀ j, 0 ≤ j → j < 160 → sqA (fun k => T.1 k = true) T.2.2.2.2.2.2 j → adj T.2.2.2.2.2.2 (l h) j → J1 j = true) := by
  refine CT.ofZ (by decide) rfl (Nat.le_of_ble_eq_true rfl) (fun Z hE => ?_)
  refine V_iload_n dX0_joinAround_0 1 rfl rfl ?_
  refine V_bipush dX0_joinAround_1 (by decide) ?_
  refine V_iremN dX0_joinAround_3 (by omega) ?_
  refine V_istore_n dX0_joinAround_4 2 rfl (by decide) ?_
  refine V_iload_n dX0_joinAround_5 1 rfl rfl ?_
  refine V_bipush dX0_joinAround_6 (by decide) ?_
  refine V_idivN dX0_joinAround_8 (by omega) ?_
  refine V_istore_n dX0_joinAround_9 3 rfl (by decide) ?_
  refine V_aload_n dX0_joinAround_10 0 rfl rfl ?_
  refine F_g_width hM rfl dX0_joinAround_11 ?_
  try dsimp only
  refine V_iconst dX0_joinAround_14 ?_
  refine V_c_X0_103 rfl (by decide) (Nat.le_of_ble_eq_true rfl) dX0_joinAround_15 (by omega) ?_
  refine V_istore dX0_joinAround_18 (by decide) ?_
  generalize hu9 : (if T.2.2.2.2.2.2 < 1 then (1 : Int) else T.2.2.2.2.2.2) = u
  have hu8 : u = if T.2.2.2.2.2.2 < 1 then (1 : Int) else T.2.2.2.2.2.2 := hu9.symm
  have hu7 : 1 ≤ u ∧ u ≤ 5 := by omega
  refine V_iload dX0_joinAround_20 rfl ?_
  refine V_ineg dX0_joinAround_22 ?_
  refine V_istore dX0_joinAround_23 (by decide) ?_
  have L25 : ∀ i : Int, -u ≤ i → i ≤ u + 1 → ∀ (w : WD) (J1 : Int → Bool) (l1 : Int → Int) (n1 : Int), FW w0 w φ (T.1, T.2.1, J1, T.2.2.2.1, l1, n1, T.2.2.2.2.2.2) → JK (fun k => T.1 k = true) f T.2.2.2.2.2.2 T.2.1 J1 l1 n1 → JM J l n J1 l1 n1 → (∀ y x, -u ≤ y → y < i → -u ≤ x → x ≤ u → (0 < T.2.2.2.2.2.2 ∨ y = 0 ∨ x = 0) → T.2.2.2.2.2.2 < sdA T.2.1 (l h % 16 + x) (l h / 16 + y) → J1 (16 * (l h / 16 + y) + (l h % 16 + x)) = true) → V iX0_joinAround Z 0 0 w sz 25 [some (.ref φ), some (xI (l h)), some (xI (l h % 16)), some (xI (l h / 16)), some (xI u), some (xI i), none] [] := by
    refine up_ind ?_
    intro i hi0 hi1 ihi w J1 l1 n1 hM hK1 hJM hn
    refine V_iload dX0_joinAround_25 rfl ?_
    refine V_iload dX0_joinAround_27 rfl ?_
    refine V_icmp_gt 85 dX0_joinAround_29 (by decide) (by omega) (fun h29 => ?_) (fun h29 => ?_)
    · exact V_vret hE rfl dX0_joinAround_85 ⟨rfl, rfl, J1, l1, n1, hM, hK1, hJM, fun j g1 g2 g3 g4 => by have gb := adj_bd hw.1 g4; have := hn (j / 16 - l h / 16) (j % 16 - l h % 16) (by omega) (by omega) (by omega) (by omega) (by omega) ((hs.at hw.1).mpr ⟨by omega, by rw [show 16 * (l h / 16 + (j / 16 - l h / 16)) + (l h % 16 + (j % 16 - l h % 16)) = j by omega]; exact g3⟩); rw [show 16 * (l h / 16 + (j / 16 - l h / 16)) + (l h % 16 + (j % 16 - l h % 16)) = j by omega] at this; exact this⟩
    · refine V_iload dX0_joinAround_32 rfl ?_
      refine V_ineg dX0_joinAround_34 ?_
      refine V_istore dX0_joinAround_35 (by decide) ?_
      have L37 : ∀ j : Int, -u ≤ j → j ≤ u + 1 → ∀ (w : WD) (J1 : Int → Bool) (l1 : Int → Int) (n1 : Int), FW w0 w φ (T.1, T.2.1, J1, T.2.2.2.1, l1, n1, T.2.2.2.2.2.2) → JK (fun k => T.1 k = true) f T.2.2.2.2.2.2 T.2.1 J1 l1 n1 → JM J l n J1 l1 n1 → (∀ y x, -u ≤ y → y < i → -u ≤ x → x ≤ u → (0 < T.2.2.2.2.2.2 ∨ y = 0 ∨ x = 0) → T.2.2.2.2.2.2 < sdA T.2.1 (l h % 16 + x) (l h / 16 + y) → J1 (16 * (l h / 16 + y) + (l h % 16 + x)) = true) → (∀ x, -u ≤ x → x < j → (0 < T.2.2.2.2.2.2 ∨ i = 0 ∨ x = 0) → T.2.2.2.2.2.2 < sdA T.2.1 (l h % 16 + x) (l h / 16 + i) → J1 (16 * (l h / 16 + i) + (l h % 16 + x)) = true) → V iX0_joinAround Z 0 0 w sz 37 [some (.ref φ), some (xI (l h)), some (xI (l h % 16)), some (xI (l h / 16)), some (xI u), some (xI i), some (xI j)] [] := by
        refine up_ind ?_
        intro j hj0 hj1 ihj w J1 l1 n1 hM hK1 hJM hn hm
        refine V_iload dX0_joinAround_37 rfl ?_
        refine V_iload dX0_joinAround_39 rfl ?_
        refine V_icmp_gt 79 dX0_joinAround_41 (by decide) (by omega) (fun h41 => ?_) (fun h41 => ?_)
        · refine V_iinc dX0_joinAround_79 rfl (by decide) ?_
          refine V_goto 25 dX0_joinAround_82 (by decide) ?_
          refine V_fg [true, true, true, true, true, true, false] ?_
          refine ihi (by omega) _ _ _ _ hM hK1 hJM (fun y x g1 g2 g3 g4 => ?_)
          by_cases e : y = i
          · rw [e]; exact hm x g3 (by omega)
          · exact hn y x g1 (by omega) g3 g4
        · refine V_aload_n dX0_joinAround_44 0 rfl rfl ?_
          refine F_g_width hM rfl dX0_joinAround_45 ?_
          try dsimp only
          refine V_if_gt 61 dX0_joinAround_48 (by decide) (by omega) (fun h48 => ?_) (fun h48 => ?_)
          · refine V_aload_n dX0_joinAround_61 0 rfl rfl ?_
            refine V_iload_n dX0_joinAround_62 2 rfl rfl ?_
            refine V_iload dX0_joinAround_63 rfl ?_
            refine V_iadd dX0_joinAround_65 ?_
            refine V_iload_n dX0_joinAround_66 3 rfl rfl ?_
            refine V_iload dX0_joinAround_67 rfl ?_
            refine V_iadd dX0_joinAround_69 ?_
            refine V_c_X0_99 rfl (by decide) (c_join (T := T) hM hs hw hK1 (by omega) (fun g => by have g2 := (hs.at hw.1).mp g; exact joA_adj hK hh hlh (by omega) (by omega) hw.1 (by omega) (by omega) (by omega) g2.2)) dX0_joinAround_70 hM.1 rfl rfl (Nat.le_of_ble_eq_true rfl) (Nat.le_of_eq (Nat.zero_add _)) (Nat.le_of_eq (Nat.zero_add _)) (fun v w sz q => ?_)
            try dsimp only at q
            obtain ⟨rfl, rfl, J2, l2, n2, hM2, hK2, hJ2, hJN⟩ := q
            refine V_iinc dX0_joinAround_73 rfl (by decide) ?_
            refine V_goto 37 dX0_joinAround_76 (by decide) ?_
            refine ihj (by omega) _ _ _ _ hM2 hK2 (hJM.tr hJN) (fun y x g1 g2 g3 g4 g5 g6 => hJN.1 _ (hn y x g1 g2 g3 g4 g5 g6)) (fun x g1 g2 g3 g4 => ?_)
            by_cases e : x = j
            · rw [e] at g4 ⊢; exact hJ2 g4
            · exact hJN.1 _ (hm x g1 (by omega) g3 g4)
          · refine V_iload dX0_joinAround_51 rfl ?_
            refine V_if_eq 61 dX0_joinAround_53 (by decide) (by omega) (fun h53 => ?_) (fun h53 => ?_)
            · refine V_aload_n dX0_joinAround_61 0 rfl rfl ?_
              refine V_iload_n dX0_joinAround_62 2 rfl rfl ?_
              refine V_iload dX0_joinAround_63 rfl ?_
              refine V_iadd dX0_joinAround_65 ?_
              refine V_iload_n dX0_joinAround_66 3 rfl rfl ?_
              refine V_iload dX0_joinAround_67 rfl ?_
              refine V_iadd dX0_joinAround_69 ?_
              refine V_c_X0_99 rfl (by decide) (c_join (T := T) hM hs hw hK1 (by omega) (fun g => by have g2 := (hs.at hw.1).mp g; exact joA_adj hK hh hlh (by omega) (by omega) hw.1 (by omega) (by omega) (by omega) g2.2)) dX0_joinAround_70 hM.1 rfl rfl (Nat.le_of_ble_eq_true rfl) (Nat.le_of_eq (Nat.zero_add _)) (Nat.le_of_eq (Nat.zero_add _)) (fun v w sz q => ?_)
              try dsimp only at q
              obtain ⟨rfl, rfl, J2, l2, n2, hM2, hK2, hJ2, hJN⟩ := q
              refine V_iinc dX0_joinAround_73 rfl (by decide) ?_
              refine V_goto 37 dX0_joinAround_76 (by decide) ?_
              refine ihj (by omega) _ _ _ _ hM2 hK2 (hJM.tr hJN) (fun y x g1 g2 g3 g4 g5 g6 => hJN.1 _ (hn y x g1 g2 g3 g4 g5 g6)) (fun x g1 g2 g3 g4 => ?_)
              by_cases e : x = j
              · rw [e] at g4 ⊢; exact hJ2 g4
              · exact hJN.1 _ (hm x g1 (by omega) g3 g4)
            · refine V_iload dX0_joinAround_56 rfl ?_
              refine V_if_ne 73 dX0_joinAround_58 (by decide) (by omega) (fun h58 => ?_) (fun h58 => ?_)
              · refine V_iinc dX0_joinAround_73 rfl (by decide) ?_
                refine V_goto 37 dX0_joinAround_76 (by decide) ?_
                refine ihj (by omega) _ _ _ _ hM hK1 hJM hn (fun x g1 g2 g3 g4 => ?_)
                by_cases e : x = j
                · omega
                · exact hm x g1 (by omega) g3 g4
              · refine V_aload_n dX0_joinAround_61 0 rfl rfl ?_
                refine V_iload_n dX0_joinAround_62 2 rfl rfl ?_
                refine V_iload dX0_joinAround_63 rfl ?_
                refine V_iadd dX0_joinAround_65 ?_
                refine V_iload_n dX0_joinAround_66 3 rfl rfl ?_
                refine V_iload dX0_joinAround_67 rfl ?_
                refine V_iadd dX0_joinAround_69 ?_
                refine V_c_X0_99 rfl (by decide) (c_join (T := T) hM hs hw hK1 (by omega) (fun g => by have g2 := (hs.at hw.1).mp g; exact joA_adj hK hh hlh (by omega) (by omega) hw.1 (by omega) (by omega) (by omega) g2.2)) dX0_joinAround_70 hM.1 rfl rfl (Nat.le_of_ble_eq_true rfl) (Nat.le_of_eq (Nat.zero_add _)) (Nat.le_of_eq (Nat.zero_add _)) (fun v w sz q => ?_)
                try dsimp only at q
                obtain ⟨rfl, rfl, J2, l2, n2, hM2, hK2, hJ2, hJN⟩ := q
                refine V_iinc dX0_joinAround_73 rfl (by decide) ?_
                refine V_goto 37 dX0_joinAround_76 (by decide) ?_
                refine ihj (by omega) _ _ _ _ hM2 hK2 (hJM.tr hJN) (fun y x g1 g2 g3 g4 g5 g6 => hJN.1 _ (hn y x g1 g2 g3 g4 g5 g6)) (fun x g1 g2 g3 g4 => ?_)
                by_cases e : x = j
                · rw [e] at g4 ⊢; exact hJ2 g4
                · exact hJN.1 _ (hm x g1 (by omega) g3 g4)
      exact L37 ((-u)) (by omega) (by omega) _ _ _ _ hM hK1 hJM hn (fun x g1 g2 => by omega)
  refine V_fg [true, true, true, true, true, true, false] ?_
  exact L25 ((-u)) (by omega) (by omega) _ _ _ _ hM hK JM.rf (fun y x g1 g2 => by omega)
