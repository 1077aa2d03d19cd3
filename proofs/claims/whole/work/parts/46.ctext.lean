/-! the class: texts -/
theorem plc_t {t : Bool × Int × Int} (h : t.1 = true) (h0 : 0 ≤ t.2.2) : -2 ≤ plc t := by
  unfold plc
  rw [if_pos h]
  omega
theorem plc_f {t : Bool × Int × Int} (h : t.1 = false) : plc t = -3 := by
  unfold plc
  rw [h]
  rfl
theorem ird_bb (tx : Int → Int) (k : Int) : (0 ≤ (ird tx k).2.1 ∧ (ird tx k).2.1 ≤ 2) ∧ 0 ≤ (ird tx k).2.2 ∧ (ird tx k).2.2 ≤ 16 := nrd_b k.toNat
theorem plc_b (tx : Int → Int) (k : Int) : -3 ≤ plc (ird tx k) ∧ plc (ird tx k) ≤ 16 := by
  have hb := ird_bb tx k
  unfold plc
  split
  · omega
  · omega
theorem ipa_st {tx : Int → Int} {k : Int} (hk : 0 ≤ k) : ipa (plc (ird tx k)) (tx k) = plc (ird tx (k + 1)) := by
  cases e : (ird tx k).1 with
  | false =>
    rw [plc_f e, plc_f (ird_f hk (by omega) e)]
    unfold ipa
    omega
  | true =>
    obtain ⟨s, h, e2⟩ : ∃ s h, ird tx k = (true, s, h) := ⟨_, _, Prod.ext e rfl⟩
    have hb := ird_b e2
    rw [ird_s hk e2, e2]
    exact ipa_itk hb.1 hb.2
theorem plc_3 {tx : Int → Int} {k : Int} : plc (ird tx k) = -3 ↔ (ird tx k).1 = false := by
  have hb := ird_bb tx k
  constructor
  · intro h
    cases e : (ird tx k).1 with
    | false => rfl
    | true => have := plc_t e hb.2.1; omega
  · exact plc_f
theorem plc_ok {tx : Int → Int} {n : Int} : 0 < plc (ird tx n) ↔ ldOk tx n := by
  have hb := ird_bb tx n
  unfold ldOk
  cases e : (ird tx n).1 with
  | false =>
    rw [plc_f e]
    exact ⟨fun h => by omega, fun h => (Bool.false_ne_true h.1).elim⟩
  | true =>
    unfold plc
    rw [if_pos e]
    constructor
    · intro h
      exact ⟨rfl, by omega, by omega⟩
    · rintro ⟨-, h1, h2⟩
      omega
set_option maxRecDepth 100000 in
set_option maxHeartbeats 4000000 in
theorem c_add {w0 w : WD} {sz τ : Nat} {T : XT} {c : Int} (hM : XW w0 w τ T) (hn : 0 ≤ T.2 ∧ T.2 < 60) : CT iX4_add 0 0 [.ref τ, xI c] w sz (fun v w' sz' => v = none ∧ sz' = sz ∧ XW w0 w' τ (iu T.1 T.2 c, T.2 + 1)) := by
  refine CT.ofZ (by decide) rfl (Nat.le_of_ble_eq_true rfl) (fun Z hE => ?_)
  refine V_aload_n dX4_add_0 0 rfl rfl ?_
  refine X_g_length hM rfl dX4_add_1 ?_
  try dsimp only
  refine V_bipush dX4_add_4 (by decide) ?_
  refine V_icmp_ge 29 dX4_add_6 (by decide) (by omega) (fun h6 => ?_) (fun h6 => ?_)
  · exact absurd h6 (by omega)
  · refine V_aload_n dX4_add_9 0 rfl rfl ?_
    refine X_g_codes hM rfl dX4_add_10 ?_
    refine V_aload_n dX4_add_13 0 rfl rfl ?_
    refine X_g_length hM rfl dX4_add_14 ?_
    try dsimp only
    refine V_iload_n dX4_add_17 1 rfl rfl ?_
    refine X_s_codes hM dX4_add_18 (by omega) (fun w hM => ?_)
    try dsimp only at hM
    refine V_aload_n dX4_add_19 0 rfl rfl ?_
    refine V_dup dX4_add_20 rfl ?_
    refine X_g_length hM rfl dX4_add_21 ?_
    try dsimp only
    refine V_iconst dX4_add_24 ?_
    refine V_iadd dX4_add_25 ?_
    refine X_p_length hM rfl dX4_add_26 (fun w hM => ?_)
    try dsimp only at hM
    exact V_vret hE rfl dX4_add_29 ⟨rfl, rfl, hM⟩
set_option maxRecDepth 100000 in
set_option maxHeartbeats 4000000 in
theorem c_firstWrong {w0 w : WD} {sz τ : Nat} {T : XT} {tx : Int → Int} (hM : XW w0 w τ T) (hn : 0 ≤ T.2 ∧ T.2 ≤ 60) (hx : ∀ j, 0 ≤ j → j < T.2 → T.1 j = tx j) (hc : ∀ j, 0 ≤ j → j < T.2 → 33 ≤ tx j ∧ tx j ≤ 126) : CT iX4_firstWrong 0 0 [.ref τ] w sz (fun v w' sz' => w' = w ∧ sz' = sz ∧ ∃ r, v = some (xI r) ∧ ∃ s h, rdx tx T.2 r s h) := by
  refine CT.ofZ (by decide) rfl (Nat.le_of_ble_eq_true rfl) (fun Z hE => ?_)
  refine V_iconst dX4_firstWrong_0 ?_
  refine V_istore_n dX4_firstWrong_1 1 rfl (by decide) ?_
  refine V_iconst dX4_firstWrong_2 ?_
  refine V_istore_n dX4_firstWrong_3 2 rfl (by decide) ?_
  have L4 : ∀ k : Int, 0 ≤ k → k ≤ T.2 → (ird tx k).1 = true → V iX4_firstWrong Z 0 0 w sz 4 [some (.ref τ), some (xI (plc (ird tx k))), some (xI k)] [] := by
    refine up_ind ?_
    intro k hk0 hk1 ih ht
    have hpb := plc_b tx k
    have hpb2 := plc_b tx (k + 1)
    refine V_iload_n dX4_firstWrong_4 2 rfl rfl ?_
    refine V_aload_n dX4_firstWrong_5 0 rfl rfl ?_
    refine X_g_length hM rfl dX4_firstWrong_6 ?_
    try dsimp only
    refine V_icmp_ge 43 dX4_firstWrong_9 (by decide) (by omega) (fun h9 => ?_) (fun h9 => ?_)
    · refine V_aload_n dX4_firstWrong_43 0 rfl rfl ?_
      refine X_g_length hM rfl dX4_firstWrong_44 ?_
      try dsimp only
      exact V_iret hE rfl dX4_firstWrong_47 ⟨rfl, rfl, T.2, rfl, _, _, ⟨hn.1, Int.le_refl _⟩, by rw [show T.2 = k by omega]; exact ht, Or.inl ⟨rfl, Prod.ext (by rw [show T.2 = k by omega]; exact ht) rfl⟩⟩
    · refine V_iload_n dX4_firstWrong_12 2 rfl rfl ?_
      refine V_bipush dX4_firstWrong_13 (by decide) ?_
      refine V_icmp_ge 43 dX4_firstWrong_15 (by decide) (by omega) (fun h15 => ?_) (fun h15 => ?_)
      · refine V_aload_n dX4_firstWrong_43 0 rfl rfl ?_
        refine X_g_length hM rfl dX4_firstWrong_44 ?_
        try dsimp only
        exact V_iret hE rfl dX4_firstWrong_47 ⟨rfl, rfl, T.2, rfl, _, _, ⟨hn.1, Int.le_refl _⟩, by rw [show T.2 = k by omega]; exact ht, Or.inl ⟨rfl, Prod.ext (by rw [show T.2 = k by omega]; exact ht) rfl⟩⟩
      · refine V_iload_n dX4_firstWrong_18 1 rfl rfl ?_
        refine V_aload_n dX4_firstWrong_19 0 rfl rfl ?_
        refine X_g_codes hM rfl dX4_firstWrong_20 ?_
        refine V_iload_n dX4_firstWrong_23 2 rfl rfl ?_
        refine X_l_codes hM dX4_firstWrong_24 (by omega) ?_
        rw [hx k hk0 (by omega)]
        try dsimp only
        refine V_c_X4_23 rfl (by decide) (c_placeAfter (by omega) (hc k hk0 (by omega))) dX4_firstWrong_25 rfl rfl (Nat.le_of_ble_eq_true rfl) (Nat.le_of_eq (Nat.zero_add _)) (Nat.le_of_eq (Nat.zero_add _)) (fun v w sz q => ?_)
        try dsimp only at q
        obtain ⟨rfl, rfl, rfl⟩ := q
        rw [ipa_st hk0]
        refine V_istore_n dX4_firstWrong_28 1 rfl (by decide) ?_
        refine V_iload_n dX4_firstWrong_29 1 rfl rfl ?_
        refine V_bipush dX4_firstWrong_30 (by decide) ?_
        refine V_icmp_ne 37 dX4_firstWrong_32 (by decide) (by omega) (fun h32 => ?_) (fun h32 => ?_)
        · refine V_iinc dX4_firstWrong_37 rfl (by decide) ?_
          refine V_goto 4 dX4_firstWrong_40 (by decide) ?_
          refine ih (by omega) ?_
          cases e : (ird tx (k + 1)).1 with
          | true => rfl
          | false => exact absurd (plc_3.mpr e) h32
        · refine V_iload_n dX4_firstWrong_35 2 rfl rfl ?_
          exact V_iret hE rfl dX4_firstWrong_36 ⟨rfl, rfl, k, rfl, 0, 0, ⟨hk0, by omega⟩, ht, Or.inr ⟨by omega, plc_3.mp h32⟩⟩
  exact L4 (0) (by omega) (by omega) rfl
set_option maxRecDepth 100000 in
set_option maxHeartbeats 4000000 in
theorem c_isComplete {w0 w : WD} {sz τ : Nat} {T : XT} {tx : Int → Int} (hM : XW w0 w τ T) (hn : 0 ≤ T.2 ∧ T.2 ≤ 60) (hx : ∀ j, 0 ≤ j → j < T.2 → T.1 j = tx j) (hc : ∀ j, 0 ≤ j → j < T.2 → 33 ≤ tx j ∧ tx j ≤ 126) : CT iX4_isComplete 0 0 [.ref τ] w sz (fun v w' sz' => w' = w ∧ sz' = sz ∧ ∃ b, v = some (xB b) ∧ (b = true ↔ ldOk tx T.2)) := by
  refine CT.ofZ (by decide) rfl (Nat.le_of_ble_eq_true rfl) (fun Z hE => ?_)
  refine V_iconst dX4_isComplete_0 ?_
  refine V_istore_n dX4_isComplete_1 1 rfl (by decide) ?_
  refine V_iconst dX4_isComplete_2 ?_
  refine V_istore_n dX4_isComplete_3 2 rfl (by decide) ?_
  have L4 : ∀ k : Int, 0 ≤ k → k ≤ T.2 → V iX4_isComplete Z 0 0 w sz 4 [some (.ref τ), some (xI (plc (ird tx k))), some (xI k)] [] := by
    refine up_ind ?_
    intro k hk0 hk1 ih
    have hpb := plc_b tx k
    have hpb2 := plc_b tx (k + 1)
    refine V_iload_n dX4_isComplete_4 2 rfl rfl ?_
    refine V_aload_n dX4_isComplete_5 0 rfl rfl ?_
    refine X_g_length hM rfl dX4_isComplete_6 ?_
    try dsimp only
    refine V_icmp_ge 35 dX4_isComplete_9 (by decide) (by omega) (fun h9 => ?_) (fun h9 => ?_)
    · refine V_iload_n dX4_isComplete_35 1 rfl rfl ?_
      refine V_if_le 43 dX4_isComplete_36 (by decide) (by omega) (fun h36 => ?_) (fun h36 => ?_)
      · refine V_iconst dX4_isComplete_43 ?_
        exact V_zret (b := false) hE rfl dX4_isComplete_44 ⟨rfl, rfl, false, rfl, fun g => (Bool.false_ne_true g).elim, fun g => absurd (plc_ok.mpr g) (by rw [show T.2 = k by omega]; omega)⟩
      · refine V_iconst dX4_isComplete_39 ?_
        refine V_goto 44 dX4_isComplete_40 (by decide) ?_
        exact V_zret (b := true) hE rfl dX4_isComplete_44 ⟨rfl, rfl, true, rfl, fun _ => plc_ok.mp (by rw [show T.2 = k by omega]; exact h36), fun _ => rfl⟩
    · refine V_iload_n dX4_isComplete_12 2 rfl rfl ?_
      refine V_bipush dX4_isComplete_13 (by decide) ?_
      refine V_icmp_ge 35 dX4_isComplete_15 (by decide) (by omega) (fun h15 => ?_) (fun h15 => ?_)
      · refine V_iload_n dX4_isComplete_35 1 rfl rfl ?_
        refine V_if_le 43 dX4_isComplete_36 (by decide) (by omega) (fun h36 => ?_) (fun h36 => ?_)
        · refine V_iconst dX4_isComplete_43 ?_
          exact V_zret (b := false) hE rfl dX4_isComplete_44 ⟨rfl, rfl, false, rfl, fun g => (Bool.false_ne_true g).elim, fun g => absurd (plc_ok.mpr g) (by rw [show T.2 = k by omega]; omega)⟩
        · refine V_iconst dX4_isComplete_39 ?_
          refine V_goto 44 dX4_isComplete_40 (by decide) ?_
          exact V_zret (b := true) hE rfl dX4_isComplete_44 ⟨rfl, rfl, true, rfl, fun _ => plc_ok.mp (by rw [show T.2 = k by omega]; exact h36), fun _ => rfl⟩
      · refine V_iload_n dX4_isComplete_18 1 rfl rfl ?_
        refine V_aload_n dX4_isComplete_19 0 rfl rfl ?_
        refine X_g_codes hM rfl dX4_isComplete_20 ?_
        refine V_iload_n dX4_isComplete_23 2 rfl rfl ?_
        refine X_l_codes hM dX4_isComplete_24 (by omega) ?_
        rw [hx k hk0 (by omega)]
        try dsimp only
        refine V_c_X4_23 rfl (by decide) (c_placeAfter (by omega) (hc k hk0 (by omega))) dX4_isComplete_25 rfl rfl (Nat.le_of_ble_eq_true rfl) (Nat.le_of_eq (Nat.zero_add _)) (Nat.le_of_eq (Nat.zero_add _)) (fun v w sz q => ?_)
        try dsimp only at q
        obtain ⟨rfl, rfl, rfl⟩ := q
        rw [ipa_st hk0]
        refine V_istore_n dX4_isComplete_28 1 rfl (by decide) ?_
        refine V_iinc dX4_isComplete_29 rfl (by decide) ?_
        refine V_goto 4 dX4_isComplete_32 (by decide) ?_
        exact ih (by omega)
  exact L4 (0) (by omega) (by omega)
/-- one sign of a text written into a picture -/
theorem wr_step {z tx f : Int → Int} {k n s h r c r9 p : Int} (hz : ∀ j, 0 ≤ j → j < 160 → 0 ≤ z j ∧ z j ≤ 99) (hk : 0 ≤ k) (hkn : k < n) (ok : (ird tx n).1 = true) (e1 : ird tx k = (true, s, h)) (e2 : ild z tx k = (r, c, f)) (hr : s ≠ 0 → r9 = r) (hp : p = plc (true, s, h)) :
    ∃ s' h' r' c', ird tx (k + 1) = (true, s', h') ∧ ild z tx (k + 1) = (r', c', if (0 ≤ p ∧ p < 16) ∧ dig (tx k) then iu f (16 * (if p = -1 ∧ dig (tx k) then tx k - 48 else r9) + p) (11 * (tx k - 48)) else f) ∧ (s' ≠ 0 → (if p = -1 ∧ dig (tx k) then tx k - 48 else r9) = r') ∧ ipa p (tx k) = plc (true, s', h') ∧ ((0 ≤ p ∧ p < 16) → 0 ≤ r9 ∧ r9 ≤ 9) := by
  have hb := ird_b e1
  have hi := ild_inv hz hk e1 e2
  obtain ⟨-, -, hi⟩ := hi
  have e3 := ird_s hk e1
  have e4 := ild_s hk e2
  obtain ⟨s', h', e5⟩ := ird_e (k := k + 1) (n := n) (by omega) (by omega) ok
  have e6 := ipa_itk (c := tx k) hb.1 hb.2
  rw [← hp, ← e3, e5] at e6
  rw [e5] at e3
  rcases (show s = 0 ∨ s = 1 ∨ s = 2 by omega) with rfl | rfl | rfl
  · have hp2 : p = -1 := hp
    have hd : dig (tx k) := by
      unfold itk at e3
      rw [if_pos (by omega)] at e3
      by_cases q : dig (tx k)
      · exact q
      · rw [if_neg (by omega)] at e3
        cases e3
    have g : k = 0 ∨ tx (k - 1) = 47 := by omega
    rw [if_pos g] at e4
    refine ⟨s', h', tx k - 48, -1, e5, ?_, fun _ => if_pos ⟨hp2, hd⟩, e6, fun q => by omega⟩
    rw [e4, if_neg (by omega)]
  · have hp2 : p = -2 := hp
    have g : ¬ (k = 0 ∨ tx (k - 1) = 47) := by omega
    rw [if_neg g, if_neg (by omega)] at e4
    refine ⟨s', h', r, c + 1, e5, ?_, fun _ => by rw [if_neg (by omega)]; exact hr (by omega), e6, fun q => by omega⟩
    rw [e4, if_neg (by omega)]
  · have hp2 : p = h := hp
    have g : ¬ (k = 0 ∨ tx (k - 1) = 47) := by omega
    rw [if_neg g] at e4
    have hr9 := hr (by omega)
    refine ⟨s', h', r, c + 1, e5, ?_, fun _ => by rw [if_neg (by omega)]; exact hr9, e6, fun q => by omega⟩
    rw [e4, if_neg (show ¬ (p = -1 ∧ dig (tx k)) by omega), hr9, hp2]
    by_cases q : dig (tx k)
    · have hh : h < 16 := by
        unfold itk at e3
        rw [if_neg (by omega)] at e3
        by_cases g2 : h < 16
        · exact g2
        · rw [if_neg (by omega), if_neg (by omega)] at e3
          cases e3
      rw [if_pos (by omega), if_pos (by omega), show c = h by omega]
    · rw [if_neg (by omega), if_neg (by omega)]
set_option maxRecDepth 100000 in
set_option maxHeartbeats 4000000 in
theorem c_writeInto {w0 w : WD} {sz τ : Nat} {T : XT} {tx : Int → Int} {a9 : Nat} {z : Int → Int} (hM : XW w0 w τ T) (hn : 0 ≤ T.2 ∧ T.2 ≤ 60) (hx : ∀ j, 0 ≤ j → j < T.2 → T.1 j = tx j) (hc : ∀ j, 0 ≤ j → j < T.2 → 33 ≤ tx j ∧ tx j ≤ 126) (ha : a9 < τ ∨ τ + 2 ≤ a9) (hv : w a9 = some (xIA 160 z)) (hz : ∀ j, 0 ≤ j → j < 160 → 0 ≤ z j ∧ z j ≤ 99) (ok : (ird tx T.2).1 = true) : CT iX4_writeInto 0 0 [.ref τ, .ref a9] w sz (fun v w' sz' => v = none ∧ sz' = sz ∧ UA w w' a9 (xIA 160 (ild z tx T.2).2.2)) := by
  refine CT.ofZ (by decide) rfl (Nat.le_of_ble_eq_true rfl) (fun Z hE => ?_)
  refine V_iconst dX4_writeInto_0 ?_
  refine V_istore_n dX4_writeInto_1 2 rfl (by decide) ?_
  refine V_iconst dX4_writeInto_2 ?_
  refine V_istore_n dX4_writeInto_3 3 rfl (by decide) ?_
  refine V_iconst dX4_writeInto_4 ?_
  refine V_istore dX4_writeInto_5 (by decide) ?_
  have L7 : ∀ k : Int, 0 ≤ k → k ≤ T.2 → ∀ (w' : WD) (s h r c : Int) (f : Int → Int) (r9 p : Int), UA w w' a9 (xIA 160 f) → ird tx k = (true, s, h) → ild z tx k = (r, c, f) → (s ≠ 0 → r9 = r) → p = plc (true, s, h) → V iX4_writeInto Z 0 0 w' sz 7 [some (.ref τ), some (.ref a9), some (xI p), some (xI r9), some (xI k), none] [] := by
    refine up_ind ?_
    intro k hk0 hk1 ih w' s h r c f r9 p hu e1 e2 hr hp
    have hpb : -2 ≤ p ∧ p ≤ 16 := by
      have := ird_b e1
      have g1 := plc_b tx k
      have g2 := plc_t (t := (true, s, h)) rfl (by exact this.2.1)
      rw [e1, ← hp] at g1
      omega
    have hM9 := XW.mv hM (fun j g1 g2 => hu.2 j (by omega))
    refine V_iload dX4_writeInto_7 rfl ?_
    refine V_aload_n dX4_writeInto_9 0 rfl rfl ?_
    refine X_g_length hM9 rfl dX4_writeInto_10 ?_
    try dsimp only
    refine V_icmp_ge 97 dX4_writeInto_13 (by decide) (by omega) (fun h13 => ?_) (fun h13 => ?_)
    · exact V_vret hE rfl dX4_writeInto_97 ⟨rfl, rfl, by rw [show T.2 = k by omega, e2]; exact hu⟩
    · refine V_iload dX4_writeInto_16 rfl ?_
      refine V_bipush dX4_writeInto_18 (by decide) ?_
      refine V_icmp_ge 97 dX4_writeInto_20 (by decide) (by omega) (fun h20 => ?_) (fun h20 => ?_)
      · exact V_vret hE rfl dX4_writeInto_97 ⟨rfl, rfl, by rw [show T.2 = k by omega, e2]; exact hu⟩
      · refine V_aload_n dX4_writeInto_23 0 rfl rfl ?_
        refine X_g_codes hM9 rfl dX4_writeInto_24 ?_
        refine V_iload dX4_writeInto_27 rfl ?_
        refine X_l_codes hM9 dX4_writeInto_29 (by omega) ?_
        rw [hx k hk0 (by omega)]
        have hck := hc k hk0 (by omega)
        have hstep := wr_step hz hk0 (by omega) ok e1 e2 hr hp
        try dsimp only
        refine V_istore dX4_writeInto_30 (by decide) ?_
        refine V_iload_n dX4_writeInto_32 2 rfl rfl ?_
        refine V_iconst dX4_writeInto_33 ?_
        refine V_icmp_ne 51 dX4_writeInto_34 (by decide) (by omega) (fun h34 => ?_) (fun h34 => ?_)
        · refine V_iload_n dX4_writeInto_51 2 rfl rfl ?_
          refine V_if_lt 84 dX4_writeInto_52 (by decide) (by omega) (fun h52 => ?_) (fun h52 => ?_)
          · refine V_iload_n dX4_writeInto_84 2 rfl rfl ?_
            refine V_iload dX4_writeInto_85 rfl ?_
            refine V_c_X4_23 rfl (by decide) (c_placeAfter (by omega) hck) dX4_writeInto_87 rfl rfl (Nat.le_of_ble_eq_true rfl) (Nat.le_of_eq (Nat.zero_add _)) (Nat.le_of_eq (Nat.zero_add _)) (fun v w sz q => ?_)
            try dsimp only at q
            obtain ⟨rfl, rfl, rfl⟩ := q
            refine V_istore_n dX4_writeInto_90 2 rfl (by decide) ?_
            refine V_iinc dX4_writeInto_91 rfl (by decide) ?_
            refine V_goto 7 dX4_writeInto_94 (by decide) ?_
            refine V_fg [true, true, true, true, true, false] ?_
            obtain ⟨s1, h1, r1, c1, g1, g2, g3, g4, -⟩ := hstep
            rw [show (if p = -1 ∧ dig (tx k) then tx k - 48 else r9) = r9 from if_neg (by omega)] at g2 g3
            rw [if_neg (by omega)] at g2
            exact ih (by omega) _ _ _ _ _ _ _ _ hu g1 g2 g3 g4
          · refine V_iload_n dX4_writeInto_55 2 rfl rfl ?_
            refine V_bipush dX4_writeInto_56 (by decide) ?_
            refine V_icmp_ge 84 dX4_writeInto_58 (by decide) (by omega) (fun h58 => ?_) (fun h58 => ?_)
            · refine V_iload_n dX4_writeInto_84 2 rfl rfl ?_
              refine V_iload dX4_writeInto_85 rfl ?_
              refine V_c_X4_23 rfl (by decide) (c_placeAfter (by omega) hck) dX4_writeInto_87 rfl rfl (Nat.le_of_ble_eq_true rfl) (Nat.le_of_eq (Nat.zero_add _)) (Nat.le_of_eq (Nat.zero_add _)) (fun v w sz q => ?_)
              try dsimp only at q
              obtain ⟨rfl, rfl, rfl⟩ := q
              refine V_istore_n dX4_writeInto_90 2 rfl (by decide) ?_
              refine V_iinc dX4_writeInto_91 rfl (by decide) ?_
              refine V_goto 7 dX4_writeInto_94 (by decide) ?_
              refine V_fg [true, true, true, true, true, false] ?_
              obtain ⟨s1, h1, r1, c1, g1, g2, g3, g4, -⟩ := hstep
              rw [show (if p = -1 ∧ dig (tx k) then tx k - 48 else r9) = r9 from if_neg (by omega)] at g2 g3
              rw [if_neg (by omega)] at g2
              exact ih (by omega) _ _ _ _ _ _ _ _ hu g1 g2 g3 g4
            · refine V_iload dX4_writeInto_61 rfl ?_
              refine V_c_X4_19 rfl (by decide) (c_isDigit (by omega)) dX4_writeInto_63 rfl rfl (Nat.le_of_ble_eq_true rfl) (Nat.le_of_eq (Nat.zero_add _)) (Nat.le_of_eq (Nat.zero_add _)) (fun v w sz q => ?_)
              try dsimp only at q
              obtain ⟨rfl, rfl, rfl⟩ := q
              refine V_ifeqB 84 dX4_writeInto_66 (by decide) (fun h66 => ?_) (fun h66 => ?_)
              · try simp only [decide_eq_true_eq, decide_eq_false_iff_not, Bool.not_eq_true] at h66
                refine V_iload_n dX4_writeInto_84 2 rfl rfl ?_
                refine V_iload dX4_writeInto_85 rfl ?_
                refine V_c_X4_23 rfl (by decide) (c_placeAfter (by omega) hck) dX4_writeInto_87 rfl rfl (Nat.le_of_ble_eq_true rfl) (Nat.le_of_eq (Nat.zero_add _)) (Nat.le_of_eq (Nat.zero_add _)) (fun v w sz q => ?_)
                try dsimp only at q
                obtain ⟨rfl, rfl, rfl⟩ := q
                refine V_istore_n dX4_writeInto_90 2 rfl (by decide) ?_
                refine V_iinc dX4_writeInto_91 rfl (by decide) ?_
                refine V_goto 7 dX4_writeInto_94 (by decide) ?_
                refine V_fg [true, true, true, true, true, false] ?_
                obtain ⟨s1, h1, r1, c1, g1, g2, g3, g4, -⟩ := hstep
                rw [show (if p = -1 ∧ dig (tx k) then tx k - 48 else r9) = r9 from if_neg (by omega)] at g2 g3
                rw [if_neg (by omega)] at g2
                exact ih (by omega) _ _ _ _ _ _ _ _ hu g1 g2 g3 g4
              · try simp only [decide_eq_true_eq, decide_eq_false_iff_not, Bool.not_eq_true] at h66
                refine V_aload_n dX4_writeInto_69 1 rfl rfl ?_
                refine V_iload_n dX4_writeInto_70 2 rfl rfl ?_
                refine V_iload_n dX4_writeInto_71 3 rfl rfl ?_
                refine V_c_X4_27 rfl (by decide) (c_cellAt) dX4_writeInto_72 rfl rfl (Nat.le_of_ble_eq_true rfl) (Nat.le_of_eq (Nat.zero_add _)) (Nat.le_of_eq (Nat.zero_add _)) (fun v w sz q => ?_)
                try dsimp only at q
                obtain ⟨rfl, rfl, rfl⟩ := q
                refine V_bipush dX4_writeInto_75 (by decide) ?_
                refine V_iload dX4_writeInto_77 rfl ?_
                refine V_bipush dX4_writeInto_79 (by decide) ?_
                refine V_isub dX4_writeInto_81 ?_
                refine V_imul dX4_writeInto_82 ?_
                refine V_iast dX4_writeInto_83 hu.1 (by obtain ⟨-, -, -, -, -, -, -, -, g⟩ := hstep; have := g ⟨h52, by omega⟩; omega) ?_
                try dsimp only at hM
                refine V_iload_n dX4_writeInto_84 2 rfl rfl ?_
                refine V_iload dX4_writeInto_85 rfl ?_
                refine V_c_X4_23 rfl (by decide) (c_placeAfter (by omega) hck) dX4_writeInto_87 rfl rfl (Nat.le_of_ble_eq_true rfl) (Nat.le_of_eq (Nat.zero_add _)) (Nat.le_of_eq (Nat.zero_add _)) (fun v w sz q => ?_)
                try dsimp only at q
                obtain ⟨rfl, rfl, rfl⟩ := q
                refine V_istore_n dX4_writeInto_90 2 rfl (by decide) ?_
                refine V_iinc dX4_writeInto_91 rfl (by decide) ?_
                refine V_goto 7 dX4_writeInto_94 (by decide) ?_
                refine V_fg [true, true, true, true, true, false] ?_
                obtain ⟨s1, h1, r1, c1, g1, g2, g3, g4, -⟩ := hstep
                rw [show (if p = -1 ∧ dig (tx k) then tx k - 48 else r9) = r9 from if_neg (by omega)] at g2 g3
                rw [if_pos ⟨⟨h52, by omega⟩, h66⟩] at g2
                exact ih (by omega) _ _ _ _ _ _ _ _ (UA.u hu) g1 g2 g3 g4
        · refine V_iload dX4_writeInto_37 rfl ?_
          refine V_c_X4_19 rfl (by decide) (c_isDigit (by omega)) dX4_writeInto_39 rfl rfl (Nat.le_of_ble_eq_true rfl) (Nat.le_of_eq (Nat.zero_add _)) (Nat.le_of_eq (Nat.zero_add _)) (fun v w sz q => ?_)
          try dsimp only at q
          obtain ⟨rfl, rfl, rfl⟩ := q
          refine V_ifeqB 51 dX4_writeInto_42 (by decide) (fun h42 => ?_) (fun h42 => ?_)
          · try simp only [decide_eq_true_eq, decide_eq_false_iff_not, Bool.not_eq_true] at h42
            refine V_iload_n dX4_writeInto_51 2 rfl rfl ?_
            refine V_if_lt 84 dX4_writeInto_52 (by decide) (by omega) (fun h52 => ?_) (fun h52 => ?_)
            · refine V_iload_n dX4_writeInto_84 2 rfl rfl ?_
              refine V_iload dX4_writeInto_85 rfl ?_
              refine V_c_X4_23 rfl (by decide) (c_placeAfter (by omega) hck) dX4_writeInto_87 rfl rfl (Nat.le_of_ble_eq_true rfl) (Nat.le_of_eq (Nat.zero_add _)) (Nat.le_of_eq (Nat.zero_add _)) (fun v w sz q => ?_)
              try dsimp only at q
              obtain ⟨rfl, rfl, rfl⟩ := q
              refine V_istore_n dX4_writeInto_90 2 rfl (by decide) ?_
              refine V_iinc dX4_writeInto_91 rfl (by decide) ?_
              refine V_goto 7 dX4_writeInto_94 (by decide) ?_
              refine V_fg [true, true, true, true, true, false] ?_
              obtain ⟨s1, h1, r1, c1, g1, g2, g3, g4, -⟩ := hstep
              rw [show (if p = -1 ∧ dig (tx k) then tx k - 48 else r9) = r9 from if_neg (by omega)] at g2 g3
              rw [if_neg (by omega)] at g2
              exact ih (by omega) _ _ _ _ _ _ _ _ hu g1 g2 g3 g4
            · refine V_iload_n dX4_writeInto_55 2 rfl rfl ?_
              refine V_bipush dX4_writeInto_56 (by decide) ?_
              refine V_icmp_ge 84 dX4_writeInto_58 (by decide) (by omega) (fun h58 => ?_) (fun h58 => ?_)
              · refine V_iload_n dX4_writeInto_84 2 rfl rfl ?_
                refine V_iload dX4_writeInto_85 rfl ?_
                refine V_c_X4_23 rfl (by decide) (c_placeAfter (by omega) hck) dX4_writeInto_87 rfl rfl (Nat.le_of_ble_eq_true rfl) (Nat.le_of_eq (Nat.zero_add _)) (Nat.le_of_eq (Nat.zero_add _)) (fun v w sz q => ?_)
                try dsimp only at q
                obtain ⟨rfl, rfl, rfl⟩ := q
                refine V_istore_n dX4_writeInto_90 2 rfl (by decide) ?_
                refine V_iinc dX4_writeInto_91 rfl (by decide) ?_
                refine V_goto 7 dX4_writeInto_94 (by decide) ?_
                refine V_fg [true, true, true, true, true, false] ?_
                exact absurd h34 (by omega)
              · refine V_iload dX4_writeInto_61 rfl ?_
                refine V_c_X4_19 rfl (by decide) (c_isDigit (by omega)) dX4_writeInto_63 rfl rfl (Nat.le_of_ble_eq_true rfl) (Nat.le_of_eq (Nat.zero_add _)) (Nat.le_of_eq (Nat.zero_add _)) (fun v w sz q => ?_)
                try dsimp only at q
                obtain ⟨rfl, rfl, rfl⟩ := q
                refine V_ifeqB 84 dX4_writeInto_66 (by decide) (fun h66 => ?_) (fun h66 => ?_)
                · try simp only [decide_eq_true_eq, decide_eq_false_iff_not, Bool.not_eq_true] at h66
                  refine V_iload_n dX4_writeInto_84 2 rfl rfl ?_
                  refine V_iload dX4_writeInto_85 rfl ?_
                  refine V_c_X4_23 rfl (by decide) (c_placeAfter (by omega) hck) dX4_writeInto_87 rfl rfl (Nat.le_of_ble_eq_true rfl) (Nat.le_of_eq (Nat.zero_add _)) (Nat.le_of_eq (Nat.zero_add _)) (fun v w sz q => ?_)
                  try dsimp only at q
                  obtain ⟨rfl, rfl, rfl⟩ := q
                  refine V_istore_n dX4_writeInto_90 2 rfl (by decide) ?_
                  refine V_iinc dX4_writeInto_91 rfl (by decide) ?_
                  refine V_goto 7 dX4_writeInto_94 (by decide) ?_
                  refine V_fg [true, true, true, true, true, false] ?_
                  exact absurd h34 (by omega)
                · try simp only [decide_eq_true_eq, decide_eq_false_iff_not, Bool.not_eq_true] at h66
                  refine V_aload_n dX4_writeInto_69 1 rfl rfl ?_
                  refine V_iload_n dX4_writeInto_70 2 rfl rfl ?_
                  refine V_iload_n dX4_writeInto_71 3 rfl rfl ?_
                  refine V_c_X4_27 rfl (by decide) (c_cellAt) dX4_writeInto_72 rfl rfl (Nat.le_of_ble_eq_true rfl) (Nat.le_of_eq (Nat.zero_add _)) (Nat.le_of_eq (Nat.zero_add _)) (fun v w sz q => ?_)
                  try dsimp only at q
                  obtain ⟨rfl, rfl, rfl⟩ := q
                  refine V_bipush dX4_writeInto_75 (by decide) ?_
                  refine V_iload dX4_writeInto_77 rfl ?_
                  refine V_bipush dX4_writeInto_79 (by decide) ?_
                  refine V_isub dX4_writeInto_81 ?_
                  refine V_imul dX4_writeInto_82 ?_
                  refine V_iast dX4_writeInto_83 hu.1 (by obtain ⟨-, -, -, -, -, -, -, -, g⟩ := hstep; have := g ⟨h52, by omega⟩; omega) ?_
                  try dsimp only at hM
                  refine V_iload_n dX4_writeInto_84 2 rfl rfl ?_
                  refine V_iload dX4_writeInto_85 rfl ?_
                  refine V_c_X4_23 rfl (by decide) (c_placeAfter (by omega) hck) dX4_writeInto_87 rfl rfl (Nat.le_of_ble_eq_true rfl) (Nat.le_of_eq (Nat.zero_add _)) (Nat.le_of_eq (Nat.zero_add _)) (fun v w sz q => ?_)
                  try dsimp only at q
                  obtain ⟨rfl, rfl, rfl⟩ := q
                  refine V_istore_n dX4_writeInto_90 2 rfl (by decide) ?_
                  refine V_iinc dX4_writeInto_91 rfl (by decide) ?_
                  refine V_goto 7 dX4_writeInto_94 (by decide) ?_
                  refine V_fg [true, true, true, true, true, false] ?_
                  exact absurd h34 (by omega)
          · try simp only [decide_eq_true_eq, decide_eq_false_iff_not, Bool.not_eq_true] at h42
            refine V_iload dX4_writeInto_45 rfl ?_
            refine V_bipush dX4_writeInto_47 (by decide) ?_
            refine V_isub dX4_writeInto_49 ?_
            refine V_istore_n dX4_writeInto_50 3 rfl (by decide) ?_
            refine V_iload_n dX4_writeInto_51 2 rfl rfl ?_
            refine V_if_lt 84 dX4_writeInto_52 (by decide) (by omega) (fun h52 => ?_) (fun h52 => ?_)
            · refine V_iload_n dX4_writeInto_84 2 rfl rfl ?_
              refine V_iload dX4_writeInto_85 rfl ?_
              refine V_c_X4_23 rfl (by decide) (c_placeAfter (by omega) hck) dX4_writeInto_87 rfl rfl (Nat.le_of_ble_eq_true rfl) (Nat.le_of_eq (Nat.zero_add _)) (Nat.le_of_eq (Nat.zero_add _)) (fun v w sz q => ?_)
              try dsimp only at q
              obtain ⟨rfl, rfl, rfl⟩ := q
              refine V_istore_n dX4_writeInto_90 2 rfl (by decide) ?_
              refine V_iinc dX4_writeInto_91 rfl (by decide) ?_
              refine V_goto 7 dX4_writeInto_94 (by decide) ?_
              refine V_fg [true, true, true, true, true, false] ?_
              obtain ⟨s1, h1, r1, c1, g1, g2, g3, g4, -⟩ := hstep
              rw [show (if p = -1 ∧ dig (tx k) then tx k - 48 else r9) = tx k - 48 from if_pos ⟨h34, h42⟩] at g2 g3
              rw [if_neg (by omega)] at g2
              exact ih (by omega) _ _ _ _ _ _ _ _ hu g1 g2 g3 g4
            · refine V_iload_n dX4_writeInto_55 2 rfl rfl ?_
              refine V_bipush dX4_writeInto_56 (by decide) ?_
              refine V_icmp_ge 84 dX4_writeInto_58 (by decide) (by omega) (fun h58 => ?_) (fun h58 => ?_)
              · refine V_iload_n dX4_writeInto_84 2 rfl rfl ?_
                refine V_iload dX4_writeInto_85 rfl ?_
                refine V_c_X4_23 rfl (by decide) (c_placeAfter (by omega) hck) dX4_writeInto_87 rfl rfl (Nat.le_of_ble_eq_true rfl) (Nat.le_of_eq (Nat.zero_add _)) (Nat.le_of_eq (Nat.zero_add _)) (fun v w sz q => ?_)
                try dsimp only at q
                obtain ⟨rfl, rfl, rfl⟩ := q
                refine V_istore_n dX4_writeInto_90 2 rfl (by decide) ?_
                refine V_iinc dX4_writeInto_91 rfl (by decide) ?_
                refine V_goto 7 dX4_writeInto_94 (by decide) ?_
                refine V_fg [true, true, true, true, true, false] ?_
                exact absurd h34 (by omega)
              · refine V_iload dX4_writeInto_61 rfl ?_
                refine V_c_X4_19 rfl (by decide) (c_isDigit (by omega)) dX4_writeInto_63 rfl rfl (Nat.le_of_ble_eq_true rfl) (Nat.le_of_eq (Nat.zero_add _)) (Nat.le_of_eq (Nat.zero_add _)) (fun v w sz q => ?_)
                try dsimp only at q
                obtain ⟨rfl, rfl, rfl⟩ := q
                refine V_ifeqB 84 dX4_writeInto_66 (by decide) (fun h66 => ?_) (fun h66 => ?_)
                · try simp only [decide_eq_true_eq, decide_eq_false_iff_not, Bool.not_eq_true] at h66
                  refine V_iload_n dX4_writeInto_84 2 rfl rfl ?_
                  refine V_iload dX4_writeInto_85 rfl ?_
                  refine V_c_X4_23 rfl (by decide) (c_placeAfter (by omega) hck) dX4_writeInto_87 rfl rfl (Nat.le_of_ble_eq_true rfl) (Nat.le_of_eq (Nat.zero_add _)) (Nat.le_of_eq (Nat.zero_add _)) (fun v w sz q => ?_)
                  try dsimp only at q
                  obtain ⟨rfl, rfl, rfl⟩ := q
                  refine V_istore_n dX4_writeInto_90 2 rfl (by decide) ?_
                  refine V_iinc dX4_writeInto_91 rfl (by decide) ?_
                  refine V_goto 7 dX4_writeInto_94 (by decide) ?_
                  refine V_fg [true, true, true, true, true, false] ?_
                  exact absurd h34 (by omega)
                · try simp only [decide_eq_true_eq, decide_eq_false_iff_not, Bool.not_eq_true] at h66
                  refine V_aload_n dX4_writeInto_69 1 rfl rfl ?_
                  refine V_iload_n dX4_writeInto_70 2 rfl rfl ?_
                  refine V_iload_n dX4_writeInto_71 3 rfl rfl ?_
                  refine V_c_X4_27 rfl (by decide) (c_cellAt) dX4_writeInto_72 rfl rfl (Nat.le_of_ble_eq_true rfl) (Nat.le_of_eq (Nat.zero_add _)) (Nat.le_of_eq (Nat.zero_add _)) (fun v w sz q => ?_)
                  try dsimp only at q
                  obtain ⟨rfl, rfl, rfl⟩ := q
                  refine V_bipush dX4_writeInto_75 (by decide) ?_
                  refine V_iload dX4_writeInto_77 rfl ?_
                  refine V_bipush dX4_writeInto_79 (by decide) ?_
                  refine V_isub dX4_writeInto_81 ?_
                  refine V_imul dX4_writeInto_82 ?_
                  refine V_iast dX4_writeInto_83 hu.1 (by obtain ⟨-, -, -, -, -, -, -, -, g⟩ := hstep; have := g ⟨h52, by omega⟩; omega) ?_
                  try dsimp only at hM
                  refine V_iload_n dX4_writeInto_84 2 rfl rfl ?_
                  refine V_iload dX4_writeInto_85 rfl ?_
                  refine V_c_X4_23 rfl (by decide) (c_placeAfter (by omega) hck) dX4_writeInto_87 rfl rfl (Nat.le_of_ble_eq_true rfl) (Nat.le_of_eq (Nat.zero_add _)) (Nat.le_of_eq (Nat.zero_add _)) (fun v w sz q => ?_)
                  try dsimp only at q
                  obtain ⟨rfl, rfl, rfl⟩ := q
                  refine V_istore_n dX4_writeInto_90 2 rfl (by decide) ?_
                  refine V_iinc dX4_writeInto_91 rfl (by decide) ?_
                  refine V_goto 7 dX4_writeInto_94 (by decide) ?_
                  refine V_fg [true, true, true, true, true, false] ?_
                  exact absurd h34 (by omega)
  refine V_fg [true, true, true, true, true, false] ?_
  exact L7 (0) (by omega) (by omega) _ 0 0 0 0 z 0 _ (UA.rf hv) rfl rfl (fun g => absurd rfl g) rfl
