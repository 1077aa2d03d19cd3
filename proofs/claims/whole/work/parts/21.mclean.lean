/-! the reference: clean, texts -/
abbrev dig (c : Int) : Prop := 48 ≤ c ∧ c ≤ 57
/-- one sign of a picture's text: whether it may stand there, and where the next one stands -/
def itk (s h c : Int) : Bool × Int × Int := if s < 2 then (if (s = 0 ∧ dig c) ∨ (s ≠ 0 ∧ c = 58) then (true, s + 1, 0) else (false, s, 0)) else if c = 47 ∧ 0 < h then (true, 0, h) else if (dig c ∨ c = 46) ∧ h < 16 then (true, s, h + 1) else (false, s, h)
def nrd (tx : Int → Int) : Nat → Bool × Int × Int
  | 0 => (true, 0, 0)
  | n + 1 => if (nrd tx n).1 = true then itk (nrd tx n).2.1 (nrd tx n).2.2 (tx n) else nrd tx n
def ird (tx : Int → Int) (k : Int) : Bool × Int × Int := nrd tx k.toNat
theorem ird_s {tx : Int → Int} {k s h : Int} (hk : 0 ≤ k) (e : ird tx k = (true, s, h)) : ird tx (k + 1) = itk s h (tx k) := by
  unfold ird at *
  rw [show (k + 1).toNat = k.toNat + 1 by omega]
  show (if (nrd tx k.toNat).1 = true then itk (nrd tx k.toNat).2.1 (nrd tx k.toNat).2.2 (tx (k.toNat : Nat)) else _) = _
  rw [e, show ((k.toNat : Nat) : Int) = k by omega]
  rfl
theorem nrd_f {tx : Int → Int} {n : Nat} (e : (nrd tx n).1 = false) : ∀ m, (nrd tx (n + m)).1 = false
  | 0 => e
  | m + 1 => by
    show (if (nrd tx (n + m)).1 = true then _ else nrd tx (n + m)).1 = false
    rw [if_neg (by rw [nrd_f e m]; simp)]
    exact nrd_f e m
theorem ird_f {tx : Int → Int} {k n : Int} (hk : 0 ≤ k) (hn : k ≤ n) (e : (ird tx k).1 = false) : (ird tx n).1 = false := by
  have := nrd_f e (n - k).toNat
  unfold ird
  rw [show k.toNat + (n - k).toNat = n.toNat by omega] at this
  exact this
theorem ird_t {tx : Int → Int} {k n : Int} (hk : 0 ≤ k) (hn : k ≤ n) (e : (ird tx n).1 = true) : (ird tx k).1 = true := by
  cases h : (ird tx k).1 with
  | true => rfl
  | false => rw [ird_f hk hn h] at e; cases e
theorem nrd_b {tx : Int → Int} : ∀ n : Nat, (0 ≤ (nrd tx n).2.1 ∧ (nrd tx n).2.1 ≤ 2) ∧ 0 ≤ (nrd tx n).2.2 ∧ (nrd tx n).2.2 ≤ 16
  | 0 => by show (0 ≤ (0 : Int) ∧ (0 : Int) ≤ 2) ∧ 0 ≤ (0 : Int) ∧ (0 : Int) ≤ 16; omega
  | n + 1 => by
    have ih := nrd_b n (tx := tx)
    show (0 ≤ (if (nrd tx n).1 = true then itk (nrd tx n).2.1 (nrd tx n).2.2 (tx n) else nrd tx n).2.1 ∧ (if (nrd tx n).1 = true then itk (nrd tx n).2.1 (nrd tx n).2.2 (tx n) else nrd tx n).2.1 ≤ 2) ∧ 0 ≤ (if (nrd tx n).1 = true then itk (nrd tx n).2.1 (nrd tx n).2.2 (tx n) else nrd tx n).2.2 ∧ (if (nrd tx n).1 = true then itk (nrd tx n).2.1 (nrd tx n).2.2 (tx n) else nrd tx n).2.2 ≤ 16
    split
    · unfold itk
      repeat' split
      all_goals (dsimp only; omega)
    · exact ih
theorem ird_b {tx : Int → Int} {k s h : Int} (e : ird tx k = (true, s, h)) : (0 ≤ s ∧ s ≤ 2) ∧ 0 ≤ h ∧ h ≤ 16 := by
  have := nrd_b k.toNat (tx := tx)
  unfold ird at e
  rw [e] at this
  exact this
def rdx (tx : Int → Int) (n k s h : Int) : Prop := (0 ≤ k ∧ k ≤ n) ∧ (ird tx k).1 = true ∧ ((k = n ∧ ird tx n = (true, s, h)) ∨ (k < n ∧ (ird tx (k + 1)).1 = false))
def nld (z tx : Int → Int) : Nat → Int × Int × (Int → Int)
  | 0 => (0, 0, z)
  | n + 1 => if (n : Int) = 0 ∨ tx ((n : Int) - 1) = 47 then (tx n - 48, -1, (nld z tx n).2.2) else ((nld z tx n).1, (nld z tx n).2.1 + 1, if 0 ≤ (nld z tx n).2.1 ∧ dig (tx n) then iu (nld z tx n).2.2 (16 * (nld z tx n).1 + (nld z tx n).2.1) (11 * (tx n - 48)) else (nld z tx n).2.2)
/-- row, column and shades behind k signs of a text -/
def ild (z tx : Int → Int) (k : Int) : Int × Int × (Int → Int) := nld z tx k.toNat
theorem ild_s {z tx f : Int → Int} {k r c : Int} (hk : 0 ≤ k) (e : ild z tx k = (r, c, f)) : ild z tx (k + 1) = if k = 0 ∨ tx (k - 1) = 47 then (tx k - 48, -1, f) else (r, c + 1, if 0 ≤ c ∧ dig (tx k) then iu f (16 * r + c) (11 * (tx k - 48)) else f) := by
  unfold ild at *
  rw [show (k + 1).toNat = k.toNat + 1 by omega]
  show (if ((k.toNat : Nat) : Int) = 0 ∨ tx (((k.toNat : Nat) : Int) - 1) = 47 then (tx (k.toNat : Nat) - 48, -1, (nld z tx k.toNat).2.2) else ((nld z tx k.toNat).1, (nld z tx k.toNat).2.1 + 1, if 0 ≤ (nld z tx k.toNat).2.1 ∧ dig (tx (k.toNat : Nat)) then iu (nld z tx k.toNat).2.2 (16 * (nld z tx k.toNat).1 + (nld z tx k.toNat).2.1) (11 * (tx (k.toNat : Nat) - 48)) else (nld z tx k.toNat).2.2)) = _
  rw [e, show ((k.toNat : Nat) : Int) = k by omega]
/-- what holds behind k signs that may stand there -/
def LI (z tx : Int → Int) (k s h r c : Int) (f : Int → Int) : Prop := (∀ j, 0 ≤ j → j < 160 → 0 ≤ f j ∧ f j ≤ 99) ∧ (∀ j, 160 ≤ j → f j = z j) ∧ ((s = 0 ∧ (k = 0 ∨ tx (k - 1) = 47)) ∨ (0 < k ∧ tx (k - 1) ≠ 47 ∧ (0 ≤ r ∧ r ≤ 9) ∧ ((s = 1 ∧ c = -1) ∨ (s = 2 ∧ c = h ∧ 0 ≤ h ∧ h ≤ 16))))
theorem ld_inv {z tx : Int → Int} (hz : ∀ j, 0 ≤ j → j < 160 → 0 ≤ z j ∧ z j ≤ 99) : ∀ n : Nat, ∀ s h r c f, ird tx n = (true, s, h) → ild z tx n = (r, c, f) → LI z tx n s h r c f
  | 0 => by
    intro s h r c f e1 e2
    cases e1
    cases e2
    exact ⟨hz, fun _ _ => rfl, Or.inl ⟨rfl, Or.inl rfl⟩⟩
  | n + 1 => by
    intro s' h' r' c' f' e1 e2
    have ht : (ird tx n).1 = true := ird_t (n := ((n + 1 : Nat) : Int)) (by omega) (by omega) (by rw [e1])
    rcases ha : ird tx n with ⟨o, s, h⟩
    rw [ha] at ht
    cases (show o = true from ht)
    rcases hb : ild z tx n with ⟨r, c, f⟩
    obtain ⟨i1, i2, i3⟩ := ld_inv hz n s h r c f ha hb
    have q1 := ird_s (by omega) ha
    have q2 := ild_s (by omega) hb
    rw [show ((n + 1 : Nat) : Int) = (n : Int) + 1 by omega] at e1 e2 ⊢
    rw [q1] at e1
    rw [q2] at e2
    unfold LI
    rw [show (n : Int) + 1 - 1 = n by omega]
    unfold itk at e1
    split at e2
    · rename_i g
      cases e2
      have s0 : s = 0 := by omega
      rw [if_pos (by omega)] at e1
      by_cases hd : dig (tx n)
      · rw [if_pos (by omega)] at e1
        cases e1
        exact ⟨i1, i2, Or.inr ⟨by omega, by omega, by omega, Or.inl ⟨by omega, rfl⟩⟩⟩
      · rw [if_neg (by omega)] at e1
        cases e1
    · rename_i g
      cases e2
      rcases i3 with i3 | ⟨j1, j2, j3, j4⟩
      · omega
      rcases j4 with ⟨j4, j5⟩ | ⟨j4, j5, j6, j7⟩
      · rw [if_pos (by omega)] at e1
        by_cases hd : tx n = 58
        · rw [if_pos (by omega)] at e1
          cases e1
          rw [if_neg (by omega)]
          exact ⟨i1, i2, Or.inr ⟨by omega, by omega, j3, Or.inr ⟨by omega, by omega, by omega, by omega⟩⟩⟩
        · rw [if_neg (by omega)] at e1
          cases e1
      · rw [if_neg (by omega)] at e1
        by_cases hd : tx n = 47 ∧ 0 < h
        · rw [if_pos (by omega)] at e1
          cases e1
          rw [if_neg (by omega)]
          exact ⟨i1, i2, Or.inl ⟨rfl, Or.inr hd.1⟩⟩
        · rw [if_neg (by omega)] at e1
          by_cases he : (dig (tx n) ∨ tx n = 46) ∧ h < 16
          · rw [if_pos (by omega)] at e1
            cases e1
            refine ⟨fun j k0 k1 => ?_, fun j k0 => ?_, Or.inr ⟨by omega, by omega, j3, Or.inr ⟨j4, by omega, by omega, by omega⟩⟩⟩
            · split
              · by_cases e : j = 16 * r' + c
                · rw [e, iu_s]; omega
                · rw [iu_n e]; exact i1 j k0 k1
              · exact i1 j k0 k1
            · split
              · rw [iu_n (by omega)]; exact i2 j k0
              · exact i2 j k0
          · rw [if_neg (by omega)] at e1
            cases e1
theorem ild_inv {z tx f : Int → Int} {k s h r c : Int} (hz : ∀ j, 0 ≤ j → j < 160 → 0 ≤ z j ∧ z j ≤ 99) (hk : 0 ≤ k) (e1 : ird tx k = (true, s, h)) (e2 : ild z tx k = (r, c, f)) : LI z tx k s h r c f := by
  have := ld_inv hz k.toNat s h r c f (by rw [show ((k.toNat : Nat) : Int) = k by omega]; exact e1) (by rw [show ((k.toNat : Nat) : Int) = k by omega]; exact e2)
  rw [show ((k.toNat : Nat) : Int) = k by omega] at this
  exact this
theorem itk_h {s h c : Int} (e : (itk s h c).1 = true) (hs : s = 2) (hc : dig c) : h < 16 := by
  unfold itk at e
  rw [if_neg (by omega), if_neg (by omega)] at e
  split at e
  · omega
  · cases e
abbrev ldOk (tx : Int → Int) (n : Int) : Prop := (ird tx n).1 = true ∧ (ird tx n).2.1 = 2 ∧ 0 < (ird tx n).2.2
def VT (P : MP) : Prop := (0 ≤ P.2.2.2.1 ∧ P.2.2.2.1 ≤ 60) ∧ ∀ j, 0 ≤ j → j < P.2.2.2.1 → 33 ≤ P.2.2.2.2 j ∧ P.2.2.2.2 j ≤ 126
def appR (P : MP) (c t r : Int) (P' : MP) : Prop := (¬ (33 ≤ c ∧ c ≤ 126) ∧ t = 1 ∧ P' = P) ∨ ((33 ≤ c ∧ c ≤ 126) ∧ P.2.2.2.1 = 60 ∧ t = 2 ∧ P' = P) ∨ ((33 ≤ c ∧ c ≤ 126) ∧ P.2.2.2.1 ≠ 60 ∧ t = 0 ∧ r = P.2.2.2.1 + 1 ∧ P' = (P.1, P.2.1, P.2.2.1, P.2.2.2.1 + 1, iu P.2.2.2.2 P.2.2.2.1 c))
def clbR (P : MP) (t r : Int) (P' : MP) : Prop := t = 0 ∧ r = P.2.2.2.1 ∧ P' = (P.1, P.2.1, P.2.2.1, 0, P.2.2.2.2)
def errR (P : MP) (t r : Int) (P' : MP) : Prop := t = 0 ∧ P' = P ∧ ∃ s h, rdx P.2.2.2.2 P.2.2.2.1 r s h
def ldR (P : MP) (t r : Int) (P' : MP) : Prop := (¬ ldOk P.2.2.2.2 P.2.2.2.1 ∧ t = 1 ∧ P' = P) ∨ (ldOk P.2.2.2.2 P.2.2.2.1 ∧ t = 0 ∧ P'.2.1 = isv P.2.1 + 1 ∧ Svd P.1 P.2.1 P.2.2.1 P'.2.2.1 ∧ P'.2.2.2 = (0, P.2.2.2.2) ∧ P'.1 = (ild P.1 P.2.2.2.2 P.2.2.2.1).2.2 ∧ r = idiff P'.1 P.1)
set_option maxRecDepth 100000 in
set_option maxHeartbeats 4000000 in
theorem m_clean {w0 w : WD} {sz μ : Nat} {P : MP} {K : MK} (hM : MW w0 w μ P K) (hv : VZ P.1) (hs : 0 ≤ P.2.1 ∧ P.2.1 ≤ 6) : CT iX7_clean 0 0 [.ref μ] w sz (fun o9 w' sz' => sz' = sz ∧ ∃ r t P', o9 = some (xI r) ∧ MD w0 w' μ t P' ∧ clnR P t r P') := by
  have hzp := hv.2.1
  refine CT.ofZ (by decide) rfl (Nat.le_of_ble_eq_true rfl) (fun Z hE => ?_)
  refine V_aload_n dX7_clean_0 0 rfl rfl ?_
  refine V_iconst dX7_clean_1 ?_
  refine M_p_thrown hM rfl dX7_clean_2 (fun w hM => ?_)
  try dsimp only at hM
  refine V_aload_n dX7_clean_5 0 rfl rfl ?_
  refine V_c_X7_98 rfl (by decide) (m_save hM hs) dX7_clean_6 hM.1 rfl rfl (Nat.le_of_ble_eq_true rfl) (Nat.le_of_eq (Nat.zero_add _)) (Nat.le_of_eq (Nat.zero_add _)) (fun v w sz q => ?_)
  try dsimp only at q
  obtain ⟨rfl, rfl, S, hM, hS⟩ := q
  rw [show (if P.2.1 = 6 then 6 else P.2.1 + 1) = isv P.2.1 + 1 by unfold isv; omega] at hM
  have hi9 : 0 ≤ isv P.2.1 ∧ isv P.2.1 ≤ 5 := by unfold isv; omega
  refine V_iconst dX7_clean_9 ?_
  refine V_istore_n dX7_clean_10 1 rfl (by decide) ?_
  refine V_aload_n dX7_clean_11 0 rfl rfl ?_
  refine M_g_z hM rfl dX7_clean_12 ?_
  refine V_sipush dX7_clean_15 (by decide) ?_
  refine M_l_z hM dX7_clean_18 (by first | omega | (dsimp only; omega) | (dsimp only at *; omega)) ?_
  try dsimp only
  refine V_istore_n dX7_clean_19 2 rfl (by decide) ?_
  refine V_iconst dX7_clean_20 ?_
  refine V_istore_n dX7_clean_21 3 rfl (by decide) ?_
  have L22 : ∀ i : Int, 0 ≤ i → i ≤ P.1 160 → ∀ (w : WD) (f : Int → Int), MW w0 w μ (f, isv P.2.1 + 1, S, P.2.2.2) (0, K.2) → Clean P.1 f i → f 160 = P.1 160 → (∀ j, 161 + 169 * i ≤ j → j < 2189 → f j = P.1 j) → V iX7_clean Z 0 0 w sz 22 [some (.ref μ), some (xI (icin P.1 i)), some (xI (P.1 160)), some (xI i), none] [] := by
    refine up_ind ?_
    intro i hi0 hi1 ihi w f hM hf h160 hr
    have hci := icin_b hv hi0 hi1
    have hvi : i < P.1 160 → 0 ≤ P.1 (161 + 169 * i + 7) ∧ P.1 (161 + 169 * i + 7) ≤ 1 := fun h => (hv.2.2 i hi0 h).2.2.2.2.2.2.2.1
    have hri : i < P.1 160 → f (161 + 169 * i + 7) = P.1 (161 + 169 * i + 7) := fun h => hr _ (by omega) (by omega)
    refine V_iload_n dX7_clean_22 3 rfl rfl ?_
    refine V_iload_n dX7_clean_23 2 rfl rfl ?_
    refine V_icmp_ge 88 dX7_clean_24 (by decide) (by first | omega | (have gk9 := hri (by omega); have gk8 := hvi (by omega); omega)) (fun h24 => ?_) (fun h24 => ?_)
    · refine V_aload_n dX7_clean_88 0 rfl rfl ?_
      refine M_g_z hM rfl dX7_clean_89 ?_
      refine V_sipush dX7_clean_92 (by decide) ?_
      refine V_iload_n dX7_clean_95 1 rfl rfl ?_
      refine M_s_z hM dX7_clean_96 (by first | omega | (dsimp only; omega) | (dsimp only at *; omega)) (fun w hM => ?_)
      try dsimp only at hM
      refine V_iload_n dX7_clean_97 2 rfl rfl ?_
      refine V_iload_n dX7_clean_98 1 rfl rfl ?_
      refine V_isub dX7_clean_99 ?_
      exact V_iret hE rfl dX7_clean_100 ⟨rfl, _, 0, _, rfl, ⟨_, hM, rfl⟩, rfl, ⟨rfl, hS, rfl⟩, by have hi9 : i = P.1 160 := (by omega); rw [← hi9]; exact ⟨fun j j0 j1 => (by dsimp only; rw [iu_n (by omega)]; exact hf.1 j j0 j1), fun p p0 p1 p2 k k0 k1 => (by have gb := icin_b hv p0 (by omega); dsimp only; rw [iu_n (by omega)]; exact hf.2 p p0 (by omega) p2 k k0 k1)⟩, by dsimp only; rw [iu_s, show i = P.1 160 by omega], by rw [show i = P.1 160 by omega]⟩
    · refine V_aload_n dX7_clean_27 0 rfl rfl ?_
      refine V_iload_n dX7_clean_28 3 rfl rfl ?_
      refine V_bipush dX7_clean_29 (by decide) ?_
      refine V_c_X7_46 rfl (by decide) (m_of hM (by (try dsimp only); omega)) dX7_clean_31 hM.1 rfl rfl (Nat.le_of_ble_eq_true rfl) (Nat.le_of_eq (Nat.zero_add _)) (Nat.le_of_eq (Nat.zero_add _)) (fun v w sz q => ?_)
      try dsimp only at q
      obtain ⟨rfl, rfl, rfl⟩ := q
      refine V_iconst dX7_clean_34 ?_
      refine V_icmp_ne 82 dX7_clean_35 (by decide) (by first | omega | (have gk9 := hri (by omega); have gk8 := hvi (by omega); omega)) (fun h35 => ?_) (fun h35 => ?_)
      · refine V_iinc dX7_clean_82 rfl (by decide) ?_
        refine V_goto 22 dX7_clean_85 (by decide) ?_
        have es : icin P.1 (i + 1) = icin P.1 i + P.1 (161 + 169 * i + 7) := isum_s hi0
        have g9 := hri (by omega)
        rw [show icin P.1 (i + 1) = icin P.1 i  by omega] at ihi
        refine V_fg [true, true, true, true, false] ?_
        refine ihi (by omega) _ f hM ⟨hf.1, fun p p0 p1 p2 k k0 k1 => ?_⟩ h160 (fun j j0 j1 => hr j (by omega) j1)
        by_cases e : p = i
        · rw [e] at p2
          have g1 := hri (by omega)
          omega
        · exact hf.2 p p0 (by omega) p2 k k0 k1
      · refine V_iconst dX7_clean_38 ?_
        refine V_istore dX7_clean_39 (by decide) ?_
        have L41 : ∀ k : Int, 0 ≤ k → k ≤ 169 → ∀ (w : WD) (g : Int → Int), MW w0 w μ (g, isv P.2.1 + 1, S, P.2.2.2) (0, K.2) → Clean P.1 g i → g 160 = P.1 160 → (∀ j, 161 + 169 * i ≤ j → j < 2189 → g j = P.1 j) → (∀ j, 0 ≤ j → j < k → g (161 + 169 * icin P.1 i + j) = P.1 (161 + 169 * i + j)) → V iX7_clean Z 0 0 w sz 41 [some (.ref μ), some (xI (icin P.1 i)), some (xI (P.1 160)), some (xI i), some (xI k)] [] := by
          refine up_ind ?_
          intro k hk0 hk1 ih w g hM hg g160 hgr hgk
          refine V_iload dX7_clean_41 rfl ?_
          refine V_sipush dX7_clean_43 (by decide) ?_
          refine V_icmp_ge 79 dX7_clean_46 (by decide) (by first | omega | (have gk9 := hri (by omega); have gk8 := hvi (by omega); omega)) (fun h46 => ?_) (fun h46 => ?_)
          · refine V_iinc dX7_clean_79 rfl (by decide) ?_
            refine V_iinc dX7_clean_82 rfl (by decide) ?_
            refine V_goto 22 dX7_clean_85 (by decide) ?_
            have es : icin P.1 (i + 1) = icin P.1 i + P.1 (161 + 169 * i + 7) := isum_s hi0
            have g9 := hri (by omega)
            rw [show icin P.1 (i + 1) = icin P.1 i + 1 by omega] at ihi
            refine V_fg [true, true, true, true, false] ?_
            refine ihi (by omega) _ g hM ⟨hg.1, fun p p0 p1 p2 k k0 k1 => ?_⟩ g160 (fun j j0 j1 => hgr j (by omega) j1)
            by_cases e : p = i
            · rw [e]; exact hgk k k0 (by omega)
            · exact hg.2 p p0 (by omega) p2 k k0 k1
          · refine V_aload_n dX7_clean_49 0 rfl rfl ?_
            refine M_g_z hM rfl dX7_clean_50 ?_
            refine V_sipush dX7_clean_53 (by decide) ?_
            refine V_sipush dX7_clean_56 (by decide) ?_
            refine V_iload_n dX7_clean_59 1 rfl rfl ?_
            refine V_imul dX7_clean_60 ?_
            refine V_iadd dX7_clean_61 ?_
            refine V_iload dX7_clean_62 rfl ?_
            refine V_iadd dX7_clean_64 ?_
            refine V_aload_n dX7_clean_65 0 rfl rfl ?_
            refine V_iload_n dX7_clean_66 3 rfl rfl ?_
            refine V_iload dX7_clean_67 rfl ?_
            refine V_c_X7_46 rfl (by decide) (m_of hM (by (try dsimp only); omega)) dX7_clean_69 hM.1 rfl rfl (Nat.le_of_ble_eq_true rfl) (Nat.le_of_eq (Nat.zero_add _)) (Nat.le_of_eq (Nat.zero_add _)) (fun v w sz q => ?_)
            try dsimp only at q
            obtain ⟨rfl, rfl, rfl⟩ := q
            refine M_s_z hM dX7_clean_72 (by first | omega | (dsimp only; omega) | (dsimp only at *; omega)) (fun w hM => ?_)
            try dsimp only at hM
            refine V_iinc dX7_clean_73 rfl (by decide) ?_
            refine V_goto 41 dX7_clean_76 (by decide) ?_
            have gv := hgr (161 + 169 * i + k) (by omega) (by omega)
            refine ih (by omega) _ _ hM ⟨fun j j0 j1 => ?_, fun p p0 p1 p2 k' k0 k1 => ?_⟩ ?_ (fun j j0 j1 => ?_) (fun j j0 j1 => ?_)
            · rw [iu_n (by omega)]; exact hg.1 j j0 j1
            · have gm := icin_m hv p0 p1 (by omega)
              have gb := icin_b hv p0 (by omega)
              rw [iu_n (by omega)]; exact hg.2 p p0 p1 p2 k' k0 k1
            · rw [iu_n (by omega)]; exact g160
            · by_cases e : j = 161 + 169 * icin P.1 i + k
              · rw [e, iu_s, gv, show 161 + 169 * i + k = 161 + 169 * icin P.1 i + k by omega]
              · rw [iu_n e]; exact hgr j j0 j1
            · by_cases e : j = k
              · rw [e, iu_s, gv]
              · rw [iu_n (by omega)]; exact hgk j j0 (by omega)
        exact L41 (0) (by omega) (by omega) w f hM hf h160 hr (fun j j0 j1 => by omega)
  refine V_fg [true, true, true, true, false] ?_
  exact L22 (0) (by omega) (by omega) w P.1 hM ⟨fun _ _ _ => rfl, fun p g1 g2 => by omega⟩ rfl (fun _ _ _ => rfl)
