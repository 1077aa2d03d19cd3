/-! the reference: saved states, the mask, exchanged picks -/
abbrev isv (s : Int) : Int := if s = 6 then 5 else s
/-- S is the saved states behind a save of z -/
def Svd (z : Int → Int) (s : Int) (sv S : Int → Int) : Prop := (∀ k, 0 ≤ k → k < 2189 → S (2189 * isv s + k) = z k) ∧ ∀ i k, 0 ≤ i → i < isv s → 0 ≤ k → k < 2189 → S (2189 * i + k) = sv (2189 * (if s = 6 then i + 1 else i) + k)
theorem Svd.of {z sv S1 S : Int → Int} {s : Int} (hs : 0 ≤ s ∧ s ≤ 6) (h1 : ∀ j, 0 ≤ j → j < 13134 → S1 j = if s = 6 ∧ j < 10945 then sv (j + 2189) else sv j) (h2 : ∀ j, 0 ≤ j → j < 13134 → S j = if 2189 * isv s ≤ j ∧ j < 2189 * isv s + 2189 then z (j - 2189 * isv s) else S1 j) : Svd z s sv S := by
  have hi : 0 ≤ isv s ∧ isv s ≤ 5 ∧ (s ≠ 6 → isv s = s) ∧ (s = 6 → isv s = 5) := by unfold isv; omega
  refine ⟨fun k hk0 hk1 => ?_, fun i k hi0 hi1 hk0 hk1 => ?_⟩
  · rw [h2 _ (by omega) (by omega), if_pos (by omega), show 2189 * isv s + k - 2189 * isv s = k by omega]
  · rw [h2 _ (by omega) (by omega), if_neg (by omega), h1 _ (by omega) (by omega)]
    by_cases h6 : s = 6
    · rw [if_pos (by omega), if_pos h6, show 2189 * i + k + 2189 = 2189 * (i + 1) + k by omega]
    · rw [if_neg (by omega), if_neg h6]
abbrev imst (kind p m : Int) : Int := if kind = 0 ∨ (kind = 1 ∧ m < p) ∨ (kind = 3 ∧ p < m) then p else if kind = 2 ∧ 100 - p < m then 100 - p else m
def nmsk (z : Int → Int) (c : Int) : Nat → Int
  | 0 => 0
  | n + 1 => if z (161 + 169 * n + 7) = 1 then imst (z (161 + 169 * n + 5)) (z (161 + 169 * n + (9 + c))) (nmsk z c n) else nmsk z c n
/-- the mask's level of the cell c behind the first i picks -/
def imsk (z : Int → Int) (i c : Int) : Int := nmsk z c i.toNat
theorem imsk_0 {z : Int → Int} {c : Int} : imsk z 0 c = 0 := rfl
theorem imsk_s {z : Int → Int} {c i : Int} (h : 0 ≤ i) : imsk z (i + 1) c = if z (161 + 169 * i + 7) = 1 then imst (z (161 + 169 * i + 5)) (z (161 + 169 * i + (9 + c))) (imsk z i c) else imsk z i c := by
  unfold imsk
  rw [show (i + 1).toNat = i.toNat + 1 by omega]
  show (if z (161 + 169 * (i.toNat : Nat) + 7) = 1 then _ else _) = _
  rw [show ((i.toNat : Nat) : Int) = i by omega]
/-- what a state's numbers keep to -/
def VZ (z : Int → Int) : Prop := (∀ k, 0 ≤ k → k < 160 → 0 ≤ z k ∧ z k ≤ 99) ∧ (0 ≤ z 160 ∧ z 160 ≤ 12) ∧ ∀ p, 0 ≤ p → p < z 160 →
  (0 ≤ z (161 + 169 * p) ∧ z (161 + 169 * p) ≤ 15) ∧ (0 ≤ z (161 + 169 * p + 1) ∧ z (161 + 169 * p + 1) ≤ 9) ∧ (0 ≤ z (161 + 169 * p + 2) ∧ z (161 + 169 * p + 2) ≤ 99) ∧ (0 ≤ z (161 + 169 * p + 3) ∧ z (161 + 169 * p + 3) ≤ 1) ∧ (0 ≤ z (161 + 169 * p + 4) ∧ z (161 + 169 * p + 4) ≤ 5) ∧ (0 ≤ z (161 + 169 * p + 5) ∧ z (161 + 169 * p + 5) ≤ 3) ∧ (0 ≤ z (161 + 169 * p + 6) ∧ z (161 + 169 * p + 6) ≤ 4) ∧ (0 ≤ z (161 + 169 * p + 7) ∧ z (161 + 169 * p + 7) ≤ 1) ∧ (0 ≤ z (161 + 169 * p + 8) ∧ z (161 + 169 * p + 8) ≤ 5) ∧ ∀ c, 0 ≤ c → c < 160 → 0 ≤ z (161 + 169 * p + (9 + c)) ∧ z (161 + 169 * p + (9 + c)) ≤ 100
theorem VZ.lev {z : Int → Int} (h : VZ z) : ∀ p c, 0 ≤ p → p < z 160 → 0 ≤ c → c < 160 → 0 ≤ z (161 + 169 * p + (9 + c)) ∧ z (161 + 169 * p + (9 + c)) ≤ 100 := fun p c h1 h2 h3 h4 => (h.2.2 p h1 h2).2.2.2.2.2.2.2.2.2 c h3 h4
theorem imsk_b {z : Int → Int} (h : VZ z) {c : Int} (hc : 0 ≤ c ∧ c < 160) : ∀ i, 0 ≤ i → i ≤ z 160 → 0 ≤ imsk z i c ∧ imsk z i c ≤ 100 := by
  have key : ∀ n : Nat, (n : Int) ≤ z 160 → 0 ≤ nmsk z c n ∧ nmsk z c n ≤ 100 := by
    intro n
    induction n with
    | zero => intro _; show 0 ≤ (0 : Int) ∧ (0 : Int) ≤ 100; omega
    | succ n ih =>
      intro hn
      have h1 := ih (by omega)
      have h2 := h.lev n c (by omega) (by omega) hc.1 hc.2
      show 0 ≤ (if z (161 + 169 * n + 7) = 1 then imst (z (161 + 169 * n + 5)) (z (161 + 169 * n + (9 + c))) (nmsk z c n) else nmsk z c n) ∧ (if z (161 + 169 * n + 7) = 1 then imst (z (161 + 169 * n + 5)) (z (161 + 169 * n + (9 + c))) (nmsk z c n) else nmsk z c n) ≤ 100
      unfold imst
      omega
  intro i h0 h1
  exact key i.toNat (by omega)
/-- the mask's level of the cell c -/
abbrev imS (z : Int → Int) (c : Int) : Int := imsk z (z 160) c
set_option maxRecDepth 100000 in
set_option maxHeartbeats 4000000 in
theorem m_save_2 {w0 w : WD} {sz μ : Nat} {P : MP} {K : MK} {Z : XZ} {S1 : Int → Int} (hE : xEnd Z (fun v w' sz' => v = none ∧ sz' = sz ∧ ∃ S, MW w0 w' μ (P.1, (if P.2.1 = 6 then 6 else P.2.1 + 1), S, P.2.2.2) K ∧ Svd P.1 P.2.1 P.2.2.1 S)) (hs : 0 ≤ P.2.1 ∧ P.2.1 ≤ 6) (hM : MW w0 w μ (P.1, isv P.2.1, S1, P.2.2.2) K) (hS1 : ∀ j, 0 ≤ j → j < 13134 → S1 j = if P.2.1 = 6 ∧ j < 10945 then P.2.2.1 (j + 2189) else P.2.2.1 j) : V iX7_save Z 0 0 w sz 54 [some (.ref μ), some (xI 0)] [] := by
  have hi : 0 ≤ isv P.2.1 ∧ isv P.2.1 ≤ 5 := by unfold isv; omega
  have L54 : ∀ k : Int, 0 ≤ k → k ≤ 2189 → ∀ (w : WD) (S : Int → Int), MW w0 w μ (P.1, isv P.2.1, S, P.2.2.2) K → (∀ j, 0 ≤ j → j < 13134 → S j = if 2189 * isv P.2.1 ≤ j ∧ j < 2189 * isv P.2.1 + k then P.1 (j - 2189 * isv P.2.1) else S1 j) → V iX7_save Z 0 0 w sz 54 [some (.ref μ), some (xI k)] [] := by
    refine up_ind ?_
    intro k hk0 hk1 ih w S hM hS
    refine V_iload_n dX7_save_54 1 rfl rfl ?_
    refine V_sipush dX7_save_55 (by decide) ?_
    refine V_icmp_ge 88 dX7_save_58 (by decide) (by have hi9 : 0 ≤ isv P.2.1 ∧ isv P.2.1 ≤ 5 := (by unfold isv; omega); first | omega | (dsimp only; omega)) (fun h58 => ?_) (fun h58 => ?_)
    · refine V_aload_n dX7_save_88 0 rfl rfl ?_
      refine V_dup dX7_save_89 rfl ?_
      refine M_g_saves hM rfl dX7_save_90 ?_
      refine V_iconst dX7_save_93 ?_
      refine V_iadd dX7_save_94 ?_
      refine M_p_saves hM rfl dX7_save_95 (fun w hM => ?_)
      exact V_vret hE rfl dX7_save_98 ⟨rfl, rfl, _, by rw [show (if P.2.1 = 6 then 6 else P.2.1 + 1) = isv P.2.1 + 1 by unfold isv; omega]; exact hM, Svd.of hs hS1 (fun j h1 h2 => by rw [hS j h1 h2, show k = 2189 by omega])⟩
    · refine V_aload_n dX7_save_61 0 rfl rfl ?_
      refine M_g_saved hM rfl dX7_save_62 ?_
      refine V_sipush dX7_save_65 (by decide) ?_
      refine V_aload_n dX7_save_68 0 rfl rfl ?_
      refine M_g_saves hM rfl dX7_save_69 ?_
      refine V_imul dX7_save_72 ?_
      refine V_iload_n dX7_save_73 1 rfl rfl ?_
      refine V_iadd dX7_save_74 ?_
      refine V_aload_n dX7_save_75 0 rfl rfl ?_
      refine M_g_z hM rfl dX7_save_76 ?_
      refine V_iload_n dX7_save_79 1 rfl rfl ?_
      refine M_l_z hM dX7_save_80 (by first | omega | (dsimp only; omega) | (dsimp only at *; omega)) ?_
      refine M_s_saved hM dX7_save_81 (by first | omega | (dsimp only; omega) | (dsimp only at *; omega)) (fun w hM => ?_)
      refine V_iinc dX7_save_82 rfl (by decide) ?_
      refine V_goto 54 dX7_save_85 (by decide) ?_
      refine ih (by omega) _ _ hM ?_
      intro j hj0 hj1
      try dsimp only
      by_cases hj : j = 2189 * isv P.2.1 + k
      · rw [hj, iu_s, if_pos (by omega), show 2189 * isv P.2.1 + k - 2189 * isv P.2.1 = k by omega]
      · rw [iu_n hj, hS j hj0 hj1]
        split <;> split <;> first | rfl | omega
  exact L54 (0) (by omega) (by omega) w S1 hM (fun j _ _ => by rw [if_neg (by omega)])
set_option maxRecDepth 100000 in
set_option maxHeartbeats 4000000 in
theorem m_save {w0 w : WD} {sz μ : Nat} {P : MP} {K : MK} (hM : MW w0 w μ P K) (hs : 0 ≤ P.2.1 ∧ P.2.1 ≤ 6) : CT iX7_save 0 0 [.ref μ] w sz (fun v w' sz' => v = none ∧ sz' = sz ∧ ∃ S, MW w0 w' μ (P.1, (if P.2.1 = 6 then 6 else P.2.1 + 1), S, P.2.2.2) K ∧ Svd P.1 P.2.1 P.2.2.1 S) := by
  refine CT.ofZ (by decide) rfl (Nat.le_of_ble_eq_true rfl) (fun Z hE => ?_)
  refine V_aload_n dX7_save_0 0 rfl rfl ?_
  refine M_g_saves hM rfl dX7_save_1 ?_
  refine V_bipush dX7_save_4 (by decide) ?_
  refine V_icmp_ne 52 dX7_save_6 (by decide) (by omega) (fun h6 => ?_) (fun h6 => ?_)
  · refine V_iconst dX7_save_52 ?_
    refine V_istore_n dX7_save_53 1 rfl (by decide) ?_
    refine m_save_2 (S1 := P.2.2.1) hE hs (by rw [show isv P.2.1 = P.2.1 by unfold isv; omega]; exact hM) (fun j h1 h2 => ?_)
    rw [if_neg (by omega)]
  · refine V_sipush dX7_save_9 (by decide) ?_
    refine V_istore_n dX7_save_12 1 rfl (by decide) ?_
    have L13 : ∀ k : Int, 2189 ≤ k → k ≤ 13134 → ∀ (w : WD) (S : Int → Int), MW w0 w μ (P.1, P.2.1, S, P.2.2.2) K → (∀ j, 0 ≤ j → j < 13134 → S j = if j < k - 2189 then P.2.2.1 (j + 2189) else P.2.2.1 j) → V iX7_save Z 0 0 w sz 13 [some (.ref μ), some (xI k)] [] := by
      refine up_ind ?_
      intro k hk0 hk1 ih w S hM hS
      refine V_iload_n dX7_save_13 1 rfl rfl ?_
      refine V_sipush dX7_save_14 (by decide) ?_
      refine V_icmp_ge 42 dX7_save_17 (by decide) (by omega) (fun h17 => ?_) (fun h17 => ?_)
      · refine V_aload_n dX7_save_42 0 rfl rfl ?_
        refine V_dup dX7_save_43 rfl ?_
        refine M_g_saves hM rfl dX7_save_44 ?_
        refine V_iconst dX7_save_47 ?_
        refine V_isub dX7_save_48 ?_
        refine M_p_saves hM rfl dX7_save_49 (fun w hM => ?_)
        refine V_iconst dX7_save_52 ?_
        refine V_istore_n dX7_save_53 1 rfl (by decide) ?_
        have h6 : P.2.1 = 6 := by omega
        refine m_save_2 (S1 := S) hE hs (by rw [show isv P.2.1 = P.2.1 - 1 by unfold isv; omega]; exact hM) (fun j h1 h2 => ?_)
        rw [hS j h1 h2]
        split <;> split <;> first | rfl | omega
      · refine V_aload_n dX7_save_20 0 rfl rfl ?_
        refine M_g_saved hM rfl dX7_save_21 ?_
        refine V_iload_n dX7_save_24 1 rfl rfl ?_
        refine V_sipush dX7_save_25 (by decide) ?_
        refine V_isub dX7_save_28 ?_
        refine V_aload_n dX7_save_29 0 rfl rfl ?_
        refine M_g_saved hM rfl dX7_save_30 ?_
        refine V_iload_n dX7_save_33 1 rfl rfl ?_
        refine M_l_saved hM dX7_save_34 (by first | omega | (dsimp only; omega) | (dsimp only at *; omega)) ?_
        refine M_s_saved hM dX7_save_35 (by first | omega | (dsimp only; omega) | (dsimp only at *; omega)) (fun w hM => ?_)
        refine V_iinc dX7_save_36 rfl (by decide) ?_
        refine V_goto 13 dX7_save_39 (by decide) ?_
        refine ih (by omega) _ _ hM ?_
        intro j hj0 hj1
        try dsimp only
        by_cases hj : j = k - 2189
        · rw [hj, iu_s, hS k (by omega) (by omega), if_neg (by omega), if_pos (by omega), show k - 2189 + 2189 = k by omega]
        · rw [iu_n hj, hS j hj0 hj1]
          split <;> split <;> first | rfl | omega
    exact L13 (2189) (by omega) (by omega) w P.2.2.1 hM (fun j _ _ => by rw [if_neg (by omega)])
set_option maxRecDepth 100000 in
set_option maxHeartbeats 4000000 in
theorem m_layMask {w0 w : WD} {sz μ : Nat} {P : MP} {K : MK} (hM : MW w0 w μ P K) (hv : VZ P.1) : CT iX7_layMask 0 0 [.ref μ] w sz (fun v w' sz' => v = none ∧ sz' = sz ∧ ∃ f, MW w0 w' μ P (K.1, K.2.1, K.2.2.1, K.2.2.2.1, K.2.2.2.2.1, K.2.2.2.2.2.1, f, K.2.2.2.2.2.2.2) ∧ ∀ c, 0 ≤ c → c < 160 → f c = imS P.1 c) := by
  have hz9 := hv.2.1
  refine CT.ofZ (by decide) rfl (Nat.le_of_ble_eq_true rfl) (fun Z hE => ?_)
  refine V_iconst dX7_layMask_0 ?_
  refine V_istore_n dX7_layMask_1 1 rfl (by decide) ?_
  have L2 : ∀ k : Int, 0 ≤ k → k ≤ 160 → ∀ (w : WD) (f : Int → Int), MW w0 w μ P (K.1, K.2.1, K.2.2.1, K.2.2.2.1, K.2.2.2.2.1, K.2.2.2.2.2.1, f, K.2.2.2.2.2.2.2) → (∀ j, 0 ≤ j → j < k → f j = 0) → V iX7_layMask Z 0 0 w sz 2 [some (.ref μ), some (xI k), none, none, none, none] [] := by
    refine up_ind ?_
    intro k hk0 hk1 ih w f hM hf
    refine V_iload_n dX7_layMask_2 1 rfl rfl ?_
    refine V_sipush dX7_layMask_3 (by decide) ?_
    refine V_icmp_ge 22 dX7_layMask_6 (by decide) (by first | omega | (have g1 := hv.2.2 i hi0 (by omega); have g2 := g1.2.2.2.2.2.2.2.2.2 k hk0 (by omega); have g3 := imsk_b hv (c := k) ⟨hk0, by omega⟩ i hi0 (by omega); have g4 := hf k hk0 (by omega); rw [if_neg (by omega)] at g4; omega) | (have g1 := hv.2.1; omega) | (have g1 := hv.2.2 i hi0 (by omega); omega)) (fun h6 => ?_) (fun h6 => ?_)
    · refine V_iconst dX7_layMask_22 ?_
      refine V_istore_n dX7_layMask_23 1 rfl (by decide) ?_
      have L24 : ∀ i : Int, 0 ≤ i → i ≤ P.1 160 → ∀ (w : WD) (f : Int → Int), MW w0 w μ P (K.1, K.2.1, K.2.2.1, K.2.2.2.1, K.2.2.2.2.1, K.2.2.2.2.2.1, f, K.2.2.2.2.2.2.2) → (∀ c, 0 ≤ c → c < 160 → f c = imsk P.1 i c) → V iX7_layMask Z 0 0 w sz 24 [some (.ref μ), some (xI i), none, none, none, none] [] := by
        refine up_ind ?_
        intro i hi0 hi1 ihi w f hM hf
        refine V_iload_n dX7_layMask_24 1 rfl rfl ?_
        refine V_aload_n dX7_layMask_25 0 rfl rfl ?_
        refine M_g_z hM rfl dX7_layMask_26 ?_
        refine V_sipush dX7_layMask_29 (by decide) ?_
        refine M_l_z hM dX7_layMask_32 (by first | omega | (dsimp only; omega) | (dsimp only at *; omega)) ?_
        try dsimp only
        refine V_icmp_ge 161 dX7_layMask_33 (by decide) (by first | omega | (have g1 := hv.2.2 i hi0 (by omega); have g2 := g1.2.2.2.2.2.2.2.2.2 k hk0 (by omega); have g3 := imsk_b hv (c := k) ⟨hk0, by omega⟩ i hi0 (by omega); have g4 := hf k hk0 (by omega); rw [if_neg (by omega)] at g4; omega) | (have g1 := hv.2.1; omega) | (have g1 := hv.2.2 i hi0 (by omega); omega)) (fun h33 => ?_) (fun h33 => ?_)
        · exact V_vret hE rfl dX7_layMask_161 ⟨rfl, rfl, _, hM, fun c h1 h2 => by rw [hf c h1 h2, show i = P.1 160 by omega]⟩
        · refine V_iconst dX7_layMask_36 ?_
          refine V_istore_n dX7_layMask_37 2 rfl (by decide) ?_
          have L38 : ∀ k : Int, 0 ≤ k → k ≤ 160 → ∀ (w : WD) (f : Int → Int), MW w0 w μ P (K.1, K.2.1, K.2.2.1, K.2.2.2.1, K.2.2.2.2.1, K.2.2.2.2.2.1, f, K.2.2.2.2.2.2.2) → (∀ c, 0 ≤ c → c < 160 → f c = if c < k then imsk P.1 (i + 1) c else imsk P.1 i c) → V iX7_layMask Z 0 0 w sz 38 [some (.ref μ), some (xI i), some (xI k), none, none, none] [] := by
            refine up_ind ?_
            intro k hk0 hk1 ih w f hM hf
            refine V_iload_n dX7_layMask_38 2 rfl rfl ?_
            refine V_sipush dX7_layMask_39 (by decide) ?_
            refine V_icmp_ge 155 dX7_layMask_42 (by decide) (by first | omega | (have g1 := hv.2.2 i hi0 (by omega); have g2 := g1.2.2.2.2.2.2.2.2.2 k hk0 (by omega); have g3 := imsk_b hv (c := k) ⟨hk0, by omega⟩ i hi0 (by omega); have g4 := hf k hk0 (by omega); rw [if_neg (by omega)] at g4; omega) | (have g1 := hv.2.1; omega) | (have g1 := hv.2.2 i hi0 (by omega); omega)) (fun h42 => ?_) (fun h42 => ?_)
            · refine V_iinc dX7_layMask_155 rfl (by decide) ?_
              refine V_goto 24 dX7_layMask_158 (by decide) ?_
              refine V_fg [true, true, false, false, false, false] ?_
              refine ihi (by omega) _ _ hM (fun c h1 h2 => ?_)
              rw [hf c h1 h2]
              first | (rw [if_pos (by omega)]; done) | (rw [imsk_s hi0, if_neg h42]; split <;> rfl)
            · refine V_aload_n dX7_layMask_45 0 rfl rfl ?_
              refine V_iload_n dX7_layMask_46 1 rfl rfl ?_
              refine V_bipush dX7_layMask_47 (by decide) ?_
              refine V_c_X7_46 rfl (by decide) (m_of hM (by have g1 := hv.2.1; omega)) dX7_layMask_49 hM.1 rfl rfl (Nat.le_of_ble_eq_true rfl) (Nat.le_of_eq (Nat.zero_add _)) (Nat.le_of_eq (Nat.zero_add _)) (fun v w sz q => ?_)
              try dsimp only at q
              obtain ⟨rfl, rfl, rfl⟩ := q
              refine V_iconst dX7_layMask_52 ?_
              refine V_icmp_ne 155 dX7_layMask_53 (by decide) (by first | omega | (have g1 := hv.2.2 i hi0 (by omega); have g2 := g1.2.2.2.2.2.2.2.2.2 k hk0 (by omega); have g3 := imsk_b hv (c := k) ⟨hk0, by omega⟩ i hi0 (by omega); have g4 := hf k hk0 (by omega); rw [if_neg (by omega)] at g4; omega) | (have g1 := hv.2.1; omega) | (have g1 := hv.2.2 i hi0 (by omega); omega)) (fun h53 => ?_) (fun h53 => ?_)
              · refine V_iinc dX7_layMask_155 rfl (by decide) ?_
                refine V_goto 24 dX7_layMask_158 (by decide) ?_
                refine V_fg [true, true, false, false, false, false] ?_
                refine ihi (by omega) _ _ hM (fun c h1 h2 => ?_)
                rw [hf c h1 h2]
                first | (rw [if_pos (by omega)]; done) | (rw [imsk_s hi0, if_neg h53]; split <;> rfl)
              · refine V_aload_n dX7_layMask_56 0 rfl rfl ?_
                refine V_iload_n dX7_layMask_57 1 rfl rfl ?_
                refine V_iload_n dX7_layMask_58 2 rfl rfl ?_
                refine V_c_X7_85 rfl (by decide) (m_levelOf hM (by have g1 := hv.2.1; omega)) dX7_layMask_59 hM.1 rfl rfl (Nat.le_of_ble_eq_true rfl) (Nat.le_of_eq (Nat.zero_add _)) (Nat.le_of_eq (Nat.zero_add _)) (fun v w sz q => ?_)
                try dsimp only at q
                obtain ⟨rfl, rfl, rfl⟩ := q
                refine V_istore_n dX7_layMask_62 3 rfl (by decide) ?_
                refine V_bipush dX7_layMask_63 (by decide) ?_
                refine V_iload_n dX7_layMask_65 3 rfl rfl ?_
                refine V_isub dX7_layMask_66 ?_
                refine V_istore dX7_layMask_67 (by decide) ?_
                refine V_aload_n dX7_layMask_69 0 rfl rfl ?_
                refine V_iload_n dX7_layMask_70 1 rfl rfl ?_
                refine V_iconst dX7_layMask_71 ?_
                refine V_c_X7_46 rfl (by decide) (m_of hM (by have g1 := hv.2.1; omega)) dX7_layMask_72 hM.1 rfl rfl (Nat.le_of_ble_eq_true rfl) (Nat.le_of_eq (Nat.zero_add _)) (Nat.le_of_eq (Nat.zero_add _)) (fun v w sz q => ?_)
                try dsimp only at q
                obtain ⟨rfl, rfl, rfl⟩ := q
                refine V_istore dX7_layMask_75 (by decide) ?_
                refine V_iload dX7_layMask_77 rfl ?_
                refine V_if_eq 114 dX7_layMask_79 (by decide) (by first | omega | (have g1 := hv.2.2 i hi0 (by omega); have g2 := g1.2.2.2.2.2.2.2.2.2 k hk0 (by omega); have g3 := imsk_b hv (c := k) ⟨hk0, by omega⟩ i hi0 (by omega); have g4 := hf k hk0 (by omega); rw [if_neg (by omega)] at g4; omega) | (have g1 := hv.2.1; omega) | (have g1 := hv.2.2 i hi0 (by omega); omega)) (fun h79 => ?_) (fun h79 => ?_)
                · refine V_aload_n dX7_layMask_114 0 rfl rfl ?_
                  refine M_g_mask hM rfl dX7_layMask_115 ?_
                  refine V_iload_n dX7_layMask_118 2 rfl rfl ?_
                  refine V_iload_n dX7_layMask_119 3 rfl rfl ?_
                  refine M_s_mask hM dX7_layMask_120 (by first | omega | (dsimp only; omega) | (dsimp only at *; omega)) (fun w hM => ?_)
                  try dsimp only at hM
                  refine V_goto 149 dX7_layMask_121 (by decide) ?_
                  refine V_iinc dX7_layMask_149 rfl (by decide) ?_
                  refine V_goto 38 dX7_layMask_152 (by decide) ?_
                  refine V_fg [true, true, true, false, false, false] ?_
                  refine ih (by omega) _ _ hM (fun c hc0 hc1 => ?_)
                  try dsimp only at *
                  have e0 := hf k hk0 (by omega)
                  rw [if_neg (by omega)] at e0
                  by_cases hc : c = k
                  · rw [hc, if_pos (by omega), imsk_s hi0, if_pos h53, ← e0]
                    (try rw [iu_s])
                    unfold imst
                    omega
                  · (try rw [iu_n hc])
                    rw [hf c hc0 hc1]
                    split <;> split <;> first | rfl | omega
                · refine V_iload dX7_layMask_82 rfl ?_
                  refine V_iconst dX7_layMask_84 ?_
                  refine V_icmp_ne 98 dX7_layMask_85 (by decide) (by first | omega | (have g1 := hv.2.2 i hi0 (by omega); have g2 := g1.2.2.2.2.2.2.2.2.2 k hk0 (by omega); have g3 := imsk_b hv (c := k) ⟨hk0, by omega⟩ i hi0 (by omega); have g4 := hf k hk0 (by omega); rw [if_neg (by omega)] at g4; omega) | (have g1 := hv.2.1; omega) | (have g1 := hv.2.2 i hi0 (by omega); omega)) (fun h85 => ?_) (fun h85 => ?_)
                  · refine V_iload dX7_layMask_98 rfl ?_
                    refine V_iconst dX7_layMask_100 ?_
                    refine V_icmp_ne 124 dX7_layMask_101 (by decide) (by first | omega | (have g1 := hv.2.2 i hi0 (by omega); have g2 := g1.2.2.2.2.2.2.2.2.2 k hk0 (by omega); have g3 := imsk_b hv (c := k) ⟨hk0, by omega⟩ i hi0 (by omega); have g4 := hf k hk0 (by omega); rw [if_neg (by omega)] at g4; omega) | (have g1 := hv.2.1; omega) | (have g1 := hv.2.2 i hi0 (by omega); omega)) (fun h101 => ?_) (fun h101 => ?_)
                    · refine V_iload dX7_layMask_124 rfl ?_
                      refine V_iconst dX7_layMask_126 ?_
                      refine V_icmp_ne 149 dX7_layMask_127 (by decide) (by first | omega | (have g1 := hv.2.2 i hi0 (by omega); have g2 := g1.2.2.2.2.2.2.2.2.2 k hk0 (by omega); have g3 := imsk_b hv (c := k) ⟨hk0, by omega⟩ i hi0 (by omega); have g4 := hf k hk0 (by omega); rw [if_neg (by omega)] at g4; omega) | (have g1 := hv.2.1; omega) | (have g1 := hv.2.2 i hi0 (by omega); omega)) (fun h127 => ?_) (fun h127 => ?_)
                      · refine V_iinc dX7_layMask_149 rfl (by decide) ?_
                        refine V_goto 38 dX7_layMask_152 (by decide) ?_
                        refine V_fg [true, true, true, false, false, false] ?_
                        refine ih (by omega) _ _ hM (fun c hc0 hc1 => ?_)
                        try dsimp only at *
                        have e0 := hf k hk0 (by omega)
                        rw [if_neg (by omega)] at e0
                        by_cases hc : c = k
                        · rw [hc, if_pos (by omega), imsk_s hi0, if_pos h53, ← e0]
                          (try rw [iu_s])
                          unfold imst
                          omega
                        · (try rw [iu_n hc])
                          rw [hf c hc0 hc1]
                          split <;> split <;> first | rfl | omega
                      · refine V_iload dX7_layMask_130 rfl ?_
                        refine V_aload_n dX7_layMask_132 0 rfl rfl ?_
                        refine M_g_mask hM rfl dX7_layMask_133 ?_
                        refine V_iload_n dX7_layMask_136 2 rfl rfl ?_
                        refine M_l_mask hM dX7_layMask_137 (by first | omega | (dsimp only; omega) | (dsimp only at *; omega)) ?_
                        try dsimp only
                        refine V_icmp_ge 149 dX7_layMask_138 (by decide) (by first | omega | (have g1 := hv.2.2 i hi0 (by omega); have g2 := g1.2.2.2.2.2.2.2.2.2 k hk0 (by omega); have g3 := imsk_b hv (c := k) ⟨hk0, by omega⟩ i hi0 (by omega); have g4 := hf k hk0 (by omega); rw [if_neg (by omega)] at g4; omega) | (have g1 := hv.2.1; omega) | (have g1 := hv.2.2 i hi0 (by omega); omega)) (fun h138 => ?_) (fun h138 => ?_)
                        · refine V_iinc dX7_layMask_149 rfl (by decide) ?_
                          refine V_goto 38 dX7_layMask_152 (by decide) ?_
                          refine V_fg [true, true, true, false, false, false] ?_
                          refine ih (by omega) _ _ hM (fun c hc0 hc1 => ?_)
                          try dsimp only at *
                          have e0 := hf k hk0 (by omega)
                          rw [if_neg (by omega)] at e0
                          by_cases hc : c = k
                          · rw [hc, if_pos (by omega), imsk_s hi0, if_pos h53, ← e0]
                            (try rw [iu_s])
                            unfold imst
                            omega
                          · (try rw [iu_n hc])
                            rw [hf c hc0 hc1]
                            split <;> split <;> first | rfl | omega
                        · refine V_aload_n dX7_layMask_141 0 rfl rfl ?_
                          refine M_g_mask hM rfl dX7_layMask_142 ?_
                          refine V_iload_n dX7_layMask_145 2 rfl rfl ?_
                          refine V_iload dX7_layMask_146 rfl ?_
                          refine M_s_mask hM dX7_layMask_148 (by first | omega | (dsimp only; omega) | (dsimp only at *; omega)) (fun w hM => ?_)
                          try dsimp only at hM
                          refine V_iinc dX7_layMask_149 rfl (by decide) ?_
                          refine V_goto 38 dX7_layMask_152 (by decide) ?_
                          refine V_fg [true, true, true, false, false, false] ?_
                          refine ih (by omega) _ _ hM (fun c hc0 hc1 => ?_)
                          try dsimp only at *
                          have e0 := hf k hk0 (by omega)
                          rw [if_neg (by omega)] at e0
                          by_cases hc : c = k
                          · rw [hc, if_pos (by omega), imsk_s hi0, if_pos h53, ← e0]
                            (try rw [iu_s])
                            unfold imst
                            omega
                          · (try rw [iu_n hc])
                            rw [hf c hc0 hc1]
                            split <;> split <;> first | rfl | omega
                    · refine V_iload_n dX7_layMask_104 3 rfl rfl ?_
                      refine V_aload_n dX7_layMask_105 0 rfl rfl ?_
                      refine M_g_mask hM rfl dX7_layMask_106 ?_
                      refine V_iload_n dX7_layMask_109 2 rfl rfl ?_
                      refine M_l_mask hM dX7_layMask_110 (by first | omega | (dsimp only; omega) | (dsimp only at *; omega)) ?_
                      try dsimp only
                      refine V_icmp_ge 124 dX7_layMask_111 (by decide) (by first | omega | (have g1 := hv.2.2 i hi0 (by omega); have g2 := g1.2.2.2.2.2.2.2.2.2 k hk0 (by omega); have g3 := imsk_b hv (c := k) ⟨hk0, by omega⟩ i hi0 (by omega); have g4 := hf k hk0 (by omega); rw [if_neg (by omega)] at g4; omega) | (have g1 := hv.2.1; omega) | (have g1 := hv.2.2 i hi0 (by omega); omega)) (fun h111 => ?_) (fun h111 => ?_)
                      · refine V_iload dX7_layMask_124 rfl ?_
                        refine V_iconst dX7_layMask_126 ?_
                        refine V_icmp_ne 149 dX7_layMask_127 (by decide) (by first | omega | (have g1 := hv.2.2 i hi0 (by omega); have g2 := g1.2.2.2.2.2.2.2.2.2 k hk0 (by omega); have g3 := imsk_b hv (c := k) ⟨hk0, by omega⟩ i hi0 (by omega); have g4 := hf k hk0 (by omega); rw [if_neg (by omega)] at g4; omega) | (have g1 := hv.2.1; omega) | (have g1 := hv.2.2 i hi0 (by omega); omega)) (fun h127 => ?_) (fun h127 => ?_)
                        · refine V_iinc dX7_layMask_149 rfl (by decide) ?_
                          refine V_goto 38 dX7_layMask_152 (by decide) ?_
                          refine V_fg [true, true, true, false, false, false] ?_
                          refine ih (by omega) _ _ hM (fun c hc0 hc1 => ?_)
                          try dsimp only at *
                          have e0 := hf k hk0 (by omega)
                          rw [if_neg (by omega)] at e0
                          by_cases hc : c = k
                          · rw [hc, if_pos (by omega), imsk_s hi0, if_pos h53, ← e0]
                            (try rw [iu_s])
                            unfold imst
                            omega
                          · (try rw [iu_n hc])
                            rw [hf c hc0 hc1]
                            split <;> split <;> first | rfl | omega
                        · refine V_iload dX7_layMask_130 rfl ?_
                          refine V_aload_n dX7_layMask_132 0 rfl rfl ?_
                          refine M_g_mask hM rfl dX7_layMask_133 ?_
                          refine V_iload_n dX7_layMask_136 2 rfl rfl ?_
                          refine M_l_mask hM dX7_layMask_137 (by first | omega | (dsimp only; omega) | (dsimp only at *; omega)) ?_
                          try dsimp only
                          refine V_icmp_ge 149 dX7_layMask_138 (by decide) (by first | omega | (have g1 := hv.2.2 i hi0 (by omega); have g2 := g1.2.2.2.2.2.2.2.2.2 k hk0 (by omega); have g3 := imsk_b hv (c := k) ⟨hk0, by omega⟩ i hi0 (by omega); have g4 := hf k hk0 (by omega); rw [if_neg (by omega)] at g4; omega) | (have g1 := hv.2.1; omega) | (have g1 := hv.2.2 i hi0 (by omega); omega)) (fun h138 => ?_) (fun h138 => ?_)
                          · refine V_iinc dX7_layMask_149 rfl (by decide) ?_
                            refine V_goto 38 dX7_layMask_152 (by decide) ?_
                            refine V_fg [true, true, true, false, false, false] ?_
                            refine ih (by omega) _ _ hM (fun c hc0 hc1 => ?_)
                            try dsimp only at *
                            have e0 := hf k hk0 (by omega)
                            rw [if_neg (by omega)] at e0
                            by_cases hc : c = k
                            · rw [hc, if_pos (by omega), imsk_s hi0, if_pos h53, ← e0]
                              (try rw [iu_s])
                              unfold imst
                              omega
                            · (try rw [iu_n hc])
                              rw [hf c hc0 hc1]
                              split <;> split <;> first | rfl | omega
                          · refine V_aload_n dX7_layMask_141 0 rfl rfl ?_
                            refine M_g_mask hM rfl dX7_layMask_142 ?_
                            refine V_iload_n dX7_layMask_145 2 rfl rfl ?_
                            refine V_iload dX7_layMask_146 rfl ?_
                            refine M_s_mask hM dX7_layMask_148 (by first | omega | (dsimp only; omega) | (dsimp only at *; omega)) (fun w hM => ?_)
                            try dsimp only at hM
                            refine V_iinc dX7_layMask_149 rfl (by decide) ?_
                            refine V_goto 38 dX7_layMask_152 (by decide) ?_
                            refine V_fg [true, true, true, false, false, false] ?_
                            refine ih (by omega) _ _ hM (fun c hc0 hc1 => ?_)
                            try dsimp only at *
                            have e0 := hf k hk0 (by omega)
                            rw [if_neg (by omega)] at e0
                            by_cases hc : c = k
                            · rw [hc, if_pos (by omega), imsk_s hi0, if_pos h53, ← e0]
                              (try rw [iu_s])
                              unfold imst
                              omega
                            · (try rw [iu_n hc])
                              rw [hf c hc0 hc1]
                              split <;> split <;> first | rfl | omega
                      · refine V_aload_n dX7_layMask_114 0 rfl rfl ?_
                        refine M_g_mask hM rfl dX7_layMask_115 ?_
                        refine V_iload_n dX7_layMask_118 2 rfl rfl ?_
                        refine V_iload_n dX7_layMask_119 3 rfl rfl ?_
                        refine M_s_mask hM dX7_layMask_120 (by first | omega | (dsimp only; omega) | (dsimp only at *; omega)) (fun w hM => ?_)
                        try dsimp only at hM
                        refine V_goto 149 dX7_layMask_121 (by decide) ?_
                        refine V_iinc dX7_layMask_149 rfl (by decide) ?_
                        refine V_goto 38 dX7_layMask_152 (by decide) ?_
                        refine V_fg [true, true, true, false, false, false] ?_
                        refine ih (by omega) _ _ hM (fun c hc0 hc1 => ?_)
                        try dsimp only at *
                        have e0 := hf k hk0 (by omega)
                        rw [if_neg (by omega)] at e0
                        by_cases hc : c = k
                        · rw [hc, if_pos (by omega), imsk_s hi0, if_pos h53, ← e0]
                          (try rw [iu_s])
                          unfold imst
                          omega
                        · (try rw [iu_n hc])
                          rw [hf c hc0 hc1]
                          split <;> split <;> first | rfl | omega
                  · refine V_iload_n dX7_layMask_88 3 rfl rfl ?_
                    refine V_aload_n dX7_layMask_89 0 rfl rfl ?_
                    refine M_g_mask hM rfl dX7_layMask_90 ?_
                    refine V_iload_n dX7_layMask_93 2 rfl rfl ?_
                    refine M_l_mask hM dX7_layMask_94 (by first | omega | (dsimp only; omega) | (dsimp only at *; omega)) ?_
                    try dsimp only
                    refine V_icmp_gt 114 dX7_layMask_95 (by decide) (by first | omega | (have g1 := hv.2.2 i hi0 (by omega); have g2 := g1.2.2.2.2.2.2.2.2.2 k hk0 (by omega); have g3 := imsk_b hv (c := k) ⟨hk0, by omega⟩ i hi0 (by omega); have g4 := hf k hk0 (by omega); rw [if_neg (by omega)] at g4; omega) | (have g1 := hv.2.1; omega) | (have g1 := hv.2.2 i hi0 (by omega); omega)) (fun h95 => ?_) (fun h95 => ?_)
                    · refine V_aload_n dX7_layMask_114 0 rfl rfl ?_
                      refine M_g_mask hM rfl dX7_layMask_115 ?_
                      refine V_iload_n dX7_layMask_118 2 rfl rfl ?_
                      refine V_iload_n dX7_layMask_119 3 rfl rfl ?_
                      refine M_s_mask hM dX7_layMask_120 (by first | omega | (dsimp only; omega) | (dsimp only at *; omega)) (fun w hM => ?_)
                      try dsimp only at hM
                      refine V_goto 149 dX7_layMask_121 (by decide) ?_
                      refine V_iinc dX7_layMask_149 rfl (by decide) ?_
                      refine V_goto 38 dX7_layMask_152 (by decide) ?_
                      refine V_fg [true, true, true, false, false, false] ?_
                      refine ih (by omega) _ _ hM (fun c hc0 hc1 => ?_)
                      try dsimp only at *
                      have e0 := hf k hk0 (by omega)
                      rw [if_neg (by omega)] at e0
                      by_cases hc : c = k
                      · rw [hc, if_pos (by omega), imsk_s hi0, if_pos h53, ← e0]
                        (try rw [iu_s])
                        unfold imst
                        omega
                      · (try rw [iu_n hc])
                        rw [hf c hc0 hc1]
                        split <;> split <;> first | rfl | omega
                    · refine V_iload dX7_layMask_98 rfl ?_
                      refine V_iconst dX7_layMask_100 ?_
                      refine V_icmp_ne 124 dX7_layMask_101 (by decide) (by first | omega | (have g1 := hv.2.2 i hi0 (by omega); have g2 := g1.2.2.2.2.2.2.2.2.2 k hk0 (by omega); have g3 := imsk_b hv (c := k) ⟨hk0, by omega⟩ i hi0 (by omega); have g4 := hf k hk0 (by omega); rw [if_neg (by omega)] at g4; omega) | (have g1 := hv.2.1; omega) | (have g1 := hv.2.2 i hi0 (by omega); omega)) (fun h101 => ?_) (fun h101 => ?_)
                      · refine V_iload dX7_layMask_124 rfl ?_
                        refine V_iconst dX7_layMask_126 ?_
                        refine V_icmp_ne 149 dX7_layMask_127 (by decide) (by first | omega | (have g1 := hv.2.2 i hi0 (by omega); have g2 := g1.2.2.2.2.2.2.2.2.2 k hk0 (by omega); have g3 := imsk_b hv (c := k) ⟨hk0, by omega⟩ i hi0 (by omega); have g4 := hf k hk0 (by omega); rw [if_neg (by omega)] at g4; omega) | (have g1 := hv.2.1; omega) | (have g1 := hv.2.2 i hi0 (by omega); omega)) (fun h127 => ?_) (fun h127 => ?_)
                        · refine V_iinc dX7_layMask_149 rfl (by decide) ?_
                          refine V_goto 38 dX7_layMask_152 (by decide) ?_
                          refine V_fg [true, true, true, false, false, false] ?_
                          refine ih (by omega) _ _ hM (fun c hc0 hc1 => ?_)
                          try dsimp only at *
                          have e0 := hf k hk0 (by omega)
                          rw [if_neg (by omega)] at e0
                          by_cases hc : c = k
                          · rw [hc, if_pos (by omega), imsk_s hi0, if_pos h53, ← e0]
                            (try rw [iu_s])
                            unfold imst
                            omega
                          · (try rw [iu_n hc])
                            rw [hf c hc0 hc1]
                            split <;> split <;> first | rfl | omega
                        · refine V_iload dX7_layMask_130 rfl ?_
                          refine V_aload_n dX7_layMask_132 0 rfl rfl ?_
                          refine M_g_mask hM rfl dX7_layMask_133 ?_
                          refine V_iload_n dX7_layMask_136 2 rfl rfl ?_
                          refine M_l_mask hM dX7_layMask_137 (by first | omega | (dsimp only; omega) | (dsimp only at *; omega)) ?_
                          try dsimp only
                          refine V_icmp_ge 149 dX7_layMask_138 (by decide) (by first | omega | (have g1 := hv.2.2 i hi0 (by omega); have g2 := g1.2.2.2.2.2.2.2.2.2 k hk0 (by omega); have g3 := imsk_b hv (c := k) ⟨hk0, by omega⟩ i hi0 (by omega); have g4 := hf k hk0 (by omega); rw [if_neg (by omega)] at g4; omega) | (have g1 := hv.2.1; omega) | (have g1 := hv.2.2 i hi0 (by omega); omega)) (fun h138 => ?_) (fun h138 => ?_)
                          · refine V_iinc dX7_layMask_149 rfl (by decide) ?_
                            refine V_goto 38 dX7_layMask_152 (by decide) ?_
                            refine V_fg [true, true, true, false, false, false] ?_
                            refine ih (by omega) _ _ hM (fun c hc0 hc1 => ?_)
                            try dsimp only at *
                            have e0 := hf k hk0 (by omega)
                            rw [if_neg (by omega)] at e0
                            by_cases hc : c = k
                            · rw [hc, if_pos (by omega), imsk_s hi0, if_pos h53, ← e0]
                              (try rw [iu_s])
                              unfold imst
                              omega
                            · (try rw [iu_n hc])
                              rw [hf c hc0 hc1]
                              split <;> split <;> first | rfl | omega
                          · refine V_aload_n dX7_layMask_141 0 rfl rfl ?_
                            refine M_g_mask hM rfl dX7_layMask_142 ?_
                            refine V_iload_n dX7_layMask_145 2 rfl rfl ?_
                            refine V_iload dX7_layMask_146 rfl ?_
                            refine M_s_mask hM dX7_layMask_148 (by first | omega | (dsimp only; omega) | (dsimp only at *; omega)) (fun w hM => ?_)
                            try dsimp only at hM
                            refine V_iinc dX7_layMask_149 rfl (by decide) ?_
                            refine V_goto 38 dX7_layMask_152 (by decide) ?_
                            refine V_fg [true, true, true, false, false, false] ?_
                            refine ih (by omega) _ _ hM (fun c hc0 hc1 => ?_)
                            try dsimp only at *
                            have e0 := hf k hk0 (by omega)
                            rw [if_neg (by omega)] at e0
                            by_cases hc : c = k
                            · rw [hc, if_pos (by omega), imsk_s hi0, if_pos h53, ← e0]
                              (try rw [iu_s])
                              unfold imst
                              omega
                            · (try rw [iu_n hc])
                              rw [hf c hc0 hc1]
                              split <;> split <;> first | rfl | omega
                      · refine V_iload_n dX7_layMask_104 3 rfl rfl ?_
                        refine V_aload_n dX7_layMask_105 0 rfl rfl ?_
                        refine M_g_mask hM rfl dX7_layMask_106 ?_
                        refine V_iload_n dX7_layMask_109 2 rfl rfl ?_
                        refine M_l_mask hM dX7_layMask_110 (by first | omega | (dsimp only; omega) | (dsimp only at *; omega)) ?_
                        try dsimp only
                        refine V_icmp_ge 124 dX7_layMask_111 (by decide) (by first | omega | (have g1 := hv.2.2 i hi0 (by omega); have g2 := g1.2.2.2.2.2.2.2.2.2 k hk0 (by omega); have g3 := imsk_b hv (c := k) ⟨hk0, by omega⟩ i hi0 (by omega); have g4 := hf k hk0 (by omega); rw [if_neg (by omega)] at g4; omega) | (have g1 := hv.2.1; omega) | (have g1 := hv.2.2 i hi0 (by omega); omega)) (fun h111 => ?_) (fun h111 => ?_)
                        · refine V_iload dX7_layMask_124 rfl ?_
                          refine V_iconst dX7_layMask_126 ?_
                          refine V_icmp_ne 149 dX7_layMask_127 (by decide) (by first | omega | (have g1 := hv.2.2 i hi0 (by omega); have g2 := g1.2.2.2.2.2.2.2.2.2 k hk0 (by omega); have g3 := imsk_b hv (c := k) ⟨hk0, by omega⟩ i hi0 (by omega); have g4 := hf k hk0 (by omega); rw [if_neg (by omega)] at g4; omega) | (have g1 := hv.2.1; omega) | (have g1 := hv.2.2 i hi0 (by omega); omega)) (fun h127 => ?_) (fun h127 => ?_)
                          · refine V_iinc dX7_layMask_149 rfl (by decide) ?_
                            refine V_goto 38 dX7_layMask_152 (by decide) ?_
                            refine V_fg [true, true, true, false, false, false] ?_
                            refine ih (by omega) _ _ hM (fun c hc0 hc1 => ?_)
                            try dsimp only at *
                            have e0 := hf k hk0 (by omega)
                            rw [if_neg (by omega)] at e0
                            by_cases hc : c = k
                            · rw [hc, if_pos (by omega), imsk_s hi0, if_pos h53, ← e0]
                              (try rw [iu_s])
                              unfold imst
                              omega
                            · (try rw [iu_n hc])
                              rw [hf c hc0 hc1]
                              split <;> split <;> first | rfl | omega
                          · refine V_iload dX7_layMask_130 rfl ?_
                            refine V_aload_n dX7_layMask_132 0 rfl rfl ?_
                            refine M_g_mask hM rfl dX7_layMask_133 ?_
                            refine V_iload_n dX7_layMask_136 2 rfl rfl ?_
                            refine M_l_mask hM dX7_layMask_137 (by first | omega | (dsimp only; omega) | (dsimp only at *; omega)) ?_
                            try dsimp only
                            refine V_icmp_ge 149 dX7_layMask_138 (by decide) (by first | omega | (have g1 := hv.2.2 i hi0 (by omega); have g2 := g1.2.2.2.2.2.2.2.2.2 k hk0 (by omega); have g3 := imsk_b hv (c := k) ⟨hk0, by omega⟩ i hi0 (by omega); have g4 := hf k hk0 (by omega); rw [if_neg (by omega)] at g4; omega) | (have g1 := hv.2.1; omega) | (have g1 := hv.2.2 i hi0 (by omega); omega)) (fun h138 => ?_) (fun h138 => ?_)
                            · refine V_iinc dX7_layMask_149 rfl (by decide) ?_
                              refine V_goto 38 dX7_layMask_152 (by decide) ?_
                              refine V_fg [true, true, true, false, false, false] ?_
                              refine ih (by omega) _ _ hM (fun c hc0 hc1 => ?_)
                              try dsimp only at *
                              have e0 := hf k hk0 (by omega)
                              rw [if_neg (by omega)] at e0
                              by_cases hc : c = k
                              · rw [hc, if_pos (by omega), imsk_s hi0, if_pos h53, ← e0]
                                (try rw [iu_s])
                                unfold imst
                                omega
                              · (try rw [iu_n hc])
                                rw [hf c hc0 hc1]
                                split <;> split <;> first | rfl | omega
                            · refine V_aload_n dX7_layMask_141 0 rfl rfl ?_
                              refine M_g_mask hM rfl dX7_layMask_142 ?_
                              refine V_iload_n dX7_layMask_145 2 rfl rfl ?_
                              refine V_iload dX7_layMask_146 rfl ?_
                              refine M_s_mask hM dX7_layMask_148 (by first | omega | (dsimp only; omega) | (dsimp only at *; omega)) (fun w hM => ?_)
                              try dsimp only at hM
                              refine V_iinc dX7_layMask_149 rfl (by decide) ?_
                              refine V_goto 38 dX7_layMask_152 (by decide) ?_
                              refine V_fg [true, true, true, false, false, false] ?_
                              refine ih (by omega) _ _ hM (fun c hc0 hc1 => ?_)
                              try dsimp only at *
                              have e0 := hf k hk0 (by omega)
                              rw [if_neg (by omega)] at e0
                              by_cases hc : c = k
                              · rw [hc, if_pos (by omega), imsk_s hi0, if_pos h53, ← e0]
                                (try rw [iu_s])
                                unfold imst
                                omega
                              · (try rw [iu_n hc])
                                rw [hf c hc0 hc1]
                                split <;> split <;> first | rfl | omega
                        · refine V_aload_n dX7_layMask_114 0 rfl rfl ?_
                          refine M_g_mask hM rfl dX7_layMask_115 ?_
                          refine V_iload_n dX7_layMask_118 2 rfl rfl ?_
                          refine V_iload_n dX7_layMask_119 3 rfl rfl ?_
                          refine M_s_mask hM dX7_layMask_120 (by first | omega | (dsimp only; omega) | (dsimp only at *; omega)) (fun w hM => ?_)
                          try dsimp only at hM
                          refine V_goto 149 dX7_layMask_121 (by decide) ?_
                          refine V_iinc dX7_layMask_149 rfl (by decide) ?_
                          refine V_goto 38 dX7_layMask_152 (by decide) ?_
                          refine V_fg [true, true, true, false, false, false] ?_
                          refine ih (by omega) _ _ hM (fun c hc0 hc1 => ?_)
                          try dsimp only at *
                          have e0 := hf k hk0 (by omega)
                          rw [if_neg (by omega)] at e0
                          by_cases hc : c = k
                          · rw [hc, if_pos (by omega), imsk_s hi0, if_pos h53, ← e0]
                            (try rw [iu_s])
                            unfold imst
                            omega
                          · (try rw [iu_n hc])
                            rw [hf c hc0 hc1]
                            split <;> split <;> first | rfl | omega
          refine V_fg [true, true, true, false, false, false] ?_
          exact L38 (0) (by omega) (by omega) w f hM (fun c h1 h2 => by rw [hf c h1 h2, if_neg (by omega)])
      refine V_fg [true, true, false, false, false, false] ?_
      exact L24 (0) (by omega) (by omega) w f hM (fun c h1 h2 => by rw [hf c h1 (by omega), imsk_0])
    · refine V_aload_n dX7_layMask_9 0 rfl rfl ?_
      refine M_g_mask hM rfl dX7_layMask_10 ?_
      refine V_iload_n dX7_layMask_13 1 rfl rfl ?_
      refine V_iconst dX7_layMask_14 ?_
      refine M_s_mask hM dX7_layMask_15 (by first | omega | (dsimp only; omega) | (dsimp only at *; omega)) (fun w hM => ?_)
      try dsimp only at hM
      refine V_iinc dX7_layMask_16 rfl (by decide) ?_
      refine V_goto 2 dX7_layMask_19 (by decide) ?_
      refine V_fg [true, true, false, false, false, false] ?_
      refine ih (by omega) _ _ hM (fun j hj0 hj1 => ?_)
      try dsimp only
      by_cases hj : j = k
      · rw [hj, iu_s]
      · rw [iu_n hj, hf j hj0 (by omega)]
  refine V_fg [true, true, false, false, false, false] ?_
  exact L2 (0) (by omega) (by omega) w K.2.2.2.2.2.2.1 hM (fun j h1 h2 => by omega)
set_option maxRecDepth 100000 in
set_option maxHeartbeats 4000000 in
theorem m_undo {w0 w : WD} {sz μ : Nat} {P : MP} {K : MK} (hM : MW w0 w μ P K) (hs : 0 ≤ P.2.1 ∧ P.2.1 ≤ 6) : CT iX7_undo 0 0 [.ref μ] w sz (fun v w' sz' => (P.2.1 = 0 ∧ v = some (xI 0) ∧ sz' = sz ∧ MW w0 w' μ P (1, K.2)) ∨ (0 < P.2.1 ∧ v = some (xI (P.2.1 - 1)) ∧ sz' = sz ∧ ∃ f, MW w0 w' μ (f, P.2.1 - 1, P.2.2) (0, K.2) ∧ ∀ j, 0 ≤ j → j < 2189 → f j = P.2.2.1 (2189 * (P.2.1 - 1) + j))) := by
  refine CT.ofZ (by decide) rfl (Nat.le_of_ble_eq_true rfl) (fun Z hE => ?_)
  refine V_aload_n dX7_undo_0 0 rfl rfl ?_
  refine V_aload_n dX7_undo_1 0 rfl rfl ?_
  refine M_g_saves hM rfl dX7_undo_2 ?_
  try dsimp only
  refine V_if_le 12 dX7_undo_5 (by decide) (by first | omega | (dsimp only; omega) | (dsimp only at *; omega)) (fun h5 => ?_) (fun h5 => ?_)
  · refine V_iconst dX7_undo_12 ?_
    refine M_p_thrown hM rfl dX7_undo_13 (fun w hM => ?_)
    try dsimp only at hM
    refine V_aload_n dX7_undo_16 0 rfl rfl ?_
    refine M_g_thrown hM rfl dX7_undo_17 ?_
    try dsimp only
    refine V_if_le 25 dX7_undo_20 (by decide) (by first | omega | (dsimp only; omega) | (dsimp only at *; omega)) (fun h20 => ?_) (fun h20 => ?_)
    · exact absurd h20 (by simp)
    · refine V_iconst dX7_undo_23 ?_
      exact V_iret hE rfl dX7_undo_24 (Or.inl ⟨by omega, rfl, rfl, hM⟩)
  · refine V_iconst dX7_undo_8 ?_
    refine V_goto 13 dX7_undo_9 (by decide) ?_
    refine M_p_thrown hM rfl dX7_undo_13 (fun w hM => ?_)
    try dsimp only at hM
    refine V_aload_n dX7_undo_16 0 rfl rfl ?_
    refine M_g_thrown hM rfl dX7_undo_17 ?_
    try dsimp only
    refine V_if_le 25 dX7_undo_20 (by decide) (by first | omega | (dsimp only; omega) | (dsimp only at *; omega)) (fun h20 => ?_) (fun h20 => ?_)
    · refine V_aload_n dX7_undo_25 0 rfl rfl ?_
      refine V_dup dX7_undo_26 rfl ?_
      refine M_g_saves hM rfl dX7_undo_27 ?_
      try dsimp only
      refine V_iconst dX7_undo_30 ?_
      refine V_isub dX7_undo_31 ?_
      refine M_p_saves hM rfl dX7_undo_32 (fun w hM => ?_)
      try dsimp only at hM
      refine V_iconst dX7_undo_35 ?_
      refine V_istore_n dX7_undo_36 1 rfl (by decide) ?_
      have L37 : ∀ k : Int, 0 ≤ k → k ≤ 2189 → ∀ (w : WD) (f : Int → Int), MW w0 w μ (f, P.2.1 - 1, P.2.2) (0, K.2) → (∀ j, 0 ≤ j → j < k → f j = P.2.2.1 (2189 * (P.2.1 - 1) + j)) → V iX7_undo Z 0 0 w sz 37 [some (.ref μ), some (xI k)] [] := by
        refine up_ind ?_
        intro k hk0 hk1 ih w f hM hf
        refine V_iload_n dX7_undo_37 1 rfl rfl ?_
        refine V_sipush dX7_undo_38 (by decide) ?_
        refine V_icmp_ge 71 dX7_undo_41 (by decide) (by first | omega | (dsimp only; omega) | (dsimp only at *; omega)) (fun h41 => ?_) (fun h41 => ?_)
        · refine V_aload_n dX7_undo_71 0 rfl rfl ?_
          refine M_g_saves hM rfl dX7_undo_72 ?_
          try dsimp only
          exact V_iret hE rfl dX7_undo_75 (Or.inr ⟨by omega, rfl, rfl, _, hM, fun j h1 h2 => hf j h1 (by omega)⟩)
        · refine V_aload_n dX7_undo_44 0 rfl rfl ?_
          refine M_g_z hM rfl dX7_undo_45 ?_
          refine V_iload_n dX7_undo_48 1 rfl rfl ?_
          refine V_aload_n dX7_undo_49 0 rfl rfl ?_
          refine M_g_saved hM rfl dX7_undo_50 ?_
          refine V_sipush dX7_undo_53 (by decide) ?_
          refine V_aload_n dX7_undo_56 0 rfl rfl ?_
          refine M_g_saves hM rfl dX7_undo_57 ?_
          try dsimp only
          refine V_imul dX7_undo_60 ?_
          refine V_iload_n dX7_undo_61 1 rfl rfl ?_
          refine V_iadd dX7_undo_62 ?_
          refine M_l_saved hM dX7_undo_63 (by first | omega | (dsimp only; omega) | (dsimp only at *; omega)) ?_
          try dsimp only
          refine M_s_z hM dX7_undo_64 (by first | omega | (dsimp only; omega) | (dsimp only at *; omega)) (fun w hM => ?_)
          try dsimp only at hM
          refine V_iinc dX7_undo_65 rfl (by decide) ?_
          refine V_goto 37 dX7_undo_68 (by decide) ?_
          refine ih (by omega) _ _ hM (fun j hj0 hj1 => ?_)
          try dsimp only
          by_cases hj : j = k
          · rw [hj, iu_s]
          · rw [iu_n hj, hf j hj0 (by omega)]
      exact L37 (0) (by omega) (by omega) w P.1 hM (fun j h1 h2 => by omega)
    · exact absurd h20 (by simp)
set_option maxRecDepth 100000 in
set_option maxHeartbeats 4000000 in
theorem m_exchange {w0 w : WD} {sz μ : Nat} {P : MP} {K : MK} {p : Int} (hM : MW w0 w μ P K) (hp : 0 ≤ p ∧ p ≤ 10) : CT iX7_exchange 0 0 [.ref μ, xI p] w sz (fun v w' sz' => v = none ∧ sz' = sz ∧ ∃ f, MW w0 w' μ (f, P.2) K ∧ ∀ j, 0 ≤ j → j < 2189 → f j = if 161 + 169 * p ≤ j ∧ j < 161 + 169 * p + 169 then P.1 (j + 169) else if 161 + 169 * p + 169 ≤ j ∧ j < 161 + 169 * p + 169 + 169 then P.1 (j - 169) else P.1 j) := by
  refine CT.ofZ (by decide) rfl (Nat.le_of_ble_eq_true rfl) (fun Z hE => ?_)
  refine V_iconst dX7_exchange_0 ?_
  refine V_istore_n dX7_exchange_1 2 rfl (by decide) ?_
  have L2 : ∀ k : Int, 0 ≤ k → k ≤ 169 → ∀ (w : WD) (f : Int → Int), MW w0 w μ (f, P.2) K → (∀ j, 0 ≤ j → j < 2189 → f j = if 161 + 169 * p ≤ j ∧ j < 161 + 169 * p + k then P.1 (j + 169) else if 161 + 169 * p + 169 ≤ j ∧ j < 161 + 169 * p + 169 + k then P.1 (j - 169) else P.1 j) → V iX7_exchange Z 0 0 w sz 2 [some (.ref μ), some (xI p), some (xI k), none] [] := by
    refine up_ind ?_
    intro k hk0 hk1 ih w f hM hf
    refine V_iload_n dX7_exchange_2 2 rfl rfl ?_
    refine V_sipush dX7_exchange_3 (by decide) ?_
    refine V_icmp_ge 67 dX7_exchange_6 (by decide) (by omega) (fun h6 => ?_) (fun h6 => ?_)
    · exact V_vret hE rfl dX7_exchange_67 ⟨rfl, rfl, _, hM, fun j h1 h2 => by rw [hf j h1 h2, show k = 169 by omega]⟩
    · refine V_aload_n dX7_exchange_9 0 rfl rfl ?_
      refine V_iload_n dX7_exchange_10 1 rfl rfl ?_
      refine V_iload_n dX7_exchange_11 2 rfl rfl ?_
      refine V_c_X7_46 rfl (by decide) (m_of hM (by omega)) dX7_exchange_12 hM.1 rfl rfl (Nat.le_of_ble_eq_true rfl) (Nat.le_of_eq (Nat.zero_add _)) (Nat.le_of_eq (Nat.zero_add _)) (fun v w sz q => ?_)
      try dsimp only at q
      obtain ⟨rfl, rfl, rfl⟩ := q
      refine V_istore_n dX7_exchange_15 3 rfl (by decide) ?_
      refine V_aload_n dX7_exchange_16 0 rfl rfl ?_
      refine M_g_z hM rfl dX7_exchange_17 ?_
      refine V_sipush dX7_exchange_20 (by decide) ?_
      refine V_sipush dX7_exchange_23 (by decide) ?_
      refine V_iload_n dX7_exchange_26 1 rfl rfl ?_
      refine V_imul dX7_exchange_27 ?_
      refine V_iadd dX7_exchange_28 ?_
      refine V_iload_n dX7_exchange_29 2 rfl rfl ?_
      refine V_iadd dX7_exchange_30 ?_
      refine V_aload_n dX7_exchange_31 0 rfl rfl ?_
      refine V_iload_n dX7_exchange_32 1 rfl rfl ?_
      refine V_iconst dX7_exchange_33 ?_
      refine V_iadd dX7_exchange_34 ?_
      refine V_iload_n dX7_exchange_35 2 rfl rfl ?_
      refine V_c_X7_46 rfl (by decide) (m_of hM (by omega)) dX7_exchange_36 hM.1 rfl rfl (Nat.le_of_ble_eq_true rfl) (Nat.le_of_eq (Nat.zero_add _)) (Nat.le_of_eq (Nat.zero_add _)) (fun v w sz q => ?_)
      try dsimp only at q
      obtain ⟨rfl, rfl, rfl⟩ := q
      refine M_s_z hM dX7_exchange_39 (by first | omega | (dsimp only; omega) | (dsimp only at *; omega)) (fun w hM => ?_)
      try dsimp only at hM
      refine V_aload_n dX7_exchange_40 0 rfl rfl ?_
      refine M_g_z hM rfl dX7_exchange_41 ?_
      refine V_sipush dX7_exchange_44 (by decide) ?_
      refine V_sipush dX7_exchange_47 (by decide) ?_
      refine V_iload_n dX7_exchange_50 1 rfl rfl ?_
      refine V_imul dX7_exchange_51 ?_
      refine V_iadd dX7_exchange_52 ?_
      refine V_sipush dX7_exchange_53 (by decide) ?_
      refine V_iadd dX7_exchange_56 ?_
      refine V_iload_n dX7_exchange_57 2 rfl rfl ?_
      refine V_iadd dX7_exchange_58 ?_
      refine V_iload_n dX7_exchange_59 3 rfl rfl ?_
      refine M_s_z hM dX7_exchange_60 (by first | omega | (dsimp only; omega) | (dsimp only at *; omega)) (fun w hM => ?_)
      try dsimp only at hM
      refine V_iinc dX7_exchange_61 rfl (by decide) ?_
      refine V_goto 2 dX7_exchange_64 (by decide) ?_
      refine V_fg [true, true, true, false] ?_
      refine ih (by omega) _ _ hM (fun j hj0 hj1 => ?_)
      try dsimp only
      have e1 := hf (161 + 169 * p + k) (by omega) (by omega)
      rw [if_neg (by omega), if_neg (by omega)] at e1
      have e2 := hf (161 + 169 * (p + 1) + k) (by omega) (by omega)
      rw [if_neg (by omega), if_neg (by omega)] at e2
      have e3 := hf j hj0 hj1
      by_cases hj : j = 161 + 169 * p + 169 + k
      · rw [hj, iu_s, e1]
        repeat' split
        all_goals first | omega | exact congrArg P.1 (by omega)
      · rw [iu_n hj]
        by_cases hj2 : j = 161 + 169 * p + k
        · rw [hj2, iu_s, e2]
          repeat' split
          all_goals first | omega | exact congrArg P.1 (by omega)
        · rw [iu_n hj2, e3]
          repeat' split
          all_goals first | rfl | omega
  refine V_fg [true, true, true, false] ?_
  exact L2 (0) (by omega) (by omega) w P.1 hM (fun j h1 h2 => by rw [if_neg (by omega), if_neg (by omega)])
