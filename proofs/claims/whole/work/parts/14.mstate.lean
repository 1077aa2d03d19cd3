/-! the reference: saved states, the mask, exchanged picks -/
abbrev isv (s : Int) : Int := if s = 6 then 5 else s
/-- S is the saved states behind a save of z -/
def Svd (z : Int → Int) (s : Int) (sv S : Int → Int) : Prop := (∀ k, 0 ≤ k → k < 2189 → S (2189 * isv s + k) = z k) ∧ ∀ i k, 0 ≤ i → i < isv s → 0 ≤ k → k < 2189 → S (2189 * i + k) = sv (2189 * (if s = 6 then i + 1 else i) + k)
theorem Svd.of {z sv S1 S : Int → Int} {s : Int} (hs : 0 ≤ s ∧ s ≤ 6) (h1 : ∀ j, 0 ≤ j → j < 13134 → S1 j = if s = 6 ∧ j < 10945 then sv (j + 2189) else sv j) (h2 : ∀ j, 0 ≤ j → j < 13134 → S j = if 2189 * isv s ≤ j ∧ j < 2189 * isv s + 2189 then z (j - 2189 * isv s) else S1 j) : Svd z s sv S := by
  have hi : 0 ≤ isv s ∧ isv s ≤ 5 ∧ (s ≠ 6 → isv s = s) ∧ (s = 6 → isv s = 5) := by unfold isv; omega
  refine ⟨fun k hk0 hk1 => ?_, fun i k hi0 hi1 hk0 hk1 => ?_⟩
  · rw [h2 _ (by omega) (by omega), if_pos (by omega), show 2189 * isv s + k - 2189 * isv s = k by omega]
  · rw [h2 _ (by omega) (by omega), if_neg (by omega), h1 _ (by omega) (by omega)]
    by_cases h6 : s = 6
    · rw [if_pos (by omega), if_pos h6, show 2189 * i + k + 2189 = 2189 * (i + 1) + k by omega]
    · rw [if_neg (by omega), if_neg h6]
abbrev imst (kind p m : Int) : Int := if kind = 0 ∨ (kind = 1 ∧ m < p) ∨ (kind = 3 ∧ p < m) then p else if kind = 2 ∧ 100 - p < m then 100 - p else m
def nmsk (z : Int → Int) (c : Int) : Nat → Int
  | 0 => 0
  | n + 1 => if z (161 + 169 * n + 7) = 1 then imst (z (161 + 169 * n + 5)) (z (161 + 169 * n + (9 + c))) (nmsk z c n) else nmsk z c n
/-- the mask's level of the cell c behind the first i picks -/
def imsk (z : Int → Int) (i c : Int) : Int := nmsk z c i.toNat
theorem imsk_0 {z : Int → Int} {c : Int} : imsk z 0 c = 0 := rfl
theorem imsk_s {z : Int → Int} {c i : Int} (h : 0 ≤ i) : imsk z (i + 1) c = if z (161 + 169 * i + 7) = 1 then imst (z (161 + 169 * i + 5)) (z (161 + 169 * i + (9 + c))) (imsk z i c) else imsk z i c := by
  unfold imsk
  rw [show (i + 1).toNat = i.toNat + 1 by omega]
  show (if z (161 + 169 * (i.toNat : Nat) + 7) = 1 then _ else _) = _
  rw [show ((i.toNat : Nat) : Int) = i by omega]
/-- what a state's numbers keep to -/
def VZ (z : Int → Int) : Prop := (∀ k, 0 ≤ k → k < 160 → 0 ≤ z k ∧ z k ≤ 99) ∧ (0 ≤ z 160 ∧ z 160 ≤ 12) ∧ ∀ p, 0 ≤ p → p < z 160 →
  (0 ≤ z (161 + 169 * p) ∧ z (161 + 169 * p) ≤ 15) ∧ (0 ≤ z (161 + 169 * p + 1) ∧ z (161 + 169 * p + 1) ≤ 9) ∧ (0 ≤ z (161 + 169 * p + 2) ∧ z (161 + 169 * p + 2) ≤ 99) ∧ (0 ≤ z (161 + 169 * p + 3) ∧ z (161 + 169 * p + 3) ≤ 1) ∧ (0 ≤ z (161 + 169 * p + 4) ∧ z (161 + 169 * p + 4) ≤ 5) ∧ (0 ≤ z (161 + 169 * p + 5) ∧ z (161 + 169 * p + 5) ≤ 3) ∧ (0 ≤ z (161 + 169 * p + 6) ∧ z (161 + 169 * p + 6) ≤ 4) ∧ (0 ≤ z (161 + 169 * p + 7) ∧ z (161 + 169 * p + 7) ≤ 1) ∧ (0 ≤ z (161 + 169 * p + 8) ∧ z (161 + 169 * p + 8) ≤ 5) ∧ ∀ c, 0 ≤ c → c < 160 → 0 ≤ z (161 + 169 * p + (9 + c)) ∧ z (161 + 169 * p + (9 + c)) ≤ 100
theorem VZ.lev {z : Int → Int} (h : VZ z) : ∀ p c, 0 ≤ p → p < z 160 → 0 ≤ c → c < 160 → 0 ≤ z (161 + 169 * p + (9 + c)) ∧ z (161 + 169 * p + (9 + c)) ≤ 100 := fun p c h1 h2 h3 h4 => (h.2.2 p h1 h2).2.2.2.2.2.2.2.2.2 c h3 h4
theorem imsk_b {z : Int → Int} (h : VZ z) {c : Int} (hc : 0 ≤ c ∧ c < 160) : ∀ i, 0 ≤ i → i ≤ z 160 → 0 ≤ imsk z i c ∧ imsk z i c ≤ 100 := by
  have key : ∀ n : Nat, (n : Int) ≤ z 160 → 0 ≤ nmsk z c n ∧ nmsk z c n ≤ 100 := by
    intro n
    induction n with
    | zero => intro _; show 0 ≤ (0 : Int) ∧ (0 : Int) ≤ 100; omega
    | succ n ih =>
      intro hn
      have h1 := ih (by omega)
      have h2 := h.lev n c (by omega) (by omega) hc.1 hc.2
      show 0 ≤ (if z (161 + 169 * n + 7) = 1 then imst (z (161 + 169 * n + 5)) (z (161 + 169 * n + (9 + c))) (nmsk z c n) else nmsk z c n) ∧ (if z (161 + 169 * n + 7) = 1 then imst (z (161 + 169 * n + 5)) (z (161 + 169 * n + (9 + c))) (nmsk z c n) else nmsk z c n) ≤ 100
      unfold imst
      omega
  intro i h0 h1
  exact key i.toNat (by omega)
/-- the mask's level of the cell c -/
abbrev imS (z : Int → Int) (c : Int) : Int := imsk z (z 160) c
set_option maxRecDepth 100000 in
set_option maxHeartbeats 4000000 in
theorem m_save_2 {w0 w : WD} {sz μ : Nat} {P : MP} {K : MK} {Z : XZ} {S1 : Int → Int} (hE : xEnd Z (fun v w' sz' => v = none ∧ sz' = sz ∧ ∃ S, MW w0 w' μ (P.1, (if P.2.1 = 6 then 6 else P.2.1 + 1), S, P.2.2.2) K ∧ Svd P.1 P.2.1 P.2.2.1 S)) (hs : 0 ≤ P.2.1 ∧ P.2.1 ≤ 6) (hM : MW w0 w μ (P.1, isv P.2.1, S1, P.2.2.2) K) (hS1 : ∀ j, 0 ≤ j → j < 13134 → S1 j = if P.2.1 = 6 ∧ j < 10945 then P.2.2.1 (j + 2189) else P.2.2.1 j) : V iX7_save Z 0 0 w sz 54 [some (.ref μ), some (xI 0)] [] := by
  have hi : 0 ≤ isv P.2.1 ∧ isv P.2.1 ≤ 5 := by unfold isv; omega
  have L54 : ∀ k : Int, 0 ≤ k → k ≤ 2189 → ∀ (w : WD) (S : Int → Int), MW w0 w μ (P.1, isv P.2.1, S, P.2.2.2) K → (∀ j, 0 ≤ j → j < 13134 → S j = if 2189 * isv P.2.1 ≤ j ∧ j < 2189 * isv P.2.1 + k then P.1 (j - 2189 * isv P.2.1) else S1 j) → V iX7_save Z 0 0 w sz 54 [some (.ref μ), some (xI k)] [] := by
    refine up_ind ?_
    intro k hk0 hk1 ih w S hM hS
    refine V_iload_n dX7_save_54 1 rfl rfl ?_
    refine V_sipush dX7_save_55 (by decide) ?_
    refine V_icmp_ge 88 dX7_save_58 (by decide) (by have hi9 : 0 ≤ isv P.2.1 ∧ isv P.2.1 ≤ 5 := (by unfold isv; omega); first | omega | (dsimp only; omega)) (fun h58 => ?_) (fun h58 => ?_)
    · refine V_aload_n dX7_save_88 0 rfl rfl ?_
      refine V_dup dX7_save_89 rfl ?_
      refine M_g_saves hM rfl dX7_save_90 ?_
      refine V_iconst dX7_save_93 ?_
      refine V_iadd dX7_save_94 ?_
      refine M_p_saves hM rfl dX7_save_95 (fun w hM => ?_)
      exact V_vret hE rfl dX7_save_98 ⟨rfl, rfl, _, by rw [show (if P.2.1 = 6 then 6 else P.2.1 + 1) = isv P.2.1 + 1 by unfold isv; omega]; exact hM, Svd.of hs hS1 (fun j h1 h2 => by rw [hS j h1 h2, show k = 2189 by omega])⟩
    · refine V_aload_n dX7_save_61 0 rfl rfl ?_
      refine M_g_saved hM rfl dX7_save_62 ?_
      refine V_sipush dX7_save_65 (by decide) ?_
      refine V_aload_n dX7_save_68 0 rfl rfl ?_
      refine M_g_saves hM rfl dX7_save_69 ?_
      refine V_imul dX7_save_72 ?_
      refine V_iload_n dX7_save_73 1 rfl rfl ?_
      refine V_iadd dX7_save_74 ?_
      refine V_aload_n dX7_save_75 0 rfl rfl ?_
      refine M_g_z hM rfl dX7_save_76 ?_
      refine V_iload_n dX7_save_79 1 rfl rfl ?_
      refine M_l_z hM dX7_save_80 (by omega) ?_
      refine M_s_saved hM dX7_save_81 (by dsimp only; omega) (fun w hM => ?_)
      refine V_iinc dX7_save_82 rfl (by decide) ?_
      refine V_goto 54 dX7_save_85 (by decide) ?_
      refine ih (by omega) _ _ hM ?_
      intro j hj0 hj1
      dsimp only
      by_cases hj : j = 2189 * isv P.2.1 + k
      · rw [hj, iu_s, if_pos (by omega), show 2189 * isv P.2.1 + k - 2189 * isv P.2.1 = k by omega]
      · rw [iu_n hj, hS j hj0 hj1]
        split <;> split <;> first | rfl | omega
  exact L54 (0) (by omega) (by omega) w S1 hM (fun j _ _ => by rw [if_neg (by omega)])
set_option maxRecDepth 100000 in
set_option maxHeartbeats 4000000 in
theorem m_save {w0 w : WD} {sz μ : Nat} {P : MP} {K : MK} (hM : MW w0 w μ P K) (hs : 0 ≤ P.2.1 ∧ P.2.1 ≤ 6) : CT iX7_save 0 0 [.ref μ] w sz (fun v w' sz' => v = none ∧ sz' = sz ∧ ∃ S, MW w0 w' μ (P.1, (if P.2.1 = 6 then 6 else P.2.1 + 1), S, P.2.2.2) K ∧ Svd P.1 P.2.1 P.2.2.1 S) := by
  refine CT.ofZ (by decide) rfl (Nat.le_of_ble_eq_true rfl) (fun Z hE => ?_)
  refine V_aload_n dX7_save_0 0 rfl rfl ?_
  refine M_g_saves hM rfl dX7_save_1 ?_
  refine V_bipush dX7_save_4 (by decide) ?_
  refine V_icmp_ne 52 dX7_save_6 (by decide) (by omega) (fun h6 => ?_) (fun h6 => ?_)
  · refine V_iconst dX7_save_52 ?_
    refine V_istore_n dX7_save_53 1 rfl (by decide) ?_
    refine m_save_2 (S1 := P.2.2.1) hE hs (by rw [show isv P.2.1 = P.2.1 by unfold isv; omega]; exact hM) (fun j h1 h2 => ?_)
    rw [if_neg (by omega)]
  · refine V_sipush dX7_save_9 (by decide) ?_
    refine V_istore_n dX7_save_12 1 rfl (by decide) ?_
    have L13 : ∀ k : Int, 2189 ≤ k → k ≤ 13134 → ∀ (w : WD) (S : Int → Int), MW w0 w μ (P.1, P.2.1, S, P.2.2.2) K → (∀ j, 0 ≤ j → j < 13134 → S j = if j < k - 2189 then P.2.2.1 (j + 2189) else P.2.2.1 j) → V iX7_save Z 0 0 w sz 13 [some (.ref μ), some (xI k)] [] := by
      refine up_ind ?_
      intro k hk0 hk1 ih w S hM hS
      refine V_iload_n dX7_save_13 1 rfl rfl ?_
      refine V_sipush dX7_save_14 (by decide) ?_
      refine V_icmp_ge 42 dX7_save_17 (by decide) (by omega) (fun h17 => ?_) (fun h17 => ?_)
      · refine V_aload_n dX7_save_42 0 rfl rfl ?_
        refine V_dup dX7_save_43 rfl ?_
        refine M_g_saves hM rfl dX7_save_44 ?_
        refine V_iconst dX7_save_47 ?_
        refine V_isub dX7_save_48 ?_
        refine M_p_saves hM rfl dX7_save_49 (fun w hM => ?_)
        refine V_iconst dX7_save_52 ?_
        refine V_istore_n dX7_save_53 1 rfl (by decide) ?_
        have h6 : P.2.1 = 6 := by omega
        refine m_save_2 (S1 := S) hE hs (by rw [show isv P.2.1 = P.2.1 - 1 by unfold isv; omega]; exact hM) (fun j h1 h2 => ?_)
        rw [hS j h1 h2]
        split <;> split <;> first | rfl | omega
      · refine V_aload_n dX7_save_20 0 rfl rfl ?_
        refine M_g_saved hM rfl dX7_save_21 ?_
        refine V_iload_n dX7_save_24 1 rfl rfl ?_
        refine V_sipush dX7_save_25 (by decide) ?_
        refine V_isub dX7_save_28 ?_
        refine V_aload_n dX7_save_29 0 rfl rfl ?_
        refine M_g_saved hM rfl dX7_save_30 ?_
        refine V_iload_n dX7_save_33 1 rfl rfl ?_
        refine M_l_saved hM dX7_save_34 (by omega) ?_
        refine M_s_saved hM dX7_save_35 (by omega) (fun w hM => ?_)
        refine V_iinc dX7_save_36 rfl (by decide) ?_
        refine V_goto 13 dX7_save_39 (by decide) ?_
        refine ih (by omega) _ _ hM ?_
        intro j hj0 hj1
        dsimp only
        by_cases hj : j = k - 2189
        · rw [hj, iu_s, hS k (by omega) (by omega), if_neg (by omega), if_pos (by omega), show k - 2189 + 2189 = k by omega]
        · rw [iu_n hj, hS j hj0 hj1]
          split <;> split <;> first | rfl | omega
    exact L13 (2189) (by omega) (by omega) w P.2.2.1 hM (fun j _ _ => by rw [if_neg (by omega)])
