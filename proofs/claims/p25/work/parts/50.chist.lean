/-! the class: the saved states -/
abbrev HT : Type := (Nat → Option Nat) × Int
def HW (w0 w : WD) (η : Nat) (T : HT) : Prop := w η = some (xOb 2 [.ref (η + 1), xI (T.2)]) ∧ w (η + 1) = some (xRA 4 6 T.1) ∧ ∀ j, (j < η ∨ η + 2 ≤ j) → w j = w0 j
theorem HW.fr {w0 w : WD} {η : Nat} {T : HT} (hM : HW w0 w η T) : ∀ j, (j < η ∨ η + 2 ≤ j) → w j = w0 j := hM.2.2
theorem HW.rb {w0 w : WD} {η : Nat} {T : HT} (hM : HW w0 w η T) : HW w w η T := ⟨hM.1, hM.2.1, fun _ _ => rfl⟩
theorem HW.tr {w1 : WD} {w0 w : WD} {η : Nat} {T : HT} (hM : HW w0 w η T) (h : ∀ j, (j < η ∨ η + 2 ≤ j) → w0 j = w1 j) : HW w1 w η T := ⟨hM.1, hM.2.1, fun j hj => (hM.2.2 j hj).trans (h j hj)⟩
theorem HW.mv {w1 : WD} {w0 w : WD} {η : Nat} {T : HT} (hM : HW w0 w η T) (h : ∀ j, η ≤ j → j < η + 2 → w1 j = w j) : HW w1 w1 η T := ⟨(h _ (by omega) (by omega)).trans hM.1, (h _ (by omega) (by omega)).trans hM.2.1, fun _ _ => rfl⟩
theorem H_g_states {I : XI} {Z : XZ} {kc ks : Nat} {w0 w : WD} {sz pc η : Nat} {T : HT} {lv : List (Option Value)} {st : List Value} (hM : HW w0 w η T) (ho : I.y.cls = RX2) (hd : decode I.cc pc = .ok (.getfield 11, 3)) (kk : V I Z kc ks w sz (pc + 3) lv (.ref (η + 1) :: st)) : V I Z kc ks w sz pc lv (.ref η :: st) := V_g_X2_11 ho hd hM.1 rfl kk
theorem H_g_kept {I : XI} {Z : XZ} {kc ks : Nat} {w0 w : WD} {sz pc η : Nat} {T : HT} {lv : List (Option Value)} {st : List Value} (hM : HW w0 w η T) (ho : I.y.cls = RX2) (hd : decode I.cc pc = .ok (.getfield 17, 3)) (kk : V I Z kc ks w sz (pc + 3) lv (xI (T.2) :: st)) : V I Z kc ks w sz pc lv (.ref η :: st) := V_g_X2_17 ho hd hM.1 rfl kk
theorem H_p_kept {I : XI} {Z : XZ} {kc ks : Nat} {w0 w : WD} {sz pc η : Nat} {T : HT} {lv : List (Option Value)} {st : List Value} {a : Int} (hM : HW w0 w η T) (ho : I.y.cls = RX2) (hd : decode I.cc pc = .ok (.putfield 17, 3)) (kk : ∀ w, HW w0 w η (T.1, a) → V I Z kc ks w sz (pc + 3) lv st) : V I Z kc ks w sz pc lv (xI a :: .ref η :: st) := by
  refine V_p_X2_17 ho hd hM.1 (Nat.le_of_ble_eq_true rfl) (fun _ => rfl) (fun _ => rfl) (kk _ ?_)
  exact ⟨xU_s, (xU_n (by omega)).trans hM.2.1, fun j hj => (xU_n (by omega)).trans (hM.2.2 j hj)⟩
theorem HW.u_states {w1 : WD} {w0 w : WD} {η : Nat} {T : HT} (hM : HW w0 w η T) {g : (Nat → Option Nat)} (h : UA w w1 (η + 1) (xRA 4 6 g)) : HW w0 w1 η (g, T.2) := ⟨(h.2 _ (by omega)).trans hM.1, h.1, fun j hj => (h.2 _ (by omega)).trans (hM.2.2 j hj)⟩
theorem H_r_states {I : XI} {Z : XZ} {kc ks : Nat} {w0 w : WD} {sz pc η : Nat} {T : HT} {lv : List (Option Value)} {st : List Value} {z : Int} {b : Nat} (hM : HW w0 w η T) (hd : decode I.cc pc = .ok (.aaload, 1)) (r : 0 ≤ z ∧ z < 6) (hb : T.1 z.toNat = some b) (kk : V I Z kc ks w sz (pc + 1) lv (.ref b :: st)) : V I Z kc ks w sz pc lv (xI z :: .ref (η + 1) :: st) := V_aald (t := 4) (fun _ => rfl) hd hM.2.1 r hb kk
theorem H_a_states {I : XI} {Z : XZ} {kc ks : Nat} {w0 w : WD} {sz pc η : Nat} {T : HT} {lv : List (Option Value)} {st : List Value} {z : Int} {b : Nat} {fs : List Value} (hM : HW w0 w η T) (hd : decode I.cc pc = .ok (.aastore, 1)) (r : 0 ≤ z ∧ z < 6) (hb : w b = some (xOb 5 fs)) (kk : ∀ w', HW w0 w' η (va_up T.1 z.toNat (some b), T.2) → V I Z kc ks w' sz (pc + 1) lv st) : V I Z kc ks w sz pc lv (.ref b :: xI z :: .ref (η + 1) :: st) := V_aast (t := 4) (ci := 5) (fun _ => rfl) rfl hd hM.2.1 hb r (kk _ (HW.u_states hM ⟨xU_s, fun j hj => xU_n hj⟩))
set_option maxRecDepth 100000 in
set_option maxHeartbeats 4000000 in
theorem c_dropOldest {w0 w : WD} {sz η : Nat} {T : HT} (hM : HW w0 w η T) (hO : ∀ i : Int, 0 ≤ i → i < 6 → ∃ σ fs, T.1 i.toNat = some σ ∧ (σ < η ∨ η + 2 ≤ σ) ∧ w0 σ = some (xOb 5 fs)) : CT iX2_dropOldest 0 0 [.ref η] w sz (fun v w' sz' => v = none ∧ sz' = sz ∧ ∃ g, HW w0 w' η (g, 5) ∧ ∀ i : Int, 0 ≤ i → i < 6 → g i.toNat = T.1 (if i = 5 then 0 else i + 1).toNat) := by
  refine CT.ofZ (by decide) rfl (Nat.le_of_ble_eq_true rfl) (fun Z hE => ?_)
  refine V_aload_n dX2_dropOldest_0 0 rfl rfl ?_
  refine H_g_states hM rfl dX2_dropOldest_1 ?_
  refine V_iconst dX2_dropOldest_4 ?_
  obtain ⟨b0, fs0, hb0, hl0, ho0⟩ := hO 0 (by omega) (by omega)
  refine H_r_states hM dX2_dropOldest_5 (by omega) hb0 ?_
  refine V_astore_n dX2_dropOldest_6 1 rfl (by decide) ?_
  refine V_iconst dX2_dropOldest_7 ?_
  refine V_istore_n dX2_dropOldest_8 2 rfl (by decide) ?_
  have L9 : ∀ k : Int, 1 ≤ k → k ≤ 6 → ∀ (w : WD) (g : Nat → Option Nat), HW w0 w η (g, T.2) → (∀ i : Int, 0 ≤ i → i < 6 → g i.toNat = T.1 (if i < k - 1 then i + 1 else i).toNat) → V iX2_dropOldest Z 0 0 w sz 9 [some (.ref η), some (.ref b0), some (xI k)] [] := by
    refine up_ind ?_
    intro k hk0 hk1 ih w g hM hg
    refine V_iload_n dX2_dropOldest_9 2 rfl rfl ?_
    refine V_bipush dX2_dropOldest_10 (by decide) ?_
    refine V_icmp_ge 35 dX2_dropOldest_12 (by decide) (by omega) (fun h12 => ?_) (fun h12 => ?_)
    · refine V_aload_n dX2_dropOldest_35 0 rfl rfl ?_
      refine H_g_states hM rfl dX2_dropOldest_36 ?_
      refine V_iconst dX2_dropOldest_39 ?_
      refine V_aload_n dX2_dropOldest_40 1 rfl rfl ?_
      refine H_a_states hM dX2_dropOldest_41 (by omega) ((HW.fr hM _ hl0).trans ho0) (fun w hM => ?_)
      try dsimp only at hM
      refine V_aload_n dX2_dropOldest_42 0 rfl rfl ?_
      refine V_iconst dX2_dropOldest_43 ?_
      refine H_p_kept hM rfl dX2_dropOldest_44 (fun w hM => ?_)
      try dsimp only at hM
      exact V_vret hE rfl dX2_dropOldest_47 ⟨rfl, rfl, _, hM, fun i g1 g2 => by
        by_cases e : i = 5
        · rw [if_pos e, e]; exact upn_s.trans hb0.symm
        · rw [if_neg e, upn_n (by omega), hg i g1 g2, if_pos (by omega)]⟩
    · refine V_aload_n dX2_dropOldest_15 0 rfl rfl ?_
      refine H_g_states hM rfl dX2_dropOldest_16 ?_
      refine V_iload_n dX2_dropOldest_19 2 rfl rfl ?_
      refine V_iconst dX2_dropOldest_20 ?_
      refine V_isub dX2_dropOldest_21 ?_
      refine V_aload_n dX2_dropOldest_22 0 rfl rfl ?_
      refine H_g_states hM rfl dX2_dropOldest_23 ?_
      refine V_iload_n dX2_dropOldest_26 2 rfl rfl ?_
      obtain ⟨b9, fs9, hb9, hl9, ho9⟩ := hO k (by omega) (by omega)
      refine H_r_states hM dX2_dropOldest_27 (by omega) (b := b9) (by dsimp only; rw [hg k (by omega) (by omega), if_neg (by omega)]; exact hb9) ?_
      refine H_a_states hM dX2_dropOldest_28 (by omega) ((HW.fr hM _ hl9).trans ho9) (fun w hM => ?_)
      try dsimp only at hM
      refine V_iinc dX2_dropOldest_29 rfl (by decide) ?_
      refine V_goto 9 dX2_dropOldest_32 (by decide) ?_
      refine ih (by omega) _ _ hM (fun i g1 g2 => ?_)
      by_cases e : i = k - 1
      · rw [e, if_pos (by omega), show k - 1 + 1 = k by omega]; exact upn_s.trans hb9.symm
      · rw [upn_n (by omega), hg i g1 g2]
        by_cases e2 : i < k - 1
        · rw [if_pos e2, if_pos (by omega)]
        · rw [if_neg e2, if_neg (by omega)]
  exact L9 (1) (by omega) (by omega) _ T.1 hM (fun i g1 g2 => by rw [if_neg (by omega)])
/-- the saved states: n of them that stand for Z 0, Z 1 .. -/
def HQ (w : WD) (χ : Nat) (n : Int) (Z : Int → Int → Int) : Prop := ∃ h : Nat → Option Nat, HW w w (χ + 7) (h, n) ∧ (∀ i : Int, 0 ≤ i → i < 6 → ∃ (j : Nat) (T : ST), j < 6 ∧ h i.toNat = some (χ + 9 + 3 * j) ∧ SW w w (χ + 9 + 3 * j) T ∧ (i < n → SR w χ T (Z i))) ∧ ∀ i j : Int, 0 ≤ i → i < 6 → 0 ≤ j → j < 6 → h i.toNat = h j.toNat → i = j
theorem HQ.mv {w w' : WD} {χ : Nat} {n : Int} {Z : Int → Int → Int} (h : HQ w χ n Z) (e : ∀ j, (χ + 7 ≤ j ∧ j < χ + 27) ∨ imm χ j → w j ≠ none → w' j = w j) : HQ w' χ n Z := by
  obtain ⟨h, h1, h2, h3⟩ := h
  refine ⟨h, ⟨(e _ (by omega) (by rw [h1.1]; exact fun q => by cases q)).trans h1.1, (e _ (by omega) (by rw [h1.2.1]; exact fun q => by cases q)).trans h1.2.1, fun _ _ => rfl⟩, fun i i0 i1 => ?_, h3⟩
  obtain ⟨j, T, g1, g2, g3, g4⟩ := h2 i i0 i1
  exact ⟨j, T, g1, g2, ⟨(e _ (by omega) (by rw [g3.1]; exact fun q => by cases q)).trans g3.1, (e _ (by omega) (by rw [g3.2.1]; exact fun q => by cases q)).trans g3.2.1, (e _ (by omega) (by rw [g3.2.2.1]; exact fun q => by cases q)).trans g3.2.2.1, fun _ _ => rfl⟩, fun q => (g4 q).mv (fun j hj hn => e j (Or.inr hj) hn)⟩
theorem HQ.c {w : WD} {χ : Nat} {n : Int} {Z Z' : Int → Int → Int} (h : HQ w χ n Z) (e : ∀ i, 0 ≤ i → i < n → ∀ k, 0 ≤ k → k < 2189 → Z' i k = Z i k) : HQ w χ n Z' := by
  obtain ⟨h, h1, h2, h3⟩ := h
  refine ⟨h, h1, fun i i0 i1 => ?_, h3⟩
  obtain ⟨j, T, g1, g2, g3, g4⟩ := h2 i i0 i1
  exact ⟨j, T, g1, g2, g3, fun q => (g4 q).c (e i i0 q)⟩
/-- another state in a place -/
theorem HQ.put {w w' : WD} {χ : Nat} {m m2 : Int} {Z : Int → Int → Int} {z : Int → Int} {h : Nat → Option Nat} {j9 : Nat} {T2 : ST} (h1 : HW w' w' (χ + 7) (h, m2)) (h2 : ∀ i : Int, 0 ≤ i → i < 6 → ∃ (j : Nat) (T : ST), j < 6 ∧ h i.toNat = some (χ + 9 + 3 * j) ∧ SW w w (χ + 9 + 3 * j) T ∧ (i < m → SR w χ T (Z i))) (h3 : ∀ i j : Int, 0 ≤ i → i < 6 → 0 ≤ j → j < 6 → h i.toNat = h j.toNat → i = j) (hm : 0 ≤ m ∧ m < 6) (hm2 : m2 = m + 1) (hj : h m.toNat = some (χ + 9 + 3 * j9)) (hj9 : j9 < 6) (hT : SW w' w' (χ + 9 + 3 * j9) T2) (hR : SR w' χ T2 z) (e : ∀ j, j < χ + 9 + 3 * j9 ∨ χ + 9 + 3 * j9 + 3 ≤ j → χ + 9 ≤ j ∨ imm χ j → w' j = w j) : HQ w' χ m2 (fun i => if i = m then z else Z i) := by
  refine ⟨h, h1, fun i i0 i1 => ?_, h3⟩
  by_cases q : i = m
  · refine ⟨j9, T2, hj9, by rw [q]; exact hj, hT, fun _ => ?_⟩
    dsimp only
    rw [if_pos q]
    exact hR
  · obtain ⟨j, T, g1, g2, g3, g4⟩ := h2 i i0 i1
    have hne : j ≠ j9 := fun e2 => q (h3 i m i0 i1 hm.1 hm.2 (by rw [g2, hj, e2]))
    refine ⟨j, T, g1, g2, SW.mv g3 (fun k k0 k1 => e k (by omega) (by omega)), fun q2 => ?_⟩
    dsimp only
    rw [if_neg q]
    exact (g4 (by omega)).mv (fun k hk _ => e k (by omega) (by omega))
set_option maxRecDepth 100000 in
set_option maxHeartbeats 8000000 in
theorem c_keep_B {w00 w : WD} {sz χ : Nat} {Z : XZ} {T : ST} {z : Int → Int} {m : Int} {Z9 : Int → Int → Int} (hE : xEnd Z (fun v w' sz' => v = none ∧ sz' = sz ∧ HQ w' χ (m + 1) (fun i => if i = m then z else Z9 i) ∧ ∀ j, (j < χ + 7 ∨ χ + 27 ≤ j) → w' j = w00 j)) (hH : HQ w χ m Z9) (hm : 0 ≤ m ∧ m < 6) (hS : SW w w (χ + 4) T) (hR : SR w χ T z) (hfr : ∀ j, (j < χ + 7 ∨ χ + 27 ≤ j) → w j = w00 j) : V iX2_keep Z 0 0 w sz 13 [some (.ref (χ + 7)), some (.ref (χ + 4))] [] := by
  obtain ⟨h, h1, h2, h3⟩ := hH
  obtain ⟨j9, T9, g9j, h9j, g9S, -⟩ := h2 m hm.1 hm.2
  refine V_aload_n dX2_keep_13 0 rfl rfl ?_
  refine H_g_states h1 rfl dX2_keep_14 ?_
  refine V_aload_n dX2_keep_17 0 rfl rfl ?_
  refine H_g_kept h1 rfl dX2_keep_18 ?_
  try dsimp only
  refine H_r_states h1 dX2_keep_21 hm h9j ?_
  refine V_aload_n dX2_keep_22 1 rfl rfl ?_
  refine V_c_X2_27 rfl (by decide) (c_become g9S hS hR (by omega) (by omega)) dX2_keep_23 g9S.1 rfl rfl (Nat.le_of_ble_eq_true rfl) (Nat.le_of_eq (Nat.zero_add _)) (Nat.le_of_eq (Nat.zero_add _)) (fun v w2 sz q => ?_)
  try dsimp only at q
  obtain ⟨rfl, rfl, T2, hS2, hR2⟩ := q
  have hM9 := HW.mv h1 (fun j k0 k1 => SW.fr hS2 j (by omega))
  refine V_aload_n dX2_keep_26 0 rfl rfl ?_
  refine V_dup dX2_keep_27 rfl ?_
  refine H_g_kept hM9 rfl dX2_keep_28 ?_
  try dsimp only
  refine V_iconst dX2_keep_31 ?_
  refine V_iadd dX2_keep_32 ?_
  refine H_p_kept hM9 rfl dX2_keep_33 (fun w3 hM3 => ?_)
  try dsimp only at hM
  refine V_vret hE rfl dX2_keep_36 ⟨rfl, rfl, HQ.put (HW.rb hM3) h2 h3 hm rfl h9j g9j (SW.mv hS2 (fun j k0 k1 => HW.fr hM3 j (by omega))) (hR2.mv (fun j hj _ => HW.fr hM3 j (by omega))) (fun j k0 k1 => ?_), fun j k0 => ?_⟩
  · exact (HW.fr hM3 j (by omega)).trans (SW.fr hS2 j (by omega)) 
  · exact ((HW.fr hM3 j (by omega)).trans (SW.fr hS2 j (by omega))).trans (hfr j k0)
set_option maxRecDepth 100000 in
set_option maxHeartbeats 4000000 in
theorem c_keep {w : WD} {sz χ : Nat} {T : ST} {z : Int → Int} {n : Int} {Z9 : Int → Int → Int} (hH : HQ w χ n Z9) (hn : 0 ≤ n ∧ n ≤ 6) (hS : SW w w (χ + 4) T) (hR : SR w χ T z) : CT iX2_keep 0 0 [.ref (χ + 7), .ref (χ + 4)] w sz (fun v w' sz' => v = none ∧ sz' = sz ∧ HQ w' χ (isv n + 1) (fun i => if i = isv n then z else Z9 (if n = 6 then i + 1 else i)) ∧ ∀ j, (j < χ + 7 ∨ χ + 27 ≤ j) → w' j = w j) := by
  refine CT.ofZ (by decide) rfl (Nat.le_of_ble_eq_true rfl) (fun Z hE => ?_)
  have hH0 := hH
  obtain ⟨h, h1, h2, h3⟩ := hH0
  refine V_aload_n dX2_keep_0 0 rfl rfl ?_
  refine H_g_kept h1 rfl dX2_keep_1 ?_
  try dsimp only
  refine V_bipush dX2_keep_4 (by decide) ?_
  refine V_icmp_lt 13 dX2_keep_6 (by decide) (by omega) (fun h6 => ?_) (fun h6 => ?_)
  · have e6 : isv n = n := by unfold isv; rw [if_neg (by omega)]
    rw [e6] at hE
    refine V_fg [true, true] ?_
    refine c_keep_B (z := z) (w00 := w) (Z9 := Z9) ?_ hH (by omega) hS hR (fun j _ => rfl)
    have en : (fun i => if i = n then z else Z9 (if n = 6 then i + 1 else i)) = (fun i => if i = n then z else Z9 i) := by
      funext i
      rw [if_neg (show ¬ n = 6 by omega)]
    rw [en] at hE
    exact hE
  · refine V_aload_n dX2_keep_9 0 rfl rfl ?_
    refine V_c_X2_24 rfl (by decide) (c_dropOldest h1 (fun i i0 i1 => by
        obtain ⟨j, T, g1, g2, g3, -⟩ := h2 i i0 i1
        exact ⟨_, _, g2, by omega, g3.1⟩)) dX2_keep_10 h1.1 rfl rfl (Nat.le_of_ble_eq_true rfl) (Nat.le_of_eq (Nat.zero_add _)) (Nat.le_of_eq (Nat.zero_add _)) (fun v w2 sz q => ?_)
    try dsimp only at q
    obtain ⟨rfl, rfl, g, hM, hg⟩ := q
    have e6 : isv n = 5 := by unfold isv; rw [if_pos (show n = 6 by omega)]
    have hQ : HQ w2 χ 5 (fun i => Z9 (i + 1)) := by
      refine ⟨g, HW.rb hM, fun i i0 i1 => ?_, fun i j i0 i1 j0 j1 e => ?_⟩
      · obtain ⟨j, T, g1, g2, g3, g4⟩ := h2 (if i = 5 then 0 else i + 1) (by omega) (by omega)
        refine ⟨j, T, g1, (hg i i0 i1).trans g2, SW.mv g3 (fun k k0 k1 => HW.fr hM k (by omega)), fun q => ?_⟩
        have g5 := g4 (by omega)
        rw [if_neg (by omega)] at g5
        exact g5.mv (fun k hk _ => HW.fr hM k (by omega))
      · rw [hg i i0 i1, hg j j0 j1] at e
        have := h3 _ _ (by omega) (by omega) (by omega) (by omega) e
        omega
    rw [e6] at hE
    refine V_fg [true, true] ?_
    refine c_keep_B (z := z) (w00 := w) (Z9 := fun i => Z9 (i + 1)) ?_ hQ (by omega) (SW.mv hS (fun k k0 k1 => HW.fr hM k (by omega))) (hR.mv (fun k hk _ => HW.fr hM k (by omega))) (fun j hj => HW.fr hM j (by omega))
    have en : (fun i => if i = 5 then z else Z9 (if n = 6 then i + 1 else i)) = (fun i => if i = 5 then z else (fun i => Z9 (i + 1)) i) := by
      funext i
      rw [if_pos (show n = 6 by omega)]
    rw [en] at hE
    exact hE
set_option maxRecDepth 100000 in
set_option maxHeartbeats 4000000 in
theorem c_restore {w : WD} {sz χ : Nat} {T : ST} {n : Int} {Z9 : Int → Int → Int} (hH : HQ w χ n Z9) (hn : 0 < n ∧ n ≤ 6) (hS : SW w w (χ + 4) T) : CT iX2_restore 0 0 [.ref (χ + 7), .ref (χ + 4)] w sz (fun v w' sz' => v = none ∧ sz' = sz ∧ HQ w' χ (n - 1) Z9 ∧ (∃ T2, SW w' w' (χ + 4) T2 ∧ SR w' χ T2 (Z9 (n - 1))) ∧ ∀ j, (j < χ + 4 ∨ χ + 27 ≤ j) → w' j = w j) := by
  refine CT.ofZ (by decide) rfl (Nat.le_of_ble_eq_true rfl) (fun Z hE => ?_)
  obtain ⟨h, h1, h2, h3⟩ := hH
  refine V_aload_n dX2_restore_0 0 rfl rfl ?_
  refine H_g_kept h1 rfl dX2_restore_1 ?_
  try dsimp only
  refine V_if_le 30 dX2_restore_4 (by decide) (by omega) (fun h4 => ?_) (fun h4 => ?_)
  · exact absurd h4 (by omega)
  · refine V_aload_n dX2_restore_7 0 rfl rfl ?_
    refine V_dup dX2_restore_8 rfl ?_
    refine H_g_kept h1 rfl dX2_restore_9 ?_
    try dsimp only
    refine V_iconst dX2_restore_12 ?_
    refine V_isub dX2_restore_13 ?_
    refine H_p_kept h1 rfl dX2_restore_14 (fun w1 hM => ?_)
    try dsimp only at hM
    try dsimp only at hM
    refine V_aload_n dX2_restore_17 1 rfl rfl ?_
    refine V_aload_n dX2_restore_18 0 rfl rfl ?_
    refine H_g_states hM rfl dX2_restore_19 ?_
    refine V_aload_n dX2_restore_22 0 rfl rfl ?_
    refine H_g_kept hM rfl dX2_restore_23 ?_
    try dsimp only
    obtain ⟨j9, T9, g9j, h9j, g9S, g9R⟩ := h2 (n - 1) (by omega) (by omega)
    refine H_r_states hM dX2_restore_26 (by omega) h9j ?_
    refine V_c_X2_27 rfl (by decide) (c_become (w0 := w1) (SW.mv hS (fun k k0 k1 => HW.fr hM k (by omega))) (SW.mv g9S (fun k k0 k1 => HW.fr hM k (by omega))) ((g9R (by omega)).mv (fun k hk _ => HW.fr hM k (by omega))) (by omega) (by omega)) dX2_restore_27 (SW.mv hS (fun k k0 k1 => HW.fr hM k (by omega))).1 rfl rfl (Nat.le_of_ble_eq_true rfl) (Nat.le_of_eq (Nat.zero_add _)) (Nat.le_of_eq (Nat.zero_add _)) (fun v w2 sz q => ?_)
    try dsimp only at q
    obtain ⟨rfl, rfl, T2, hS2, hR2⟩ := q
    exact V_vret hE rfl dX2_restore_30 ⟨rfl, rfl, ⟨h, HW.mv hM (fun k k0 k1 => SW.fr hS2 k (by omega)), fun i i0 i1 => by
      obtain ⟨j, T, g1, g2, g3, g4⟩ := h2 i i0 i1
      exact ⟨j, T, g1, g2, SW.mv g3 (fun k k0 k1 => (SW.fr hS2 k (by omega)).trans (HW.fr hM k (by omega))), fun q => (g4 (by omega)).mv (fun k hk _ => (SW.fr hS2 k (by omega)).trans (HW.fr hM k (by omega)))⟩, h3⟩, ⟨T2, SW.rb hS2, hR2⟩, fun j hj => (SW.fr hS2 j (by omega)).trans (HW.fr hM j (by omega))⟩
