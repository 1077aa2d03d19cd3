/-! the class: states are written -/
theorem upn_s {f : Nat → Option Nat} {k : Nat} {v : Option Nat} : va_up f k v k = v := by simp [va_up]
theorem upn_n {f : Nat → Option Nat} {k j : Nat} {v : Option Nat} (h : j ≠ k) : va_up f k v j = f j := by simp [va_up, h]
theorem S_r_picks {I : XI} {Z : XZ} {kc ks : Nat} {w0 w : WD} {sz pc σ : Nat} {T : ST} {lv : List (Option Value)} {st : List Value} {z : Int} {b : Nat} (hM : SW w0 w σ T) (hd : decode I.cc pc = .ok (.aaload, 1)) (r : 0 ≤ z ∧ z < 12) (hb : T.2.1 z.toNat = some b) (kk : V I Z kc ks w sz (pc + 1) lv (.ref b :: st)) : V I Z kc ks w sz pc lv (xI z :: .ref (σ + 2) :: st) := V_aald (t := 3) (fun _ => rfl) hd hM.2.2.1 r hb kk
theorem S_a_picks {I : XI} {Z : XZ} {kc ks : Nat} {w0 w : WD} {sz pc σ : Nat} {T : ST} {lv : List (Option Value)} {st : List Value} {z : Int} {b : Nat} {fs : List Value} (hM : SW w0 w σ T) (hd : decode I.cc pc = .ok (.aastore, 1)) (r : 0 ≤ z ∧ z < 12) (hb : w b = some (xOb 3 fs)) (kk : ∀ w', SW w0 w' σ (T.1, va_up T.2.1 z.toNat (some b), T.2.2) → V I Z kc ks w' sz (pc + 1) lv st) : V I Z kc ks w sz pc lv (.ref b :: xI z :: .ref (σ + 2) :: st) := V_aast (t := 3) (ci := 3) (fun _ => rfl) rfl hd hM.2.2.1 hb r (kk _ (SW.u_picks hM ⟨xU_s, fun j hj => xU_n hj⟩))
set_option maxRecDepth 100000 in
set_option maxHeartbeats 4000000 in
theorem c_become {w0 w : WD} {sz χ σ σ1 : Nat} {T T1 : ST} {z : Int → Int} (hM : SW w0 w σ T) (hO : SW w0 w0 σ1 T1) (hR : SR w0 χ T1 z) (hσ : χ + 4 ≤ σ ∧ σ + 3 ≤ χ + 44) (hd : σ1 + 3 ≤ σ ∨ σ + 3 ≤ σ1) : CT iX5_become 0 0 [.ref σ, .ref σ1] w sz (fun v w' sz' => v = none ∧ sz' = sz ∧ ∃ T2, SW w0 w' σ T2 ∧ SR w' χ T2 z) := by
  refine CT.ofZ (by decide) rfl (Nat.le_of_ble_eq_true rfl) (fun Z hE => ?_)
  have hO9 := SW.mv hO (fun j g1 g2 => SW.fr hM j (by omega))
  refine V_aload_n dX5_become_0 1 rfl rfl ?_
  refine S_g_shades hO9 rfl dX5_become_1 ?_
  refine V_iconst dX5_become_4 ?_
  refine V_aload_n dX5_become_5 0 rfl rfl ?_
  refine S_g_shades hM rfl dX5_become_6 ?_
  refine V_iconst dX5_become_9 ?_
  refine V_sipush dX5_become_10 (by decide) ?_
  refine V_cp_X5 rfl (by decide) (Nat.le_of_ble_eq_true rfl) dX5_become_13 hO9.2.1 hM.2.1 (fun w hu => ?_)
  replace hM := SW.u_shades hM hu
  generalize hf9 : (fun j => if j < 160 then T1.1 j else T.1 j) = f9 at hM
  refine V_iconst dX5_become_16 ?_
  refine V_istore_n dX5_become_17 2 rfl (by decide) ?_
  have L18 : ∀ k : Int, 0 ≤ k → k ≤ 12 → ∀ (w : WD) (g : Nat → Option Nat), SW w0 w σ (f9, g, T.2.2) → (∀ p : Int, 0 ≤ p → p < k → g p.toNat = T1.2.1 p.toNat) → V iX5_become Z 0 0 w sz 18 [some (.ref σ), some (.ref σ1), some (xI k)] [] := by
    refine up_ind ?_
    intro k hk0 hk1 ih w g hM hg
    have hO9 := SW.mv hO (fun j g1 g2 => SW.fr hM j (by omega))
    refine V_iload_n dX5_become_18 2 rfl rfl ?_
    refine V_bipush dX5_become_19 (by decide) ?_
    refine V_icmp_ge 42 dX5_become_21 (by decide) (by omega) (fun h21 => ?_) (fun h21 => ?_)
    · refine V_aload_n dX5_become_42 0 rfl rfl ?_
      refine V_aload_n dX5_become_43 1 rfl rfl ?_
      refine S_g_pickCount hO9 rfl dX5_become_44 ?_
      try dsimp only
      refine S_p_pickCount hM rfl dX5_become_47 (fun w hM => ?_)
      try dsimp only at hM
      exact V_vret hE rfl dX5_become_50 ⟨rfl, rfl, _, hM, fun k9 g1 g2 => by dsimp only; rw [← hf9]; exact (if_pos g2).trans (hR.1 k9 g1 g2), hR.2.1, fun p g1 g2 => by
        obtain ⟨i, r, h1, h2, h3⟩ := hR.2.2 p g1 g2
        exact ⟨i, r, (hg p g1 (by omega)).trans h1, h2.mv (fun j g3 _ => SW.fr hM j (by omega)), h3⟩⟩
    · refine V_aload_n dX5_become_24 0 rfl rfl ?_
      refine S_g_picks hM rfl dX5_become_25 ?_
      refine V_iload_n dX5_become_28 2 rfl rfl ?_
      refine V_aload_n dX5_become_29 1 rfl rfl ?_
      refine S_g_picks hO9 rfl dX5_become_30 ?_
      refine V_iload_n dX5_become_33 2 rfl rfl ?_
      obtain ⟨b9, r9, hb9, hP9, -⟩ := hR.2.2 k hk0 (by omega)
      obtain ⟨hI9, fs9, ho9⟩ := hP9.ob
      refine S_r_picks hO9 dX5_become_34 ⟨hk0, by omega⟩ hb9 ?_
      refine S_a_picks hM dX5_become_35 ⟨hk0, by omega⟩ ((SW.fr hM _ (by omega)).trans ho9) (fun w hM => ?_)
      try dsimp only at hM
      refine V_iinc dX5_become_36 rfl (by decide) ?_
      refine V_goto 18 dX5_become_39 (by decide) ?_
      refine ih (by omega) _ _ hM (fun p g1 g2 => ?_)
      by_cases e : p = k
      · rw [e]; exact upn_s.trans hb9.symm
      · rw [upn_n (by omega)]; exact hg p g1 (by omega)
  exact L18 (0) (by omega) (by omega) _ _ hM (fun p g1 g2 => by omega)
set_option maxRecDepth 100000 in
set_option maxHeartbeats 4000000 in
theorem c_addPick {w0 w : WD} {sz σ b : Nat} {T : ST} {fs : List Value} (hM : SW w0 w σ T) (hb : w b = some (xOb 3 fs)) (hn : 0 ≤ T.2.2 ∧ T.2.2 < 12) : CT iX5_addPick 0 0 [.ref σ, .ref b] w sz (fun v w' sz' => v = none ∧ sz' = sz ∧ SW w0 w' σ (T.1, va_up T.2.1 T.2.2.toNat (some b), T.2.2 + 1)) := by
  refine CT.ofZ (by decide) rfl (Nat.le_of_ble_eq_true rfl) (fun Z hE => ?_)
  refine V_aload_n dX5_addPick_0 0 rfl rfl ?_
  refine S_g_pickCount hM rfl dX5_addPick_1 ?_
  try dsimp only
  refine V_bipush dX5_addPick_4 (by decide) ?_
  refine V_icmp_ge 29 dX5_addPick_6 (by decide) (by omega) (fun h6 => ?_) (fun h6 => ?_)
  · exact absurd h6 (by omega)
  · refine V_aload_n dX5_addPick_9 0 rfl rfl ?_
    refine S_g_picks hM rfl dX5_addPick_10 ?_
    refine V_aload_n dX5_addPick_13 0 rfl rfl ?_
    refine S_g_pickCount hM rfl dX5_addPick_14 ?_
    try dsimp only
    refine V_aload_n dX5_addPick_17 1 rfl rfl ?_
    refine S_a_picks hM dX5_addPick_18 (by omega) hb (fun w hM => ?_)
    try dsimp only at hM
    refine V_aload_n dX5_addPick_19 0 rfl rfl ?_
    refine V_dup dX5_addPick_20 rfl ?_
    refine S_g_pickCount hM rfl dX5_addPick_21 ?_
    try dsimp only
    refine V_iconst dX5_addPick_24 ?_
    refine V_iadd dX5_addPick_25 ?_
    refine S_p_pickCount hM rfl dX5_addPick_26 (fun w hM => ?_)
    try dsimp only at hM
    exact V_vret hE rfl dX5_addPick_29 ⟨rfl, rfl, hM⟩
set_option maxRecDepth 100000 in
set_option maxHeartbeats 4000000 in
theorem c_movePick {w0 w : WD} {sz χ σ : Nat} {T : ST} {z : Int → Int} (hM : SW w0 w σ T) (hR : SR w0 χ T z) (hσ : χ + 4 ≤ σ ∧ σ + 3 ≤ χ + 44) {p t : Int} (hp : 0 ≤ p ∧ p < 12) (ht : 0 ≤ t ∧ t < 12) : CT iX5_movePick 0 0 [.ref σ, xI p, xI t] w sz (fun v w' sz' => v = none ∧ sz' = sz ∧ ∃ g, SW w0 w' σ (T.1, g, T.2.2) ∧ ∀ q : Int, 0 ≤ q → q < 12 → g q.toNat = T.2.1 (imv p t q).toNat) := by
  refine CT.ofZ (by decide) rfl (Nat.le_of_ble_eq_true rfl) (fun Z hE => ?_)
  refine V_aload_n dX5_movePick_0 0 rfl rfl ?_
  refine S_g_picks hM rfl dX5_movePick_1 ?_
  refine V_iload_n dX5_movePick_4 1 rfl rfl ?_
  obtain ⟨b0, r0, hb0, hP0, -⟩ := hR.2.2 (p) (by omega) (by omega)
  obtain ⟨hI0, fs0, ho0⟩ := hP0.ob
  refine S_r_picks hM dX5_movePick_5 (by omega) hb0 ?_
  refine V_astore_n dX5_movePick_6 3 rfl (by decide) ?_
  refine V_iload_n dX5_movePick_7 1 rfl rfl ?_
  refine V_istore dX5_movePick_8 (by decide) ?_
  have L10 : ∀ i : Int, p ≤ i → i ≤ (if p < t then t else p) → ∀ (w : WD) (g : Nat → Option Nat), SW w0 w σ (T.1, g, T.2.2) → (∀ q : Int, 0 ≤ q → q < 12 → g q.toNat = T.2.1 (if p ≤ q ∧ q < i then q + 1 else q).toNat) → V iX5_movePick Z 0 0 w sz 10 [some (.ref σ), some (xI p), some (xI t), some (.ref b0), some (xI i)] [] := by
    refine up_ind ?_
    intro i hi0 hi1 ihi w g hM hg
    refine V_iload dX5_movePick_10 rfl ?_
    refine V_iload_n dX5_movePick_12 2 rfl rfl ?_
    refine V_icmp_ge 38 dX5_movePick_13 (by decide) (by omega) (fun h13 => ?_) (fun h13 => ?_)
    · refine V_iload_n dX5_movePick_38 1 rfl rfl ?_
      refine V_istore dX5_movePick_39 (by decide) ?_
      have L41 : ∀ i : Int, (if t < p then t else p) ≤ i → i ≤ p → ∀ (w : WD) (g : Nat → Option Nat), SW w0 w σ (T.1, g, T.2.2) → (∀ q : Int, 0 ≤ q → q < 12 → g q.toNat = T.2.1 (if p ≤ q ∧ q < t then q + 1 else if i < q ∧ q ≤ p then q - 1 else q).toNat) → V iX5_movePick Z 0 0 w sz 41 [some (.ref σ), some (xI p), some (xI t), some (.ref b0), some (xI i)] [] := by
        refine down_ind ?_
        intro i hi0 hi1 ihi w g hM hg
        refine V_iload dX5_movePick_41 rfl ?_
        refine V_iload_n dX5_movePick_43 2 rfl rfl ?_
        refine V_icmp_le 69 dX5_movePick_44 (by decide) (by omega) (fun h44 => ?_) (fun h44 => ?_)
        · refine V_aload_n dX5_movePick_69 0 rfl rfl ?_
          refine S_g_picks hM rfl dX5_movePick_70 ?_
          refine V_iload_n dX5_movePick_73 2 rfl rfl ?_
          refine V_aload_n dX5_movePick_74 3 rfl rfl ?_
          refine S_a_picks hM dX5_movePick_75 (by omega) ((SW.fr hM _ (by omega)).trans ho0) (fun w hM => ?_)
          try dsimp only at hM
          exact V_vret hE rfl dX5_movePick_76 ⟨rfl, rfl, _, hM, fun q g1 g2 => by
            unfold imv
            by_cases e : q = t
            · rw [if_pos e, e]; exact upn_s.trans hb0.symm
            · rw [if_neg e, upn_n (by omega), hg q g1 g2]
              by_cases e2 : p ≤ q ∧ q < t
              · rw [if_pos e2, if_pos e2]
              · rw [if_neg e2, if_neg e2]
                by_cases e3 : t < q ∧ q ≤ p
                · rw [if_pos (by omega), if_pos e3]
                · rw [if_neg (by omega), if_neg e3]⟩
        · refine V_aload_n dX5_movePick_47 0 rfl rfl ?_
          refine S_g_picks hM rfl dX5_movePick_48 ?_
          refine V_iload dX5_movePick_51 rfl ?_
          refine V_aload_n dX5_movePick_53 0 rfl rfl ?_
          refine S_g_picks hM rfl dX5_movePick_54 ?_
          refine V_iload dX5_movePick_57 rfl ?_
          refine V_iconst dX5_movePick_59 ?_
          refine V_isub dX5_movePick_60 ?_
          obtain ⟨b9, r9, hb9, hP9, -⟩ := hR.2.2 (i - 1) (by omega) (by omega)
          obtain ⟨hI9, fs9, ho9⟩ := hP9.ob
          refine S_r_picks hM dX5_movePick_61 (by omega) (b := b9) (by dsimp only; rw [hg (i - 1) (by omega) (by omega), if_neg (by omega), if_neg (by omega)]; exact hb9) ?_
          refine S_a_picks hM dX5_movePick_62 (by omega) ((SW.fr hM _ (by omega)).trans ho9) (fun w hM => ?_)
          try dsimp only at hM
          refine V_iinc dX5_movePick_63 rfl (by decide) ?_
          refine V_goto 41 dX5_movePick_66 (by decide) ?_
          refine ihi (by omega) _ _ hM (fun q g1 g2 => ?_)
          by_cases e : q = i
          · rw [e, if_neg (by omega), if_pos (by omega)]; exact upn_s.trans hb9.symm
          · rw [upn_n (by omega), hg q g1 g2]
            rw [if_neg (by omega)]
            by_cases e2 : i < q ∧ q ≤ p
            · rw [if_pos e2, if_neg (by omega), if_pos (by omega)]
            · rw [if_neg e2, if_neg (by omega), if_neg (by omega)]
      exact L41 (p) (by omega) (by omega) _ _ hM (fun q g1 g2 => by
        rw [hg q g1 g2]
        by_cases e2 : p ≤ q ∧ q < t
        · rw [if_pos (by omega), if_pos e2]
        · rw [if_neg (by omega), if_neg e2, if_neg (by omega)])
    · refine V_aload_n dX5_movePick_16 0 rfl rfl ?_
      refine S_g_picks hM rfl dX5_movePick_17 ?_
      refine V_iload dX5_movePick_20 rfl ?_
      refine V_aload_n dX5_movePick_22 0 rfl rfl ?_
      refine S_g_picks hM rfl dX5_movePick_23 ?_
      refine V_iload dX5_movePick_26 rfl ?_
      refine V_iconst dX5_movePick_28 ?_
      refine V_iadd dX5_movePick_29 ?_
      obtain ⟨b9, r9, hb9, hP9, -⟩ := hR.2.2 (i + 1) (by omega) (by omega)
      obtain ⟨hI9, fs9, ho9⟩ := hP9.ob
      refine S_r_picks hM dX5_movePick_30 (by omega) (b := b9) (by dsimp only; rw [hg (i + 1) (by omega) (by omega), if_neg (by omega)]; exact hb9) ?_
      refine S_a_picks hM dX5_movePick_31 (by omega) ((SW.fr hM _ (by omega)).trans ho9) (fun w hM => ?_)
      try dsimp only at hM
      refine V_iinc dX5_movePick_32 rfl (by decide) ?_
      refine V_goto 10 dX5_movePick_35 (by decide) ?_
      refine ihi (by omega) _ _ hM (fun q g1 g2 => ?_)
      by_cases e : q = i
      · rw [e, if_pos (by omega)]; exact upn_s.trans hb9.symm
      · rw [upn_n (by omega), hg q g1 g2]
        by_cases e2 : p ≤ q ∧ q < i
        · rw [if_pos e2, if_pos (by omega)]
        · rw [if_neg e2, if_neg (by omega)]
  exact L10 (p) (by omega) (by omega) _ T.2.1 hM (fun q g1 g2 => by rw [if_neg (by omega)])
theorem icin_s {z : Int → Int} {i : Int} (h : 0 ≤ i) : icin z (i + 1) = icin z i + z (161 + 169 * i + 7) := isum_s h
/-- the rows of picks while some are removed -/
def RmI (z : Int → Int) (g0 g : Nat → Option Nat) (i : Int) : Prop := (∀ p : Int, 0 ≤ p → p < i → z (161 + 169 * p + 7) = 1 → g (icin z p).toNat = g0 p.toNat) ∧ (∀ q : Int, icin z i ≤ q → q < 12 → g q.toNat = g0 q.toNat) ∧ ∀ q : Int, 0 ≤ q → q < 12 → ∃ q' : Int, 0 ≤ q' ∧ q' < 12 ∧ g q.toNat = g0 q'.toNat
theorem RmI.no {z : Int → Int} {g0 g : Nat → Option Nat} {i : Int} (h : RmI z g0 g i) (hi : 0 ≤ i) (h0 : z (161 + 169 * i + 7) = 0) : RmI z g0 g (i + 1) := by
  refine ⟨fun p p0 p1 p2 => h.1 p p0 ?_ p2, fun q q0 q1 => h.2.1 q ?_ q1, h.2.2⟩
  · by_cases e : p = i
    · rw [e] at p2; omega
    · omega
  · rw [icin_s hi, h0] at q0; omega
theorem RmI.yes {z : Int → Int} {g0 g : Nat → Option Nat} {i : Int} {b : Nat} (hv : VZ z) (h : RmI z g0 g i) (hi : 0 ≤ i) (hi2 : i < z 160) (h0 : z (161 + 169 * i + 7) = 1) (hb : g0 i.toNat = some b) : RmI z g0 (va_up g (icin z i).toNat (some b)) (i + 1) := by
  have hz := hv.2.1
  have hc := icin_b hv hi (by omega)
  refine ⟨fun p p0 p1 p2 => ?_, fun q q0 q1 => ?_, fun q q0 q1 => ?_⟩
  · by_cases e : p = i
    · rw [e]; exact upn_s.trans hb.symm
    · have hm := icin_m hv p0 (show p < i by omega) (by omega)
      have hc2 := icin_b hv p0 (by omega)
      rw [upn_n (by omega)]
      exact h.1 p p0 (by omega) p2
  · rw [icin_s hi, h0] at q0
    rw [upn_n (by omega)]
    exact h.2.1 q (by omega) q1
  · by_cases e : q = icin z i
    · rw [e]; exact ⟨i, hi, by omega, upn_s.trans hb.symm⟩
    · rw [upn_n (by omega)]
      exact h.2.2 q q0 q1
set_option maxRecDepth 100000 in
set_option maxHeartbeats 4000000 in
theorem c_removePicks {w0 w : WD} {sz χ σ : Nat} {T : ST} {z : Int → Int} (hM : SW w0 w σ T) (hR : SR w0 χ T z) (hσ : χ + 4 ≤ σ ∧ σ + 3 ≤ χ + 44) (hv : VZ z) : CT iX5_removePicksThatAreOut 0 0 [.ref σ] w sz (fun v w' sz' => sz' = sz ∧ ∃ g, SW w0 w' σ (T.1, g, icin z (z 160)) ∧ RmI z T.2.1 g (z 160) ∧ v = some (xI (z 160 - icin z (z 160)))) := by
  refine CT.ofZ (by decide) rfl (Nat.le_of_ble_eq_true rfl) (fun Z hE => ?_)
  have hcnt := hR.2.1
  have hz160 := hv.2.1
  refine V_iconst dX5_removePicksThatAreOut_0 ?_
  refine V_istore_n dX5_removePicksThatAreOut_1 1 rfl (by decide) ?_
  refine V_iconst dX5_removePicksThatAreOut_2 ?_
  refine V_istore_n dX5_removePicksThatAreOut_3 2 rfl (by decide) ?_
  have L4 : ∀ i : Int, 0 ≤ i → i ≤ z 160 → ∀ (w : WD) (g : Nat → Option Nat), SW w0 w σ (T.1, g, T.2.2) → RmI z T.2.1 g i → V iX5_removePicksThatAreOut Z 0 0 w sz 4 [some (.ref σ), some (xI (icin z i)), some (xI i)] [] := by
    refine up_ind ?_
    intro i hi0 hi1 ihi w g hM hg
    have hcb := icin_b hv hi0 hi1
    refine V_iload_n dX5_removePicksThatAreOut_4 2 rfl rfl ?_
    refine V_aload_n dX5_removePicksThatAreOut_5 0 rfl rfl ?_
    refine S_g_pickCount hM rfl dX5_removePicksThatAreOut_6 ?_
    dsimp only
    rw [hcnt]
    try dsimp only
    refine V_icmp_ge 51 dX5_removePicksThatAreOut_9 (by decide) (by omega) (fun h9 => ?_) (fun h9 => ?_)
    · refine V_aload_n dX5_removePicksThatAreOut_51 0 rfl rfl ?_
      refine S_g_pickCount hM rfl dX5_removePicksThatAreOut_52 ?_
      dsimp only
      rw [hcnt]
      try dsimp only
      refine V_iload_n dX5_removePicksThatAreOut_55 1 rfl rfl ?_
      refine V_isub dX5_removePicksThatAreOut_56 ?_
      refine V_istore_n dX5_removePicksThatAreOut_57 2 rfl (by decide) ?_
      refine V_aload_n dX5_removePicksThatAreOut_58 0 rfl rfl ?_
      refine V_iload_n dX5_removePicksThatAreOut_59 1 rfl rfl ?_
      refine S_p_pickCount hM rfl dX5_removePicksThatAreOut_60 (fun w hM => ?_)
      try dsimp only at hM
      refine V_iload_n dX5_removePicksThatAreOut_63 2 rfl rfl ?_
      exact V_iret hE rfl dX5_removePicksThatAreOut_64 ⟨rfl, g, by rw [show icin z (z 160) = icin z i by rw [show z 160 = i by omega]]; exact hM, by rw [show z 160 = i by omega]; exact hg, bE (by rw [show z 160 = i by omega])⟩
    · refine V_iload_n dX5_removePicksThatAreOut_12 2 rfl rfl ?_
      refine V_bipush dX5_removePicksThatAreOut_13 (by decide) ?_
      refine V_icmp_ge 51 dX5_removePicksThatAreOut_15 (by decide) (by omega) (fun h15 => ?_) (fun h15 => ?_)
      · refine V_aload_n dX5_removePicksThatAreOut_51 0 rfl rfl ?_
        refine S_g_pickCount hM rfl dX5_removePicksThatAreOut_52 ?_
        dsimp only
        rw [hcnt]
        try dsimp only
        refine V_iload_n dX5_removePicksThatAreOut_55 1 rfl rfl ?_
        refine V_isub dX5_removePicksThatAreOut_56 ?_
        refine V_istore_n dX5_removePicksThatAreOut_57 2 rfl (by decide) ?_
        refine V_aload_n dX5_removePicksThatAreOut_58 0 rfl rfl ?_
        refine V_iload_n dX5_removePicksThatAreOut_59 1 rfl rfl ?_
        refine S_p_pickCount hM rfl dX5_removePicksThatAreOut_60 (fun w hM => ?_)
        try dsimp only at hM
        refine V_iload_n dX5_removePicksThatAreOut_63 2 rfl rfl ?_
        exact V_iret hE rfl dX5_removePicksThatAreOut_64 ⟨rfl, g, by rw [show icin z (z 160) = icin z i by rw [show z 160 = i by omega]]; exact hM, by rw [show z 160 = i by omega]; exact hg, bE (by rw [show z 160 = i by omega])⟩
      · have hR9 := hR.mv (fun j g3 _ => SW.fr hM j (by omega))
        obtain ⟨b9, hb9, hP9, d9, v9, ho9, -⟩ := hR9.at hv hi0 (show i < z 160 by omega)
        have hgi : g i.toNat = some b9 := (hg.2.1 i (by omega) (by omega)).trans hb9
        have h79 := hv.2.2 i hi0 (by omega)
        refine V_aload_n dX5_removePicksThatAreOut_18 0 rfl rfl ?_
        refine S_g_picks hM rfl dX5_removePicksThatAreOut_19 ?_
        refine V_iload_n dX5_removePicksThatAreOut_22 2 rfl rfl ?_
        refine S_r_picks hM dX5_removePicksThatAreOut_23 (by omega) hgi ?_
        refine V_g_X5_31 rfl dX5_removePicksThatAreOut_24 ho9 rfl ?_
        try dsimp only
        refine V_if_eq 45 dX5_removePicksThatAreOut_27 (by decide) (by omega) (fun h27 => ?_) (fun h27 => ?_)
        · try simp only [decide_eq_true_eq, decide_eq_false_iff_not, Bool.not_eq_true] at h27
          refine V_iinc dX5_removePicksThatAreOut_45 rfl (by decide) ?_
          refine V_goto 4 dX5_removePicksThatAreOut_48 (by decide) ?_
          have hg2 := hg.no hi0 h27
          rw [icin_s hi0, h27, Int.add_zero] at ihi
          exact ihi (by omega) _ _ hM hg2
        · try simp only [decide_eq_true_eq, decide_eq_false_iff_not, Bool.not_eq_true] at h27
          refine V_aload_n dX5_removePicksThatAreOut_30 0 rfl rfl ?_
          refine S_g_picks hM rfl dX5_removePicksThatAreOut_31 ?_
          refine V_iload_n dX5_removePicksThatAreOut_34 1 rfl rfl ?_
          refine V_aload_n dX5_removePicksThatAreOut_35 0 rfl rfl ?_
          refine S_g_picks hM rfl dX5_removePicksThatAreOut_36 ?_
          refine V_iload_n dX5_removePicksThatAreOut_39 2 rfl rfl ?_
          refine S_r_picks hM dX5_removePicksThatAreOut_40 (by omega) hgi ?_
          refine S_a_picks hM dX5_removePicksThatAreOut_41 (by omega) ho9 (fun w hM => ?_)
          try dsimp only at hM
          refine V_iinc dX5_removePicksThatAreOut_42 rfl (by decide) ?_
          refine V_iinc dX5_removePicksThatAreOut_45 rfl (by decide) ?_
          refine V_goto 4 dX5_removePicksThatAreOut_48 (by decide) ?_
          have hg2 := hg.yes hv hi0 (by omega) (by omega) hb9
          rw [icin_s hi0, show z (161 + 169 * i + 7) = 1 by omega] at ihi
          exact ihi (by omega) _ _ hM hg2
  exact L4 (0) (by omega) (by omega) _ T.2.1 hM ⟨fun p g1 g2 => by omega, fun _ _ _ => rfl, fun q g1 g2 => ⟨q, g1, g2, rfl⟩⟩
