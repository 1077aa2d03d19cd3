/-! the class: alike cells -/
theorem inb_0 {c : Int} : inb c 0 = if iCell (c % 16 + -1) (c / 16 + 0) then 16 * (c / 16 + 0) + (c % 16 + -1) else -1 := rfl
theorem inb_1 {c : Int} : inb c 1 = if iCell (c % 16 + 1) (c / 16 + 0) then 16 * (c / 16 + 0) + (c % 16 + 1) else -1 := rfl
theorem inb_2 {c : Int} : inb c 2 = if iCell (c % 16 + 0) (c / 16 + -1) then 16 * (c / 16 + -1) + (c % 16 + 0) else -1 := rfl
theorem inb_3 {c : Int} : inb c 3 = if iCell (c % 16 + 0) (c / 16 + 1) then 16 * (c / 16 + 1) + (c % 16 + 0) else -1 := rfl
theorem inb_s {c s : Int} (hc : 0 ≤ c ∧ c < 160) (hs : 0 ≤ s ∧ s ≤ 3) (h : 0 ≤ inb c s) : inb c s < 160 ∧ stp c (inb c s) = 1 := by
  rcases (show s = 0 ∨ s = 1 ∨ s = 2 ∨ s = 3 by omega) with rfl | rfl | rfl | rfl
  · rw [inb_0] at h ⊢
    by_cases q : iCell (c % 16 + -1) (c / 16 + 0)
    · rw [if_pos q]; unfold stp iabs; omega
    · rw [if_neg q] at h; omega
  · rw [inb_1] at h ⊢
    by_cases q : iCell (c % 16 + 1) (c / 16 + 0)
    · rw [if_pos q]; unfold stp iabs; omega
    · rw [if_neg q] at h; omega
  · rw [inb_2] at h ⊢
    by_cases q : iCell (c % 16 + 0) (c / 16 + -1)
    · rw [if_pos q]; unfold stp iabs; omega
    · rw [if_neg q] at h; omega
  · rw [inb_3] at h ⊢
    by_cases q : iCell (c % 16 + 0) (c / 16 + 1)
    · rw [if_pos q]; unfold stp iabs; omega
    · rw [if_neg q] at h; omega
theorem inb_b {c s : Int} (hc : 0 ≤ c ∧ c < 160) (hs : 0 ≤ s ∧ s ≤ 3) : -1 ≤ inb c s ∧ inb c s < 160 := by
  by_cases h : 0 ≤ inb c s
  · exact ⟨by omega, (inb_s hc hs h).1⟩
  · refine ⟨?_, by omega⟩
    unfold inb at h ⊢
    split
    · rename_i q
      rw [if_pos q] at h
      omega
    · omega
theorem stp_inb {c j : Int} (hc : 0 ≤ c ∧ c < 160) (hj : 0 ≤ j ∧ j < 160) (h : stp c j = 1) : ∃ s, 0 ≤ s ∧ s ≤ 3 ∧ inb c s = j := by
  have h2 : (j % 16 = c % 16 - 1 ∧ j / 16 = c / 16) ∨ (j % 16 = c % 16 + 1 ∧ j / 16 = c / 16) ∨ (j % 16 = c % 16 ∧ j / 16 = c / 16 - 1) ∨ (j % 16 = c % 16 ∧ j / 16 = c / 16 + 1) := by
    unfold stp iabs at h
    omega
  rcases h2 with g | g | g | g
  · exact ⟨0, by omega, by omega, by rw [inb_0, if_pos (by omega)]; omega⟩
  · exact ⟨1, by omega, by omega, by rw [inb_1, if_pos (by omega)]; omega⟩
  · exact ⟨2, by omega, by omega, by rw [inb_2, if_pos (by omega)]; omega⟩
  · exact ⟨3, by omega, by omega, by rw [inb_3, if_pos (by omega)]; omega⟩
theorem cnt_f {A : Int → Bool} (h : ∀ j, 0 ≤ j → j < 160 → A j = false) : cnt A = 0 := by
  have := isum_b (f := fun k => b2i (A k)) (lo := 0) (hi := 0) (k := 160) (by omega) (fun j j0 j1 => by rw [h j j0 j1, b2i_f]; omega)
  unfold cnt
  omega
set_option maxRecDepth 100000 in
set_option maxHeartbeats 4000000 in
theorem c_flood {w0 w : WD} {sz φ a9 : Nat} {T : FT} {z : Int → Int} {s L : Int} (hM : FW w0 w φ T) (hv : w0 a9 = some (xIA 160 z)) (ha : a9 < φ ∨ φ + 6 ≤ a9) (hz : ∀ k, 0 ≤ k → k < 160 → 0 ≤ z k ∧ z k ≤ 99) (hs : 0 ≤ s ∧ s < 160) (hL : 0 ≤ L ∧ L ≤ 99) (hA : T.1 s = false) : CT iX0_flood 0 0 [.ref φ, .ref a9, xI s, xI L] w sz (fun v w' sz' => sz' = sz ∧ ∃ A l n, FW w0 w' φ (A, T.2.1, T.2.2.1, T.2.2.2.1, l, n, T.2.2.2.2.2.2) ∧ v = some (xI n) ∧ n = cnt A - cnt T.1 ∧ ∀ k, 0 ≤ k → k < 160 → (A k = true ↔ T.1 k = true ∨ Rch z L T.1 s k)) := by
  refine CT.ofZ (by decide) rfl (Nat.le_of_ble_eq_true rfl) (fun Z hE => ?_)
  refine V_aload_n dX0_flood_0 0 rfl rfl ?_
  refine V_iconst dX0_flood_1 ?_
  refine F_p_queued hM rfl dX0_flood_2 (fun w hM => ?_)
  try dsimp only at hM
  refine V_aload_n dX0_flood_5 0 rfl rfl ?_
  refine V_aload_n dX0_flood_6 0 rfl rfl ?_
  refine F_g_alike hM rfl dX0_flood_7 ?_
  refine V_iload_n dX0_flood_10 2 rfl rfl ?_
  refine V_c_X0_61 rfl (by decide) (c_enter_alike hM hs ⟨by first | omega | (dsimp only; omega), by first | omega | (dsimp only; omega)⟩) dX0_flood_11 hM.1 rfl rfl (Nat.le_of_ble_eq_true rfl) (Nat.le_of_eq (Nat.zero_add _)) (Nat.le_of_eq (Nat.zero_add _)) (fun v w sz q => ?_)
  try dsimp only at q
  obtain ⟨rfl, rfl, q⟩ := q
  rcases q with ⟨q1, q2, hM⟩ | ⟨q1, hM⟩
  rotate_left
  · exact absurd ⟨hA, by first | omega | (dsimp only; omega)⟩ q1
  refine V_iconst dX0_flood_14 ?_
  refine V_istore dX0_flood_15 (by decide) ?_
  have L17 : ∀ h : Int, 0 ≤ h → h ≤ 160 → ∀ (w : WD) (n : Int) (l : Int → Int) (A : Int → Bool), FW w0 w φ (A, T.2.1, T.2.2.1, T.2.2.2.1, l, n, T.2.2.2.2.2.2) → RI z L T.1 s l A n → RC z L l A h → h ≤ n → V iX0_flood Z 0 0 w sz 17 [some (.ref φ), some (.ref a9), some (xI s), some (xI L), some (xI h), none, none, none] [] := by
    refine up_ind ?_
    intro h hh0 hh1 ihh w n l A hM R C hhn
    have hn9 := R.le
    have hl9 := R.2.1
    refine V_iload dX0_flood_17 rfl ?_
    refine V_aload_n dX0_flood_19 0 rfl rfl ?_
    refine F_g_queued hM rfl dX0_flood_20 ?_
    try dsimp only
    refine V_icmp_ge 104 dX0_flood_23 (by decide) (by first | omega | (have := inb_b (s := k) hc9 ⟨hk0, by omega⟩; omega)) (fun h23 => ?_) (fun h23 => ?_)
    · refine V_aload_n dX0_flood_104 0 rfl rfl ?_
      refine F_g_queued hM rfl dX0_flood_105 ?_
      try dsimp only
      exact V_iret hE rfl dX0_flood_108 ⟨rfl, _, _, n, hM, bE rfl, R.1, R.fin C (by omega) hs.1 hs.2 hA⟩
    · refine V_iload dX0_flood_26 rfl ?_
      refine V_sipush dX0_flood_28 (by decide) ?_
      refine V_icmp_ge 104 dX0_flood_31 (by decide) (by first | omega | (have := inb_b (s := k) hc9 ⟨hk0, by omega⟩; omega)) (fun h31 => ?_) (fun h31 => ?_)
      · refine V_aload_n dX0_flood_104 0 rfl rfl ?_
        refine F_g_queued hM rfl dX0_flood_105 ?_
        try dsimp only
        exact V_iret hE rfl dX0_flood_108 ⟨rfl, _, _, n, hM, bE rfl, R.1, R.fin C (by omega) hs.1 hs.2 hA⟩
      · refine V_aload_n dX0_flood_34 0 rfl rfl ?_
        refine F_g_queue hM rfl dX0_flood_35 ?_
        refine V_iload dX0_flood_38 rfl ?_
        refine F_l_queue hM dX0_flood_40 (by omega) ?_
        dsimp only
        have hc9 := (⟨(hl9 h hh0 (by omega)).1, (hl9 h hh0 (by omega)).2.1⟩ : 0 ≤ l h ∧ l h < 160)
        try dsimp only
        refine V_istore dX0_flood_41 (by decide) ?_
        refine V_iconst dX0_flood_43 ?_
        refine V_istore dX0_flood_44 (by decide) ?_
        have L46 : ∀ k : Int, 0 ≤ k → k ≤ 4 → ∀ (w : WD) (n1 : Int) (l1 : Int → Int) (A1 : Int → Bool), FW w0 w φ (A1, T.2.1, T.2.2.1, T.2.2.2.1, l1, n1, T.2.2.2.2.2.2) → RI z L T.1 s l1 A1 n1 → RC z L l1 A1 h → h < n1 → l1 h = l h → (∀ s9, 0 ≤ s9 → s9 < k → ∀ j, inb (l h) s9 = j → 0 ≤ j → iabs (z (l h) - z j) ≤ L → A1 j = true) → V iX0_flood Z 0 0 w sz 46 [some (.ref φ), some (.ref a9), some (xI s), some (xI L), some (xI h), some (xI (l h)), some (xI k), none] [] := by
          refine up_ind ?_
          intro k hk0 hk1 ih w n1 l1 A1 hM R1 C1 hlt heq hp
          have hn8 := R1.le
          have hgc := hz (l h) hc9.1 hc9.2
          refine V_iload dX0_flood_46 rfl ?_
          refine V_iconst dX0_flood_48 ?_
          refine V_icmp_ge 98 dX0_flood_49 (by decide) (by first | omega | (have := inb_b (s := k) hc9 ⟨hk0, by omega⟩; omega)) (fun h49 => ?_) (fun h49 => ?_)
          · refine V_iinc dX0_flood_98 rfl (by decide) ?_
            refine V_goto 17 dX0_flood_101 (by decide) ?_
            refine V_fg [true, true, true, true, true, false, false, false] ?_
            refine ihh (by omega) _ _ _ _ hM R1 (fun q g1 g2 j g3 g4 g5 g6 => ?_) (by omega)
            by_cases e : q = h
            · rw [e, heq] at g5 g6
              obtain ⟨s9, s0, s1, s2⟩ := stp_inb hc9 ⟨g3, g4⟩ g5
              exact hp s9 s0 (by omega) j s2 g3 g6
            · exact C1 q g1 (by omega) j g3 g4 g5 g6
          · refine V_iload dX0_flood_52 rfl ?_
            refine V_iload dX0_flood_54 rfl ?_
            refine V_c_X0_65 rfl (by decide) (c_neighbor hc9 ⟨hk0, by omega⟩) dX0_flood_56 rfl rfl (Nat.le_of_ble_eq_true rfl) (Nat.le_of_eq (Nat.zero_add _)) (Nat.le_of_eq (Nat.zero_add _)) (fun v w sz q => ?_)
            try dsimp only at q
            obtain ⟨rfl, rfl, rfl⟩ := q
            refine V_istore dX0_flood_59 (by decide) ?_
            refine V_iload dX0_flood_61 rfl ?_
            refine V_if_lt 92 dX0_flood_63 (by decide) (by first | omega | (have := inb_b (s := k) hc9 ⟨hk0, by omega⟩; omega)) (fun h63 => ?_) (fun h63 => ?_)
            · refine V_iinc dX0_flood_92 rfl (by decide) ?_
              refine V_goto 46 dX0_flood_95 (by decide) ?_
              refine V_fg [true, true, true, true, true, true, true, false] ?_
              refine ih (by omega) _ _ _ _ hM R1 C1 hlt heq (fun s9 s0 s1 j g1 g2 g3 => ?_)
              by_cases e : s9 = k
              · rw [e] at g1; omega
              · exact hp s9 s0 (by omega) j g1 g2 g3
            · have hi9 := inb_s hc9 ⟨hk0, by omega⟩ h63
              have hgn := hz (inb (l h) k) h63 hi9.1
              refine V_aload_n dX0_flood_66 1 rfl rfl ?_
              refine V_iload dX0_flood_67 rfl ?_
              refine V_iald dX0_flood_69 ((FW.fr hM _ ha).trans hv) ⟨h63, hi9.1⟩ ?_
              try dsimp only
              refine V_aload_n dX0_flood_70 1 rfl rfl ?_
              refine V_iload dX0_flood_71 rfl ?_
              refine V_iald dX0_flood_73 ((FW.fr hM _ ha).trans hv) hc9 ?_
              try dsimp only
              refine V_isub dX0_flood_74 ?_
              refine V_c_X0_55 rfl (by decide) (Nat.le_of_ble_eq_true rfl) dX0_flood_75 (by omega) ?_
              refine V_iload_n dX0_flood_78 3 rfl rfl ?_
              refine V_icmp_gt 92 dX0_flood_79 (by decide) (by first | omega | (have := inb_b (s := k) hc9 ⟨hk0, by omega⟩; omega)) (fun h79 => ?_) (fun h79 => ?_)
              · refine V_iinc dX0_flood_92 rfl (by decide) ?_
                refine V_goto 46 dX0_flood_95 (by decide) ?_
                refine V_fg [true, true, true, true, true, true, true, false] ?_
                refine ih (by omega) _ _ _ _ hM R1 C1 hlt heq (fun s9 s0 s1 j g1 g2 g3 => ?_)
                by_cases e : s9 = k
                · rw [e] at g1; rw [← g1] at g3; simp only [iabs] at g3; omega
                · exact hp s9 s0 (by omega) j g1 g2 g3
              · refine V_aload_n dX0_flood_82 0 rfl rfl ?_
                refine V_aload_n dX0_flood_83 0 rfl rfl ?_
                refine F_g_alike hM rfl dX0_flood_84 ?_
                refine V_iload dX0_flood_87 rfl ?_
                refine V_c_X0_61 rfl (by decide) (c_enter_alike hM ⟨h63, hi9.1⟩ ⟨by first | omega | (dsimp only; omega), by first | omega | (dsimp only; omega)⟩) dX0_flood_89 hM.1 rfl rfl (Nat.le_of_ble_eq_true rfl) (Nat.le_of_eq (Nat.zero_add _)) (Nat.le_of_eq (Nat.zero_add _)) (fun v w sz q => ?_)
                try dsimp only at q
                obtain ⟨rfl, rfl, q⟩ := q
                obtain ⟨n2, l2, A2, hM2, R2, C2, hlt2, heq2, hA2, hm2⟩ : ∃ (n2 : Int) (l2 : Int → Int) (A2 : Int → Bool), FW w0 w φ (A2, T.2.1, T.2.2.1, T.2.2.2.1, l2, n2, T.2.2.2.2.2.2) ∧ RI z L T.1 s l2 A2 n2 ∧ RC z L l2 A2 h ∧ h < n2 ∧ l2 h = l h ∧ A2 (inb (l h) k) = true ∧ ∀ j, A1 j = true → A2 j = true := by
                  rcases q with ⟨q1, q2, hM⟩ | ⟨q1, hM⟩
                  · exact ⟨_, _, _, hM, R1.add h63 hi9.1 q1 hh0 hlt (by rw [heq]; exact hi9.2) (by rw [heq]; simp only [iabs]; omega), C1.add (by omega), by omega, by rw [iu_n (by omega)]; exact heq, iu_s, fun j g => by
                      by_cases e : j = inb (l h) k
                      · rw [e, iu_s]
                      · rw [iu_n e]; exact g⟩
                  · refine ⟨n1, l1, A1, hM, R1, C1, hlt, heq, ?_, fun j g => g⟩
                    cases e : A1 (inb (l h) k) with
                    | true => rfl
                    | false => exact absurd ⟨e, R1.lt h63 hi9.1 e⟩ q1
                refine V_iinc dX0_flood_92 rfl (by decide) ?_
                refine V_goto 46 dX0_flood_95 (by decide) ?_
                refine V_fg [true, true, true, true, true, true, true, false] ?_
                refine ih (by omega) _ _ _ _ hM2 R2 C2 hlt2 heq2 (fun s9 s0 s1 j g1 g2 g3 => ?_)
                by_cases e : s9 = k
                · rw [← g1, e]; exact hA2
                · exact hm2 j (hp s9 s0 (by omega) j g1 g2 g3)
        refine V_fg [true, true, true, true, true, true, true, false] ?_
        exact L46 (0) (by omega) (by omega) _ _ _ _ hM R C (by omega) rfl (fun s9 g1 g2 => by omega)
  refine V_fg [true, true, true, true, true, false, false, false] ?_
  exact L17 (0) (by omega) (by omega) _ _ _ _ hM (RI.start hs.1 hs.2 hA) (fun q g1 g2 => by omega) (by omega)
set_option maxRecDepth 100000 in
set_option maxHeartbeats 4000000 in
theorem c_findAlike {w0 w : WD} {sz φ a9 : Nat} {T : FT} {z : Int → Int} {f L a : Int} (hM : FW w0 w φ T) (hv : w0 a9 = some (xIA 160 z)) (ha : a9 < φ ∨ φ + 6 ≤ a9) (hz : ∀ k, 0 ≤ k → k < 160 → 0 ≤ z k ∧ z k ≤ 99) (hf : 0 ≤ f ∧ f < 160) (hL : 0 ≤ L ∧ L ≤ 99) (ha1 : 0 ≤ a ∧ a ≤ 1) : CT iX0_findAlike 0 0 [.ref φ, .ref a9, xI f, xI L, xI a] w sz (fun v w' sz' => sz' = sz ∧ ∃ A l n, FW w0 w' φ (A, T.2.1, T.2.2.1, T.2.2.2.1, l, n, T.2.2.2.2.2.2) ∧ (∀ k, 0 ≤ k → k < 160 → (A k = true ↔ aP z f L a k)) ∧ v = some (xI (cnt A))) := by
  refine CT.ofZ (by decide) rfl (Nat.le_of_ble_eq_true rfl) (fun Z hE => ?_)
  refine V_aload_n dX0_findAlike_0 0 rfl rfl ?_
  refine F_g_alike hM rfl dX0_findAlike_1 ?_
  refine V_c_X0_43 rfl (by decide) (c_clear hM.2.1) dX0_findAlike_4 rfl rfl (Nat.le_of_ble_eq_true rfl) (Nat.le_of_eq (Nat.zero_add _)) (Nat.le_of_eq (Nat.zero_add _)) (fun v w sz q => ?_)
  try dsimp only at q
  obtain ⟨rfl, rfl, g9, hu9, hg9⟩ := q
  replace hM := FW.u_alike hM hu9
  refine V_iload dX0_findAlike_7 rfl ?_
  refine V_iconst dX0_findAlike_9 ?_
  refine V_icmp_ne 21 dX0_findAlike_10 (by decide) (by omega) (fun h10 => ?_) (fun h10 => ?_)
  · refine V_iconst dX0_findAlike_21 ?_
    refine V_istore dX0_findAlike_22 (by decide) ?_
    refine V_iconst dX0_findAlike_24 ?_
    refine V_istore dX0_findAlike_25 (by decide) ?_
    have L27 : ∀ k : Int, 0 ≤ k → k ≤ 160 → ∀ (w : WD) (A : Int → Bool) (c9 : Int), FW w0 w φ (A, T.2.1, T.2.2.1, T.2.2.2.1, T.2.2.2.2.1, T.2.2.2.2.2.1, T.2.2.2.2.2.2) → (∀ j, 0 ≤ j → j < 160 → A j = decide (j < k ∧ iabs (z j - z f) ≤ L)) → c9 = cnt A → V iX0_findAlike Z 0 0 w sz 27 [some (.ref φ), some (.ref a9), some (xI f), some (xI L), some (xI a), some (xI c9), some (xI k)] [] := by
      refine up_ind ?_
      intro k hk0 hk1 ih w A c9 hM hA hc9
      have gf := hz f hf.1 hf.2
      have gc9 := cnt_b A
      refine V_iload dX0_findAlike_27 rfl ?_
      refine V_sipush dX0_findAlike_29 (by decide) ?_
      refine V_icmp_ge 67 dX0_findAlike_32 (by decide) (by omega) (fun h32 => ?_) (fun h32 => ?_)
      · refine V_iload dX0_findAlike_67 rfl ?_
        exact V_iret hE rfl dX0_findAlike_69 ⟨rfl, A, _, _, hM, fun j g1 g2 => by rw [hA j g1 g2, decide_eq_true_eq]; unfold aP; rw [if_pos (show a = 0 by omega)]; exact ⟨fun h => h.2, fun h => ⟨by omega, h⟩⟩, bE hc9⟩
      · refine V_aload_n dX0_findAlike_35 1 rfl rfl ?_
        refine V_iload dX0_findAlike_36 rfl ?_
        refine V_iald dX0_findAlike_38 ((FW.fr hM _ ha).trans hv) ⟨hk0, by omega⟩ ?_
        try dsimp only
        refine V_aload_n dX0_findAlike_39 1 rfl rfl ?_
        refine V_iload_n dX0_findAlike_40 2 rfl rfl ?_
        refine V_iald dX0_findAlike_41 ((FW.fr hM _ ha).trans hv) hf ?_
        have gk := hz k hk0 (by omega)
        try dsimp only
        refine V_isub dX0_findAlike_42 ?_
        refine V_c_X0_55 rfl (by decide) (Nat.le_of_ble_eq_true rfl) dX0_findAlike_43 (by omega) ?_
        refine V_iload_n dX0_findAlike_46 3 rfl rfl ?_
        refine V_icmp_gt 61 dX0_findAlike_47 (by decide) (by omega) (fun h47 => ?_) (fun h47 => ?_)
        · refine V_iinc dX0_findAlike_61 rfl (by decide) ?_
          refine V_goto 27 dX0_findAlike_64 (by decide) ?_
          refine ih (by omega) _ _ _ hM (fun j g1 g2 => ?_) hc9
          rw [hA j g1 g2]
          by_cases e : j = k
          · rw [e]; exact (decide_eq_false (by omega)).trans (decide_eq_false (by simp only [iabs]; omega)).symm
          · exact decide_eq_decide.mpr ⟨fun q => ⟨by omega, q.2⟩, fun q => ⟨by omega, q.2⟩⟩
        · refine V_aload_n dX0_findAlike_50 0 rfl rfl ?_
          refine F_g_alike hM rfl dX0_findAlike_51 ?_
          refine V_iload dX0_findAlike_54 rfl ?_
          refine V_iconst dX0_findAlike_56 ?_
          refine F_s_alike (b := true) hM dX0_findAlike_57 (by first | omega | (dsimp only; omega) | (dsimp only at *; omega)) (fun w hM => ?_)
          try dsimp only at hM
          refine V_iinc dX0_findAlike_58 rfl (by decide) ?_
          refine V_iinc dX0_findAlike_61 rfl (by decide) ?_
          refine V_goto 27 dX0_findAlike_64 (by decide) ?_
          refine ih (by omega) _ _ _ hM (fun j g1 g2 => ?_) (by rw [cnt_iu hk0 (by omega), hA k hk0 (by omega), decide_eq_false (by omega), b2i_f, b2i_t, hc9]; omega)
          by_cases e : j = k
          · rw [e, iu_s]; exact (decide_eq_true (by simp only [iabs]; omega)).symm
          · rw [iu_n e, hA j g1 g2]
            exact decide_eq_decide.mpr ⟨fun q => ⟨by omega, q.2⟩, fun q => ⟨by omega, q.2⟩⟩
    exact L27 (0) (by omega) (by omega) _ g9 _ hM (fun j g1 g2 => by rw [hg9 j g1 g2]; exact (decide_eq_false (by omega)).symm) (cnt_f hg9).symm
  · refine V_aload_n dX0_findAlike_13 0 rfl rfl ?_
    refine V_aload_n dX0_findAlike_14 1 rfl rfl ?_
    refine V_iload_n dX0_findAlike_15 2 rfl rfl ?_
    refine V_iload_n dX0_findAlike_16 3 rfl rfl ?_
    refine V_c_X0_47 rfl (by decide) (c_flood hM hv ha hz hf hL (hg9 f hf.1 hf.2)) dX0_findAlike_17 hM.1 rfl rfl (Nat.le_of_ble_eq_true rfl) (Nat.le_of_eq (Nat.zero_add _)) (Nat.le_of_eq (Nat.zero_add _)) (fun v w sz q => ?_)
    try dsimp only at q
    obtain ⟨rfl, A, l, n, hM, rfl, hn, hA⟩ := q
    exact V_iret hE rfl dX0_findAlike_20 ⟨rfl, A, l, _, hM, fun j g1 g2 => by rw [hA j g1 g2]; unfold aP; rw [if_neg (by omega)]; exact ⟨fun h => h.elim (fun h => by rw [hg9 j g1 g2] at h; cases h) (fun h => (Rch_c hg9).mp h), fun h => Or.inr ((Rch_c hg9).mpr h)⟩, bE (by rw [hn, cnt_f hg9]; omega)⟩
theorem liA_c {a a' : Int → Prop} {f w : Int} (h : ∀ k, 0 ≤ k → k < 160 → (a k ↔ a' k)) (hw : 0 ≤ w) : liA a f w ↔ liA a' f w :=
  ⟨fun ⟨q, q0, q1, q2, q3⟩ => ⟨q, q0, q1, (sqA_c h ⟨q0, q1⟩ hw).mp q2, q3⟩, fun ⟨q, q0, q1, q2, q3⟩ => ⟨q, q0, q1, (sqA_c h ⟨q0, q1⟩ hw).mpr q2, q3⟩⟩
theorem wiA_c {a a' : Int → Prop} {f g w : Int} (h : ∀ k, 0 ≤ k → k < 160 → (a k ↔ a' k)) (k : wiA a f g w) : wiA a' f g w :=
  ⟨k.1, k.2.1, (liA_c h k.1).mp k.2.2.1, fun w' h1 h2 q => k.2.2.2 w' h1 h2 ((liA_c h (by have := k.1; omega)).mpr q)⟩
theorem joA_c {a a' : Int → Prop} {f w q : Int} (h : ∀ k, 0 ≤ k → k < 160 → (a k ↔ a' k)) (hw : 0 ≤ w) : joA a f w q → joA a' f w q := fun k X h1 h2 => k X (fun i i0 i1 g1 g2 => h1 i i0 i1 ((sqA_c h ⟨i0, i1⟩ hw).mp g1) g2) (fun i j g1 i0 i1 j0 j1 g2 g3 => h2 i j g1 i0 i1 j0 j1 ((sqA_c h ⟨j0, j1⟩ hw).mp g2) g3)
theorem arA_c {a a' : Int → Prop} {f w k : Int} (h : ∀ k, 0 ≤ k → k < 160 → (a k ↔ a' k)) (hw : 0 ≤ w) : arA a f w k ↔ arA a' f w k :=
  ⟨fun ⟨q, q0, q1, q2, q3⟩ => ⟨q, q0, q1, joA_c h hw q2, q3⟩, fun ⟨q, q0, q1, q2, q3⟩ => ⟨q, q0, q1, joA_c (fun k k0 k1 => (h k k0 k1).symm) hw q2, q3⟩⟩
set_option maxRecDepth 100000 in
set_option maxHeartbeats 4000000 in
theorem c_search {w0 w : WD} {sz φ a9 : Nat} {T : FT} {z : Int → Int} {f L a g : Int} (hM : FW w0 w φ T) (hv : w0 a9 = some (xIA 160 z)) (ha : a9 < φ ∨ φ + 6 ≤ a9) (hz : ∀ k, 0 ≤ k → k < 160 → 0 ≤ z k ∧ z k ≤ 99) (hf : 0 ≤ f ∧ f < 160) (hL : 0 ≤ L ∧ L ≤ 99) (ha1 : 0 ≤ a ∧ a ≤ 1) (hg : 0 ≤ g ∧ g ≤ 5) : CT iX0_search 0 0 [.ref φ, .ref a9, xI f, xI L, xI a, xI g] w sz (fun v w' sz' => sz' = sz ∧ ∃ T' : FT, FW w0 w' φ T' ∧ wiA (aP z f L a) f g T'.2.2.2.2.2.2 ∧ (∀ j, 0 ≤ j → j < 160 → (T'.2.2.2.1 j = true ↔ arA (aP z f L a) f T'.2.2.2.2.2.2 j)) ∧ v = some (xI (isum (fun k => b2i (T'.2.2.2.1 k)) 160))) := by
  refine CT.ofZ (by decide) rfl (Nat.le_of_ble_eq_true rfl) (fun Z hE => ?_)
  refine V_aload_n dX0_search_0 0 rfl rfl ?_
  refine V_aload_n dX0_search_1 1 rfl rfl ?_
  refine V_iload_n dX0_search_2 2 rfl rfl ?_
  refine V_iload_n dX0_search_3 3 rfl rfl ?_
  refine V_iload dX0_search_4 rfl ?_
  refine V_c_X0_35 rfl (by decide) (c_findAlike hM hv ha hz hf hL ha1) dX0_search_6 hM.1 rfl rfl (Nat.le_of_ble_eq_true rfl) (Nat.le_of_eq (Nat.zero_add _)) (Nat.le_of_eq (Nat.zero_add _)) (fun v w sz q => ?_)
  try dsimp only at q
  obtain ⟨rfl, A, l, n, hM, hA, rfl⟩ := q
  refine V_pop dX0_search_9 rfl ?_
  refine V_aload_n dX0_search_10 0 rfl rfl ?_
  refine V_iload_n dX0_search_11 2 rfl rfl ?_
  refine V_iload dX0_search_12 rfl ?_
  refine V_c_X0_39 rfl (by decide) (c_spread hM hf hg ((hA f hf.1 hf.2).mpr (aP_self hL.1))) dX0_search_14 hM.1 rfl rfl (Nat.le_of_ble_eq_true rfl) (Nat.le_of_eq (Nat.zero_add _)) (Nat.le_of_eq (Nat.zero_add _)) (fun v w sz q => ?_)
  try dsimp only at q
  obtain ⟨rfl, T1, hM, e1, hwi, hR, rfl⟩ := q
  exact V_iret hE rfl dX0_search_17 ⟨rfl, T1, hM, wiA_c hA hwi, fun j g1 g2 => (hR j g1 g2).trans (arA_c hA hwi.1), rfl⟩
