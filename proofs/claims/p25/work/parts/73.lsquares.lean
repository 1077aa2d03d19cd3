/-! p25's law: squares -/
def sqP (A : Int → Int) (u y i j x : Int) : Prop := y + u < 10 ∧ x + u < 16 ∧ ∀ i' j', 0 ≤ i' → i' ≤ u → 0 ≤ j' → j' ≤ u → (i' < i ∨ (i' = i ∧ j' < j)) → tb (A (y + i')) (x + j') = true
def sqB2 (A : Int → Int) (u y i j b : Int) : Prop := (0 ≤ b ∧ b < 65536) ∧ ∀ x, 0 ≤ x → x < 16 → (tb b x = true ↔ sqP A u y i j x)
theorem sqB2.and {A : Int → Int} {u y i j b : Int} (h : sqB2 A u y i j b) (hi : 0 ≤ i ∧ i ≤ u) (hj : 0 ≤ j ∧ j ≤ u) : sqB2 A u y i (j + 1) (iAnd b (iShr (A (y + i)) j)) := by
  have h1 := h.1
  have hl := iAnd_l (a := b) (b := iShr (A (y + i)) j) h1.1
  refine ⟨⟨iAnd_0, by omega⟩, fun x x0 x1 => ?_⟩
  rw [tb_and, tb_shr hj.1 x0, Bool.and_eq_true, h.2 x x0 x1]
  constructor
  · rintro ⟨⟨q1, q2, q3⟩, q4⟩
    refine ⟨q1, q2, fun i' j' a1 a2 a3 a4 a5 => ?_⟩
    by_cases e : i' = i ∧ j' = j
    · rw [e.1, e.2]; exact q4
    · exact q3 i' j' a1 a2 a3 a4 (by omega)
  · rintro ⟨q1, q2, q3⟩
    exact ⟨⟨q1, q2, fun i' j' a1 a2 a3 a4 a5 => q3 i' j' a1 a2 a3 a4 (by omega)⟩, q3 i j hi.1 hi.2 hj.1 hj.2 (by omega)⟩
theorem sqB2.nxt {A : Int → Int} {u y i b : Int} (h : sqB2 A u y i (u + 1) b) : sqB2 A u y (i + 1) 0 b := by
  refine ⟨h.1, fun x x0 x1 => ?_⟩
  rw [h.2 x x0 x1]
  constructor
  · rintro ⟨q1, q2, q3⟩
    exact ⟨q1, q2, fun i' j' a1 a2 a3 a4 a5 => q3 i' j' a1 a2 a3 a4 (by omega)⟩
  · rintro ⟨q1, q2, q3⟩
    exact ⟨q1, q2, fun i' j' a1 a2 a3 a4 a5 => q3 i' j' a1 a2 a3 a4 (by omega)⟩
theorem sqB2.out {A : Int → Int} {u y i j b : Int} (h : sqB2 A u y i j b) (hy : 10 ≤ y + u) : sqB2 A u y (u + 1) 0 b := by
  refine ⟨h.1, fun x x0 x1 => ?_⟩
  rw [h.2 x x0 x1]
  constructor
  · rintro ⟨q1, -⟩; omega
  · rintro ⟨q1, -⟩; omega
theorem sqP_A {A : Int → Int} {u y x : Int} (hx : 0 ≤ x ∧ x < 16) (hu : 0 ≤ u) : sqP A u y (u + 1) 0 x ↔ sqA (fun k => cb A k = true) u (16 * y + x) := by
  unfold sqP sqA
  rw [show (16 * y + x) / 16 = y by omega, show (16 * y + x) % 16 = x by omega]
  constructor
  · rintro ⟨q1, q2, q3⟩
    refine ⟨q2, q1, fun dx dy a1 a2 a3 a4 => ?_⟩
    show cb A (16 * (y + dy) + (x + dx)) = true
    rw [cb_at (by omega)]
    exact q3 dy dx a3 a4 a1 a2 (by omega)
  · rintro ⟨q2, q1, q3⟩
    refine ⟨q1, q2, fun i' j' a1 a2 a3 a4 _ => ?_⟩
    have : cb A (16 * (y + i') + (x + j')) = true := q3 j' i' a3 a4 a1 a2
    rw [cb_at (by omega)] at this
    exact this
def sqW (A S : Int → Int) (u y : Int) : Prop := ∀ j, 0 ≤ j → j < y → sqB2 A u j (u + 1) 0 (S j)
theorem sqW.set {A S : Int → Int} {u y b : Int} (h : sqW A S u y) (hb : sqB2 A u y (u + 1) 0 b) : sqW A (iu S y b) u (y + 1) := by
  intro j j0 j1
  by_cases q : j = y
  · rw [q, iu_s]; exact hb
  · rw [iu_n q]; exact h j j0 (by omega)
theorem sqW.fin {A S : Int → Int} {u : Int} (h : sqW A S u 10) (hu : 0 ≤ u) : rr S ∧ ∀ c, 0 ≤ c → c < 160 → (cb S c = true ↔ sqA (fun k => cb A k = true) u c) := by
  refine ⟨fun k k0 k1 => (h k k0 k1).1, fun c c0 c1 => ?_⟩
  have e := (h (c / 16) (by omega) (by omega)).2 (c % 16) (by omega) (by omega)
  rw [sqP_A (by omega) hu, show 16 * (c / 16) + c % 16 = c by omega] at e
  exact e
set_option maxRecDepth 100000 in
set_option maxHeartbeats 4000000 in
theorem l_squares {w0 : WD} {sz al sq : Nat} {A S0 : Int → Int} {u : Int} (ha : w0 al = some (xIA 10 A)) (hs : w0 sq = some (xIA 10 S0)) (hne : al ≠ sq) (hA : rr A) (hu : 0 ≤ u ∧ u ≤ 5) : CT iL_squares 0 0 [xI u, .ref al, .ref sq] w0 sz (fun o9 w' sz' => o9 = none ∧ sz' = sz ∧ ∃ S, UA w0 w' sq (xIA 10 S) ∧ rr S ∧ ∀ c, 0 ≤ c → c < 160 → (cb S c = true ↔ sqA (fun k => cb A k = true) u c)) := by
  refine CT.ofZ (by decide) rfl (Nat.le_of_ble_eq_true rfl) (fun Z hE => ?_)
  refine V_iconst dL_squares_0 ?_
  refine V_istore_n dL_squares_1 3 rfl (by decide) ?_
  have L2 : ∀ y : Int, 0 ≤ y → y ≤ 10 → ∀ (w : WD) (S : Int → Int), UA w0 w sq (xIA 10 S) → sqW A S u y → V iL_squares Z 0 0 w sz 2 [some (xI u), some (.ref al), some (.ref sq), some (xI y), none, none, none] [] := by
    refine up_ind ?_
    intro y hy0 hy1 ihy
    intro w S hU hW
    refine V_iload_n dL_squares_2 3 rfl rfl ?_
    refine V_bipush dL_squares_3 (by decide) ?_
    refine V_icmp_ge 93 dL_squares_5 (by decide) (by omega) (fun h5 => ?_) (fun h5 => ?_)
    · exact V_vret hE rfl dL_squares_93 ⟨rfl, rfl, _, hU, (by rw [show y = 10 by omega] at hW; exact hW.fin hu.1)⟩
    · have J82 : ∀ b, sqB2 A u y (u + 1) 0 b → V iL_squares Z 0 0 w sz 82 [some (xI u), some (.ref al), some (.ref sq), some (xI y), some (xI b), none, none] [] := by
        intro b hb
        refine V_aload_n dL_squares_82 2 rfl rfl ?_
        refine V_iload_n dL_squares_83 3 rfl rfl ?_
        refine V_iload dL_squares_84 rfl ?_
        refine V_iast dL_squares_86 hU.1 (by omega) ?_
        have hU := (hU.u : UA w0 (xU w sq (xIA 10 (iu S y b))) sq _)
        refine V_iinc dL_squares_87 rfl (by decide) ?_
        refine V_goto 2 dL_squares_90 (by decide) ?_
        refine V_fg [true, true, true, true, false, false, false] ?_
        exact ihy (by omega) _ _ hU (hW.set hb)
      have J28 : ∀ b0, sqB2 A u y 0 0 b0 → V iL_squares Z 0 0 w sz 28 [some (xI u), some (.ref al), some (.ref sq), some (xI y), none, none, none] [xI b0] := by
        intro b0 hb0
        refine V_istore dL_squares_28 (by decide) ?_
        refine V_iconst dL_squares_30 ?_
        refine V_istore dL_squares_31 (by decide) ?_
        have L33 : ∀ i : Int, 0 ≤ i → i ≤ u + 1 → ∀ b, sqB2 A u y i 0 b → V iL_squares Z 0 0 w sz 33 [some (xI u), some (.ref al), some (.ref sq), some (xI y), some (xI b), some (xI i), none] [] := by
          refine up_ind ?_
          intro i hi0 hi1 ihi
          intro b hb
          refine V_iload dL_squares_33 rfl ?_
          refine V_iload_n dL_squares_35 0 rfl rfl ?_
          refine V_icmp_gt 82 dL_squares_36 (by decide) (by omega) (fun h36 => ?_) (fun h36 => ?_)
          · refine V_fg [true, true, true, true, true, false, false] ?_
            exact J82 _ (by rw [show i = u + 1 by omega] at hb; exact hb)
          · refine V_iload_n dL_squares_39 3 rfl rfl ?_
            refine V_iload_n dL_squares_40 0 rfl rfl ?_
            refine V_iadd dL_squares_41 ?_
            refine V_bipush dL_squares_42 (by decide) ?_
            refine V_icmp_ge 82 dL_squares_44 (by decide) (by omega) (fun h44 => ?_) (fun h44 => ?_)
            · refine V_fg [true, true, true, true, true, false, false] ?_
              exact J82 _ (hb.out (by omega))
            · refine V_iconst dL_squares_47 ?_
              refine V_istore dL_squares_48 (by decide) ?_
              have L50 : ∀ j : Int, 0 ≤ j → j ≤ u + 1 → ∀ b, sqB2 A u y i j b → V iL_squares Z 0 0 w sz 50 [some (xI u), some (.ref al), some (.ref sq), some (xI y), some (xI b), some (xI i), some (xI j)] [] := by
                refine up_ind ?_
                intro j hj0 hj1 ihj
                intro b hb
                refine V_iload dL_squares_50 rfl ?_
                refine V_iload_n dL_squares_52 0 rfl rfl ?_
                refine V_icmp_gt 76 dL_squares_53 (by decide) (by omega) (fun h53 => ?_) (fun h53 => ?_)
                · have hb := (show sqB2 A u y i (u + 1) b by rw [show j = u + 1 by omega] at hb; exact hb).nxt
                  refine V_iinc dL_squares_76 rfl (by decide) ?_
                  refine V_goto 33 dL_squares_79 (by decide) ?_
                  refine V_fg [true, true, true, true, true, true, false] ?_
                  exact ihi (by omega) _ hb
                · refine V_iload dL_squares_56 rfl ?_
                  refine V_aload_n dL_squares_58 1 rfl rfl ?_
                  refine V_iload_n dL_squares_59 3 rfl rfl ?_
                  refine V_iload dL_squares_60 rfl ?_
                  refine V_iadd dL_squares_62 ?_
                  have hAy := hA (y + i) (by omega) (by omega)
                  refine V_iald dL_squares_63 ((hU.2 al hne).trans ha) (by omega) ?_
                  refine V_iload dL_squares_64 rfl ?_
                  refine V_ishrZ dL_squares_66 (by omega) (by omega) ?_
                  have hb1 := hb.1
                  refine V_iandZ dL_squares_67 (by omega) iShr_0 ?_
                  refine V_istore dL_squares_68 (by decide) ?_
                  refine V_iinc dL_squares_70 rfl (by decide) ?_
                  refine V_goto 50 dL_squares_73 (by decide) ?_
                  exact ihj (by omega) _ (hb.and (by omega) (by omega))
              exact L50 (0) (by omega) (by omega) b hb
        refine V_fg [true, true, true, true, true, true, false] ?_
        exact L33 (0) (by omega) (by omega) b0 hb0
      refine V_iload_n dL_squares_8 3 rfl rfl ?_
      refine V_iload_n dL_squares_9 0 rfl rfl ?_
      refine V_iadd dL_squares_10 ?_
      refine V_bipush dL_squares_11 (by decide) ?_
      refine V_icmp_ge 27 dL_squares_13 (by decide) (by omega) (fun h13 => ?_) (fun h13 => ?_)
      · refine V_iconst dL_squares_27 ?_
        exact J28 _ ⟨by omega, fun x x0 x1 => by rw [tb_0]; constructor; intro q; cases q; rintro ⟨q, -⟩; omega⟩
      · refine V_iconst dL_squares_16 ?_
        refine V_bipush dL_squares_17 (by decide) ?_
        refine V_iload_n dL_squares_19 0 rfl rfl ?_
        refine V_isub dL_squares_20 ?_
        refine V_ishlZ dL_squares_21 (by omega) (by omega) ?_
        refine V_iconst dL_squares_22 ?_
        refine V_isub dL_squares_23 ?_
        refine V_goto 28 dL_squares_24 (by decide) ?_
        exact J28 _ ⟨by have := iShl_16 (s := 16 - u) (by omega); omega, fun x x0 x1 => by rw [tb_low x0, decide_eq_true_eq]; exact ⟨fun q => ⟨by omega, by omega, fun i' j' a1 a2 a3 a4 a5 => by omega⟩, fun q => by have := q.2.1; omega⟩⟩
  refine V_fg [true, true, true, true, false, false, false] ?_
  exact L2 (0) (by omega) (by omega) w0 _ (UA.rf hs) (fun j h1 h2 => by omega)
