/-! p25's law: alike cells -/
theorem cnt_set {R : Int → Int} {c : Int} (hc : 0 ≤ c ∧ c < 160) (h : cb R c = false) : cnt (cb (iu R (c / 16) (iOr (R (c / 16)) (iShl 1 (c % 16))))) = cnt (cb R) + 1 := by
  have e : cb (iu R (c / 16) (iOr (R (c / 16)) (iShl 1 (c % 16)))) = iu (cb R) c true := by
    funext j
    rw [cb_set]
    by_cases q : j = c
    · rw [q, iu_s, decide_eq_true rfl, Bool.or_true]
    · rw [iu_n q, decide_eq_false q, Bool.or_false]
  rw [e, cnt_iu hc.1 hc.2, h, b2i_t, b2i_f]
  omega
theorem iabs_r {v : Int} (h : -1000 ≤ v ∧ v ≤ 1000) : 0 ≤ iabs v ∧ iabs v ≤ 1000 := by
  unfold iabs
  split <;> omega
/-- a neighbor that is in the rows leads to c -/
def cm (g R : Int → Int) (L c : Int) : Prop := (isb R (c % 16 - 1) (c / 16) = true ∧ iabs (g (c - 1) - g c) ≤ L) ∨ (isb R (c % 16 + 1) (c / 16) = true ∧ iabs (g (c + 1) - g c) ≤ L) ∨ (isb R (c % 16) (c / 16 - 1) = true ∧ iabs (g (c - 16) - g c) ≤ L) ∨ (isb R (c % 16) (c / 16 + 1) = true ∧ iabs (g (c + 16) - g c) ≤ L)
theorem cm_of {g R : Int → Int} {L c j : Int} (hc : 0 ≤ c ∧ c < 160) (hj : 0 ≤ j ∧ j < 160) (hb : cb R j = true) (hs : stp j c = 1) (hl : iabs (g j - g c) ≤ L) : cm g R L c := by
  have key : (j = c - 1 ∧ 1 ≤ c % 16) ∨ (j = c + 1 ∧ c % 16 ≤ 14) ∨ j = c - 16 ∨ j = c + 16 := by
    unfold stp iabs at hs
    (repeat' split at hs) <;> omega
  rcases key with ⟨rfl, h⟩ | ⟨rfl, h⟩ | rfl | rfl
  · exact Or.inl ⟨isb_t.mpr ⟨by omega, by rw [show 16 * (c / 16) + (c % 16 - 1) = c - 1 by omega]; exact hb⟩, hl⟩
  · exact Or.inr (Or.inl ⟨isb_t.mpr ⟨by omega, by rw [show 16 * (c / 16) + (c % 16 + 1) = c + 1 by omega]; exact hb⟩, hl⟩)
  · exact Or.inr (Or.inr (Or.inl ⟨isb_t.mpr ⟨by omega, by rw [show 16 * (c / 16 - 1) + c % 16 = c - 16 by omega]; exact hb⟩, hl⟩))
  · exact Or.inr (Or.inr (Or.inr ⟨isb_t.mpr ⟨by omega, by rw [show 16 * (c / 16 + 1) + c % 16 = c + 16 by omega]; exact hb⟩, hl⟩))
theorem cm_to {g R : Int → Int} {L c : Int} (hc : 0 ≤ c ∧ c < 160) (h : cm g R L c) : ∃ j, 0 ≤ j ∧ j < 160 ∧ cb R j = true ∧ stp j c = 1 ∧ iabs (g j - g c) ≤ L := by
  rcases h with ⟨h, hl⟩ | ⟨h, hl⟩ | ⟨h, hl⟩ | ⟨h, hl⟩ <;> obtain ⟨h1, h2⟩ := isb_t.mp h
  · rw [show 16 * (c / 16) + (c % 16 - 1) = c - 1 by omega] at h2
    exact ⟨c - 1, by omega, by omega, h2, by unfold stp iabs; (repeat' split) <;> omega, hl⟩
  · rw [show 16 * (c / 16) + (c % 16 + 1) = c + 1 by omega] at h2
    exact ⟨c + 1, by omega, by omega, h2, by unfold stp iabs; (repeat' split) <;> omega, hl⟩
  · rw [show 16 * (c / 16 - 1) + c % 16 = c - 16 by omega] at h2
    exact ⟨c - 16, by omega, by omega, h2, by unfold stp iabs; (repeat' split) <;> omega, hl⟩
  · rw [show 16 * (c / 16 + 1) + c % 16 = c + 16 by omega] at h2
    exact ⟨c + 16, by omega, by omega, h2, by unfold stp iabs; (repeat' split) <;> omega, hl⟩
/-- what the rows hold is reached -/
def Snd (g R : Int → Int) (L f : Int) : Prop := ∀ c, 0 ≤ c → c < 160 → cb R c = true → Rch g L (fun _ => false) f c
theorem Snd.set {g R : Int → Int} {L f c : Int} (h : Snd g R L f) (hc : 0 ≤ c ∧ c < 160) (hm : cm g R L c) : Snd g (iu R (c / 16) (iOr (R (c / 16)) (iShl 1 (c % 16)))) L f := by
  intro j j0 j1 hj
  rw [cb_set, Bool.or_eq_true, decide_eq_true_eq] at hj
  rcases hj with hj | rfl
  · exact h j j0 j1 hj
  · obtain ⟨i, i0, i1, hb, hs, hl⟩ := cm_to hc hm
    exact (h i i0 i1 hb).step i0 i1 j0 j1 rfl hs hl
theorem Snd.fin {g R : Int → Int} {L f : Int} (h : Snd g R L f) (hf : cb R f = true) (hcl : ∀ c, 0 ≤ c → c < 160 → cb R c = false → ¬ cm g R L c) : ∀ c, 0 ≤ c → c < 160 → (cb R c = true ↔ aP g f L 1 c) := by
  intro c c0 c1
  rw [show aP g f L 1 c = Rch g L (fun _ => false) f c from if_neg (by decide)]
  refine ⟨h c c0 c1, fun q => q (fun k => cb R k = true) hf (fun i j hi i0 i1 j0 j1 _ hs hl => ?_)⟩
  cases e : cb R j with
  | true => rfl
  | false => exact absurd (cm_of ⟨j0, j1⟩ ⟨i0, i1⟩ hi hs hl) (hcl j j0 j1 e)
/-- how far a sweep is -/
def Swp (g R R2 : Int → Int) (L γ k : Int) : Prop := (γ = 0 ∧ R2 = R ∧ ∀ c, 0 ≤ c → c < k → cb R c = false → ¬ cm g R L c) ∨ (γ = 1 ∧ cnt (cb R) < cnt (cb R2))
theorem Swp.r {g R R2 : Int → Int} {L γ k : Int} (h : Swp g R R2 L γ k) : 0 ≤ γ ∧ γ ≤ 1 := by
  rcases h with ⟨h, -⟩ | ⟨h, -⟩ <;> omega
theorem Swp.keep {g R R2 : Int → Int} {L γ k : Int} (h : Swp g R R2 L γ k) (hk : cb R2 k = true ∨ ¬ cm g R2 L k) : Swp g R R2 L γ (k + 1) := by
  rcases h with ⟨h1, rfl, h2⟩ | h
  · refine Or.inl ⟨h1, rfl, fun c c0 c1 hc => ?_⟩
    by_cases q : c = k
    · subst q
      rcases hk with hk | hk
      · rw [hk] at hc
        cases hc
      · exact hk
    · exact h2 c c0 (by omega) hc
  · exact Or.inr h
theorem Swp.set {g R R2 : Int → Int} {L γ k : Int} (h : Swp g R R2 L γ k) (hk : 0 ≤ k ∧ k < 160) (hb : cb R2 k = false) : Swp g R (iu R2 (k / 16) (iOr (R2 (k / 16)) (iShl 1 (k % 16)))) L 1 (k + 1) := by
  refine Or.inr ⟨rfl, ?_⟩
  rw [cnt_set hk hb]
  rcases h with ⟨-, rfl, -⟩ | ⟨-, h⟩ <;> omega
set_option maxRecDepth 100000 in
set_option maxHeartbeats 4000000 in
theorem l_alike {w0 : WD} {sz pi al : Nat} {g R0 : Int → Int} {x y L way : Int} (hp : w0 pi = some (xPA 20 g)) (ha : w0 al = some (xIA 10 R0)) (hg : B7 g) (hc : iCell x y) (hL : 0 ≤ L ∧ L ≤ 1000) (hw1 : (way = 0 ∨ way = 1)) : CT iL_alike 0 0 [xI x, xI y, xI L, xI way, .ref pi, .ref al] w0 sz (fun o9 w' sz' => o9 = none ∧ sz' = sz ∧ ∃ R, UA w0 w' al (xIA 10 R) ∧ rr R ∧ ∀ c, 0 ≤ c → c < 160 → (cb R c = true ↔ aP g (16 * y + x) L way c)) := by
  refine CT.ofZ (by decide) rfl (Nat.le_of_ble_eq_true rfl) (fun Z hE => ?_)
  have hne : pi ≠ al := fun e => by rw [e, ha] at hp; cases hp
  refine V_aload dL_alike_0 rfl ?_
  refine V_iconst dL_alike_2 ?_
  refine V_iload_n dL_alike_3 0 rfl rfl ?_
  refine V_iload_n dL_alike_4 1 rfl rfl ?_
  refine V_c_L_12 rfl (by decide) (l_of (n := 20) hp hg (by omega) (by omega) (by omega) hc) dL_alike_5 rfl rfl (Nat.le_of_ble_eq_true rfl) (Nat.le_of_eq (Nat.zero_add _)) (Nat.le_of_eq (Nat.zero_add _)) (fun v w sz q => ?_)
  obtain ⟨rfl, hw9, hs9⟩ := q
  obtain rfl := hw9.symm
  obtain rfl := hs9.symm
  rw [show 8 * 0 + 16 * y + x = 16 * y + x by omega]
  refine V_istore dL_alike_8 (by decide) ?_
  refine V_iconst dL_alike_10 ?_
  refine V_istore dL_alike_11 (by decide) ?_
  have L13 : ∀ k : Int, 0 ≤ k → k ≤ 10 → ∀ (w : WD) (R : Int → Int), UA w0 w al (xIA 10 R) → (∀ j, 0 ≤ j → j < k → R j = 0) → V iL_alike Z 0 0 w sz 13 [some (xI x), some (xI y), some (xI L), some (xI way), some (.ref pi), some (.ref al), some (xI (g (16 * y + x))), some (xI k), none, none, none, none, none] [] := by
    refine up_ind ?_
    intro k hk0 hk1 ih
    intro w R hU h0
    refine V_iload dL_alike_13 rfl ?_
    refine V_bipush dL_alike_15 (by decide) ?_
    refine V_icmp_ge 32 dL_alike_17 (by decide) (by omega) (fun h17 => ?_) (fun h17 => ?_)
    · have hR0 : rr R := fun j h1 h2 => by rw [h0 j h1 (by omega)]; omega
      have hz : ∀ c, 0 ≤ c → c < 160 → cb R c = false := fun c c0 c1 => by unfold cb; rw [h0 _ (by omega) (by omega), tb_0]
      refine V_iload_n dL_alike_32 3 rfl rfl ?_
      refine V_if_ne 98 dL_alike_33 (by decide) (by omega) (fun h33 => ?_) (fun h33 => ?_)
      · refine V_aload dL_alike_98 rfl ?_
        refine V_iload_n dL_alike_100 1 rfl rfl ?_
        refine V_iconst dL_alike_101 ?_
        refine V_iload_n dL_alike_102 0 rfl rfl ?_
        refine V_ishlZ dL_alike_103 (by first | omega | (dsimp only; omega) | exact iAnd_0 | exact iOr_0 | exact iShl_0 | exact iShr_0) (by first | omega | (dsimp only; omega) | exact iAnd_0 | exact iOr_0 | exact iShl_0 | exact iShr_0) ?_
        refine V_iast dL_alike_104 hU.1 (by omega) ?_
        have hU := (hU.u : UA w0 (xU w al (xIA 10 (iu R y (iShl 1 x)))) al _)
        have hR1 : rr (iu R y (iShl 1 x)) := hR0.u ⟨iShl_0, iShl_1 (by omega)⟩
        have hb1 : ∀ c, 0 ≤ c → c < 160 → (cb (iu R y (iShl 1 x)) c = true ↔ c = 16 * y + x) := fun c c0 c1 => by
          unfold cb
          by_cases q : c / 16 = y
          · rw [q, iu_s, tb_bit (by omega) (by omega), decide_eq_true_eq]
            omega
          · rw [iu_n q]
            have := hz c c0 c1
            unfold cb at this
            rw [this]
            constructor
            · intro e; cases e
            · intro e; omega
        have hf1 := (hb1 (16 * y + x) (by omega) (by omega)).mpr rfl
        have hS1 : Snd g (iu R y (iShl 1 x)) L (16 * y + x) := fun c c0 c1 e => by rw [(hb1 c c0 c1).mp e]; exact Rch.self
        refine V_iconst dL_alike_105 ?_
        refine V_istore dL_alike_106 (by decide) ?_
        have L108 : ∀ n : Nat, ∀ (w : WD) (R : Int → Int), UA w0 w al (xIA 10 R) → rr R → Snd g R L (16 * y + x) → cb R (16 * y + x) = true → 160 - cnt (cb R) < n → V iL_alike Z 0 0 w sz 108 [some (xI x), some (xI y), some (xI L), some (xI way), some (.ref pi), some (.ref al), some (xI (g (16 * y + x))), some (xI 1), none, none, none, none, none] [] := by
          intro n
          induction n with
          | zero =>
            intro w R hU hR hS hf hn
            have := cnt_b (cb R)
            omega
          | succ n ihn => ?_
          intro w1 R hU1 hR1 hS1 hf1 hn
          refine V_iload dL_alike_108 rfl ?_
          refine V_if_eq 351 dL_alike_110 (by decide) (by omega) (fun h110 => ?_) (fun h110 => ?_)
          · exact absurd h110 (by simp)
          · refine V_iconst dL_alike_113 ?_
            refine V_istore dL_alike_114 (by decide) ?_
            refine V_iconst dL_alike_116 ?_
            refine V_istore dL_alike_117 (by decide) ?_
            have L119 : ∀ k : Int, 0 ≤ k → k ≤ 160 → ∀ (w : WD) (R2 : Int → Int) (γ : Int), UA w0 w al (xIA 10 R2) → rr R2 → Snd g R2 L (16 * y + x) → cb R2 (16 * y + x) = true → Swp g R R2 L γ k → V iL_alike Z 0 0 w sz 119 [some (xI x), some (xI y), some (xI L), some (xI way), some (.ref pi), some (.ref al), some (xI (g (16 * y + x))), some (xI γ), some (xI k), none, none, none, none] [] := by
              refine up_ind ?_
              intro k hk0 hk1 ih
              intro w R2 γ hU hR hS2 hf2 hW
              have hγ := hW.r
              refine V_iload dL_alike_119 rfl ?_
              refine V_sipush dL_alike_121 (by decide) ?_
              refine V_icmp_ge 348 dL_alike_124 (by decide) (by omega) (fun h124 => ?_) (fun h124 => ?_)
              · refine V_goto 108 dL_alike_348 (by decide) ?_
                rcases hW with ⟨rfl, rfl, hcl⟩ | ⟨rfl, hlt⟩
                · refine V_iload dL_alike_108 rfl ?_
                  refine V_if_eq 351 dL_alike_110 (by decide) (by omega) (fun _ => ?_) (fun h110 => absurd rfl h110)
                  exact V_vret hE rfl dL_alike_351 ⟨rfl, rfl, _, hU, hR, by rw [show way = 1 by omega]; exact hS2.fin hf2 (fun c c0 c1 => hcl c c0 (by omega))⟩
                · refine V_fg [true, true, true, true, true, true, true, true, false, false, false, false, false] ?_
                  exact ihn _ _ hU hR hS2 hf2 (by omega)
              · refine V_iload dL_alike_127 rfl ?_
                refine V_bipush dL_alike_129 (by decide) ?_
                refine V_iremN dL_alike_131 (by first | omega | (dsimp only; omega) | exact iAnd_0 | exact iOr_0 | exact iShl_0 | exact iShr_0) ?_
                refine V_istore dL_alike_132 (by decide) ?_
                refine V_iload dL_alike_134 rfl ?_
                refine V_bipush dL_alike_136 (by decide) ?_
                refine V_idivN dL_alike_138 (by first | omega | (dsimp only; omega) | exact iAnd_0 | exact iOr_0 | exact iShl_0 | exact iShr_0) ?_
                refine V_istore dL_alike_139 (by decide) ?_
                refine V_aload dL_alike_141 rfl ?_
                refine V_iload dL_alike_143 rfl ?_
                refine V_iload dL_alike_145 rfl ?_
                refine V_c_L_22 rfl (by decide) (l_is hU.1 hR (by omega)) dL_alike_147 rfl rfl (Nat.le_of_ble_eq_true rfl) (Nat.le_of_eq (Nat.zero_add _)) (Nat.le_of_eq (Nat.zero_add _)) (fun v w sz q => ?_)
                obtain ⟨rfl, hw9, hs9⟩ := q
                obtain rfl := hw9.symm
                obtain rfl := hs9.symm
                refine V_ifeqB 156 dL_alike_150 (by decide) (fun h150 => ?_) (fun h150 => ?_)
                · try simp only [decide_eq_true_eq, decide_eq_false_iff_not, Bool.not_eq_true] at h150
                  have hb : cb R2 k = false := by
                    cases e : cb R2 k with
                    | false => rfl
                    | true => rw [isb_t.mpr ⟨by omega, by rw [show 16 * (k / 16) + k % 16 = k by omega]; exact e⟩] at h150; cases h150
                  refine V_aload dL_alike_156 rfl ?_
                  refine V_iconst dL_alike_158 ?_
                  refine V_iload dL_alike_159 rfl ?_
                  refine V_iload dL_alike_161 rfl ?_
                  refine V_c_L_12 rfl (by decide) (l_of (n := 20) ((hU.2 pi hne).trans hp) hg (by omega) (by omega) (by omega) (by omega)) dL_alike_163 rfl rfl (Nat.le_of_ble_eq_true rfl) (Nat.le_of_eq (Nat.zero_add _)) (Nat.le_of_eq (Nat.zero_add _)) (fun v w sz q => ?_)
                  obtain ⟨rfl, hw9, hs9⟩ := q
                  obtain rfl := hw9.symm
                  obtain rfl := hs9.symm
                  rw [show 8 * 0 + 16 * (k / 16) + k % 16 = k by omega]
                  refine V_istore dL_alike_166 (by decide) ?_
                  have J312 : cm g R2 L k → V iL_alike Z 0 0 w sz 312 [some (xI x), some (xI y), some (xI L), some (xI way), some (.ref pi), some (.ref al), some (xI (g (16 * y + x))), some (xI γ), some (xI k), some (xI (k % 16)), some (xI (k / 16)), some (xI (g k)), none] [] := by
                    intro hcm
                    refine V_iconst dL_alike_312 ?_
                    refine V_goto 317 dL_alike_313 (by decide) ?_
                    refine V_istore dL_alike_317 (by decide) ?_
                    refine V_iload dL_alike_319 rfl ?_
                    refine V_if_ne 327 dL_alike_321 (by decide) (by omega) (fun h321 => ?_) (fun h321 => ?_)
                    · refine V_aload dL_alike_327 rfl ?_
                      refine V_iload dL_alike_329 rfl ?_
                      refine V_dup2 dL_alike_331 rfl rfl ?_
                      have hRk := hR (k / 16) (by omega) (by omega)
                      refine V_iald dL_alike_332 hU.1 (by omega) ?_
                      refine V_iconst dL_alike_333 ?_
                      refine V_iload dL_alike_334 rfl ?_
                      refine V_ishlZ dL_alike_336 (by first | omega | (dsimp only; omega) | exact iAnd_0 | exact iOr_0 | exact iShl_0 | exact iShr_0) (by first | omega | (dsimp only; omega) | exact iAnd_0 | exact iOr_0 | exact iShl_0 | exact iShr_0) ?_
                      refine V_iorZ dL_alike_337 (by first | omega | (dsimp only; omega) | exact iAnd_0 | exact iOr_0 | exact iShl_0 | exact iShr_0) (by first | omega | (dsimp only; omega) | exact iAnd_0 | exact iOr_0 | exact iShl_0 | exact iShr_0) ?_
                      refine V_iast dL_alike_338 hU.1 (by omega) ?_
                      have hU := (hU.u : UA w0 (xU w al (xIA 10 (iu R2 (k / 16) (iOr (R2 (k / 16)) (iShl 1 (k % 16)))))) al _)
                      refine V_iconst dL_alike_339 ?_
                      refine V_istore dL_alike_340 (by decide) ?_
                      refine V_iinc dL_alike_342 rfl (by decide) ?_
                      refine V_goto 119 dL_alike_345 (by decide) ?_
                      refine V_fg [true, true, true, true, true, true, true, true, true, false, false, false, false] ?_
                      exact ih (by omega) _ _ 1 hU (hR.set (c := k) (by omega)) (hS2.set (by omega) hcm) (by rw [cb_set, hf2]; rfl) (hW.set (by omega) hb)
                    · exact absurd h321 (by simp)
                  have J316 : ¬ cm g R2 L k → V iL_alike Z 0 0 w sz 316 [some (xI x), some (xI y), some (xI L), some (xI way), some (.ref pi), some (.ref al), some (xI (g (16 * y + x))), some (xI γ), some (xI k), some (xI (k % 16)), some (xI (k / 16)), some (xI (g k)), none] [] := by
                    intro hncm
                    have hkk : cb R2 k = true ∨ ¬ cm g R2 L k := Or.inr hncm
                    refine V_iconst dL_alike_316 ?_
                    refine V_istore dL_alike_317 (by decide) ?_
                    refine V_iload dL_alike_319 rfl ?_
                    refine V_if_ne 327 dL_alike_321 (by decide) (by omega) (fun h321 => ?_) (fun h321 => ?_)
                    · exact absurd h321 (by simp)
                    · refine V_goto 342 dL_alike_324 (by decide) ?_
                      refine V_iinc dL_alike_342 rfl (by decide) ?_
                      refine V_goto 119 dL_alike_345 (by decide) ?_
                      refine V_fg [true, true, true, true, true, true, true, true, true, false, false, false, false] ?_
                      exact ih (by omega) _ _ γ hU hR hS2 hf2 (hW.keep hkk)
                  have J276 : ¬ (isb R2 (k % 16 - 1) (k / 16) = true ∧ iabs (g (k - 1) - g k) ≤ L) → ¬ (isb R2 (k % 16 + 1) (k / 16) = true ∧ iabs (g (k + 1) - g k) ≤ L) → ¬ (isb R2 (k % 16) (k / 16 - 1) = true ∧ iabs (g (k - 16) - g k) ≤ L) → V iL_alike Z 0 0 w sz 276 [some (xI x), some (xI y), some (xI L), some (xI way), some (.ref pi), some (.ref al), some (xI (g (16 * y + x))), some (xI γ), some (xI k), some (xI (k % 16)), some (xI (k / 16)), some (xI (g k)), none] [] := by
                    intro n1 n2 n3
                    refine V_aload dL_alike_276 rfl ?_
                    refine V_iload dL_alike_278 rfl ?_
                    refine V_iload dL_alike_280 rfl ?_
                    refine V_iconst dL_alike_282 ?_
                    refine V_iadd dL_alike_283 ?_
                    refine V_c_L_22 rfl (by decide) (l_is hU.1 hR (by omega)) dL_alike_284 rfl rfl (Nat.le_of_ble_eq_true rfl) (Nat.le_of_eq (Nat.zero_add _)) (Nat.le_of_eq (Nat.zero_add _)) (fun v w sz q => ?_)
                    obtain ⟨rfl, hw9, hs9⟩ := q
                    obtain rfl := hw9.symm
                    obtain rfl := hs9.symm
                    refine V_ifeqB 316 dL_alike_287 (by decide) (fun h287 => ?_) (fun h287 => ?_)
                    · try simp only [decide_eq_true_eq, decide_eq_false_iff_not, Bool.not_eq_true] at h287
                      exact J316 (fun q => q.elim n1 (fun q => q.elim n2 (fun q => q.elim n3 (fun q => by rw [h287] at q; exact absurd q.1 (by decide)))))
                    · try simp only [decide_eq_true_eq, decide_eq_false_iff_not, Bool.not_eq_true] at h287
                      refine V_aload dL_alike_290 rfl ?_
                      refine V_iconst dL_alike_292 ?_
                      refine V_iload dL_alike_293 rfl ?_
                      refine V_iload dL_alike_295 rfl ?_
                      refine V_iconst dL_alike_297 ?_
                      refine V_iadd dL_alike_298 ?_
                      refine V_c_L_12 rfl (by decide) (l_of (n := 20) ((hU.2 pi hne).trans hp) hg (by omega) (by omega) (by omega) (isb_t.mp h287).1) dL_alike_299 rfl rfl (Nat.le_of_ble_eq_true rfl) (Nat.le_of_eq (Nat.zero_add _)) (Nat.le_of_eq (Nat.zero_add _)) (fun v w sz q => ?_)
                      obtain ⟨rfl, hw9, hs9⟩ := q
                      obtain rfl := hw9.symm
                      obtain rfl := hs9.symm
                      rw [show 8 * 0 + 16 * (k / 16 + 1) + k % 16 = k + 16 by omega]
                      refine V_iload dL_alike_302 rfl ?_
                      refine V_isub dL_alike_304 ?_
                      refine V_c_L_18 rfl (by decide) (l_abs (by have := hg (k + 16); have := hg k; omega)) dL_alike_305 rfl rfl (Nat.le_of_ble_eq_true rfl) (Nat.le_of_eq (Nat.zero_add _)) (Nat.le_of_eq (Nat.zero_add _)) (fun v w sz q => ?_)
                      obtain ⟨rfl, hw9, hs9⟩ := q
                      obtain rfl := hw9.symm
                      obtain rfl := hs9.symm
                      have ha305 := iabs_r (v := g (k + 16) - g k) (by have := hg (k + 16); have := hg k; omega)
                      refine V_iload_n dL_alike_308 2 rfl rfl ?_
                      refine V_icmp_gt 316 dL_alike_309 (by decide) (by omega) (fun h309 => ?_) (fun h309 => ?_)
                      · exact J316 (fun q => q.elim n1 (fun q => q.elim n2 (fun q => q.elim n3 (fun q => by have q2 := q.2; omega))))
                      · exact J312 (Or.inr (Or.inr (Or.inr ⟨h287, h309⟩)))
                  have J240 : ¬ (isb R2 (k % 16 - 1) (k / 16) = true ∧ iabs (g (k - 1) - g k) ≤ L) → ¬ (isb R2 (k % 16 + 1) (k / 16) = true ∧ iabs (g (k + 1) - g k) ≤ L) → V iL_alike Z 0 0 w sz 240 [some (xI x), some (xI y), some (xI L), some (xI way), some (.ref pi), some (.ref al), some (xI (g (16 * y + x))), some (xI γ), some (xI k), some (xI (k % 16)), some (xI (k / 16)), some (xI (g k)), none] [] := by
                    intro n1 n2
                    refine V_aload dL_alike_240 rfl ?_
                    refine V_iload dL_alike_242 rfl ?_
                    refine V_iload dL_alike_244 rfl ?_
                    refine V_iconst dL_alike_246 ?_
                    refine V_isub dL_alike_247 ?_
                    refine V_c_L_22 rfl (by decide) (l_is hU.1 hR (by omega)) dL_alike_248 rfl rfl (Nat.le_of_ble_eq_true rfl) (Nat.le_of_eq (Nat.zero_add _)) (Nat.le_of_eq (Nat.zero_add _)) (fun v w sz q => ?_)
                    obtain ⟨rfl, hw9, hs9⟩ := q
                    obtain rfl := hw9.symm
                    obtain rfl := hs9.symm
                    refine V_ifeqB 276 dL_alike_251 (by decide) (fun h251 => ?_) (fun h251 => ?_)
                    · try simp only [decide_eq_true_eq, decide_eq_false_iff_not, Bool.not_eq_true] at h251
                      exact J276 n1 n2 (fun q => by rw [h251] at q; exact absurd q.1 (by decide))
                    · try simp only [decide_eq_true_eq, decide_eq_false_iff_not, Bool.not_eq_true] at h251
                      refine V_aload dL_alike_254 rfl ?_
                      refine V_iconst dL_alike_256 ?_
                      refine V_iload dL_alike_257 rfl ?_
                      refine V_iload dL_alike_259 rfl ?_
                      refine V_iconst dL_alike_261 ?_
                      refine V_isub dL_alike_262 ?_
                      refine V_c_L_12 rfl (by decide) (l_of (n := 20) ((hU.2 pi hne).trans hp) hg (by omega) (by omega) (by omega) (isb_t.mp h251).1) dL_alike_263 rfl rfl (Nat.le_of_ble_eq_true rfl) (Nat.le_of_eq (Nat.zero_add _)) (Nat.le_of_eq (Nat.zero_add _)) (fun v w sz q => ?_)
                      obtain ⟨rfl, hw9, hs9⟩ := q
                      obtain rfl := hw9.symm
                      obtain rfl := hs9.symm
                      rw [show 8 * 0 + 16 * (k / 16 - 1) + k % 16 = k - 16 by omega]
                      refine V_iload dL_alike_266 rfl ?_
                      refine V_isub dL_alike_268 ?_
                      refine V_c_L_18 rfl (by decide) (l_abs (by have := hg (k - 16); have := hg k; omega)) dL_alike_269 rfl rfl (Nat.le_of_ble_eq_true rfl) (Nat.le_of_eq (Nat.zero_add _)) (Nat.le_of_eq (Nat.zero_add _)) (fun v w sz q => ?_)
                      obtain ⟨rfl, hw9, hs9⟩ := q
                      obtain rfl := hw9.symm
                      obtain rfl := hs9.symm
                      have ha269 := iabs_r (v := g (k - 16) - g k) (by have := hg (k - 16); have := hg k; omega)
                      refine V_iload_n dL_alike_272 2 rfl rfl ?_
                      refine V_icmp_le 312 dL_alike_273 (by decide) (by omega) (fun h273 => ?_) (fun h273 => ?_)
                      · exact J312 (Or.inr (Or.inr (Or.inl ⟨h251, h273⟩)))
                      · exact J276 n1 n2 (fun q => by have q2 := q.2; omega)
                  have J204 : ¬ (isb R2 (k % 16 - 1) (k / 16) = true ∧ iabs (g (k - 1) - g k) ≤ L) → V iL_alike Z 0 0 w sz 204 [some (xI x), some (xI y), some (xI L), some (xI way), some (.ref pi), some (.ref al), some (xI (g (16 * y + x))), some (xI γ), some (xI k), some (xI (k % 16)), some (xI (k / 16)), some (xI (g k)), none] [] := by
                    intro n1
                    refine V_aload dL_alike_204 rfl ?_
                    refine V_iload dL_alike_206 rfl ?_
                    refine V_iconst dL_alike_208 ?_
                    refine V_iadd dL_alike_209 ?_
                    refine V_iload dL_alike_210 rfl ?_
                    refine V_c_L_22 rfl (by decide) (l_is hU.1 hR (by omega)) dL_alike_212 rfl rfl (Nat.le_of_ble_eq_true rfl) (Nat.le_of_eq (Nat.zero_add _)) (Nat.le_of_eq (Nat.zero_add _)) (fun v w sz q => ?_)
                    obtain ⟨rfl, hw9, hs9⟩ := q
                    obtain rfl := hw9.symm
                    obtain rfl := hs9.symm
                    refine V_ifeqB 240 dL_alike_215 (by decide) (fun h215 => ?_) (fun h215 => ?_)
                    · try simp only [decide_eq_true_eq, decide_eq_false_iff_not, Bool.not_eq_true] at h215
                      exact J240 n1 (fun q => by rw [h215] at q; exact absurd q.1 (by decide))
                    · try simp only [decide_eq_true_eq, decide_eq_false_iff_not, Bool.not_eq_true] at h215
                      refine V_aload dL_alike_218 rfl ?_
                      refine V_iconst dL_alike_220 ?_
                      refine V_iload dL_alike_221 rfl ?_
                      refine V_iconst dL_alike_223 ?_
                      refine V_iadd dL_alike_224 ?_
                      refine V_iload dL_alike_225 rfl ?_
                      refine V_c_L_12 rfl (by decide) (l_of (n := 20) ((hU.2 pi hne).trans hp) hg (by omega) (by omega) (by omega) (isb_t.mp h215).1) dL_alike_227 rfl rfl (Nat.le_of_ble_eq_true rfl) (Nat.le_of_eq (Nat.zero_add _)) (Nat.le_of_eq (Nat.zero_add _)) (fun v w sz q => ?_)
                      obtain ⟨rfl, hw9, hs9⟩ := q
                      obtain rfl := hw9.symm
                      obtain rfl := hs9.symm
                      rw [show 8 * 0 + 16 * (k / 16) + (k % 16 + 1) = k + 1 by omega]
                      refine V_iload dL_alike_230 rfl ?_
                      refine V_isub dL_alike_232 ?_
                      refine V_c_L_18 rfl (by decide) (l_abs (by have := hg (k + 1); have := hg k; omega)) dL_alike_233 rfl rfl (Nat.le_of_ble_eq_true rfl) (Nat.le_of_eq (Nat.zero_add _)) (Nat.le_of_eq (Nat.zero_add _)) (fun v w sz q => ?_)
                      obtain ⟨rfl, hw9, hs9⟩ := q
                      obtain rfl := hw9.symm
                      obtain rfl := hs9.symm
                      have ha233 := iabs_r (v := g (k + 1) - g k) (by have := hg (k + 1); have := hg k; omega)
                      refine V_iload_n dL_alike_236 2 rfl rfl ?_
                      refine V_icmp_le 312 dL_alike_237 (by decide) (by omega) (fun h237 => ?_) (fun h237 => ?_)
                      · exact J312 (Or.inr (Or.inl ⟨h215, h237⟩))
                      · exact J240 n1 (fun q => by have q2 := q.2; omega)
                  refine V_aload dL_alike_168 rfl ?_
                  refine V_iload dL_alike_170 rfl ?_
                  refine V_iconst dL_alike_172 ?_
                  refine V_isub dL_alike_173 ?_
                  refine V_iload dL_alike_174 rfl ?_
                  refine V_c_L_22 rfl (by decide) (l_is hU.1 hR (by omega)) dL_alike_176 rfl rfl (Nat.le_of_ble_eq_true rfl) (Nat.le_of_eq (Nat.zero_add _)) (Nat.le_of_eq (Nat.zero_add _)) (fun v w sz q => ?_)
                  obtain ⟨rfl, hw9, hs9⟩ := q
                  obtain rfl := hw9.symm
                  obtain rfl := hs9.symm
                  refine V_ifeqB 204 dL_alike_179 (by decide) (fun h179 => ?_) (fun h179 => ?_)
                  · try simp only [decide_eq_true_eq, decide_eq_false_iff_not, Bool.not_eq_true] at h179
                    exact J204 (fun q => by rw [h179] at q; exact absurd q.1 (by decide))
                  · try simp only [decide_eq_true_eq, decide_eq_false_iff_not, Bool.not_eq_true] at h179
                    refine V_aload dL_alike_182 rfl ?_
                    refine V_iconst dL_alike_184 ?_
                    refine V_iload dL_alike_185 rfl ?_
                    refine V_iconst dL_alike_187 ?_
                    refine V_isub dL_alike_188 ?_
                    refine V_iload dL_alike_189 rfl ?_
                    refine V_c_L_12 rfl (by decide) (l_of (n := 20) ((hU.2 pi hne).trans hp) hg (by omega) (by omega) (by omega) (isb_t.mp h179).1) dL_alike_191 rfl rfl (Nat.le_of_ble_eq_true rfl) (Nat.le_of_eq (Nat.zero_add _)) (Nat.le_of_eq (Nat.zero_add _)) (fun v w sz q => ?_)
                    obtain ⟨rfl, hw9, hs9⟩ := q
                    obtain rfl := hw9.symm
                    obtain rfl := hs9.symm
                    rw [show 8 * 0 + 16 * (k / 16) + (k % 16 - 1) = k - 1 by omega]
                    refine V_iload dL_alike_194 rfl ?_
                    refine V_isub dL_alike_196 ?_
                    refine V_c_L_18 rfl (by decide) (l_abs (by have := hg (k - 1); have := hg k; omega)) dL_alike_197 rfl rfl (Nat.le_of_ble_eq_true rfl) (Nat.le_of_eq (Nat.zero_add _)) (Nat.le_of_eq (Nat.zero_add _)) (fun v w sz q => ?_)
                    obtain ⟨rfl, hw9, hs9⟩ := q
                    obtain rfl := hw9.symm
                    obtain rfl := hs9.symm
                    have ha197 := iabs_r (v := g (k - 1) - g k) (by have := hg (k - 1); have := hg k; omega)
                    refine V_iload_n dL_alike_200 2 rfl rfl ?_
                    refine V_icmp_le 312 dL_alike_201 (by decide) (by omega) (fun h201 => ?_) (fun h201 => ?_)
                    · exact J312 (Or.inl ⟨h179, h201⟩)
                    · exact J204 (fun q => by have q2 := q.2; omega)
                · try simp only [decide_eq_true_eq, decide_eq_false_iff_not, Bool.not_eq_true] at h150
                  have hkk : cb R2 k = true ∨ ¬ cm g R2 L k := Or.inl (by rw [show k = 16 * (k / 16) + k % 16 by omega]; exact (isb_t.mp h150).2)
                  refine V_goto 342 dL_alike_153 (by decide) ?_
                  refine V_iinc dL_alike_342 rfl (by decide) ?_
                  refine V_goto 119 dL_alike_345 (by decide) ?_
                  refine V_fg [true, true, true, true, true, true, true, true, true, false, false, false, false] ?_
                  exact ih (by omega) _ _ γ hU hR hS2 hf2 (hW.keep hkk)
            refine V_fg [true, true, true, true, true, true, true, true, true, false, false, false, false] ?_
            exact L119 (0) (by omega) (by omega) w1 _ 0 hU1 hR1 hS1 hf1 (Or.inl ⟨rfl, rfl, fun c c0 c1 => by omega⟩)
        refine V_fg [true, true, true, true, true, true, true, true, false, false, false, false, false] ?_
        exact L108 161 _ _ hU hR1 hS1 hf1 (by have := cnt_b (cb (iu R y (iShl 1 x))); omega)
      · refine V_iconst dL_alike_36 ?_
        refine V_istore dL_alike_37 (by decide) ?_
        have L39 : ∀ k : Int, 0 ≤ k → k ≤ 160 → ∀ (w : WD) (R : Int → Int), UA w0 w al (xIA 10 R) → rr R → (∀ c, 0 ≤ c → c < 160 → (cb R c = true ↔ c < k ∧ iabs (g c - g (16 * y + x)) ≤ L)) → V iL_alike Z 0 0 w sz 39 [some (xI x), some (xI y), some (xI L), some (xI way), some (.ref pi), some (.ref al), some (xI (g (16 * y + x))), some (xI k), none, none, none, none, none] [] := by
          refine up_ind ?_
          intro k hk0 hk1 ih
          intro w R hU hR hB
          refine V_iload dL_alike_39 rfl ?_
          refine V_sipush dL_alike_41 (by decide) ?_
          refine V_icmp_ge 97 dL_alike_44 (by decide) (by omega) (fun h44 => ?_) (fun h44 => ?_)
          · exact V_vret hE rfl dL_alike_97 ⟨rfl, rfl, _, hU, hR, fun c c0 c1 => by rw [hB c c0 c1, h33, show aP g (16 * y + x) L 0 c = (iabs (g c - g (16 * y + x)) ≤ L) from if_pos rfl]; omega⟩
          · refine V_aload dL_alike_47 rfl ?_
            refine V_iconst dL_alike_49 ?_
            refine V_iload dL_alike_50 rfl ?_
            refine V_bipush dL_alike_52 (by decide) ?_
            refine V_iremN dL_alike_54 (by first | omega | (dsimp only; omega) | exact iAnd_0 | exact iOr_0 | exact iShl_0 | exact iShr_0) ?_
            refine V_iload dL_alike_55 rfl ?_
            refine V_bipush dL_alike_57 (by decide) ?_
            refine V_idivN dL_alike_59 (by first | omega | (dsimp only; omega) | exact iAnd_0 | exact iOr_0 | exact iShl_0 | exact iShr_0) ?_
            refine V_c_L_12 rfl (by decide) (l_of (n := 20) ((hU.2 pi hne).trans hp) hg (by omega) (by omega) (by omega) (by omega)) dL_alike_60 rfl rfl (Nat.le_of_ble_eq_true rfl) (Nat.le_of_eq (Nat.zero_add _)) (Nat.le_of_eq (Nat.zero_add _)) (fun v w sz q => ?_)
            obtain ⟨rfl, hw9, hs9⟩ := q
            obtain rfl := hw9.symm
            obtain rfl := hs9.symm
            rw [show 8 * 0 + 16 * (k / 16) + k % 16 = k by omega]
            refine V_iload dL_alike_63 rfl ?_
            refine V_isub dL_alike_65 ?_
            refine V_c_L_18 rfl (by decide) (l_abs (by have := hg k; have := hg (16 * y + x); omega)) dL_alike_66 rfl rfl (Nat.le_of_ble_eq_true rfl) (Nat.le_of_eq (Nat.zero_add _)) (Nat.le_of_eq (Nat.zero_add _)) (fun v w sz q => ?_)
            obtain ⟨rfl, hw9, hs9⟩ := q
            obtain rfl := hw9.symm
            obtain rfl := hs9.symm
            have ha66 := iabs_r (v := g k - g (16 * y + x)) (by have := hg k; have := hg (16 * y + x); omega)
            refine V_iload_n dL_alike_69 2 rfl rfl ?_
            refine V_icmp_gt 91 dL_alike_70 (by decide) (by omega) (fun h70 => ?_) (fun h70 => ?_)
            · have hN : ∀ c, 0 ≤ c → c < 160 → (cb R c = true ↔ c < k + 1 ∧ iabs (g c - g (16 * y + x)) ≤ L) := fun c c0 c1 => by
                rw [hB c c0 c1]
                by_cases q : c = k
                · subst q; omega
                · omega
              refine V_iinc dL_alike_91 rfl (by decide) ?_
              refine V_goto 39 dL_alike_94 (by decide) ?_
              exact ih (by omega) _ _ hU hR hN
            · refine V_aload dL_alike_73 rfl ?_
              refine V_iload dL_alike_75 rfl ?_
              refine V_bipush dL_alike_77 (by decide) ?_
              refine V_idivN dL_alike_79 (by first | omega | (dsimp only; omega) | exact iAnd_0 | exact iOr_0 | exact iShl_0 | exact iShr_0) ?_
              refine V_dup2 dL_alike_80 rfl rfl ?_
              have hRk := hR (k / 16) (by omega) (by omega)
              refine V_iald dL_alike_81 hU.1 (by omega) ?_
              refine V_iconst dL_alike_82 ?_
              refine V_iload dL_alike_83 rfl ?_
              refine V_bipush dL_alike_85 (by decide) ?_
              refine V_iremN dL_alike_87 (by first | omega | (dsimp only; omega) | exact iAnd_0 | exact iOr_0 | exact iShl_0 | exact iShr_0) ?_
              refine V_ishlZ dL_alike_88 (by first | omega | (dsimp only; omega) | exact iAnd_0 | exact iOr_0 | exact iShl_0 | exact iShr_0) (by first | omega | (dsimp only; omega) | exact iAnd_0 | exact iOr_0 | exact iShl_0 | exact iShr_0) ?_
              refine V_iorZ dL_alike_89 (by first | omega | (dsimp only; omega) | exact iAnd_0 | exact iOr_0 | exact iShl_0 | exact iShr_0) (by first | omega | (dsimp only; omega) | exact iAnd_0 | exact iOr_0 | exact iShl_0 | exact iShr_0) ?_
              refine V_iast dL_alike_90 hU.1 (by omega) ?_
              have hU := (hU.u : UA w0 (xU w al (xIA 10 (iu R (k / 16) (iOr (R (k / 16)) (iShl 1 (k % 16)))))) al _)
              have hR := hR.set (c := k) (by omega)
              have hN : ∀ c, 0 ≤ c → c < 160 → (cb (iu R (k / 16) (iOr (R (k / 16)) (iShl 1 (k % 16)))) c = true ↔ c < k + 1 ∧ iabs (g c - g (16 * y + x)) ≤ L) := fun c c0 c1 => by
                rw [cb_set, Bool.or_eq_true, decide_eq_true_eq, hB c c0 c1]
                constructor
                · rintro (q | rfl)
                  · omega
                  · omega
                · intro q
                  by_cases e : c = k
                  · exact Or.inr e
                  · exact Or.inl (by omega)
              refine V_iinc dL_alike_91 rfl (by decide) ?_
              refine V_goto 39 dL_alike_94 (by decide) ?_
              exact ih (by omega) _ _ hU hR hN
        refine V_fg [true, true, true, true, true, true, true, true, false, false, false, false, false] ?_
        exact L39 (0) (by omega) (by omega) w _ hU hR0 (fun c c0 c1 => by rw [hz c c0 c1]; constructor <;> intro q9; cases q9; omega)
    · refine V_aload dL_alike_20 rfl ?_
      refine V_iload dL_alike_22 rfl ?_
      refine V_iconst dL_alike_24 ?_
      refine V_iast dL_alike_25 hU.1 (by omega) ?_
      have hU := (hU.u : UA w0 (xU w al (xIA 10 (iu R k 0))) al _)
      refine V_iinc dL_alike_26 rfl (by decide) ?_
      refine V_goto 13 dL_alike_29 (by decide) ?_
      exact ih (by omega) _ _ hU (fun j h1 h2 => by by_cases q9 : j = k; rw [q9, iu_s]; rw [iu_n q9]; exact h0 j h1 (by omega))
  refine V_fg [true, true, true, true, true, true, true, true, false, false, false, false, false] ?_
  exact L13 (0) (by omega) (by omega) w0 _ (UA.rf ha) (fun j h1 h2 => by omega)
