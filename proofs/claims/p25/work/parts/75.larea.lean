/-! p25's law: an area -/
theorem UA.st {w : WD} {a : Nat} {e e' : va_E} (h : w a = some e) : UA w (xU w a e') a e' := (UA.rf h).u
def AW (w0 w : WD) (sz ar : Nat) (RA RS RG RR : Int → Int) : Prop := w sz = some (xIA 10 RA) ∧ w (sz + 1) = some (xIA 10 RS) ∧ w (sz + 2) = some (xIA 10 RG) ∧ w ar = some (xIA 10 RR) ∧ ar < sz ∧ ∀ j, j ≠ sz → j ≠ sz + 1 → j ≠ sz + 2 → j ≠ ar → w j = w0 j
theorem AW.A {w0 w w1 : WD} {sz ar : Nat} {RA RS RG RR R : Int → Int} (h : AW w0 w sz ar RA RS RG RR) (u : UA w w1 sz (xIA 10 R)) : AW w0 w1 sz ar R RS RG RR := by
  obtain ⟨h1, h2, h3, h4, h5, h6⟩ := h
  exact ⟨u.1, (u.2 _ (by omega)).trans h2, (u.2 _ (by omega)).trans h3, (u.2 _ (by omega)).trans h4, h5, fun j a b c d => (u.2 _ a).trans (h6 j a b c d)⟩
theorem AW.S {w0 w w1 : WD} {sz ar : Nat} {RA RS RG RR R : Int → Int} (h : AW w0 w sz ar RA RS RG RR) (u : UA w w1 (sz + 1) (xIA 10 R)) : AW w0 w1 sz ar RA R RG RR := by
  obtain ⟨h1, h2, h3, h4, h5, h6⟩ := h
  exact ⟨(u.2 _ (by omega)).trans h1, u.1, (u.2 _ (by omega)).trans h3, (u.2 _ (by omega)).trans h4, h5, fun j a b c d => (u.2 _ b).trans (h6 j a b c d)⟩
theorem AW.G {w0 w w1 : WD} {sz ar : Nat} {RA RS RG RR R : Int → Int} (h : AW w0 w sz ar RA RS RG RR) (u : UA w w1 (sz + 2) (xIA 10 R)) : AW w0 w1 sz ar RA RS R RR := by
  obtain ⟨h1, h2, h3, h4, h5, h6⟩ := h
  exact ⟨(u.2 _ (by omega)).trans h1, (u.2 _ (by omega)).trans h2, u.1, (u.2 _ (by omega)).trans h4, h5, fun j a b c d => (u.2 _ c).trans (h6 j a b c d)⟩
theorem AW.R {w0 w w1 : WD} {sz ar : Nat} {RA RS RG RR R : Int → Int} (h : AW w0 w sz ar RA RS RG RR) (u : UA w w1 ar (xIA 10 R)) : AW w0 w1 sz ar RA RS RG R := by
  obtain ⟨h1, h2, h3, h4, h5, h6⟩ := h
  exact ⟨(u.2 _ (by omega)).trans h1, (u.2 _ (by omega)).trans h2, (u.2 _ (by omega)).trans h3, u.1, h5, fun j a b c d => (u.2 _ d).trans (h6 j a b c d)⟩
def QAR (w0 : WD) (sz ar : Nat) (a : Int → Prop) (f gap : Int) : XQ := fun o9 w' sz' => sz' = sz + 3 ∧ ∃ u R, o9 = some (xI u) ∧ wiA a f gap u ∧ w' ar = some (xIA 10 R) ∧ rr R ∧ (∀ c, 0 ≤ c → c < 160 → (cb R c = true ↔ arA a f u c)) ∧ ∀ j, (j < sz ∧ j ≠ ar) ∨ sz + 3 ≤ j → w' j = w0 j
theorem bx {b β k : Int} {RG RGo : Int → Int} (h1 : b = 1 ↔ β = 1 ∨ RG k ≠ 0) (h2 : β = 1 ↔ ∃ j, 0 ≤ j ∧ j < k ∧ RGo j ≠ 0) (hK : ∀ j, j ≠ k → RG j = RGo j) (hk : 0 ≤ k) : b = 1 ↔ ∃ j, 0 ≤ j ∧ j < k + 1 ∧ RG j ≠ 0 := by
  rw [h1, h2]
  constructor
  · rintro (⟨j, j0, j1, j2⟩ | q)
    · exact ⟨j, j0, by omega, by rw [hK j (by omega)]; exact j2⟩
    · exact ⟨k, hk, by omega, q⟩
  · rintro ⟨j, j0, j1, j2⟩
    by_cases e : j = k
    · rw [e] at j2
      exact Or.inr j2
    · rw [hK j e] at j2
      exact Or.inl ⟨j, j0, by omega, j2⟩
set_option maxRecDepth 100000 in
set_option maxHeartbeats 4000000 in
theorem area_C {Z : XZ} {w0 : WD} {sz pi ar : Nat} {a : Int → Prop} {f gap x y L way W : Int} (hE : xEnd Z (QAR w0 sz ar a f gap)) {w : WD} {RA RS RG RR : Int → Int} (hA : AW w0 w sz ar RA RS RG RR) (hW : 0 ≤ W ∧ W ≤ 5) (hwi : wiA a f gap W) (hG : rr RG) (hO : gOk RG W) (hJ : ∀ c, 0 ≤ c → c < 160 → (cb RG c = true ↔ joA a f W c)) : V iL_area Z 0 0 w (sz + 3) 389 [some (xI x), some (xI y), some (xI L), some (xI way), some (xI gap), some (.ref pi), some (.ref ar), some (.ref sz), some (.ref (sz + 1)), some (.ref (sz + 2)), some (xI W), none, none, none, none, none, none] [] := by
  refine V_iconst dL_area_389 ?_
  refine V_istore dL_area_390 (by decide) ?_
  have L392 : ∀ k : Int, 0 ≤ k → k ≤ 10 → ∀ (w : WD) (RR : Int → Int), AW w0 w sz ar RA RS RG RR → (∀ j, 0 ≤ j → j < k → RR j = 0) → V iL_area Z 0 0 w (sz + 3) 392 [some (xI x), some (xI y), some (xI L), some (xI way), some (xI gap), some (.ref pi), some (.ref ar), some (.ref sz), some (.ref (sz + 1)), some (.ref (sz + 2)), some (xI W), none, none, some (xI k), none, none, none] [] := by
    refine up_ind ?_
    intro k hk0 hk1 ih
    intro w RR hA h0
    refine V_iload dL_area_392 rfl ?_
    refine V_bipush dL_area_394 (by decide) ?_
    refine V_icmp_ge 411 dL_area_396 (by decide) (by omega) (fun h396 => ?_) (fun h396 => ?_)
    · refine V_iconst dL_area_411 ?_
      refine V_istore dL_area_412 (by decide) ?_
      have L414 : ∀ k : Int, 0 ≤ k → k ≤ 10 → ∀ (w : WD) (RR : Int → Int), AW w0 w sz ar RA RS RG RR → arB RG RR W k 0 0 → V iL_area Z 0 0 w (sz + 3) 414 [some (xI x), some (xI y), some (xI L), some (xI way), some (xI gap), some (.ref pi), some (.ref ar), some (.ref sz), some (.ref (sz + 1)), some (.ref (sz + 2)), some (xI W), none, none, some (xI k), none, none, none] [] := by
        refine up_ind ?_
        intro k hk0 hk1 ih
        intro w RR hA hB
        refine V_iload dL_area_414 rfl ?_
        refine V_bipush dL_area_416 (by decide) ?_
        refine V_icmp_ge 488 dL_area_418 (by decide) (by omega) (fun h418 => ?_) (fun h418 => ?_)
        · refine V_iload dL_area_488 rfl ?_
          have hB10 : arB RG RR W 10 0 0 := by rw [show k = 10 by omega] at hB; exact hB
          exact V_iret hE rfl dL_area_490 ⟨rfl, W, RR, rfl, hwi, hA.2.2.2.1, (hB10.fin hO hJ).1, (hB10.fin hO hJ).2, fun j hj => hA.2.2.2.2.2 j (by omega) (by omega) (by omega) (by have := hA.2.2.2.2.1; omega)⟩
        · refine V_iconst dL_area_421 ?_
          refine V_istore dL_area_422 (by decide) ?_
          have L424 : ∀ i : Int, 0 ≤ i → i ≤ W + 1 → ∀ (w : WD) (RR : Int → Int), AW w0 w sz ar RA RS RG RR → arB RG RR W k i 0 → V iL_area Z 0 0 w (sz + 3) 424 [some (xI x), some (xI y), some (xI L), some (xI way), some (xI gap), some (.ref pi), some (.ref ar), some (.ref sz), some (.ref (sz + 1)), some (.ref (sz + 2)), some (xI W), none, none, some (xI k), some (xI i), none, none] [] := by
            refine up_ind ?_
            intro i hi0 hi1 ihi
            intro w RR hA hB
            refine V_iload dL_area_424 rfl ?_
            refine V_iload dL_area_426 rfl ?_
            refine V_icmp_gt 482 dL_area_428 (by decide) (by omega) (fun h428 => ?_) (fun h428 => ?_)
            · have hB := hB.ni hO (Or.inl (by omega))
              refine V_iinc dL_area_482 rfl (by decide) ?_
              refine V_goto 414 dL_area_485 (by decide) ?_
              refine V_fg [true, true, true, true, true, true, true, true, true, true, true, false, false, true, false, false, false] ?_
              exact ih (by omega) _ _ hA hB
            · refine V_iload dL_area_431 rfl ?_
              refine V_iload dL_area_433 rfl ?_
              refine V_iadd dL_area_435 ?_
              refine V_bipush dL_area_436 (by decide) ?_
              refine V_icmp_ge 482 dL_area_438 (by decide) (by omega) (fun h438 => ?_) (fun h438 => ?_)
              · have hB := hB.ni hO (Or.inr ⟨by omega, by omega⟩)
                refine V_iinc dL_area_482 rfl (by decide) ?_
                refine V_goto 414 dL_area_485 (by decide) ?_
                refine V_fg [true, true, true, true, true, true, true, true, true, true, true, false, false, true, false, false, false] ?_
                exact ih (by omega) _ _ hA hB
              · refine V_iconst dL_area_441 ?_
                refine V_istore dL_area_442 (by decide) ?_
                have L444 : ∀ j : Int, 0 ≤ j → j ≤ W + 1 → ∀ (w : WD) (RR : Int → Int), AW w0 w sz ar RA RS RG RR → arB RG RR W k i j → V iL_area Z 0 0 w (sz + 3) 444 [some (xI x), some (xI y), some (xI L), some (xI way), some (xI gap), some (.ref pi), some (.ref ar), some (.ref sz), some (.ref (sz + 1)), some (.ref (sz + 2)), some (xI W), none, none, some (xI k), some (xI i), some (xI j), none] [] := by
                  refine up_ind ?_
                  intro j hj0 hj1 ihj
                  intro w RR hA hB
                  refine V_iload dL_area_444 rfl ?_
                  refine V_iload dL_area_446 rfl ?_
                  refine V_icmp_gt 476 dL_area_448 (by decide) (by omega) (fun h448 => ?_) (fun h448 => ?_)
                  · have hB := (show arB RG RR W k i (W + 1) by rw [show j = W + 1 by omega] at hB; exact hB).nj
                    refine V_iinc dL_area_476 rfl (by decide) ?_
                    refine V_goto 424 dL_area_479 (by decide) ?_
                    refine V_fg [true, true, true, true, true, true, true, true, true, true, true, false, false, true, true, false, false] ?_
                    exact ihi (by omega) _ _ hA hB
                  · refine V_aload dL_area_451 rfl ?_
                    refine V_iload dL_area_453 rfl ?_
                    refine V_iload dL_area_455 rfl ?_
                    refine V_iadd dL_area_457 ?_
                    refine V_dup2 dL_area_458 rfl rfl ?_
                    have hRR := hB.1
                    have hRk := hRR (k + i) (by omega) (by omega)
                    have hGk := hG k (by omega) (by omega)
                    refine V_iald dL_area_459 hA.2.2.2.1 (by omega) ?_
                    refine V_aload dL_area_460 rfl ?_
                    refine V_iload dL_area_462 rfl ?_
                    refine V_iald dL_area_464 hA.2.2.1 (by omega) ?_
                    refine V_iload dL_area_465 rfl ?_
                    refine V_ishlZ dL_area_467 (by first | omega | (dsimp only; omega) | exact iAnd_0 | exact iOr_0 | exact iShl_0 | exact iShr_0) (by first | omega | (dsimp only; omega) | exact iAnd_0 | exact iOr_0 | exact iShl_0 | exact iShr_0) ?_
                    refine V_iorZ dL_area_468 (by first | omega | (dsimp only; omega) | exact iAnd_0 | exact iOr_0 | exact iShl_0 | exact iShr_0) (by first | omega | (dsimp only; omega) | exact iAnd_0 | exact iOr_0 | exact iShl_0 | exact iShr_0) ?_
                    refine V_iast dL_area_469 hA.2.2.2.1 (by omega) ?_
                    have hA := hA.R (R := iu RR (k + i) (iOr (RR (k + i)) (iShl (RG k) j))) (UA.st hA.2.2.2.1)
                    refine V_iinc dL_area_470 rfl (by decide) ?_
                    refine V_goto 444 dL_area_473 (by decide) ?_
                    refine V_fg [true, true, true, true, true, true, true, true, true, true, true, false, false, true, true, true, false] ?_
                    exact ihj (by omega) _ _ hA (hB.or hG hO (by omega) (by omega) (by omega) (by omega))
                refine V_fg [true, true, true, true, true, true, true, true, true, true, true, false, false, true, true, true, false] ?_
                exact L444 (0) (by omega) (by omega) w _ hA hB
          refine V_fg [true, true, true, true, true, true, true, true, true, true, true, false, false, true, true, false, false] ?_
          exact L424 (0) (by omega) (by omega) w _ hA hB
      refine V_fg [true, true, true, true, true, true, true, true, true, true, true, false, false, true, false, false, false] ?_
      exact L414 (0) (by omega) (by omega) w _ hA (arB.start (fun j j0 j1 => h0 j j0 (by omega)))
    · refine V_aload dL_area_399 rfl ?_
      refine V_iload dL_area_401 rfl ?_
      refine V_iconst dL_area_403 ?_
      refine V_iast dL_area_404 hA.2.2.2.1 (by omega) ?_
      have hA := hA.R (R := iu RR k 0) (UA.st hA.2.2.2.1)
      refine V_iinc dL_area_405 rfl (by decide) ?_
      refine V_goto 392 dL_area_408 (by decide) ?_
      refine V_fg [true, true, true, true, true, true, true, true, true, true, true, false, false, true, false, false, false] ?_
      exact ih (by omega) _ _ hA (fun j h1 h2 => by by_cases q9 : j = k; rw [q9, iu_s]; rw [iu_n q9]; exact h0 j h1 (by omega))
  refine V_fg [true, true, true, true, true, true, true, true, true, true, true, false, false, true, false, false, false] ?_
  exact L392 (0) (by omega) (by omega) w _ hA (fun j h1 h2 => by omega)
set_option maxRecDepth 100000 in
set_option maxHeartbeats 4000000 in
theorem area_B {Z : XZ} {w0 : WD} {sz pi ar : Nat} {a : Int → Prop} {f gap x y L way W : Int} (hE : xEnd Z (QAR w0 sz ar a f gap)) {w : WD} {RA RS RG RR : Int → Int} (hA : AW w0 w sz ar RA RS RG RR) (hf : 0 ≤ f ∧ f < 160) (hW : 0 ≤ W ∧ W ≤ 5) (hwi : wiA a f gap W) (hS : rr RS) (hS2 : ∀ c, 0 ≤ c → c < 160 → (cb RS c = true ↔ sqA a W c)) (hJ : Jnd a RG f W) : V iL_area Z 0 0 w (sz + 3) 158 [some (xI x), some (xI y), some (xI L), some (xI way), some (xI gap), some (.ref pi), some (.ref ar), some (.ref sz), some (.ref (sz + 1)), some (.ref (sz + 2)), some (xI W), none, none, none, none, none, none] [] := by
  refine V_iconst dL_area_158 ?_
  refine V_istore dL_area_159 (by decide) ?_
  have L161 : ∀ n : Nat, ∀ (w : WD) (RG : Int → Int), AW w0 w sz ar RA RS RG RR → Jnd a RG f W → 160 - cnt (cb RG) < n → V iL_area Z 0 0 w (sz + 3) 161 [some (xI x), some (xI y), some (xI L), some (xI way), some (xI gap), some (.ref pi), some (.ref ar), some (.ref sz), some (.ref (sz + 1)), some (.ref (sz + 2)), some (xI W), none, some (xI 1), none, none, none, none] [] := by
    intro n
    induction n with
    | zero =>
      intro w RG hA hJ hn
      have := cnt_b (cb RG)
      omega
    | succ n ihn => ?_
    intro w RG hA hJ0 hn
    have hJ := hJ0
    refine V_iload dL_area_161 rfl ?_
    refine V_if_eq 389 dL_area_163 (by decide) (by omega) (fun h163 => ?_) (fun h163 => ?_)
    · exact absurd h163 (by simp)
    · refine V_iconst dL_area_166 ?_
      refine V_istore dL_area_167 (by decide) ?_
      refine V_iconst dL_area_169 ?_
      refine V_istore dL_area_170 (by decide) ?_
      have L172 : ∀ k : Int, 0 ≤ k → k ≤ 10 → ∀ (w : WD) (R2 : Int → Int) (γ : Int), AW w0 w sz ar RA RS R2 RR → Jnd a R2 f W → Swj a RG R2 W γ k → V iL_area Z 0 0 w (sz + 3) 172 [some (xI x), some (xI y), some (xI L), some (xI way), some (xI gap), some (.ref pi), some (.ref ar), some (.ref sz), some (.ref (sz + 1)), some (.ref (sz + 2)), some (xI W), none, some (xI γ), some (xI k), none, none, none] [] := by
        refine up_ind ?_
        intro k hk0 hk1 ih
        intro w R2 γ hA hJ hW2
        have hγ := hW2.r
        refine V_iload dL_area_172 rfl ?_
        refine V_bipush dL_area_174 (by decide) ?_
        refine V_icmp_ge 386 dL_area_176 (by decide) (by omega) (fun h176 => ?_) (fun h176 => ?_)
        · refine V_goto 161 dL_area_386 (by decide) ?_
          rw [show k = 10 by omega] at hW2
          rcases id hW2 with ⟨rfl, heq, -⟩ | ⟨rfl, hlt⟩
          · refine V_iload dL_area_161 rfl ?_
            refine V_if_eq 389 dL_area_163 (by decide) (by omega) (fun _ => ?_) (fun h163 => absurd rfl h163)
            refine V_fg [true, true, true, true, true, true, true, true, true, true, true, false, false, false, false, false, false] ?_
            exact area_C hE hA hW hwi hJ.1 (fun c c0 c1 q => ⟨(hJ.2.2.2 c c0 c1 q).1, (hJ.2.2.2 c c0 c1 q).2.1⟩) (fun c c0 c1 => by rw [cb_eq heq c0 c1]; exact hJ0.fin hf hW2 c c0 c1)
          · refine V_fg [true, true, true, true, true, true, true, true, true, true, true, false, true, false, false, false, false] ?_
            exact ihn _ _ hA hJ (by omega)
        · have J335 : ∀ m, nrS R2 W k m → V iL_area Z 0 0 w (sz + 3) 335 [some (xI x), some (xI y), some (xI L), some (xI way), some (xI gap), some (.ref pi), some (.ref ar), some (.ref sz), some (.ref (sz + 1)), some (.ref (sz + 2)), some (xI W), none, some (xI γ), some (xI k), some (xI m), none, none] [] := by
            intro m hm
            have hmr := hm.1
            have hRk := hJ.1 k (by omega) (by omega)
            have hSk := hS k (by omega) (by omega)
            refine V_aload dL_area_335 rfl ?_
            refine V_iload dL_area_337 rfl ?_
            refine V_iald dL_area_339 hA.2.2.1 (by omega) ?_
            refine V_aload dL_area_340 rfl ?_
            refine V_iload dL_area_342 rfl ?_
            refine V_iald dL_area_344 hA.2.1 (by omega) ?_
            refine V_iload dL_area_345 rfl ?_
            refine V_iandZ dL_area_347 (by first | omega | (dsimp only; omega) | exact iAnd_0 | exact iOr_0 | exact iShl_0 | exact iShr_0) (by first | omega | (dsimp only; omega) | exact iAnd_0 | exact iOr_0 | exact iShl_0 | exact iShr_0) ?_
            refine V_iorZ dL_area_348 (by first | omega | (dsimp only; omega) | exact iAnd_0 | exact iOr_0 | exact iShl_0 | exact iShr_0) (by first | omega | (dsimp only; omega) | exact iAnd_0 | exact iOr_0 | exact iShl_0 | exact iShr_0) ?_
            refine V_istore dL_area_349 (by decide) ?_
            have J371 : ∀ γ2, ((γ2 = 0 ∨ γ2 = 1) ∧ (γ2 = 1 ↔ γ = 1 ∨ iOr (R2 k) (iAnd (RS k) m) ≠ R2 k)) → V iL_area Z 0 0 w (sz + 3) 371 [some (xI x), some (xI y), some (xI L), some (xI way), some (xI gap), some (.ref pi), some (.ref ar), some (.ref sz), some (.ref (sz + 1)), some (.ref (sz + 2)), some (xI W), none, some (xI γ), some (xI k), some (xI m), some (xI (iOr (R2 k) (iAnd (RS k) m))), none] [xI γ2] := by
              intro γ2 hγ2
              refine V_istore dL_area_371 (by decide) ?_
              refine V_aload dL_area_373 rfl ?_
              refine V_iload dL_area_375 rfl ?_
              refine V_iload dL_area_377 rfl ?_
              refine V_iast dL_area_379 hA.2.2.1 (by omega) ?_
              have hA := hA.G (R := iu R2 k (iOr (R2 k) (iAnd (RS k) m))) (UA.st hA.2.2.1)
              refine V_iinc dL_area_380 rfl (by decide) ?_
              refine V_goto 172 dL_area_383 (by decide) ?_
              refine V_fg [true, true, true, true, true, true, true, true, true, true, true, false, true, true, false, false, false] ?_
              exact ih (by omega) _ _ _ hA (hJ.row hS hS2 (by omega) hm) (hW2.row hJ hS hS2 (by omega) hm hγ2)
            have hmo := more_r (R := R2) (S := RS) (k := k) (m := m) hJ.1 hS (by omega)
            refine V_iload dL_area_351 rfl ?_
            refine V_if_ne 366 dL_area_353 (by decide) (by omega) (fun h353 => ?_) (fun h353 => ?_)
            · refine V_iconst dL_area_366 ?_
              refine V_goto 371 dL_area_367 (by decide) ?_
              exact J371 _ ⟨Or.inr rfl, fun _ => Or.inl (by omega), fun _ => rfl⟩
            · refine V_iload dL_area_356 rfl ?_
              refine V_aload dL_area_358 rfl ?_
              refine V_iload dL_area_360 rfl ?_
              refine V_iald dL_area_362 hA.2.2.1 (by omega) ?_
              refine V_icmp_eq 370 dL_area_363 (by decide) (by omega) (fun h363 => ?_) (fun h363 => ?_)
              · refine V_iconst dL_area_370 ?_
                exact J371 _ ⟨Or.inl rfl, fun q => absurd q (by decide), fun q => q.elim (fun q => by omega) (fun q => absurd h363 q)⟩
              · refine V_iconst dL_area_366 ?_
                refine V_goto 371 dL_area_367 (by decide) ?_
                exact J371 _ ⟨Or.inr rfl, fun _ => Or.inr h363, fun _ => rfl⟩
          have J250 : ∀ m, (W = 0 → nrS R2 0 k m) → (W ≠ 0 → m = 0) → V iL_area Z 0 0 w (sz + 3) 250 [some (xI x), some (xI y), some (xI L), some (xI way), some (xI gap), some (.ref pi), some (.ref ar), some (.ref sz), some (.ref (sz + 1)), some (.ref (sz + 2)), some (xI W), none, some (xI γ), some (xI k), some (xI m), none, none] [] := by
            intro m hm0 hm1
            have J267 : ∀ i0, (0 ≤ i0 ∧ k - W ≤ i0 ∧ (i0 ≤ 0 ∨ i0 ≤ k - W)) → V iL_area Z 0 0 w (sz + 3) 267 [some (xI x), some (xI y), some (xI L), some (xI way), some (xI gap), some (.ref pi), some (.ref ar), some (.ref sz), some (.ref (sz + 1)), some (.ref (sz + 2)), some (xI W), none, some (xI γ), some (xI k), some (xI m), none, none] [xI i0] := by
              intro i0 hi00
              refine V_istore dL_area_267 (by decide) ?_
              have L269 : ∀ i : Int, i0 ≤ i → i ≤ k + W + 1 → ∀ m, i ≤ 10 → (W = 0 → nrS R2 0 k m) → (W ≠ 0 → nbB R2 W k i 0 m) → V iL_area Z 0 0 w (sz + 3) 269 [some (xI x), some (xI y), some (xI L), some (xI way), some (xI gap), some (.ref pi), some (.ref ar), some (.ref sz), some (.ref (sz + 1)), some (.ref (sz + 2)), some (xI W), none, some (xI γ), some (xI k), some (xI m), some (xI i), none] [] := by
                refine up_ind ?_
                intro i hi0 hi1 ihi
                intro m hi10 hm0 hm1
                refine V_iload dL_area_269 rfl ?_
                refine V_iload dL_area_271 rfl ?_
                refine V_iload dL_area_273 rfl ?_
                refine V_iadd dL_area_275 ?_
                refine V_icmp_gt 335 dL_area_276 (by decide) (by omega) (fun h276 => ?_) (fun h276 => ?_)
                · refine V_fg [true, true, true, true, true, true, true, true, true, true, true, false, true, true, true, false, false] ?_
                  exact J335 _ (by by_cases q9 : W = 0; (have h9 := hm0 q9; rw [q9]; exact h9); exact (hm1 q9).fin hJ.1 (by omega) (by omega) (by omega) (by omega))
                · refine V_iload dL_area_279 rfl ?_
                  refine V_bipush dL_area_281 (by decide) ?_
                  refine V_icmp_ge 335 dL_area_283 (by decide) (by omega) (fun h283 => ?_) (fun h283 => ?_)
                  · refine V_fg [true, true, true, true, true, true, true, true, true, true, true, false, true, true, true, false, false] ?_
                    exact J335 _ (by by_cases q9 : W = 0; (have h9 := hm0 q9; rw [q9]; exact h9); exact (hm1 q9).fin hJ.1 (by omega) (by omega) (by omega) (by omega))
                  · refine V_iload dL_area_286 rfl ?_
                    refine V_if_le 335 dL_area_288 (by decide) (by omega) (fun h288 => ?_) (fun h288 => ?_)
                    · refine V_fg [true, true, true, true, true, true, true, true, true, true, true, false, true, true, true, false, false] ?_
                      exact J335 _ (by have h9 := hm0 (by omega); rw [show W = 0 by omega]; exact h9)
                    · refine V_iconst dL_area_291 ?_
                      refine V_istore dL_area_292 (by decide) ?_
                      have L294 : ∀ j : Int, 0 ≤ j → j ≤ W + 1 → ∀ m, nbB R2 W k i j m → V iL_area Z 0 0 w (sz + 3) 294 [some (xI x), some (xI y), some (xI L), some (xI way), some (xI gap), some (.ref pi), some (.ref ar), some (.ref sz), some (.ref (sz + 1)), some (.ref (sz + 2)), some (xI W), none, some (xI γ), some (xI k), some (xI m), some (xI i), some (xI j)] [] := by
                        refine up_ind ?_
                        intro j hj0 hj1 ihj
                        intro m hb
                        refine V_iload dL_area_294 rfl ?_
                        refine V_iload dL_area_296 rfl ?_
                        refine V_icmp_gt 329 dL_area_298 (by decide) (by omega) (fun h298 => ?_) (fun h298 => ?_)
                        · have hb := (show nbB R2 W k i (W + 1) m by rw [show j = W + 1 by omega] at hb; exact hb).nxt
                          refine V_iinc dL_area_329 rfl (by decide) ?_
                          refine V_goto 269 dL_area_332 (by decide) ?_
                          refine V_fg [true, true, true, true, true, true, true, true, true, true, true, false, true, true, true, true, false] ?_
                          exact ihi (by omega) _ (by omega) (fun q => absurd q (by omega)) (fun _ => hb)
                        · have hb1 := hb.1
                          have hRi := hJ.1 i (by omega) (by omega)
                          have hl1 := iShl_5 (a := R2 i) (s := j) hRi.2 (by omega)
                          refine V_iload dL_area_301 rfl ?_
                          refine V_aload dL_area_303 rfl ?_
                          refine V_iload dL_area_305 rfl ?_
                          refine V_iald dL_area_307 hA.2.2.1 (by omega) ?_
                          refine V_iload dL_area_308 rfl ?_
                          refine V_ishlZ dL_area_310 (by first | omega | (dsimp only; omega) | exact iAnd_0 | exact iOr_0 | exact iShl_0 | exact iShr_0) (by first | omega | (dsimp only; omega) | exact iAnd_0 | exact iOr_0 | exact iShl_0 | exact iShr_0) ?_
                          refine V_aload dL_area_311 rfl ?_
                          refine V_iload dL_area_313 rfl ?_
                          refine V_iald dL_area_315 hA.2.2.1 (by omega) ?_
                          refine V_iload dL_area_316 rfl ?_
                          refine V_ishrZ dL_area_318 (by first | omega | (dsimp only; omega) | exact iAnd_0 | exact iOr_0 | exact iShl_0 | exact iShr_0) (by first | omega | (dsimp only; omega) | exact iAnd_0 | exact iOr_0 | exact iShl_0 | exact iShr_0) ?_
                          refine V_iorZ dL_area_319 (by first | omega | (dsimp only; omega) | exact iAnd_0 | exact iOr_0 | exact iShl_0 | exact iShr_0) (by first | omega | (dsimp only; omega) | exact iAnd_0 | exact iOr_0 | exact iShl_0 | exact iShr_0) ?_
                          refine V_iorZ dL_area_320 (by first | omega | (dsimp only; omega) | exact iAnd_0 | exact iOr_0 | exact iShl_0 | exact iShr_0) (by first | omega | (dsimp only; omega) | exact iAnd_0 | exact iOr_0 | exact iShl_0 | exact iShr_0) ?_
                          refine V_istore dL_area_321 (by decide) ?_
                          refine V_iinc dL_area_323 rfl (by decide) ?_
                          refine V_goto 294 dL_area_326 (by decide) ?_
                          exact ihj (by omega) _ (hb.or hJ.1 (by omega) (by omega) (by omega))
                      refine V_fg [true, true, true, true, true, true, true, true, true, true, true, false, true, true, true, true, true] ?_
                      exact L294 (0) (by omega) (by omega) m (hm1 (by omega))
              refine V_fg [true, true, true, true, true, true, true, true, true, true, true, false, true, true, true, true, false] ?_
              exact L269 (i0) (by omega) (by omega) m (by omega) hm0 (fun q => by rw [hm1 q]; exact nbB.start (by omega))
            refine V_iload dL_area_250 rfl ?_
            refine V_iload dL_area_252 rfl ?_
            refine V_isub dL_area_254 ?_
            refine V_if_ge 262 dL_area_255 (by decide) (by omega) (fun h255 => ?_) (fun h255 => ?_)
            · refine V_iload dL_area_262 rfl ?_
              refine V_iload dL_area_264 rfl ?_
              refine V_isub dL_area_266 ?_
              exact J267 _ (by omega)
            · refine V_iconst dL_area_258 ?_
              refine V_goto 267 dL_area_259 (by decide) ?_
              exact J267 _ (by omega)
          have J203 : ∀ m, (0 ≤ m ∧ m < 4194304) → (W = 0 → m = iOr (iShl (R2 k) 1) (iShr (R2 k) 1)) → (W ≠ 0 → m = 0) → V iL_area Z 0 0 w (sz + 3) 203 [some (xI x), some (xI y), some (xI L), some (xI way), some (xI gap), some (.ref pi), some (.ref ar), some (.ref sz), some (.ref (sz + 1)), some (.ref (sz + 2)), some (xI W), none, some (xI γ), some (xI k), none, none, none] [xI m] := by
            intro m hmr hm0 hm1
            refine V_istore dL_area_203 (by decide) ?_
            refine V_iload dL_area_205 rfl ?_
            refine V_if_ne 250 dL_area_207 (by decide) (by omega) (fun h207 => ?_) (fun h207 => ?_)
            · refine V_fg [true, true, true, true, true, true, true, true, true, true, true, false, true, true, true, false, false] ?_
              exact J250 _ (fun q => absurd q h207) hm1
            · have J228 : ∀ a1, (a1 = if 0 < k then R2 (k - 1) else 0) → V iL_area Z 0 0 w (sz + 3) 228 [some (xI x), some (xI y), some (xI L), some (xI way), some (xI gap), some (.ref pi), some (.ref ar), some (.ref sz), some (.ref (sz + 1)), some (.ref (sz + 2)), some (xI W), none, some (xI γ), some (xI k), some (xI m), none, none] [xI a1, xI m] := by
                intro a1 ha1
                have ra1 : 0 ≤ a1 ∧ a1 < 65536 := by rw [ha1]; split; exact hJ.1 _ (by omega) (by omega); omega
                have J246 : ∀ a2, (a2 = if k < 9 then R2 (k + 1) else 0) → V iL_area Z 0 0 w (sz + 3) 246 [some (xI x), some (xI y), some (xI L), some (xI way), some (xI gap), some (.ref pi), some (.ref ar), some (.ref sz), some (.ref (sz + 1)), some (.ref (sz + 2)), some (xI W), none, some (xI γ), some (xI k), some (xI m), none, none] [xI a2, xI a1, xI m] := by
                  intro a2 ha2
                  have ra2 : 0 ≤ a2 ∧ a2 < 65536 := by rw [ha2]; split; exact hJ.1 _ (by omega) (by omega); omega
                  refine V_iorZ dL_area_246 (by first | omega | (dsimp only; omega) | exact iAnd_0 | exact iOr_0 | exact iShl_0 | exact iShr_0) (by first | omega | (dsimp only; omega) | exact iAnd_0 | exact iOr_0 | exact iShl_0 | exact iShr_0) ?_
                  refine V_iorZ dL_area_247 (by first | omega | (dsimp only; omega) | exact iAnd_0 | exact iOr_0 | exact iShl_0 | exact iShr_0) (by first | omega | (dsimp only; omega) | exact iAnd_0 | exact iOr_0 | exact iShl_0 | exact iShr_0) ?_
                  refine V_istore dL_area_248 (by decide) ?_
                  refine V_fg [true, true, true, true, true, true, true, true, true, true, true, false, true, true, true, false, false] ?_
                  exact J250 _ (fun _ => by rw [hm0 h207]; exact nrS_0 hJ.1 (by omega) ha1 ha2) (fun q => absurd h207 q)
                refine V_iload dL_area_228 rfl ?_
                refine V_bipush dL_area_230 (by decide) ?_
                refine V_icmp_ge 245 dL_area_232 (by decide) (by omega) (fun h232 => ?_) (fun h232 => ?_)
                · refine V_iconst dL_area_245 ?_
                  exact J246 _ (if_neg (by omega)).symm
                · refine V_aload dL_area_235 rfl ?_
                  refine V_iload dL_area_237 rfl ?_
                  refine V_iconst dL_area_239 ?_
                  refine V_iadd dL_area_240 ?_
                  refine V_iald dL_area_241 hA.2.2.1 (by omega) ?_
                  refine V_goto 246 dL_area_242 (by decide) ?_
                  exact J246 _ (if_pos h232).symm
              refine V_iload dL_area_210 rfl ?_
              refine V_iload dL_area_212 rfl ?_
              refine V_if_le 227 dL_area_214 (by decide) (by omega) (fun h214 => ?_) (fun h214 => ?_)
              · refine V_iconst dL_area_227 ?_
                exact J228 _ (if_neg (by omega)).symm
              · refine V_aload dL_area_217 rfl ?_
                refine V_iload dL_area_219 rfl ?_
                refine V_iconst dL_area_221 ?_
                refine V_isub dL_area_222 ?_
                refine V_iald dL_area_223 hA.2.2.1 (by omega) ?_
                refine V_goto 228 dL_area_224 (by decide) ?_
                exact J228 _ (if_pos h214).symm
          have hRk := hJ.1 k (by omega) (by omega)
          refine V_iload dL_area_179 rfl ?_
          refine V_if_ne 202 dL_area_181 (by decide) (by omega) (fun h181 => ?_) (fun h181 => ?_)
          · refine V_iconst dL_area_202 ?_
            exact J203 _ (by omega) (fun q => absurd q h181) (fun _ => rfl)
          · refine V_aload dL_area_184 rfl ?_
            refine V_iload dL_area_186 rfl ?_
            refine V_iald dL_area_188 hA.2.2.1 (by omega) ?_
            refine V_iconst dL_area_189 ?_
            refine V_ishlZ dL_area_190 (by first | omega | (dsimp only; omega) | exact iAnd_0 | exact iOr_0 | exact iShl_0 | exact iShr_0) (by first | omega | (dsimp only; omega) | exact iAnd_0 | exact iOr_0 | exact iShl_0 | exact iShr_0) ?_
            refine V_aload dL_area_191 rfl ?_
            refine V_iload dL_area_193 rfl ?_
            refine V_iald dL_area_195 hA.2.2.1 (by omega) ?_
            refine V_iconst dL_area_196 ?_
            refine V_ishrZ dL_area_197 (by first | omega | (dsimp only; omega) | exact iAnd_0 | exact iOr_0 | exact iShl_0 | exact iShr_0) (by first | omega | (dsimp only; omega) | exact iAnd_0 | exact iOr_0 | exact iShl_0 | exact iShr_0) ?_
            refine V_iorZ dL_area_198 (by first | omega | (dsimp only; omega) | exact iAnd_0 | exact iOr_0 | exact iShl_0 | exact iShr_0) (by first | omega | (dsimp only; omega) | exact iAnd_0 | exact iOr_0 | exact iShl_0 | exact iShr_0) ?_
            refine V_goto 203 dL_area_199 (by decide) ?_
            exact J203 _ ⟨iOr_0, iOr_22 (iShl_5 hRk.2 (by omega)) (by have := iShr_l (a := R2 k) (s := 1) hRk.1; omega)⟩ (fun _ => rfl) (fun q => absurd h181 q)
      refine V_fg [true, true, true, true, true, true, true, true, true, true, true, false, true, true, false, false, false] ?_
      exact L172 (0) (by omega) (by omega) w _ 0 hA hJ (Or.inl ⟨rfl, fun _ _ _ => rfl, fun c c0 c1 c2 => by omega⟩)
  refine V_fg [true, true, true, true, true, true, true, true, true, true, true, false, true, false, false, false, false] ?_
  exact L161 161 _ _ hA hJ (by have := cnt_b (cb RG); omega)
set_option maxRecDepth 100000 in
set_option maxHeartbeats 4000000 in
theorem area_A {Z : XZ} {w0 : WD} {sz pi ar : Nat} {g : Int → Int} {gap x y L way : Int} (hE : xEnd Z (QAR w0 sz ar (aP g (16 * y + x) L way) (16 * y + x) gap)) {w : WD} {R1 R2 R3 RR : Int → Int} (hA : AW w0 w sz ar R1 R2 R3 RR) (hp : w0 pi = some (xPA 20 g)) (hlt : pi < sz) (hne : pi ≠ ar) (hg : B7 g) (hc : iCell x y) (hL : 0 ≤ L ∧ L ≤ 1000) (hw1 : way = 0 ∨ way = 1) (hgap : 0 ≤ gap ∧ gap ≤ 5) : V iL_area Z 0 0 w (sz + 3) 18 [some (xI x), some (xI y), some (xI L), some (xI way), some (xI gap), some (.ref pi), some (.ref ar), some (.ref sz), some (.ref (sz + 1)), some (.ref (sz + 2)), none, none, none, none, none, none, none] [] := by
  obtain ⟨a, ha⟩ : ∃ a, a = aP g (16 * y + x) L way := ⟨_, rfl⟩
  have h0 : a (16 * y + x) := by rw [ha]; exact aP_self hL.1
  rw [← ha] at hE
  refine V_iload_n dL_area_18 0 rfl rfl ?_
  refine V_iload_n dL_area_19 1 rfl rfl ?_
  refine V_iload_n dL_area_20 2 rfl rfl ?_
  refine V_iload_n dL_area_21 3 rfl rfl ?_
  refine V_aload dL_area_22 rfl ?_
  refine V_aload dL_area_24 rfl ?_
  refine V_c_L_26 rfl (by decide) (l_alike ((hA.2.2.2.2.2 pi (by omega) (by omega) (by omega) hne).trans hp) hA.1 hg hc hL hw1) dL_area_26 rfl rfl (Nat.le_of_ble_eq_true rfl) (Nat.le_of_eq (Nat.zero_add _)) (Nat.le_of_eq (Nat.zero_add _)) (fun v w sz q => ?_)
  obtain ⟨rfl, rfl, RA, hU, hRA, hcb⟩ := q
  rw [← ha] at hcb
  have hA := hA.A hU
  refine V_iload dL_area_29 rfl ?_
  refine V_iconst dL_area_31 ?_
  refine V_iadd dL_area_32 ?_
  refine V_istore dL_area_33 (by decide) ?_
  refine V_iconst dL_area_35 ?_
  refine V_istore dL_area_36 (by decide) ?_
  have L38 : ∀ n : Nat, ∀ (w : WD) (RS RG : Int → Int) (W β : Int), AW w0 w sz ar RA RS RG RR → BG a RS RG (16 * y + x) gap W β → W < n → V iL_area Z 0 0 w (sz + 3) 38 [some (xI x), some (xI y), some (xI L), some (xI way), some (xI gap), some (.ref pi), some (.ref ar), some (.ref sz), some (.ref (sz + 1)), some (.ref (sz + 2)), some (xI W), some (xI β), none, none, none, none, none] [] := by
    intro n
    induction n with
    | zero =>
      intro w RS RG W β hA hB hn
      rcases hB with ⟨-, hB, -⟩ | ⟨-, hB, -⟩ <;> omega
    | succ n ihn => ?_
    intro w RS RG W β hA hB hn
    have hβ : (β = 0 ∧ 1 ≤ W ∧ W ≤ 6) ∨ β = 1 := by rcases hB with ⟨h1, h2, -⟩ | ⟨h1, -⟩ <;> omega
    refine V_iload dL_area_38 rfl ?_
    refine V_if_ne 158 dL_area_40 (by decide) (by omega) (fun h40 => ?_) (fun h40 => ?_)
    · have hβ1 : β = 1 := by omega
      rcases hB with ⟨h1, -⟩ | ⟨-, h2, h3, h4, h5, h6⟩
      · omega
      · refine V_fg [true, true, true, true, true, true, true, true, true, true, true, false, false, false, false, false, false] ?_
        exact area_B hE hA (by omega) (by omega) h3 h4 h5 h6.jnd
    · have hβ0 : β = 0 := by omega
      subst hβ0
      refine V_iinc dL_area_43 rfl (by decide) ?_
      rw [show W + -1 = W - 1 from rfl]
      refine V_iload dL_area_46 rfl ?_
      refine V_aload dL_area_48 rfl ?_
      refine V_aload dL_area_50 rfl ?_
      refine V_c_L_30 rfl (by decide) (l_squares hA.1 hA.2.1 (by omega) hRA (by omega)) dL_area_52 rfl rfl (Nat.le_of_ble_eq_true rfl) (Nat.le_of_eq (Nat.zero_add _)) (Nat.le_of_eq (Nat.zero_add _)) (fun v w sz q => ?_)
      obtain ⟨rfl, rfl, RS1, hU, hRS, hS⟩ := q
      have hA := hA.S hU
      have hS2 : ∀ c, 0 ≤ c → c < 160 → (cb RS1 c = true ↔ sqA a (W - 1) c) := fun c c0 c1 => (hS c c0 c1).trans (sqA_c (fun k k0 k1 => hcb k k0 k1) ⟨c0, c1⟩ (by omega))
      refine V_iconst dL_area_55 ?_
      refine V_istore dL_area_56 (by decide) ?_
      have L58 : ∀ k : Int, 0 ≤ k → k ≤ 10 → ∀ (w : WD) (RGo : Int → Int) (β1 : Int), AW w0 w sz ar RA RS1 RGo RR → goW RS1 RGo x y (W - 1) k → (β1 = 0 ∨ β1 = 1) → (β1 = 1 ↔ ∃ j, 0 ≤ j ∧ j < k ∧ RGo j ≠ 0) → V iL_area Z 0 0 w (sz + 3) 58 [some (xI x), some (xI y), some (xI L), some (xI way), some (xI gap), some (.ref pi), some (.ref ar), some (.ref sz), some (.ref (sz + 1)), some (.ref (sz + 2)), some (xI (W - 1)), some (xI β1), some (xI k), none, none, none, none] [] := by
        refine up_ind ?_
        intro k hk0 hk1 ih
        intro w RGo β1 hA hG hb0 hb1
        refine V_iload dL_area_58 rfl ?_
        refine V_bipush dL_area_60 (by decide) ?_
        refine V_icmp_ge 155 dL_area_62 (by decide) (by omega) (fun h62 => ?_) (fun h62 => ?_)
        · refine V_goto 38 dL_area_155 (by decide) ?_
          refine V_fg [true, true, true, true, true, true, true, true, true, true, true, true, false, false, false, false, false] ?_
          rw [show k = 10 by omega] at hG hb1
          exact ihn _ _ _ _ _ hA (BG.nxt hB hRS hS2 (hG.fin hc hS2) hb0 hb1 (liA_0 (by omega) h0)) (by omega)
        · have J129 : ∀ (w : WD) (RG : Int → Int), AW w0 w sz ar RA RS1 RG RR → goW RS1 RG x y (W - 1) (k + 1) → (∀ j, j ≠ k → RG j = RGo j) → V iL_area Z 0 0 w (sz + 3) 129 [some (xI x), some (xI y), some (xI L), some (xI way), some (xI gap), some (.ref pi), some (.ref ar), some (.ref sz), some (.ref (sz + 1)), some (.ref (sz + 2)), some (xI (W - 1)), some (xI β1), some (xI k), none, none, none, none] [] := by
            intro w RG hA hG hK
            have J147 : ∀ b, (b = 0 ∨ b = 1) → (b = 1 ↔ β1 = 1 ∨ RG k ≠ 0) → V iL_area Z 0 0 w (sz + 3) 147 [some (xI x), some (xI y), some (xI L), some (xI way), some (xI gap), some (.ref pi), some (.ref ar), some (.ref sz), some (.ref (sz + 1)), some (.ref (sz + 2)), some (xI (W - 1)), some (xI β1), some (xI k), none, none, none, none] [xI b] := by
              intro b hb2 hb3
              refine V_istore dL_area_147 (by decide) ?_
              refine V_iinc dL_area_149 rfl (by decide) ?_
              refine V_goto 58 dL_area_152 (by decide) ?_
              refine V_fg [true, true, true, true, true, true, true, true, true, true, true, true, true, false, false, false, false] ?_
              exact ih (by omega) _ _ b hA hG hb2 (bx hb3 hb1 hK (by omega))
            refine V_iload dL_area_129 rfl ?_
            refine V_if_ne 142 dL_area_131 (by decide) (by omega) (fun h131 => ?_) (fun h131 => ?_)
            · refine V_iconst dL_area_142 ?_
              refine V_goto 147 dL_area_143 (by decide) ?_
              exact J147 _ (Or.inr rfl) ⟨fun _ => Or.inl (by omega), fun _ => rfl⟩
            · refine V_aload dL_area_134 rfl ?_
              refine V_iload dL_area_136 rfl ?_
              have hGk := (hG k (by omega) (by omega)).1
              refine V_iald dL_area_138 hA.2.2.1 (by omega) ?_
              refine V_if_eq 146 dL_area_139 (by decide) (by omega) (fun h139 => ?_) (fun h139 => ?_)
              · refine V_iconst dL_area_146 ?_
                exact J147 _ (Or.inl rfl) ⟨fun q => absurd q (by decide), fun q => q.elim (fun q => by omega) (fun q => absurd h139 q)⟩
              · refine V_iconst dL_area_142 ?_
                refine V_goto 147 dL_area_143 (by decide) ?_
                exact J147 _ (Or.inr rfl) ⟨fun _ => Or.inr h139, fun _ => rfl⟩
          refine V_aload dL_area_65 rfl ?_
          refine V_iload dL_area_67 rfl ?_
          refine V_iconst dL_area_69 ?_
          refine V_iast dL_area_70 hA.2.2.1 (by omega) ?_
          have hA := hA.G (R := iu RGo k 0) (UA.st hA.2.2.1)
          refine V_iconst dL_area_71 ?_
          refine V_istore dL_area_72 (by decide) ?_
          have L74 : ∀ i : Int, 0 ≤ i → i ≤ W → ∀ (w : WD) (RG : Int → Int), AW w0 w sz ar RA RS1 RG RR → goW RS1 RG x y (W - 1) k → goR RS1 x y (W - 1) k i (RG k) → (∀ j, j ≠ k → RG j = RGo j) → V iL_area Z 0 0 w (sz + 3) 74 [some (xI x), some (xI y), some (xI L), some (xI way), some (xI gap), some (.ref pi), some (.ref ar), some (.ref sz), some (.ref (sz + 1)), some (.ref (sz + 2)), some (xI (W - 1)), some (xI β1), some (xI k), some (xI i), none, none, none] [] := by
            refine up_ind ?_
            intro i hi0 hi1 ihi
            intro w RG hA hG hv hK
            refine V_iload dL_area_74 rfl ?_
            refine V_iload dL_area_76 rfl ?_
            refine V_icmp_gt 129 dL_area_78 (by decide) (by clear hb1; omega) (fun h78 => ?_) (fun h78 => ?_)
            · refine V_fg [true, true, true, true, true, true, true, true, true, true, true, true, true, false, false, false, false] ?_
              exact J129 _ _ hA (hG.set (hv.fin (by omega))) hK
            · refine V_iload dL_area_81 rfl ?_
              refine V_iload_n dL_area_83 1 rfl rfl ?_
              refine V_icmp_gt 129 dL_area_84 (by decide) (by omega) (fun h84 => ?_) (fun h84 => ?_)
              · refine V_fg [true, true, true, true, true, true, true, true, true, true, true, true, true, false, false, false, false] ?_
                exact J129 _ _ hA (hG.set (hv.fin (by omega))) hK
              · refine V_iload dL_area_87 rfl ?_
                refine V_iload_n dL_area_89 1 rfl rfl ?_
                refine V_iload dL_area_90 rfl ?_
                refine V_isub dL_area_92 ?_
                refine V_icmp_lt 129 dL_area_93 (by decide) (by omega) (fun h93 => ?_) (fun h93 => ?_)
                · refine V_fg [true, true, true, true, true, true, true, true, true, true, true, true, true, false, false, false, false] ?_
                  exact J129 _ _ hA (hG.set (hv.fin (by omega))) hK
                · refine V_iload_n dL_area_96 0 rfl rfl ?_
                  refine V_iload dL_area_97 rfl ?_
                  refine V_isub dL_area_99 ?_
                  refine V_if_lt 123 dL_area_100 (by decide) (by omega) (fun h100 => ?_) (fun h100 => ?_)
                  · have hv := hv.skip h100
                    refine V_iinc dL_area_123 rfl (by decide) ?_
                    refine V_goto 74 dL_area_126 (by decide) ?_
                    refine V_fg [true, true, true, true, true, true, true, true, true, true, true, true, true, true, false, false, false] ?_
                    exact ihi (by omega) _ _ hA hG hv hK
                  · refine V_aload dL_area_103 rfl ?_
                    refine V_iload dL_area_105 rfl ?_
                    refine V_dup2 dL_area_107 rfl rfl ?_
                    have hGk := hv.1
                    have hSk := hRS k (by omega) (by omega)
                    refine V_iald dL_area_108 hA.2.2.1 (by omega) ?_
                    refine V_aload dL_area_109 rfl ?_
                    refine V_iload dL_area_111 rfl ?_
                    refine V_iald dL_area_113 hA.2.1 (by omega) ?_
                    refine V_iconst dL_area_114 ?_
                    refine V_iload_n dL_area_115 0 rfl rfl ?_
                    refine V_iload dL_area_116 rfl ?_
                    refine V_isub dL_area_118 ?_
                    have hsh := iShl_1 (s := x - i) (by omega)
                    refine V_ishlZ dL_area_119 (by omega) (by omega) ?_
                    refine V_iandZ dL_area_120 (by first | omega | (dsimp only; omega) | exact iAnd_0 | exact iOr_0 | exact iShl_0 | exact iShr_0) (by first | omega | (dsimp only; omega) | exact iAnd_0 | exact iOr_0 | exact iShl_0 | exact iShr_0) ?_
                    refine V_iorZ dL_area_121 (by first | omega | (dsimp only; omega) | exact iAnd_0 | exact iOr_0 | exact iShl_0 | exact iShr_0) (by first | omega | (dsimp only; omega) | exact iAnd_0 | exact iOr_0 | exact iShl_0 | exact iShr_0) ?_
                    refine V_iast dL_area_122 hA.2.2.1 (by omega) ?_
                    have hA := hA.G (R := iu RG k (iOr (RG k) (iAnd (RS1 k) (iShl 1 (x - i))))) (UA.st hA.2.2.1)
                    have hv : goR RS1 x y (W - 1) k (i + 1) (iu RG k (iOr (RG k) (iAnd (RS1 k) (iShl 1 (x - i)))) k) := by rw [iu_s]; exact hv.nxt hRS (by omega) (by omega) (by omega) (by omega)
                    have hG := hG.u (v := iOr (RG k) (iAnd (RS1 k) (iShl 1 (x - i))))
                    have hK : ∀ j, j ≠ k → iu RG k (iOr (RG k) (iAnd (RS1 k) (iShl 1 (x - i)))) j = RGo j := fun j hj => (iu_n hj).trans (hK j hj)
                    refine V_iinc dL_area_123 rfl (by decide) ?_
                    refine V_goto 74 dL_area_126 (by decide) ?_
                    refine V_fg [true, true, true, true, true, true, true, true, true, true, true, true, true, true, false, false, false] ?_
                    exact ihi (by omega) _ _ hA hG hv hK
          refine V_fg [true, true, true, true, true, true, true, true, true, true, true, true, true, true, false, false, false] ?_
          exact L74 (0) (by omega) (by omega) _ _ hA hG.u (by rw [iu_s]; exact goR.zero) (fun j hj => iu_n hj)
      refine V_fg [true, true, true, true, true, true, true, true, true, true, true, true, true, false, false, false, false] ?_
      exact L58 (0) (by omega) (by omega) w _ 0 hA (fun j j0 j1 => by omega) (Or.inl rfl) ⟨fun q => absurd q (by decide), fun ⟨j, j0, j1, _⟩ => by omega⟩
  refine V_fg [true, true, true, true, true, true, true, true, true, true, true, true, false, false, false, false, false] ?_
  exact L38 8 _ _ _ _ _ hA (BG.start hgap.1) (by omega)
set_option maxRecDepth 100000 in
set_option maxHeartbeats 4000000 in
theorem l_area {w0 : WD} {sz pi ar : Nat} {g R0 : Int → Int} {gap x y L way : Int} (hp : w0 pi = some (xPA 20 g)) (har : w0 ar = some (xIA 10 R0)) (hlt : pi < sz ∧ ar < sz) (hg : B7 g) (hc : iCell x y) (hL : 0 ≤ L ∧ L ≤ 1000) (hw1 : way = 0 ∨ way = 1) (hgap : 0 ≤ gap ∧ gap ≤ 5) : CT iL_area 3 30 [xI x, xI y, xI L, xI way, xI gap, .ref pi, .ref ar] w0 sz (QAR w0 sz ar (aP g (16 * y + x) L way) (16 * y + x) gap) := by
  refine CT.ofZ (by decide) rfl (Nat.le_of_ble_eq_true rfl) (fun Z hE => ?_)
  have hne : pi ≠ ar := fun e => by rw [e, har] at hp; cases hp
  refine V_bipush dL_area_0 (by decide) ?_
  refine V_newI (kc' := 2) (ks' := 20) (n := 10) rfl (xG_at 83 (by decide +kernel) rfl) dL_area_2 rfl (by decide) (by decide) (by decide) ?_
  refine V_astore dL_area_4 (by decide) ?_
  refine V_bipush dL_area_6 (by decide) ?_
  refine V_newI (kc' := 1) (ks' := 10) (n := 10) rfl (xG_at 83 (by decide +kernel) rfl) dL_area_8 rfl (by decide) (by decide) (by decide) ?_
  refine V_astore dL_area_10 (by decide) ?_
  refine V_bipush dL_area_12 (by decide) ?_
  refine V_newI (kc' := 0) (ks' := 0) (n := 10) rfl (xG_at 83 (by decide +kernel) rfl) dL_area_14 rfl (by decide) (by decide) (by decide) ?_
  refine V_astore dL_area_16 (by decide) ?_
  exact area_A hE (R1 := fun _ => 0) (R2 := fun _ => 0) (R3 := fun _ => 0) (RR := R0) ⟨(xU_n (by omega)).trans ((xU_n (by omega)).trans xU_s), (xU_n (by omega)).trans xU_s, xU_s, (xU_n (by omega)).trans ((xU_n (by omega)).trans ((xU_n (by omega)).trans har)), hlt.2, fun j a b c d => (xU_n (by omega)).trans ((xU_n (by omega)).trans (xU_n (by omega)))⟩ hp hlt.1 hne hg hc hL hw1 hgap
