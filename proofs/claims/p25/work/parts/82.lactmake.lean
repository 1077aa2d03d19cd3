/-! p25's law: a pick is made -/
def nzf (z h : Int → Int) (n j : Int) : Int := if j = 160 then n + 1 else if j < 161 + 169 * n then z j else h (j - (161 + 169 * n))
theorem pick_ex {P : MP} {g gl gl2 pr PR : Int → Int} {n x y l a gp kd s u : Int} {A : Int → Bool} (hP : LQ P.1 g gl pr n) (hn : n < 3) (hc : iCell x y) (hk : aOk l a gp) (hkd : 0 ≤ kd ∧ kd ≤ 3) (hs : 0 ≤ s ∧ s ≤ 4) (hw : wiA (aP P.1 (16 * y + x) l a) (16 * y + x) gp u) (hA : ∀ k, 0 ≤ k → k < 160 → (A k = true ↔ arA (aP P.1 (16 * y + x) l a) (16 * y + x) u k)) (hPR : ∀ i, i < 9 * n → PR i = pr i) (h0 : PR (9 * n) = x) (h1 : PR (9 * n + 1) = y) (h2 : PR (9 * n + 2) = l) (h3 : PR (9 * n + 3) = a) (h4 : PR (9 * n + 4) = gp) (h5 : PR (9 * n + 5) = kd) (h6 : PR (9 * n + 6) = s) (h7 : PR (9 * n + 7) = 1) (h8 : PR (9 * n + 8) = u) (hO : Out gl gl2 (8 * (20 * n))) (hl : ∀ c, 0 ≤ c → c < 160 → gl2 (8 * (20 * n) + c) = ilev A c s) : ∃ P' : MP, pickR P x y l a gp (kd + 10 * s) 0 (isum (fun k => b2i (A k)) 160) P' ∧ SavR P P' ∧ LQ P'.1 g gl2 PR (n + 1) := by
  obtain ⟨a1, a2, a3, a4, a5, a6, a7⟩ := hP
  obtain ⟨P', e, hS⟩ := savR_ex P (nzf P.1 (fun i => if i < 9 then PR (9 * n + i) else gl2 (8 * (20 * n) + (i - 9))) n)
  have e160 : P'.1 160 = n + 1 := by rw [e]; exact if_pos rfl
  have elo : ∀ j, j < 161 + 169 * n → j ≠ 160 → P'.1 j = P.1 j := fun j h1 h2 => by rw [e]; exact (if_neg h2).trans (if_pos h1)
  have epr : ∀ i, 0 ≤ i → i < 9 → P'.1 (161 + 169 * n + i) = PR (9 * n + i) := fun i i0 i1 => by
    rw [e]
    unfold nzf
    rw [if_neg (by omega), if_neg (by omega), show 161 + 169 * n + i - (161 + 169 * n) = i by omega]
    exact if_pos i1
  have elv : ∀ c, 0 ≤ c → c < 160 → P'.1 (161 + 169 * n + (9 + c)) = gl2 (8 * (20 * n) + c) := fun c c0 c1 => by
    rw [e]
    unfold nzf
    rw [if_neg (by omega), if_neg (by omega), show 161 + 169 * n + (9 + c) - (161 + 169 * n) = 9 + c by omega]
    refine (if_neg (by omega)).trans ?_
    rw [show 9 + c - 9 = c by omega]
  refine ⟨P', ?_, hS, LQ.of a1 hO.1 (fun k k0 k1 => (a3 k k0 k1).trans (elo k (by omega) (by omega)).symm) e160 (by omega) (fun p p0 p1 => ?_)⟩
  · unfold pickR
    have q0 := epr 0 (by omega) (by omega)
    rw [Int.add_zero, Int.add_zero] at q0
    refine Or.inr (Or.inr (Or.inr ⟨hc, ⟨hk, by omega, by omega⟩, by omega, rfl, hS, u, A, hw, hA, rfl, ?_, by omega⟩))
    unfold pickZ
    rw [a4]
    exact ⟨q0.trans h0, (epr 1 (by omega) (by omega)).trans h1, (epr 2 (by omega) (by omega)).trans h2, (epr 3 (by omega) (by omega)).trans h3, (epr 4 (by omega) (by omega)).trans h4, ((epr 5 (by omega) (by omega)).trans h5).trans (by omega), ((epr 6 (by omega) (by omega)).trans h6).trans (by omega), (epr 7 (by omega) (by omega)).trans h7, (epr 8 (by omega) (by omega)).trans h8, fun c c0 c1 => by rw [elv c c0 c1, hl c c0 c1, show (kd + 10 * s) / 10 = s by omega], fun j j0 j1 j2 => elo j j1 j2⟩
  · by_cases q : p = n
    · subst q
      exact ⟨fun i i0 i1 => (epr i i0 i1).symm, fun c c0 c1 => by rw [elv c c0 c1, show 8 * (20 * p) + c = 160 * p + c by omega]⟩
    · exact ⟨fun i i0 i1 => by rw [hPR _ (by omega), elo _ (by omega) (by omega)]; exact a6 p i p0 (by omega) i0 i1, fun c c0 c1 => by rw [hO.2 _ (by omega), elo _ (by omega) (by omega)]; exact a7 p c p0 (by omega) c0 c1⟩
theorem AF.F {w0 w w1 : WD} {s0 sz sz1 χ : Nat} (h : AF w0 w s0 sz χ) (hs : sz ≤ sz1) (hN : WN w1 sz1) (f : ∀ j, j < s0 → j ≠ χ + 38 → w1 j = w j) : AF w0 w1 s0 sz1 χ := ⟨by have := h.1; omega, hN, fun j hj a1 a2 a3 a4 => (f j hj a2).trans (h.2.2 j hj a1 a2 a3 a4)⟩
set_option maxRecDepth 100000 in
set_option maxHeartbeats 4000000 in
theorem act_pick {Z : XZ} {w0 : WD} {χ sz : Nat} {P : MP} {g gl prf dd : Int → Int} {n a x y u v : Int} (hE : xEnd Z (QA w0 χ P)) (hI : MInv P) (hP : LQ P.1 g gl prf n) (hdn : dd 0 = n) (hN : WN w0 sz) (hC : CP w0 χ P) (hA : LA w0 χ g gl prf dd) (hu : iCell u v) (ha : 0 ≤ a ∧ a < 14) (hx : 0 ≤ x ∧ x < 2147483648) (hy : 0 ≤ y ∧ y < 2147483648) (hn3 : n < 3) : V iL_act Z 19 290 w0 sz 275 [some (.ref χ), some (xI a), some (xI x), some (xI y), some (.ref (χ + 37)), some (.ref (χ + 38)), some (.ref (χ + 41)), some (.ref (χ + 43)), some (xI u), some (xI v), none, none, none, none, none, none, none, none] [] := by
  have hz4 := hP.2.2.2.1
  have hn5 := hP.2.2.2.2.1
  have hsz := hA.hs hN
  refine V_bipush dL_act_275 (by decide) ?_
  refine V_newI (kc' := 18) (ks' := 280) (n := 10) rfl (xG_at 83 (by decide +kernel) rfl) dL_act_277 rfl (by decide) (by decide) (by decide) ?_
  refine V_astore dL_act_279 (by decide) ?_
  have J313 : ∀ lk : Int, (0 ≤ lk ∧ lk ≤ 99) → V iL_act Z 18 280 (xU w0 sz (xIA 10 (fun _ => 0))) (sz + 1) 313 [some (.ref χ), some (xI a), some (xI x), some (xI y), some (.ref (χ + 37)), some (.ref (χ + 38)), some (.ref (χ + 41)), some (.ref (χ + 43)), some (xI u), some (xI v), some (.ref sz), none, none, none, none, none, none, none] [xI lk] := by
    intro lk hlk
    refine V_istore dL_act_313 (by decide) ?_
    refine V_iload_n dL_act_315 2 rfl rfl ?_
    refine V_bipush dL_act_316 (by decide) ?_
    refine V_ishrZ dL_act_318 (by first | omega | (dsimp only; omega) | exact iAnd_0 | exact iOr_0 | exact iShl_0 | exact iShr_0) (by first | omega | (dsimp only; omega) | exact iAnd_0 | exact iOr_0 | exact iShl_0 | exact iShr_0) ?_
    refine V_iconst dL_act_319 ?_
    refine V_c_L_53 rfl (by decide) (l_at (by have := iShr_l (a := x) (s := 10) hx.1; have := iShr_0 (a := x) (b := 10); omega) (by omega)) dL_act_320 rfl rfl (Nat.le_of_ble_eq_true rfl) (Nat.le_of_eq (Nat.zero_add _)) (Nat.le_of_eq (Nat.zero_add _)) (fun v w sz q => ?_)
    obtain ⟨rfl, hw9, hs9⟩ := q
    obtain rfl := hw9.symm
    obtain rfl := hs9.symm
    have hway := iat_r (x := iShr x 10) (n := 2) (by omega)
    generalize iat (iShr x 10) 2 = way at hway ⊢
    refine V_istore dL_act_323 (by decide) ?_
    refine V_iload_n dL_act_325 2 rfl rfl ?_
    refine V_bipush dL_act_326 (by decide) ?_
    refine V_ishrZ dL_act_328 (by first | omega | (dsimp only; omega) | exact iAnd_0 | exact iOr_0 | exact iShl_0 | exact iShr_0) (by first | omega | (dsimp only; omega) | exact iAnd_0 | exact iOr_0 | exact iShl_0 | exact iShr_0) ?_
    refine V_bipush dL_act_329 (by decide) ?_
    refine V_c_L_53 rfl (by decide) (l_at (by have := iShr_l (a := x) (s := 12) hx.1; have := iShr_0 (a := x) (b := 12); omega) (by omega)) dL_act_331 rfl rfl (Nat.le_of_ble_eq_true rfl) (Nat.le_of_eq (Nat.zero_add _)) (Nat.le_of_eq (Nat.zero_add _)) (fun v w sz q => ?_)
    obtain ⟨rfl, hw9, hs9⟩ := q
    obtain rfl := hw9.symm
    obtain rfl := hs9.symm
    have hgp := iat_r (x := iShr x 12) (n := 6) (by omega)
    generalize iat (iShr x 12) 6 = gp at hgp ⊢
    refine V_istore dL_act_334 (by decide) ?_
    have J355 : ∀ kd : Int, (0 ≤ kd ∧ kd ≤ 3) → V iL_act Z 18 280 (xU w0 sz (xIA 10 (fun _ => 0))) (sz + 1) 355 [some (.ref χ), some (xI a), some (xI x), some (xI y), some (.ref (χ + 37)), some (.ref (χ + 38)), some (.ref (χ + 41)), some (.ref (χ + 43)), some (xI u), some (xI v), some (.ref sz), some (xI lk), some (xI way), some (xI gp), none, none, none, none] [xI kd] := by
      intro kd hkd
      refine V_istore dL_act_355 (by decide) ?_
      refine V_iload_n dL_act_357 2 rfl rfl ?_
      refine V_bipush dL_act_358 (by decide) ?_
      refine V_ishrZ dL_act_360 (by first | omega | (dsimp only; omega) | exact iAnd_0 | exact iOr_0 | exact iShl_0 | exact iShr_0) (by first | omega | (dsimp only; omega) | exact iAnd_0 | exact iOr_0 | exact iShl_0 | exact iShr_0) ?_
      refine V_iconst dL_act_361 ?_
      refine V_c_L_53 rfl (by decide) (l_at (by have := iShr_l (a := x) (s := 15) hx.1; have := iShr_0 (a := x) (b := 15); omega) (by omega)) dL_act_362 rfl rfl (Nat.le_of_ble_eq_true rfl) (Nat.le_of_eq (Nat.zero_add _)) (Nat.le_of_eq (Nat.zero_add _)) (fun v w sz q => ?_)
      obtain ⟨rfl, hw9, hs9⟩ := q
      obtain rfl := hw9.symm
      obtain rfl := hs9.symm
      have hsf := iat_r (x := iShr x 15) (n := 5) (by omega)
      generalize iat (iShr x 15) 5 = sf at hsf ⊢
      refine V_istore dL_act_365 (by decide) ?_
      refine V_iload dL_act_367 rfl ?_
      refine V_iload dL_act_369 rfl ?_
      refine V_iload dL_act_371 rfl ?_
      refine V_iload dL_act_373 rfl ?_
      refine V_iload dL_act_375 rfl ?_
      refine V_aload dL_act_377 rfl ?_
      refine V_aload dL_act_379 rfl ?_
      refine V_c_L_72 rfl (kc' := 15) (ks' := 250) (by decide) (l_area (w0 := xU w0 sz (xIA 10 (fun _ => 0))) (sz := sz + 1) (ar := sz) ((xU_n (by omega)).trans hA.1) xU_s (by omega) hP.1 hu (by omega) (by omega) (by omega)) dL_act_381 rfl rfl (Nat.le_of_ble_eq_true rfl) (by omega) (by omega) (fun v9 w sz9 q => ?_)
      obtain ⟨rfl, W, R, rfl, hwi, har, hR, hcb, hfr⟩ := q
      have hAF : AF w0 w sz (sz + 1 + 3) χ := ⟨by omega, fun j hj => (hfr j (by omega)).trans ((xU_n (by omega)).trans (hN j (by omega))), fun j hj a1 a2 a3 a4 => (hfr j (by omega)).trans (xU_n (by omega))⟩
      have hL : LA w χ g gl prf dd := ⟨(hfr _ (by omega)).trans ((xU_n (by omega)).trans hA.1), (hfr _ (by omega)).trans ((xU_n (by omega)).trans hA.2.1), (hfr _ (by omega)).trans ((xU_n (by omega)).trans hA.2.2.1), (hfr _ (by omega)).trans ((xU_n (by omega)).trans hA.2.2.2)⟩
      have hWr := hwi.2.1
      have hW0 := hwi.1
      refine V_istore dL_act_384 (by decide) ?_
      refine V_bipush dL_act_386 (by decide) ?_
      refine V_aload dL_act_388 rfl ?_
      refine V_iconst dL_act_390 ?_
      refine V_iald dL_act_391 hL.2.2.2 (by omega) ?_
      rw [hdn]
      refine V_imul dL_act_392 ?_
      refine V_istore dL_act_393 (by decide) ?_
      refine V_aload dL_act_395 rfl ?_
      refine V_iload dL_act_397 rfl ?_
      refine V_iload dL_act_399 rfl ?_
      refine V_prst hL hAF dL_act_401 (by omega) (fun w u9 hL hAF => ?_)
      have har := (u9.2 sz (by omega)).trans har
      refine V_aload dL_act_402 rfl ?_
      refine V_iload dL_act_404 rfl ?_
      refine V_iconst dL_act_406 ?_
      refine V_iadd dL_act_407 ?_
      refine V_iload dL_act_408 rfl ?_
      refine V_prst hL hAF dL_act_410 (by omega) (fun w u9 hL hAF => ?_)
      have har := (u9.2 sz (by omega)).trans har
      refine V_aload dL_act_411 rfl ?_
      refine V_iload dL_act_413 rfl ?_
      refine V_iconst dL_act_415 ?_
      refine V_iadd dL_act_416 ?_
      refine V_iload dL_act_417 rfl ?_
      refine V_prst hL hAF dL_act_419 (by omega) (fun w u9 hL hAF => ?_)
      have har := (u9.2 sz (by omega)).trans har
      refine V_aload dL_act_420 rfl ?_
      refine V_iload dL_act_422 rfl ?_
      refine V_iconst dL_act_424 ?_
      refine V_iadd dL_act_425 ?_
      refine V_iload dL_act_426 rfl ?_
      refine V_prst hL hAF dL_act_428 (by omega) (fun w u9 hL hAF => ?_)
      have har := (u9.2 sz (by omega)).trans har
      refine V_aload dL_act_429 rfl ?_
      refine V_iload dL_act_431 rfl ?_
      refine V_iconst dL_act_433 ?_
      refine V_iadd dL_act_434 ?_
      refine V_iload dL_act_435 rfl ?_
      refine V_prst hL hAF dL_act_437 (by omega) (fun w u9 hL hAF => ?_)
      have har := (u9.2 sz (by omega)).trans har
      refine V_aload dL_act_438 rfl ?_
      refine V_iload dL_act_440 rfl ?_
      refine V_iconst dL_act_442 ?_
      refine V_iadd dL_act_443 ?_
      refine V_iload dL_act_444 rfl ?_
      refine V_prst hL hAF dL_act_446 (by omega) (fun w u9 hL hAF => ?_)
      have har := (u9.2 sz (by omega)).trans har
      refine V_aload dL_act_447 rfl ?_
      refine V_iload dL_act_449 rfl ?_
      refine V_bipush dL_act_451 (by decide) ?_
      refine V_iadd dL_act_453 ?_
      refine V_iload dL_act_454 rfl ?_
      refine V_prst hL hAF dL_act_456 (by omega) (fun w u9 hL hAF => ?_)
      have har := (u9.2 sz (by omega)).trans har
      refine V_aload dL_act_457 rfl ?_
      refine V_iload dL_act_459 rfl ?_
      refine V_bipush dL_act_461 (by decide) ?_
      refine V_iadd dL_act_463 ?_
      refine V_iconst dL_act_464 ?_
      refine V_prst hL hAF dL_act_465 (by omega) (fun w u9 hL hAF => ?_)
      have har := (u9.2 sz (by omega)).trans har
      refine V_aload dL_act_466 rfl ?_
      refine V_iload dL_act_468 rfl ?_
      refine V_bipush dL_act_470 (by decide) ?_
      refine V_iadd dL_act_472 ?_
      refine V_iload dL_act_473 rfl ?_
      refine V_prst hL hAF dL_act_475 (by omega) (fun w u9 hL hAF => ?_)
      have har := (u9.2 sz (by omega)).trans har
      refine V_iload dL_act_476 rfl ?_
      refine V_bipush dL_act_478 (by decide) ?_
      refine V_aload dL_act_480 rfl ?_
      refine V_iconst dL_act_482 ?_
      refine V_iald dL_act_483 hL.2.2.2 (by omega) ?_
      rw [hdn]
      refine V_imul dL_act_484 ?_
      refine V_aload dL_act_485 rfl ?_
      refine V_aload dL_act_487 rfl ?_
      refine V_c_L_76 rfl (kc' := 13) (ks' := 230) (by decide) (l_soften (fr := 20 * n) har hL.2.1 (by omega) hR hP.2.1 (by omega) (by omega)) dL_act_489 rfl rfl (Nat.le_of_ble_eq_true rfl) (by omega) (by omega) (fun v9 w1 sz9 q => ?_)
      obtain ⟨rfl, rfl, gl2, hl2, hO, hlev, hfr2⟩ := q
      have hAF := hAF.F (w1 := w1) (sz1 := sz + 1 + 3 + 2) (by omega) (fun j hj => (hfr2 j (by omega)).trans (hAF.2.1 j (by omega))) (fun j hj a2 => hfr2 j (by omega))
      have har := (hfr2 sz (by omega)).trans har
      have hL : LA w1 χ g gl2 (iu (iu (iu (iu (iu (iu (iu (iu (iu prf (9 * n) u) (9 * n + 1) v) (9 * n + 2) lk) (9 * n + 3) way) (9 * n + 4) gp) (9 * n + 5) kd) (9 * n + 6) sf) (9 * n + 7) 1) (9 * n + 8) W) dd := ⟨(hfr2 _ (by omega)).trans hL.1, hl2, (hfr2 _ (by omega)).trans hL.2.2.1, (hfr2 _ (by omega)).trans hL.2.2.2⟩
      refine V_aload dL_act_492 rfl ?_
      refine V_iconst dL_act_494 ?_
      refine V_dup2 dL_act_495 rfl rfl ?_
      refine V_iald dL_act_496 hL.2.2.2 (by omega) ?_
      rw [hdn]
      refine V_iconst dL_act_497 ?_
      refine V_iadd dL_act_498 ?_
      refine V_dst hL hAF dL_act_499 (fun w u9 hL hAF => ?_)
      have har := (u9.2 sz (by omega)).trans har
      have hC2 := hAF.C hN hC
      have harN0 : arN g (16 * v + u) lk way gp (isum (fun c => b2i (cb R c)) 160) := ⟨W, cb R, hwi, hcb, rfl⟩
      have harN := arN_z (z' := P.1) hP.2.2.1 (by omega) harN0
      have haz := aP_z (z := g) (z' := P.1) (L := lk) (a := way) hP.2.2.1 (show 0 ≤ 16 * v + u ∧ 16 * v + u < 160 by omega)
      obtain ⟨P2, hRp, hS2, hLQ⟩ := pick_ex (PR := (iu (iu (iu (iu (iu (iu (iu (iu (iu prf (9 * n) u) (9 * n + 1) v) (9 * n + 2) lk) (9 * n + 3) way) (9 * n + 4) gp) (9 * n + 5) kd) (9 * n + 6) sf) (9 * n + 7) 1) (9 * n + 8) W)) hP hn3 hu (show aOk lk way gp by omega) hkd (show 0 ≤ sf ∧ sf ≤ 4 by omega) (wiA_c haz hwi) (fun k k0 k1 => (hcb k k0 k1).trans (arA_c haz hwi.1)) (fun i hi => by rw [iu_n (by omega), iu_n (by omega), iu_n (by omega), iu_n (by omega), iu_n (by omega), iu_n (by omega), iu_n (by omega), iu_n (by omega), iu_n (by omega)]) (by rw [iu_n (by omega)]; rw [iu_n (by omega)]; rw [iu_n (by omega)]; rw [iu_n (by omega)]; rw [iu_n (by omega)]; rw [iu_n (by omega)]; rw [iu_n (by omega)]; rw [iu_n (by omega)]; rw [iu_s]) (by rw [iu_n (by omega)]; rw [iu_n (by omega)]; rw [iu_n (by omega)]; rw [iu_n (by omega)]; rw [iu_n (by omega)]; rw [iu_n (by omega)]; rw [iu_n (by omega)]; rw [iu_s]) (by rw [iu_n (by omega)]; rw [iu_n (by omega)]; rw [iu_n (by omega)]; rw [iu_n (by omega)]; rw [iu_n (by omega)]; rw [iu_n (by omega)]; rw [iu_s]) (by rw [iu_n (by omega)]; rw [iu_n (by omega)]; rw [iu_n (by omega)]; rw [iu_n (by omega)]; rw [iu_n (by omega)]; rw [iu_s]) (by rw [iu_n (by omega)]; rw [iu_n (by omega)]; rw [iu_n (by omega)]; rw [iu_n (by omega)]; rw [iu_s]) (by rw [iu_n (by omega)]; rw [iu_n (by omega)]; rw [iu_n (by omega)]; rw [iu_s]) (by rw [iu_n (by omega)]; rw [iu_n (by omega)]; rw [iu_s]) (by rw [iu_n (by omega)]; rw [iu_s]) (by rw [iu_s]) hO hlev
      have hLQ : LQ P2.1 g gl2 (iu (iu (iu (iu (iu (iu (iu (iu (iu prf (9 * n) u) (9 * n + 1) v) (9 * n + 2) lk) (9 * n + 3) way) (9 * n + 4) gp) (9 * n + 5) kd) (9 * n + 6) sf) (9 * n + 7) 1) (9 * n + 8) W) (iu dd 0 (n + 1) 0) := by rw [iu_s]; exact hLQ
      refine V_aload_n dL_act_500 0 rfl rfl ?_
      refine V_iload dL_act_501 rfl ?_
      refine V_iload dL_act_503 rfl ?_
      refine V_iload dL_act_505 rfl ?_
      refine V_iload dL_act_507 rfl ?_
      refine V_iload dL_act_509 rfl ?_
      refine V_c_L_80 rfl (kc' := 9) (ks' := 206) (by decide) ((c_areaOf hC2 hI hAF.2.1 (hL.hs hAF.2.1) (by omega)).w2 (aofR_0 hu (by omega) harN)) dL_act_511 hC2.1 rfl rfl (Nat.le_of_ble_eq_true rfl) (by omega) (by omega) (fun v w1 sz1 q => ?_)
      obtain ⟨rfl, hT1, hC1⟩ := q
      have har1 := (hT1.2 sz (by omega) (nn har)).trans har
      have hL1 := hL.T hT1
      refine V_aload dL_act_514 rfl ?_
      refine V_c_L_83 rfl (by decide) (l_size har1 hR) dL_act_516 rfl rfl (Nat.le_of_ble_eq_true rfl) (Nat.le_of_eq (Nat.zero_add _)) (Nat.le_of_eq (Nat.zero_add _)) (fun v w sz q => ?_)
      obtain ⟨rfl, hw9, hs9⟩ := q
      obtain rfl := hw9.symm
      obtain rfl := hs9.symm
      refine V_icmp_neS (t := 556) (rfl) dL_act_519 (by decide) ?_
      refine V_aload_n dL_act_522 0 rfl rfl ?_
      refine V_iload dL_act_523 rfl ?_
      refine V_iload dL_act_525 rfl ?_
      refine V_iload dL_act_527 rfl ?_
      refine V_iload dL_act_529 rfl ?_
      refine V_iload dL_act_531 rfl ?_
      refine V_iload dL_act_533 rfl ?_
      refine V_bipush dL_act_535 (by decide) ?_
      refine V_iload dL_act_537 rfl ?_
      refine V_imul dL_act_539 ?_
      refine V_iadd dL_act_540 ?_
      refine V_c_L_87 rfl (kc' := 0) (ks' := 0) (by decide) ((c_pick hC1 hI hT1.1 (hL1.hs hT1.1) (by omega)).w3 hRp) dL_act_541 hC1.1 rfl rfl (Nat.le_of_ble_eq_true rfl) (by omega) (by omega) (fun v w2 sz2 q => ?_)
      obtain ⟨rfl, hT2, hC2b⟩ := q
      have har2 := (hT2.2 sz (by omega) (nn har1)).trans har1
      refine V_aload dL_act_544 rfl ?_
      refine V_c_L_83 rfl (by decide) (l_size har2 hR) dL_act_546 rfl rfl (Nat.le_of_ble_eq_true rfl) (Nat.le_of_eq (Nat.zero_add _)) (Nat.le_of_eq (Nat.zero_add _)) (fun v w sz q => ?_)
      obtain ⟨rfl, hw9, hs9⟩ := q
      obtain rfl := hw9.symm
      obtain rfl := hs9.symm
      refine V_icmp_neS (t := 556) (rfl) dL_act_549 (by decide) ?_
      refine V_iconst dL_act_552 ?_
      refine V_goto 557 dL_act_553 (by decide) ?_
      exact V_zret (b := true) hE rfl dL_act_557 ⟨rfl, P2, g, gl2, (iu (iu (iu (iu (iu (iu (iu (iu (iu prf (9 * n) u) (9 * n + 1) v) (9 * n + 2) lk) (9 * n + 3) way) (9 * n + 4) gp) (9 * n + 5) kd) (9 * n + 6) sf) (9 * n + 7) 1) (9 * n + 8) W), (iu dd 0 (n + 1)), pick_inv hI hRp, hS2, hLQ, hT2.1, hC2b, hL1.T hT2, fun j hj hn => by have e := hAF.K hN hT1 j hj hn; exact (hT2.2 j (by omega) (by rw [e]; exact hn)).trans e⟩
    refine V_aload dL_act_336 rfl ?_
    refine V_iconst dL_act_338 ?_
    refine V_iald dL_act_339 ((xU_n (by omega)).trans hA.2.2.2) (by omega) ?_
    rw [hdn]
    refine V_if_ne 347 dL_act_340 (by decide) (by omega) (fun h340 => ?_) (fun h340 => ?_)
    · refine V_iload_n dL_act_347 3 rfl rfl ?_
      refine V_bipush dL_act_348 (by decide) ?_
      refine V_ishrZ dL_act_350 (by first | omega | (dsimp only; omega) | exact iAnd_0 | exact iOr_0 | exact iShl_0 | exact iShr_0) (by first | omega | (dsimp only; omega) | exact iAnd_0 | exact iOr_0 | exact iShl_0 | exact iShr_0) ?_
      refine V_iconst dL_act_351 ?_
      refine V_c_L_53 rfl (by decide) (l_at (by have := iShr_l (a := y) (s := 14) hy.1; have := iShr_0 (a := y) (b := 14); omega) (by omega)) dL_act_352 rfl rfl (Nat.le_of_ble_eq_true rfl) (Nat.le_of_eq (Nat.zero_add _)) (Nat.le_of_eq (Nat.zero_add _)) (fun v w sz q => ?_)
      obtain ⟨rfl, hw9, hs9⟩ := q
      obtain rfl := hw9.symm
      obtain rfl := hs9.symm
      have ht5 := iat_r (x := iShr y 14) (n := 4) (by omega)
      generalize iat (iShr y 14) 4 = t5 at ht5 ⊢
      exact J355 _ (by omega)
    · refine V_iconst dL_act_343 ?_
      refine V_goto 355 dL_act_344 (by decide) ?_
      exact J355 _ (by omega)
  refine V_iload_n dL_act_281 2 rfl rfl ?_
  refine V_bipush dL_act_282 (by decide) ?_
  refine V_ishrZ dL_act_284 (by first | omega | (dsimp only; omega) | exact iAnd_0 | exact iOr_0 | exact iShl_0 | exact iShr_0) (by first | omega | (dsimp only; omega) | exact iAnd_0 | exact iOr_0 | exact iShl_0 | exact iShr_0) ?_
  refine V_iconst dL_act_285 ?_
  refine V_c_L_53 rfl (by decide) (l_at (by have := iShr_l (a := x) (s := 8) hx.1; have := iShr_0 (a := x) (b := 8); omega) (by omega)) dL_act_286 rfl rfl (Nat.le_of_ble_eq_true rfl) (Nat.le_of_eq (Nat.zero_add _)) (Nat.le_of_eq (Nat.zero_add _)) (fun v w sz q => ?_)
  obtain ⟨rfl, hw9, hs9⟩ := q
  obtain rfl := hw9.symm
  obtain rfl := hs9.symm
  have ht1 := iat_r (x := iShr x 8) (n := 3) (by omega)
  generalize iat (iShr x 8) 3 = t1 at ht1 ⊢
  refine V_if_ne 304 dL_act_289 (by decide) (by omega) (fun h289 => ?_) (fun h289 => ?_)
  · refine V_iload_n dL_act_304 3 rfl rfl ?_
    refine V_bipush dL_act_305 (by decide) ?_
    refine V_ishrZ dL_act_307 (by first | omega | (dsimp only; omega) | exact iAnd_0 | exact iOr_0 | exact iShl_0 | exact iShr_0) (by first | omega | (dsimp only; omega) | exact iAnd_0 | exact iOr_0 | exact iShl_0 | exact iShr_0) ?_
    refine V_bipush dL_act_308 (by decide) ?_
    refine V_c_L_53 rfl (by decide) (l_at (by have := iShr_l (a := y) (s := 8) hy.1; have := iShr_0 (a := y) (b := 8); omega) (by omega)) dL_act_310 rfl rfl (Nat.le_of_ble_eq_true rfl) (Nat.le_of_eq (Nat.zero_add _)) (Nat.le_of_eq (Nat.zero_add _)) (fun v w sz q => ?_)
    obtain ⟨rfl, hw9, hs9⟩ := q
    obtain rfl := hw9.symm
    obtain rfl := hs9.symm
    have ht3 := iat_r (x := iShr y 8) (n := 25) (by omega)
    generalize iat (iShr y 8) 25 = t3 at ht3 ⊢
    exact J313 _ (by omega)
  · refine V_iload_n dL_act_292 3 rfl rfl ?_
    refine V_bipush dL_act_293 (by decide) ?_
    refine V_ishrZ dL_act_295 (by first | omega | (dsimp only; omega) | exact iAnd_0 | exact iOr_0 | exact iShl_0 | exact iShr_0) (by first | omega | (dsimp only; omega) | exact iAnd_0 | exact iOr_0 | exact iShl_0 | exact iShr_0) ?_
    refine V_bipush dL_act_296 (by decide) ?_
    refine V_c_L_53 rfl (by decide) (l_at (by have := iShr_l (a := y) (s := 8) hy.1; have := iShr_0 (a := y) (b := 8); omega) (by omega)) dL_act_298 rfl rfl (Nat.le_of_ble_eq_true rfl) (Nat.le_of_eq (Nat.zero_add _)) (Nat.le_of_eq (Nat.zero_add _)) (fun v w sz q => ?_)
    obtain ⟨rfl, hw9, hs9⟩ := q
    obtain rfl := hw9.symm
    obtain rfl := hs9.symm
    have ht2 := iat_r (x := iShr y 8) (n := 100) (by omega)
    generalize iat (iShr y 8) 100 = t2 at ht2 ⊢
    refine V_goto 313 dL_act_301 (by decide) ?_
    exact J313 _ (by omega)
