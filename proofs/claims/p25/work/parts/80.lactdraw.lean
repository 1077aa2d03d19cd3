/-! p25's law: an action; rectangles and fills -/
def KP (w0 w : WD) (χ : Nat) : Prop := ∀ j, (j = χ + 39 ∨ j = χ + 40 ∨ j = χ + 42) → w0 j ≠ none → w j = w0 j
def AF (w0 w : WD) (s0 sz χ : Nat) : Prop := s0 ≤ sz ∧ WN w sz ∧ ∀ j, j < s0 → j ≠ χ + 37 → j ≠ χ + 38 → j ≠ χ + 41 → j ≠ χ + 43 → w j = w0 j
theorem AF.rf {w : WD} {sz χ : Nat} (h : WN w sz) : AF w w sz sz χ := ⟨Nat.le_refl _, h, fun _ _ _ _ _ _ => rfl⟩
theorem AF.U {w0 w w1 : WD} {s0 sz χ a : Nat} {e : va_E} (h : AF w0 w s0 sz χ) (u : UA w w1 a e) (ha : a = χ + 37 ∨ a = χ + 38 ∨ a = χ + 41 ∨ a = χ + 43 ∨ s0 ≤ a) (h2 : a < sz) : AF w0 w1 s0 sz χ := ⟨h.1, fun j hj => (u.2 j (by omega)).trans (h.2.1 j hj), fun j hj a1 a2 a3 a4 => (u.2 j (by omega)).trans (h.2.2 j hj a1 a2 a3 a4)⟩
theorem AF.C {w0 w : WD} {s0 sz χ : Nat} {P : MP} (h : AF w0 w s0 sz χ) (hN : WN w0 s0) (hC : CP w0 χ P) : CP w χ P := hC.mv (fun j hj hn => h.2.2 j (hN.lt hn) (by omega) (by omega) (by omega) (by omega))
theorem AF.K {w0 w w1 : WD} {s0 sz sz1 χ : Nat} (h : AF w0 w s0 sz χ) (hN : WN w0 s0) (t : TF w w1 sz1 χ) : KP w0 w1 χ := fun j hj hn => by
  have e := h.2.2 j (hN.lt hn) (by omega) (by omega) (by omega) (by omega)
  exact (t.2 j (by omega) (by rw [e]; exact hn)).trans e
def QA (w0 : WD) (χ : Nat) (P : MP) : XQ := fun o9 w' sz' => o9 = some (xB true) ∧ ∃ (P' : MP) (g gl pr dd : Int → Int), MInv P' ∧ SavR P P' ∧ LQ P'.1 g gl pr (dd 0) ∧ WN w' sz' ∧ CP w' χ P' ∧ LA w' χ g gl pr dd ∧ KP w0 w' χ
theorem LQ.pic {z z' g G gl pr : Int → Int} {n : Int} (h : LQ z g gl pr n) (hG : B7 G) (h1 : ∀ k, 0 ≤ k → k < 160 → G k = z' k) (h2 : ∀ k, 160 ≤ k → k < 2189 → z' k = z k) : LQ z' G gl pr n := by
  obtain ⟨a1, a2, a3, a4, a5, a6, a7⟩ := h
  exact ⟨hG, a2, h1, (h2 160 (by omega) (by omega)).trans a4, a5, fun p i p0 p1 i0 i1 => (a6 p i p0 p1 i0 i1).trans (h2 _ (by omega) (by omega)).symm, fun p c p0 p1 c0 c1 => (a7 p c p0 p1 c0 c1).trans (h2 _ (by omega) (by omega)).symm⟩
theorem LA.g {w w1 : WD} {χ : Nat} {g gl pr dd G : Int → Int} (h : LA w χ g gl pr dd) (u : UA w w1 (χ + 37) (xPA 20 G)) : LA w1 χ G gl pr dd := ⟨u.1, (u.2 _ (by omega)).trans h.2.1, (u.2 _ (by omega)).trans h.2.2.1, (u.2 _ (by omega)).trans h.2.2.2⟩
theorem LA.l {w w1 : WD} {χ : Nat} {g gl pr dd G : Int → Int} (h : LA w χ g gl pr dd) (u : UA w w1 (χ + 38) (xPA 60 G)) : LA w1 χ g G pr dd := ⟨(u.2 _ (by omega)).trans h.1, u.1, (u.2 _ (by omega)).trans h.2.2.1, (u.2 _ (by omega)).trans h.2.2.2⟩
theorem LA.r {w w1 : WD} {χ : Nat} {g gl pr dd G : Int → Int} (h : LA w χ g gl pr dd) (u : UA w w1 (χ + 41) (xIA 27 G)) : LA w1 χ g gl G dd := ⟨(u.2 _ (by omega)).trans h.1, (u.2 _ (by omega)).trans h.2.1, u.1, (u.2 _ (by omega)).trans h.2.2.2⟩
theorem LA.d {w w1 : WD} {χ : Nat} {g gl pr dd G : Int → Int} (h : LA w χ g gl pr dd) (u : UA w w1 (χ + 43) (xIA 1 G)) : LA w1 χ g gl pr G := ⟨(u.2 _ (by omega)).trans h.1, (u.2 _ (by omega)).trans h.2.1, (u.2 _ (by omega)).trans h.2.2.1, u.1⟩
def rcD (z : Int → Int) (u v a b s c : Int) : Int := if irect u v a b c ∧ z c ≠ s then 1 else 0
theorem draw_ex {P : MP} {u v a b s : Int} (h1 : iCell u v) (h2 : iCell a b) (hs : 0 ≤ s ∧ s ≤ 99) : ∃ P' : MP, drawR P u v a b s 0 (isum (rcD P.1 u v a b s) 160) P' ∧ SavR P P' ∧ (∀ k, 0 ≤ k → k < 160 → P'.1 k = if irect u v a b k then s else P.1 k) ∧ ∀ k, 160 ≤ k → k < 2189 → P'.1 k = P.1 k := by
  obtain ⟨P', e, hS⟩ := savR_ex P (fun k => if k < 160 then (if irect u v a b k then s else P.1 k) else P.1 k)
  have e1 : ∀ k, 0 ≤ k → k < 160 → P'.1 k = if irect u v a b k then s else P.1 k := fun k k0 k1 => by rw [e]; exact if_pos k1
  have e2 : ∀ k, 160 ≤ k → k < 2189 → P'.1 k = P.1 k := fun k k0 k1 => by rw [e]; exact if_neg (by omega)
  refine ⟨P', ?_, hS, e1, e2⟩
  unfold drawR
  refine Or.inr (Or.inr ⟨⟨h1, h2⟩, hs, rfl, hS, e1, e2, isum_c (fun k k0 k1 => ?_)⟩)
  unfold rcD
  rw [e1 k k0 k1]
  by_cases q : irect u v a b k
  · rw [if_pos q]
    by_cases q2 : P.1 k = s
    · rw [if_neg (fun x => x.2 q2), if_neg (fun x => x q2.symm)]
    · rw [if_pos ⟨q, q2⟩, if_pos (fun x => q2 x.symm)]
  · rw [if_neg q, if_neg (fun x => q x.1), if_neg (fun x => x rfl)]
def flD (z : Int → Int) (s c : Int) : Int := if ifil (z c) s (imS z c) ≠ z c then 1 else 0
theorem fill_ex {P : MP} {s : Int} (hs : 0 ≤ s ∧ s ≤ 99) : ∃ P' : MP, fillR P s 0 (isum (flD P.1 s) 160) P' ∧ SavR P P' ∧ (∀ k, 0 ≤ k → k < 160 → P'.1 k = ifil (P.1 k) s (imS P.1 k)) ∧ ∀ k, 160 ≤ k → k < 2189 → P'.1 k = P.1 k := by
  obtain ⟨P', e, hS⟩ := savR_ex P (fun k => if k < 160 then ifil (P.1 k) s (imS P.1 k) else P.1 k)
  have e1 : ∀ k, 0 ≤ k → k < 160 → P'.1 k = ifil (P.1 k) s (imS P.1 k) := fun k k0 k1 => by rw [e]; exact if_pos k1
  have e2 : ∀ k, 160 ≤ k → k < 2189 → P'.1 k = P.1 k := fun k k0 k1 => by rw [e]; exact if_neg (by omega)
  refine ⟨P', ?_, hS, e1, e2⟩
  unfold fillR
  exact Or.inr ⟨hs, rfl, hS, e1, e2, isum_c (fun k k0 k1 => by unfold flD; rw [e1 k k0 k1])⟩
theorem mulb {a m : Int} (h1 : -99 ≤ a ∧ a ≤ 99) (h2 : 0 ≤ m ∧ m ≤ 100) : -9900 ≤ a * m ∧ a * m ≤ 9900 := by
  have e1 := Int.mul_le_mul_of_nonneg_right h1.2 h2.1
  have e2 := Int.mul_le_mul_of_nonneg_right h1.1 h2.1
  omega
set_option maxRecDepth 100000 in
set_option maxHeartbeats 4000000 in
theorem act_draw {Z : XZ} {w0 : WD} {χ sz : Nat} {P : MP} {g gl prf dd : Int → Int} {n a x y u v : Int} (hE : xEnd Z (QA w0 χ P)) (hI : MInv P) (hP : LQ P.1 g gl prf n) (hdn : dd 0 = n) (hN : WN w0 sz) (hC : CP w0 χ P) (hA : LA w0 χ g gl prf dd) (hu : iCell u v) (ha : 0 ≤ a ∧ a < 14) (hx : 0 ≤ x ∧ x < 2147483648) (hy : 0 ≤ y ∧ y < 2147483648) : V iL_act Z 3 18 w0 sz 35 [some (.ref χ), some (xI a), some (xI x), some (xI y), some (.ref (χ + 37)), some (.ref (χ + 38)), some (.ref (χ + 41)), some (.ref (χ + 43)), some (xI u), some (xI v), none, none, none, none, none, none, none, none] [] := by
  refine V_iload_n dL_act_35 2 rfl rfl ?_
  refine V_iconst dL_act_36 ?_
  refine V_ishrZ dL_act_37 (by first | omega | (dsimp only; omega) | exact iAnd_0 | exact iOr_0 | exact iShl_0 | exact iShr_0) (by first | omega | (dsimp only; omega) | exact iAnd_0 | exact iOr_0 | exact iShl_0 | exact iShr_0) ?_
  refine V_bipush dL_act_38 (by decide) ?_
  refine V_c_L_53 rfl (by decide) (l_at (by have := iShr_l (a := x) (s := 4) hx.1; have := iShr_0 (a := x) (b := 4); omega) (by omega)) dL_act_40 rfl rfl (Nat.le_of_ble_eq_true rfl) (Nat.le_of_eq (Nat.zero_add _)) (Nat.le_of_eq (Nat.zero_add _)) (fun v w sz q => ?_)
  obtain ⟨rfl, hw9, hs9⟩ := q
  obtain rfl := hw9.symm
  obtain rfl := hs9.symm
  have ha1 := iat_r (x := iShr x 4) (n := 16) (by omega)
  generalize iat (iShr x 4) 16 = a1 at ha1 ⊢
  refine V_istore dL_act_43 (by decide) ?_
  refine V_iload_n dL_act_45 3 rfl rfl ?_
  refine V_iconst dL_act_46 ?_
  refine V_ishrZ dL_act_47 (by first | omega | (dsimp only; omega) | exact iAnd_0 | exact iOr_0 | exact iShl_0 | exact iShr_0) (by first | omega | (dsimp only; omega) | exact iAnd_0 | exact iOr_0 | exact iShl_0 | exact iShr_0) ?_
  refine V_bipush dL_act_48 (by decide) ?_
  refine V_c_L_53 rfl (by decide) (l_at (by have := iShr_l (a := y) (s := 4) hy.1; have := iShr_0 (a := y) (b := 4); omega) (by omega)) dL_act_50 rfl rfl (Nat.le_of_ble_eq_true rfl) (Nat.le_of_eq (Nat.zero_add _)) (Nat.le_of_eq (Nat.zero_add _)) (fun v w sz q => ?_)
  obtain ⟨rfl, hw9, hs9⟩ := q
  obtain rfl := hw9.symm
  obtain rfl := hs9.symm
  have hb1 := iat_r (x := iShr y 4) (n := 10) (by omega)
  generalize iat (iShr y 4) 10 = b1 at hb1 ⊢
  refine V_istore dL_act_53 (by decide) ?_
  have J92 : ∀ s : Int, (0 ≤ s ∧ s ≤ 99) → V iL_act Z 3 18 w0 sz 92 [some (.ref χ), some (xI a), some (xI x), some (xI y), some (.ref (χ + 37)), some (.ref (χ + 38)), some (.ref (χ + 41)), some (.ref (χ + 43)), some (xI u), some (xI v), some (xI a1), some (xI b1), none, none, none, none, none, none] [xI s] := by
    intro s hs
    refine V_istore dL_act_92 (by decide) ?_
    refine V_iconst dL_act_94 ?_
    refine V_istore dL_act_95 (by decide) ?_
    refine V_iconst dL_act_97 ?_
    refine V_istore dL_act_98 (by decide) ?_
    have L100 : ∀ k : Int, 0 ≤ k → k ≤ 160 → ∀ (w : WD) (G : Int → Int), UA w0 w (χ + 37) (xPA 20 G) → B7 G → (∀ c, 0 ≤ c → c < 160 → G c = if c < k ∧ irect u v a1 b1 c then s else P.1 c) → V iL_act Z 3 18 w sz 100 [some (.ref χ), some (xI a), some (xI x), some (xI y), some (.ref (χ + 37)), some (.ref (χ + 38)), some (.ref (χ + 41)), some (.ref (χ + 43)), some (xI u), some (xI v), some (xI a1), some (xI b1), some (xI s), some (xI (isum (rcD P.1 u v a1 b1 s) k)), some (xI k), none, none, none] [] := by
      refine up_ind ?_
      intro k hk0 hk1 ih
      intro w G hU hG hG2
      refine V_iload dL_act_100 rfl ?_
      refine V_sipush dL_act_102 (by decide) ?_
      refine V_icmp_ge 244 dL_act_105 (by decide) (by omega) (fun h105 => ?_) (fun h105 => ?_)
      · have hk160 : k = 160 := by omega
        subst hk160
        obtain ⟨P2, hR, hS2, hz1, hz2⟩ := draw_ex (P := P) (u := u) (v := v) (a := a1) (b := b1) (s := s) hu (by omega) hs
        have hAF : AF w0 w sz sz χ := (AF.rf hN).U hU (Or.inl rfl) (by have := hA.hs hN; omega)
        have hC2 := hAF.C hN hC
        have hLQ : LQ P2.1 G gl prf n := hP.pic hG (fun k k0 k1 => by rw [hG2 k k0 k1, hz1 k k0 k1]; by_cases q : irect u v a1 b1 k; rw [if_pos ⟨k1, q⟩, if_pos q]; rw [if_neg (fun q2 => q q2.2), if_neg q]) hz2
        refine V_aload_n dL_act_244 0 rfl rfl ?_
        refine V_iload dL_act_245 rfl ?_
        refine V_iload dL_act_247 rfl ?_
        refine V_iload dL_act_249 rfl ?_
        refine V_iload dL_act_251 rfl ?_
        refine V_iload dL_act_253 rfl ?_
        refine V_c_L_68 rfl (kc' := 0) (ks' := 0) (by decide) ((c_draw hC2 hI hAF.2.1 ((hA.g hU).hs hAF.2.1) (by omega)).w2 hR) dL_act_255 hC2.1 rfl rfl (Nat.le_of_ble_eq_true rfl) (by omega) (by omega) (fun v w1 sz1 q => ?_)
        obtain ⟨rfl, hT1, hC1⟩ := q
        refine V_iload dL_act_258 rfl ?_
        refine V_icmp_neS (t := 267) (rfl) dL_act_260 (by decide) ?_
        refine V_iconst dL_act_263 ?_
        refine V_goto 268 dL_act_264 (by decide) ?_
        exact V_zret (b := true) hE rfl dL_act_268 ⟨rfl, P2, G, gl, prf, dd, draw_inv hI hR, hS2, by rw [hdn]; exact hLQ, hT1.1, hC1, (hA.g hU).T hT1, hAF.K hN hT1⟩
      · refine V_iload dL_act_108 rfl ?_
        refine V_bipush dL_act_110 (by decide) ?_
        refine V_iremN dL_act_112 (by first | omega | (dsimp only; omega) | exact iAnd_0 | exact iOr_0 | exact iShl_0 | exact iShr_0) ?_
        refine V_istore dL_act_113 (by decide) ?_
        refine V_iload dL_act_115 rfl ?_
        refine V_bipush dL_act_117 (by decide) ?_
        refine V_idivN dL_act_119 (by first | omega | (dsimp only; omega) | exact iAnd_0 | exact iOr_0 | exact iShl_0 | exact iShr_0) ?_
        refine V_istore dL_act_120 (by decide) ?_
        have J238 : ∀ (w : WD) (G : Int → Int), UA w0 w (χ + 37) (xPA 20 G) → B7 G → (∀ c, 0 ≤ c → c < 160 → G c = if c < k + 1 ∧ irect u v a1 b1 c then s else P.1 c) → V iL_act Z 3 18 w sz 238 [some (.ref χ), some (xI a), some (xI x), some (xI y), some (.ref (χ + 37)), some (.ref (χ + 38)), some (.ref (χ + 41)), some (.ref (χ + 43)), some (xI u), some (xI v), some (xI a1), some (xI b1), some (xI s), some (xI (isum (rcD P.1 u v a1 b1 s) (k + 1))), some (xI k), some (xI (k % 16)), some (xI (k / 16)), none] [] := by
          intro w G hU hG hG2
          refine V_iinc dL_act_238 rfl (by decide) ?_
          refine V_goto 100 dL_act_241 (by decide) ?_
          refine V_fg [true, true, true, true, true, true, true, true, true, true, true, true, true, true, true, false, false, false] ?_
          exact ih (by omega) _ _ hU hG hG2
        have J138 : ∀ mn : Int, (mn ≤ u ∧ mn ≤ a1 ∧ (mn = u ∨ mn = a1)) → V iL_act Z 3 18 w sz 138 [some (.ref χ), some (xI a), some (xI x), some (xI y), some (.ref (χ + 37)), some (.ref (χ + 38)), some (.ref (χ + 41)), some (.ref (χ + 43)), some (xI u), some (xI v), some (xI a1), some (xI b1), some (xI s), some (xI (isum (rcD P.1 u v a1 b1 s) k)), some (xI k), some (xI (k % 16)), some (xI (k / 16)), none] [xI mn, xI (k % 16)] := by
          intro mn hmn
          refine V_icmp_lt 238 dL_act_138 (by decide) (by omega) (fun h138 => ?_) (fun h138 => ?_)
          · rw [show isum (rcD P.1 u v a1 b1 s) k = isum (rcD P.1 u v a1 b1 s) (k + 1) by rw [isum_s hk0, show rcD P.1 u v a1 b1 s k = 0 from if_neg (fun q => absurd q.1 (by unfold irect; omega)), Int.add_zero]]
            exact J238 w G hU hG (fun c c0 c1 => by
              rw [hG2 c c0 c1]
              by_cases q : c = k
              · rw [if_neg (by omega), if_neg (fun q2 => by rw [q] at q2; exact absurd q2.2 (by unfold irect; omega))]
              · by_cases q3 : c < k ∧ irect u v a1 b1 c
                · rw [if_pos q3, if_pos ⟨by omega, q3.2⟩]
                · rw [if_neg q3, if_neg (fun q4 => q3 ⟨by omega, q4.2⟩)])
          · have J157 : ∀ mx : Int, (mx ≥ u ∧ mx ≥ a1 ∧ (mx = u ∨ mx = a1)) → V iL_act Z 3 18 w sz 157 [some (.ref χ), some (xI a), some (xI x), some (xI y), some (.ref (χ + 37)), some (.ref (χ + 38)), some (.ref (χ + 41)), some (.ref (χ + 43)), some (xI u), some (xI v), some (xI a1), some (xI b1), some (xI s), some (xI (isum (rcD P.1 u v a1 b1 s) k)), some (xI k), some (xI (k % 16)), some (xI (k / 16)), none] [xI mx, xI (k % 16)] := by
              intro mx hmx
              refine V_icmp_gt 238 dL_act_157 (by decide) (by omega) (fun h157 => ?_) (fun h157 => ?_)
              · rw [show isum (rcD P.1 u v a1 b1 s) k = isum (rcD P.1 u v a1 b1 s) (k + 1) by rw [isum_s hk0, show rcD P.1 u v a1 b1 s k = 0 from if_neg (fun q => absurd q.1 (by unfold irect; omega)), Int.add_zero]]
                exact J238 w G hU hG (fun c c0 c1 => by
                  rw [hG2 c c0 c1]
                  by_cases q : c = k
                  · rw [if_neg (by omega), if_neg (fun q2 => by rw [q] at q2; exact absurd q2.2 (by unfold irect; omega))]
                  · by_cases q3 : c < k ∧ irect u v a1 b1 c
                    · rw [if_pos q3, if_pos ⟨by omega, q3.2⟩]
                    · rw [if_neg q3, if_neg (fun q4 => q3 ⟨by omega, q4.2⟩)])
              · have J176 : ∀ my : Int, (my ≤ v ∧ my ≤ b1 ∧ (my = v ∨ my = b1)) → V iL_act Z 3 18 w sz 176 [some (.ref χ), some (xI a), some (xI x), some (xI y), some (.ref (χ + 37)), some (.ref (χ + 38)), some (.ref (χ + 41)), some (.ref (χ + 43)), some (xI u), some (xI v), some (xI a1), some (xI b1), some (xI s), some (xI (isum (rcD P.1 u v a1 b1 s) k)), some (xI k), some (xI (k % 16)), some (xI (k / 16)), none] [xI my, xI (k / 16)] := by
                  intro my hmy
                  refine V_icmp_lt 238 dL_act_176 (by decide) (by omega) (fun h176 => ?_) (fun h176 => ?_)
                  · rw [show isum (rcD P.1 u v a1 b1 s) k = isum (rcD P.1 u v a1 b1 s) (k + 1) by rw [isum_s hk0, show rcD P.1 u v a1 b1 s k = 0 from if_neg (fun q => absurd q.1 (by unfold irect; omega)), Int.add_zero]]
                    exact J238 w G hU hG (fun c c0 c1 => by
                      rw [hG2 c c0 c1]
                      by_cases q : c = k
                      · rw [if_neg (by omega), if_neg (fun q2 => by rw [q] at q2; exact absurd q2.2 (by unfold irect; omega))]
                      · by_cases q3 : c < k ∧ irect u v a1 b1 c
                        · rw [if_pos q3, if_pos ⟨by omega, q3.2⟩]
                        · rw [if_neg q3, if_neg (fun q4 => q3 ⟨by omega, q4.2⟩)])
                  · have J195 : ∀ mz : Int, (mz ≥ v ∧ mz ≥ b1 ∧ (mz = v ∨ mz = b1)) → V iL_act Z 3 18 w sz 195 [some (.ref χ), some (xI a), some (xI x), some (xI y), some (.ref (χ + 37)), some (.ref (χ + 38)), some (.ref (χ + 41)), some (.ref (χ + 43)), some (xI u), some (xI v), some (xI a1), some (xI b1), some (xI s), some (xI (isum (rcD P.1 u v a1 b1 s) k)), some (xI k), some (xI (k % 16)), some (xI (k / 16)), none] [xI mz, xI (k / 16)] := by
                      intro mz hmz
                      refine V_icmp_le 201 dL_act_195 (by decide) (by omega) (fun h195 => ?_) (fun h195 => ?_)
                      · have hir : irect u v a1 b1 k := by unfold irect; omega
                        have J223 : ∀ e : Int, e = (if P.1 k ≠ s then 1 else 0) → V iL_act Z 3 18 w sz 223 [some (.ref χ), some (xI a), some (xI x), some (xI y), some (.ref (χ + 37)), some (.ref (χ + 38)), some (.ref (χ + 41)), some (.ref (χ + 43)), some (xI u), some (xI v), some (xI a1), some (xI b1), some (xI s), some (xI (isum (rcD P.1 u v a1 b1 s) k)), some (xI k), some (xI (k % 16)), some (xI (k / 16)), none] [xI e, xI (isum (rcD P.1 u v a1 b1 s) k)] := by
                          intro e he
                          refine V_iadd dL_act_223 ?_
                          rw [show isum (rcD P.1 u v a1 b1 s) k + e = isum (rcD P.1 u v a1 b1 s) (k + 1) by rw [isum_s hk0, he]; unfold rcD; congr 1; by_cases q : P.1 k = s; rw [if_neg (fun z => z q), if_neg (fun z => z.2 q)]; rw [if_pos q, if_pos ⟨hir, q⟩]]
                          refine V_istore dL_act_224 (by decide) ?_
                          refine V_aload dL_act_226 rfl ?_
                          refine V_iconst dL_act_228 ?_
                          refine V_iload dL_act_229 rfl ?_
                          refine V_iload dL_act_231 rfl ?_
                          refine V_iload dL_act_233 rfl ?_
                          refine V_c_L_34 rfl (by decide) (l_put (n := 20) hU.1 hG (by omega) (by omega) (by omega) (by omega) (by omega)) dL_act_235 rfl rfl (Nat.le_of_ble_eq_true rfl) (Nat.le_of_eq (Nat.zero_add _)) (Nat.le_of_eq (Nat.zero_add _)) (fun v w1 sz1 q => ?_)
                          obtain ⟨rfl, hw9, hs9⟩ := q
                          obtain rfl := hw9.symm
                          obtain rfl := hs9.symm
                          rw [show 8 * 0 + 16 * (k / 16) + k % 16 = k by omega]
                          have hU := (hU.u : UA w0 (xU w (χ + 37) (xPA 20 (iu G k s))) (χ + 37) _)
                          have hG2 : ∀ c, 0 ≤ c → c < 160 → iu G k s c = if c < k + 1 ∧ irect u v a1 b1 c then s else P.1 c := fun c c0 c1 => by
                            by_cases q : c = k
                            · rw [q, iu_s, if_pos ⟨by omega, hir⟩]
                            · rw [iu_n q, hG2 c c0 c1]
                              by_cases q3 : c < k ∧ irect u v a1 b1 c
                              · rw [if_pos q3, if_pos ⟨by omega, q3.2⟩]
                              · rw [if_neg q3, if_neg (fun q4 => q3 ⟨by omega, q4.2⟩)]
                          have hG := hG.u (k := k) (v := s) (by omega)
                          exact J238 _ _ hU hG hG2
                        refine V_iload dL_act_201 rfl ?_
                        refine V_aload dL_act_203 rfl ?_
                        refine V_iconst dL_act_205 ?_
                        refine V_iload dL_act_206 rfl ?_
                        refine V_iload dL_act_208 rfl ?_
                        refine V_c_L_12 rfl (by decide) (l_of (n := 20) hU.1 hG (by omega) (by omega) (by omega) (by omega)) dL_act_210 rfl rfl (Nat.le_of_ble_eq_true rfl) (Nat.le_of_eq (Nat.zero_add _)) (Nat.le_of_eq (Nat.zero_add _)) (fun v w sz q => ?_)
                        obtain ⟨rfl, hw9, hs9⟩ := q
                        obtain rfl := hw9.symm
                        obtain rfl := hs9.symm
                        rw [show 8 * 0 + 16 * (k / 16) + k % 16 = k by omega, hG2 k hk0 (by omega), if_neg (fun q => absurd q.1 (by omega))]
                        refine V_iload dL_act_213 rfl ?_
                        have hvk := hI.1.1 k hk0 (by omega)
                        refine V_icmp_eq 222 dL_act_215 (by decide) (by omega) (fun h215 => ?_) (fun h215 => ?_)
                        · refine V_iconst dL_act_222 ?_
                          exact J223 _ (by first | exact (if_pos (by omega)).symm | exact (if_neg (by omega)).symm)
                        · refine V_iconst dL_act_218 ?_
                          refine V_goto 223 dL_act_219 (by decide) ?_
                          exact J223 _ (by first | exact (if_pos (by omega)).symm | exact (if_neg (by omega)).symm)
                      · refine V_goto 238 dL_act_198 (by decide) ?_
                        rw [show isum (rcD P.1 u v a1 b1 s) k = isum (rcD P.1 u v a1 b1 s) (k + 1) by rw [isum_s hk0, show rcD P.1 u v a1 b1 s k = 0 from if_neg (fun q => absurd q.1 (by unfold irect; omega)), Int.add_zero]]
                        exact J238 w G hU hG (fun c c0 c1 => by
                          rw [hG2 c c0 c1]
                          by_cases q : c = k
                          · rw [if_neg (by omega), if_neg (fun q2 => by rw [q] at q2; exact absurd q2.2 (by unfold irect; omega))]
                          · by_cases q3 : c < k ∧ irect u v a1 b1 c
                            · rw [if_pos q3, if_pos ⟨by omega, q3.2⟩]
                            · rw [if_neg q3, if_neg (fun q4 => q3 ⟨by omega, q4.2⟩)])
                    refine V_iload dL_act_179 rfl ?_
                    refine V_iload dL_act_181 rfl ?_
                    refine V_iload dL_act_183 rfl ?_
                    refine V_icmp_ge 193 dL_act_185 (by decide) (by omega) (fun h185 => ?_) (fun h185 => ?_)
                    · refine V_iload dL_act_193 rfl ?_
                      exact J195 _ (by omega)
                    · refine V_iload dL_act_188 rfl ?_
                      refine V_goto 195 dL_act_190 (by decide) ?_
                      exact J195 _ (by omega)
                refine V_iload dL_act_160 rfl ?_
                refine V_iload dL_act_162 rfl ?_
                refine V_iload dL_act_164 rfl ?_
                refine V_icmp_ge 174 dL_act_166 (by decide) (by omega) (fun h166 => ?_) (fun h166 => ?_)
                · refine V_iload dL_act_174 rfl ?_
                  exact J176 _ (by omega)
                · refine V_iload dL_act_169 rfl ?_
                  refine V_goto 176 dL_act_171 (by decide) ?_
                  exact J176 _ (by omega)
            refine V_iload dL_act_141 rfl ?_
            refine V_iload dL_act_143 rfl ?_
            refine V_iload dL_act_145 rfl ?_
            refine V_icmp_ge 155 dL_act_147 (by decide) (by omega) (fun h147 => ?_) (fun h147 => ?_)
            · refine V_iload dL_act_155 rfl ?_
              exact J157 _ (by omega)
            · refine V_iload dL_act_150 rfl ?_
              refine V_goto 157 dL_act_152 (by decide) ?_
              exact J157 _ (by omega)
        refine V_iload dL_act_122 rfl ?_
        refine V_iload dL_act_124 rfl ?_
        refine V_iload dL_act_126 rfl ?_
        refine V_icmp_ge 136 dL_act_128 (by decide) (by omega) (fun h128 => ?_) (fun h128 => ?_)
        · refine V_iload dL_act_136 rfl ?_
          exact J138 _ (by omega)
        · refine V_iload dL_act_131 rfl ?_
          refine V_goto 138 dL_act_133 (by decide) ?_
          exact J138 _ (by omega)
    refine V_fg [true, true, true, true, true, true, true, true, true, true, true, true, true, true, true, false, false, false] ?_
    exact L100 0 (by omega) (by omega) w0 g (UA.rf hA.1) hP.1 (fun c c0 c1 => by rw [if_neg (by omega)]; exact hP.2.2.1 c c0 c1)
  refine V_iload_n dL_act_55 2 rfl rfl ?_
  refine V_bipush dL_act_56 (by decide) ?_
  refine V_ishrZ dL_act_58 (by first | omega | (dsimp only; omega) | exact iAnd_0 | exact iOr_0 | exact iShl_0 | exact iShr_0) (by first | omega | (dsimp only; omega) | exact iAnd_0 | exact iOr_0 | exact iShl_0 | exact iShr_0) ?_
  refine V_iconst dL_act_59 ?_
  refine V_c_L_53 rfl (by decide) (l_at (by have := iShr_l (a := x) (s := 8) hx.1; have := iShr_0 (a := x) (b := 8); omega) (by omega)) dL_act_60 rfl rfl (Nat.le_of_ble_eq_true rfl) (Nat.le_of_eq (Nat.zero_add _)) (Nat.le_of_eq (Nat.zero_add _)) (fun v w sz q => ?_)
  obtain ⟨rfl, hw9, hs9⟩ := q
  obtain rfl := hw9.symm
  obtain rfl := hs9.symm
  have ht1 := iat_r (x := iShr x 8) (n := 3) (by omega)
  generalize iat (iShr x 8) 3 = t1 at ht1 ⊢
  refine V_if_ne 78 dL_act_63 (by decide) (by omega) (fun h63 => ?_) (fun h63 => ?_)
  · refine V_bipush dL_act_78 (by decide) ?_
    refine V_bipush dL_act_80 (by decide) ?_
    refine V_iload_n dL_act_82 3 rfl rfl ?_
    refine V_bipush dL_act_83 (by decide) ?_
    refine V_ishrZ dL_act_85 (by first | omega | (dsimp only; omega) | exact iAnd_0 | exact iOr_0 | exact iShl_0 | exact iShr_0) (by first | omega | (dsimp only; omega) | exact iAnd_0 | exact iOr_0 | exact iShl_0 | exact iShr_0) ?_
    refine V_iconst dL_act_86 ?_
    refine V_c_L_53 rfl (by decide) (l_at (by have := iShr_l (a := y) (s := 8) hy.1; have := iShr_0 (a := y) (b := 8); omega) (by omega)) dL_act_87 rfl rfl (Nat.le_of_ble_eq_true rfl) (Nat.le_of_eq (Nat.zero_add _)) (Nat.le_of_eq (Nat.zero_add _)) (fun v w sz q => ?_)
    obtain ⟨rfl, hw9, hs9⟩ := q
    obtain rfl := hw9.symm
    obtain rfl := hs9.symm
    have ht3 := iat_r (x := iShr y 8) (n := 4) (by omega)
    generalize iat (iShr y 8) 4 = t3 at ht3 ⊢
    refine V_imul dL_act_90 ?_
    refine V_iadd dL_act_91 ?_
    exact J92 _ (by omega)
  · refine V_iload_n dL_act_66 3 rfl rfl ?_
    refine V_bipush dL_act_67 (by decide) ?_
    refine V_ishrZ dL_act_69 (by first | omega | (dsimp only; omega) | exact iAnd_0 | exact iOr_0 | exact iShl_0 | exact iShr_0) (by first | omega | (dsimp only; omega) | exact iAnd_0 | exact iOr_0 | exact iShl_0 | exact iShr_0) ?_
    refine V_bipush dL_act_70 (by decide) ?_
    refine V_c_L_53 rfl (by decide) (l_at (by have := iShr_l (a := y) (s := 8) hy.1; have := iShr_0 (a := y) (b := 8); omega) (by omega)) dL_act_72 rfl rfl (Nat.le_of_ble_eq_true rfl) (Nat.le_of_eq (Nat.zero_add _)) (Nat.le_of_eq (Nat.zero_add _)) (fun v w sz q => ?_)
    obtain ⟨rfl, hw9, hs9⟩ := q
    obtain rfl := hw9.symm
    obtain rfl := hs9.symm
    have ht2 := iat_r (x := iShr y 8) (n := 100) (by omega)
    generalize iat (iShr y 8) 100 = t2 at ht2 ⊢
    refine V_goto 92 dL_act_75 (by decide) ?_
    exact J92 _ (by omega)
set_option maxRecDepth 100000 in
set_option maxHeartbeats 4000000 in
theorem act_fill {Z : XZ} {w0 : WD} {χ sz : Nat} {P : MP} {g gl prf dd : Int → Int} {n a x y u v : Int} (hE : xEnd Z (QA w0 χ P)) (hI : MInv P) (hP : LQ P.1 g gl prf n) (hdn : dd 0 = n) (hN : WN w0 sz) (hC : CP w0 χ P) (hA : LA w0 χ g gl prf dd) (hu : iCell u v) (ha : 0 ≤ a ∧ a < 14) (hx : 0 ≤ x ∧ x < 2147483648) (hy : 0 ≤ y ∧ y < 2147483648) : V iL_act Z 1 6 w0 sz 564 [some (.ref χ), some (xI a), some (xI x), some (xI y), some (.ref (χ + 37)), some (.ref (χ + 38)), some (.ref (χ + 41)), some (.ref (χ + 43)), some (xI u), some (xI v), none, none, none, none, none, none, none, none] [] := by
  refine V_iload_n dL_act_564 3 rfl rfl ?_
  refine V_bipush dL_act_565 (by decide) ?_
  refine V_c_L_53 rfl (by decide) (l_at hy (by omega)) dL_act_567 rfl rfl (Nat.le_of_ble_eq_true rfl) (Nat.le_of_eq (Nat.zero_add _)) (Nat.le_of_eq (Nat.zero_add _)) (fun v w sz q => ?_)
  obtain ⟨rfl, hw9, hs9⟩ := q
  obtain rfl := hw9.symm
  obtain rfl := hs9.symm
  have hs := iat_r (x := y) (n := 100) (by omega)
  generalize iat (y) 100 = s at hs ⊢
  refine V_istore dL_act_570 (by decide) ?_
  refine V_iconst dL_act_572 ?_
  refine V_istore dL_act_573 (by decide) ?_
  refine V_iconst dL_act_575 ?_
  refine V_istore dL_act_576 (by decide) ?_
  have L578 : ∀ k : Int, 0 ≤ k → k ≤ 160 → ∀ (w : WD) (G : Int → Int), UA w0 w (χ + 37) (xPA 20 G) → B7 G → (∀ c, 0 ≤ c → c < 160 → G c = if c < k then ifil (P.1 c) s (imS P.1 c) else P.1 c) → V iL_act Z 1 6 w sz 578 [some (.ref χ), some (xI a), some (xI x), some (xI y), some (.ref (χ + 37)), some (.ref (χ + 38)), some (.ref (χ + 41)), some (.ref (χ + 43)), some (xI u), some (xI v), some (xI s), some (xI (isum (flD P.1 s) k)), some (xI k), none, none, none, none, none] [] := by
    refine up_ind ?_
    intro k hk0 hk1 ih
    intro w G hU hG hG2
    refine V_iload dL_act_578 rfl ?_
    refine V_sipush dL_act_580 (by decide) ?_
    refine V_icmp_ge 678 dL_act_583 (by decide) (by omega) (fun h583 => ?_) (fun h583 => ?_)
    · have hk160 : k = 160 := by omega
      subst hk160
      obtain ⟨P2, hR, hS2, hz1, hz2⟩ := fill_ex (P := P) (s := s) (by omega)
      have hAF : AF w0 w sz sz χ := (AF.rf hN).U hU (Or.inl rfl) (by have := hA.hs hN; omega)
      have hC2 := hAF.C hN hC
      have hLQ : LQ P2.1 G gl prf n := hP.pic hG (fun k k0 k1 => by rw [hG2 k k0 k1, hz1 k k0 k1, if_pos k1]) hz2
      refine V_aload_n dL_act_678 0 rfl rfl ?_
      refine V_iload dL_act_679 rfl ?_
      refine V_c_L_91 rfl (kc' := 0) (ks' := 0) (by decide) ((c_fill hC2 hI hAF.2.1 ((hA.g hU).hs hAF.2.1) (by omega)).w1 hR) dL_act_681 hC2.1 rfl rfl (Nat.le_of_ble_eq_true rfl) (by omega) (by omega) (fun v w1 sz1 q => ?_)
      obtain ⟨rfl, hT1, hC1⟩ := q
      refine V_iload dL_act_684 rfl ?_
      refine V_icmp_neS (t := 693) (rfl) dL_act_686 (by decide) ?_
      refine V_iconst dL_act_689 ?_
      refine V_goto 694 dL_act_690 (by decide) ?_
      exact V_zret (b := true) hE rfl dL_act_694 ⟨rfl, P2, G, gl, prf, dd, fill_inv hI hR, hS2, by rw [hdn]; exact hLQ, hT1.1, hC1, (hA.g hU).T hT1, hAF.K hN hT1⟩
    · refine V_aload dL_act_586 rfl ?_
      refine V_iconst dL_act_588 ?_
      refine V_iload dL_act_589 rfl ?_
      refine V_bipush dL_act_591 (by decide) ?_
      refine V_iremN dL_act_593 (by first | omega | (dsimp only; omega) | exact iAnd_0 | exact iOr_0 | exact iShl_0 | exact iShr_0) ?_
      refine V_iload dL_act_594 rfl ?_
      refine V_bipush dL_act_596 (by decide) ?_
      refine V_idivN dL_act_598 (by first | omega | (dsimp only; omega) | exact iAnd_0 | exact iOr_0 | exact iShl_0 | exact iShr_0) ?_
      refine V_c_L_12 rfl (by decide) (l_of (n := 20) hU.1 hG (by omega) (by omega) (by omega) (by omega)) dL_act_599 rfl rfl (Nat.le_of_ble_eq_true rfl) (Nat.le_of_eq (Nat.zero_add _)) (Nat.le_of_eq (Nat.zero_add _)) (fun v w sz q => ?_)
      obtain ⟨rfl, hw9, hs9⟩ := q
      obtain rfl := hw9.symm
      obtain rfl := hs9.symm
      rw [show 8 * 0 + 16 * (k / 16) + k % 16 = k by omega, hG2 k hk0 (by omega), if_neg (by omega)]
      have hvk := hI.1.1 k hk0 (by omega)
      have hm : 0 ≤ imS P.1 k ∧ imS P.1 k ≤ 100 := imsk_b hI.1 (c := k) (by omega) (P.1 160) (by have := hI.1.2.1; omega) (Int.le_refl _)
      have hmb := mulb (a := s - P.1 k) (m := imS P.1 k) (by omega) hm
      have hfb := ifil_b (z := P.1 k) (s := s) (m := imS P.1 k) hvk (by omega) hm
      refine V_istore dL_act_602 (by decide) ?_
      refine V_iload dL_act_604 rfl ?_
      refine V_iload dL_act_606 rfl ?_
      refine V_iload dL_act_608 rfl ?_
      refine V_isub dL_act_610 ?_
      refine V_iload dL_act_611 rfl ?_
      refine V_bipush dL_act_613 (by decide) ?_
      refine V_iremN dL_act_615 (by first | omega | (dsimp only; omega) | exact iAnd_0 | exact iOr_0 | exact iShl_0 | exact iShr_0) ?_
      refine V_iload dL_act_616 rfl ?_
      refine V_bipush dL_act_618 (by decide) ?_
      refine V_idivN dL_act_620 (by first | omega | (dsimp only; omega) | exact iAnd_0 | exact iOr_0 | exact iShl_0 | exact iShr_0) ?_
      refine V_aload dL_act_621 rfl ?_
      refine V_aload dL_act_623 rfl ?_
      refine V_aload dL_act_625 rfl ?_
      refine V_c_L_39 rfl (by decide) (l_mask (hA.g hU).2.1 (hA.g hU).2.2.1 (hA.g hU).2.2.2 hdn hP hI.1 (by omega)) dL_act_627 rfl rfl (Nat.le_of_ble_eq_true rfl) (Nat.le_of_eq (Nat.zero_add _)) (Nat.le_of_eq (Nat.zero_add _)) (fun v w sz q => ?_)
      obtain ⟨rfl, hw9, hs9⟩ := q
      obtain rfl := hw9.symm
      obtain rfl := hs9.symm
      rw [show 16 * (k / 16) + k % 16 = k by omega]
      refine V_imul dL_act_630 ?_
      refine V_bipush dL_act_631 (by decide) ?_
      refine V_idiv dL_act_633 (by omega) (by omega) ?_
      refine V_iadd dL_act_634 ?_
      rw [show P.1 k + ((s - P.1 k) * imS P.1 k).tdiv 100 = ifil (P.1 k) s (imS P.1 k) from rfl]
      refine V_istore dL_act_635 (by decide) ?_
      have J651 : ∀ e : Int, e = (if ifil (P.1 k) s (imS P.1 k) ≠ P.1 k then 1 else 0) → V iL_act Z 1 6 w sz 651 [some (.ref χ), some (xI a), some (xI x), some (xI y), some (.ref (χ + 37)), some (.ref (χ + 38)), some (.ref (χ + 41)), some (.ref (χ + 43)), some (xI u), some (xI v), some (xI s), some (xI (isum (flD P.1 s) k)), some (xI k), some (xI (P.1 k)), some (xI (ifil (P.1 k) s (imS P.1 k))), none, none, none] [xI e, xI (isum (flD P.1 s) k)] := by
        intro e he
        refine V_iadd dL_act_651 ?_
        rw [show isum (flD P.1 s) k + e = isum (flD P.1 s) (k + 1) by rw [isum_s hk0, he]; rfl]
        refine V_istore dL_act_652 (by decide) ?_
        refine V_aload dL_act_654 rfl ?_
        refine V_iconst dL_act_656 ?_
        refine V_iload dL_act_657 rfl ?_
        refine V_bipush dL_act_659 (by decide) ?_
        refine V_iremN dL_act_661 (by first | omega | (dsimp only; omega) | exact iAnd_0 | exact iOr_0 | exact iShl_0 | exact iShr_0) ?_
        refine V_iload dL_act_662 rfl ?_
        refine V_bipush dL_act_664 (by decide) ?_
        refine V_idivN dL_act_666 (by first | omega | (dsimp only; omega) | exact iAnd_0 | exact iOr_0 | exact iShl_0 | exact iShr_0) ?_
        refine V_iload dL_act_667 rfl ?_
        refine V_c_L_34 rfl (by decide) (l_put (n := 20) hU.1 hG (by omega) (by omega) (by omega) (by omega) (by omega)) dL_act_669 rfl rfl (Nat.le_of_ble_eq_true rfl) (Nat.le_of_eq (Nat.zero_add _)) (Nat.le_of_eq (Nat.zero_add _)) (fun v w1 sz1 q => ?_)
        obtain ⟨rfl, hw9, hs9⟩ := q
        obtain rfl := hw9.symm
        obtain rfl := hs9.symm
        rw [show 8 * 0 + 16 * (k / 16) + k % 16 = k by omega]
        have hU := (hU.u : UA w0 (xU w (χ + 37) (xPA 20 (iu G k (ifil (P.1 k) s (imS P.1 k))))) (χ + 37) _)
        have hG2 : ∀ c, 0 ≤ c → c < 160 → iu G k (ifil (P.1 k) s (imS P.1 k)) c = if c < k + 1 then ifil (P.1 c) s (imS P.1 c) else P.1 c := fun c c0 c1 => by
          by_cases q : c = k
          · rw [q, iu_s, if_pos (by omega)]
          · rw [iu_n q, hG2 c c0 c1]
            by_cases q3 : c < k
            · rw [if_pos q3, if_pos (by omega)]
            · rw [if_neg q3, if_neg (by omega)]
        have hG := hG.u (k := k) (v := ifil (P.1 k) s (imS P.1 k)) (by omega)
        refine V_iinc dL_act_672 rfl (by decide) ?_
        refine V_goto 578 dL_act_675 (by decide) ?_
        refine V_fg [true, true, true, true, true, true, true, true, true, true, true, true, true, false, false, false, false, false] ?_
        exact ih (by omega) _ _ hU hG hG2
      refine V_iload dL_act_637 rfl ?_
      refine V_iload dL_act_639 rfl ?_
      refine V_iload dL_act_641 rfl ?_
      refine V_icmp_eq 650 dL_act_643 (by decide) (by omega) (fun h643 => ?_) (fun h643 => ?_)
      · refine V_iconst dL_act_650 ?_
        exact J651 _ (by first | exact (if_pos (by omega)).symm | exact (if_neg (by omega)).symm)
      · refine V_iconst dL_act_646 ?_
        refine V_goto 651 dL_act_647 (by decide) ?_
        exact J651 _ (by first | exact (if_pos (by omega)).symm | exact (if_neg (by omega)).symm)
  refine V_fg [true, true, true, true, true, true, true, true, true, true, true, true, true, false, false, false, false, false] ?_
  exact L578 0 (by omega) (by omega) w0 g (UA.rf hA.1) hP.1 (fun c c0 c1 => by rw [if_neg (by omega)]; exact hP.2.2.1 c c0 c1)
