/-! p25's law: its turns -/
abbrev iL_law : XI := (yL_law, cL_law, 14, (some .boolean), 10, 207, [])
theorem inv_0 {f : Int → Int} (hf : ∀ j, 0 ≤ j → j < 2189 → f j = if j < 160 then 50 else 0) : MInv (f, 0, (fun _ => 0), 0, (fun _ => 0)) := by
  have e160 : f 160 = 0 := (hf 160 (by omega) (by omega)).trans (if_neg (by omega))
  refine ⟨⟨fun k h1 h2 => ?_, by show 0 ≤ f 160 ∧ f 160 ≤ 12; omega, fun p h1 h2 => ?_⟩, ⟨by show (0 : Int) ≤ 0; omega, by show (0 : Int) ≤ 6; omega⟩, fun i h1 h2 => ?_, ⟨by show (0 : Int) ≤ 0; omega, by show (0 : Int) ≤ 60; omega⟩, fun j h1 h2 => ?_⟩
  · have e := hf k h1 (by omega)
    rw [if_pos h2] at e
    show 0 ≤ f k ∧ f k ≤ 99
    omega
  · have h3 : p < f 160 := h2
    omega
  · have h3 : i < 0 := h2
    omega
  · have h3 : j < 0 := h2
    omega
theorem und_inv2 {P P' : MP} {t r : Int} (h : MInv P) (hR : undR P t r P') : MInv P' := by
  rcases hR with ⟨_, _, rfl⟩ | ⟨h1, _, _, f, rfl, h5⟩
  · exact h
  · exact und_inv h h1 h5
theorem und_ex {P P1 : MP} (hI : MInv P) (hS : SavR P P1) : ∃ P3 : MP, undR P1 0 (P1.2.1 - 1) P3 ∧ ∀ j, 0 ≤ j → j < 2189 → P3.1 j = P.1 j := by
  obtain ⟨h1, h2, h3⟩ := hS
  have hb : 0 ≤ isv P.2.1 := by
    have := hI.2.1
    unfold isv
    split <;> omega
  refine ⟨((fun j => P1.2.2.1 (2189 * (P1.2.1 - 1) + j)), P1.2.1 - 1, P1.2.2), Or.inr ⟨by omega, rfl, rfl, _, rfl, fun j _ _ => rfl⟩, fun j j0 j1 => ?_⟩
  show P1.2.2.1 (2189 * (P1.2.1 - 1) + j) = P.1 j
  rw [show P1.2.1 - 1 = isv P.2.1 by omega]
  exact h2.1 j j0 j1
theorem LQ.cg {z z' g gl pr g1 gl1 pr1 : Int → Int} {n : Int} (h : LQ z g gl pr n) (b1 : B7 g1) (b2 : B7 gl1) (e1 : ∀ b, 0 ≤ b → b < 160 → g1 b = g b) (e2 : ∀ b, 0 ≤ b → b < 480 → gl1 b = gl b) (e3 : ∀ i, 0 ≤ i → i < 27 → pr1 i = pr i) (ez : ∀ j, 0 ≤ j → j < 2189 → z' j = z j) : LQ z' g1 gl1 pr1 n := by
  obtain ⟨a1, a2, a3, a4, a5, a6, a7⟩ := h
  exact ⟨b1, b2, fun k k0 k1 => by rw [e1 k k0 k1, ez k k0 (by omega)]; exact a3 k k0 k1, (ez 160 (by omega) (by omega)).trans a4, a5, fun p i p0 p1 i0 i1 => by rw [e3 _ (by omega) (by omega), ez _ (by omega) (by omega)]; exact a6 p i p0 p1 i0 i1, fun p c p0 p1 c0 c1 => by rw [e2 _ (by omega) (by omega), ez _ (by omega) (by omega)]; exact a7 p c p0 p1 c0 c1⟩
/-- a long written over -/
def ov (k : Int) (h h' : Int → Int) (b : Int) : Int := if 8 * k ≤ b ∧ b < 8 * k + 8 then h b else h' b
theorem ov_pk {k : Int} {h h' : Int → Int} : iu (pk h') k (pk h k) = pk (ov k h h') := by
  funext j
  by_cases q : j = k
  · rw [q, iu_s]
    exact pk_c (fun m m0 m1 => (if_pos (by omega)).symm)
  · rw [iu_n q]
    exact pk_c (fun m m0 m1 => (if_neg (by omega)).symm)
theorem ov_b {k : Int} {h h' : Int → Int} (b1 : B7 h) (b2 : B7 h') : B7 (ov k h h') := by
  intro b
  unfold ov
  split
  · exact b1 b
  · exact b2 b
theorem ov_e {k : Int} {h h' : Int → Int} (e : ∀ b, 0 ≤ b → b < 8 * k → h' b = h b) : ∀ b, 0 ≤ b → b < 8 * (k + 1) → ov k h h' b = h b := fun b b0 b1 => by
  unfold ov
  by_cases q : 8 * k ≤ b ∧ b < 8 * k + 8
  · rw [if_pos q]
  · rw [if_neg q]
    exact e b b0 (by omega)
section LROWS5
variable {I : XI} {Z : XZ} {kc ks : Nat} {w : WD} {sz pc : Nat} {lv : List (Option Value)} {st : List Value}
theorem V_iastU {a n : Nat} {f : Int → Int} {z x : Int} (hd : decode I.cc pc = .ok (.iastore, 1)) (hw : w a = some (xIA n f)) (r : 0 ≤ z ∧ z < (n : Int)) (hn : n ≤ 60) (kk : ∀ w1, UA w w1 a (xIA n (iu f z x)) → V I Z kc ks w1 sz (pc + 1) lv st) : V I Z kc ks w sz pc lv (xI x :: xI z :: .ref a :: st) := V_iast hd hw r (kk _ (UA.st hw)) (hn := by omega)
theorem V_lastU {a n : Nat} {f : Int → Int} {z x : Int} (hd : decode I.cc pc = .ok (.lastore, 1)) (hw : w a = some (xLA n f)) (r : 0 ≤ z ∧ z < (n : Int)) (hn : n ≤ 60) (kk : ∀ w1, UA w w1 a (xLA n (iu f z x)) → V I Z kc ks w1 sz (pc + 1) lv st) : V I Z kc ks w sz pc lv (xJ x :: xI z :: .ref a :: st) := V_last hd hw r (kk _ (UA.st hw)) (hn := by omega)
/-- an int of the script without its sign -/
theorem V_iandM {x0 : Int32} (hd : decode I.cc pc = .ok (.iand, 1)) (kk : ∀ x : Int, (0 ≤ x ∧ x < 2147483648) → V I Z kc ks w sz (pc + 1) lv (xI x :: st)) : V I Z kc ks w sz pc lv (xI 2147483647 :: .int x0 :: st) := by
  have e9 : x0 &&& Int32.ofInt 2147483647 = Int32.ofInt ((x0.toBitVec.toNat % 2 ^ 31 : Nat) : Int) := by
    rw [pk_and x0 (m := Int32.ofInt 2147483647) 31 (by decide)]
    unfold nI
    rw [← Int32.ofInt_eq_ofNat]
  have hr : (0 : Int) ≤ ((x0.toBitVec.toNat % 2 ^ 31 : Nat) : Int) ∧ ((x0.toBitVec.toNat % 2 ^ 31 : Nat) : Int) < 2147483648 := by
    have := Nat.mod_lt x0.toBitVec.toNat (show 0 < 2 ^ 31 by decide)
    omega
  exact V_st (fun Γ p l e R s m args below meth c H locs cells slots ls Q C N L _ _ k => lv_iand C.1 C.2.1 hd (by rw [e9]; exact k)) (kk _ hr)
end LROWS5
def CY (w0 w : WD) (χ : Nat) (F G R : Int → Int) : Prop := w (χ + 39) = some (xLA 60 F) ∧ w (χ + 40) = some (xLA 20 G) ∧ w (χ + 42) = some (xIA 27 R) ∧ ∀ j, j ≠ χ + 39 → j ≠ χ + 40 → j ≠ χ + 42 → w j = w0 j
theorem CY.F {w0 w w1 : WD} {χ : Nat} {F G R H : Int → Int} (h : CY w0 w χ F G R) (u : UA w w1 (χ + 39) (xLA 60 H)) : CY w0 w1 χ H G R := ⟨u.1, (u.2 _ (by omega)).trans h.2.1, (u.2 _ (by omega)).trans h.2.2.1, fun j a b c => (u.2 _ a).trans (h.2.2.2 j a b c)⟩
theorem CY.G {w0 w w1 : WD} {χ : Nat} {F G R H : Int → Int} (h : CY w0 w χ F G R) (u : UA w w1 (χ + 40) (xLA 20 H)) : CY w0 w1 χ F H R := ⟨(u.2 _ (by omega)).trans h.1, u.1, (u.2 _ (by omega)).trans h.2.2.1, fun j a b c => (u.2 _ b).trans (h.2.2.2 j a b c)⟩
theorem CY.R {w0 w w1 : WD} {χ : Nat} {F G R H : Int → Int} (h : CY w0 w χ F G R) (u : UA w w1 (χ + 42) (xIA 27 H)) : CY w0 w1 χ F G H := ⟨(u.2 _ (by omega)).trans h.1, (u.2 _ (by omega)).trans h.2.1, u.1, fun j a b c => (u.2 _ c).trans (h.2.2.2 j a b c)⟩
theorem CY.A {w0 w : WD} {χ : Nat} {F G R g gl pr dd : Int → Int} (h : CY w0 w χ F G R) (a : LA w0 χ g gl pr dd) : LA w χ g gl pr dd := ⟨(h.2.2.2 _ (by omega) (by omega) (by omega)).trans a.1, (h.2.2.2 _ (by omega) (by omega) (by omega)).trans a.2.1, (h.2.2.2 _ (by omega) (by omega) (by omega)).trans a.2.2.1, (h.2.2.2 _ (by omega) (by omega) (by omega)).trans a.2.2.2⟩
/-- between two turns -/
def LW (w : WD) (sz χ : Nat) (P : MP) (g gl prf dd : Int → Int) : Prop := MInv P ∧ LQ P.1 g gl prf (dd 0) ∧ WN w sz ∧ CP w χ P ∧ LA w χ g gl prf dd ∧ (∃ F, w (χ + 39) = some (xLA 60 F)) ∧ (∃ F, w (χ + 40) = some (xLA 20 F)) ∧ ∃ F, w (χ + 42) = some (xIA 27 F)
theorem ysh {y : Int} (hy : 0 ≤ y ∧ y < 2147483648) (s : Int) (hs : 1 ≤ s) : 0 ≤ iShr y s ∧ iShr y s ≤ 1073741823 := by
  refine ⟨iShr_0, ?_⟩
  rw [iShr_d hy.1]
  have e : 2 ^ 1 ≤ 2 ^ s.toNat := Nat.pow_le_pow_right (by decide) (by omega)
  have e3 : y / ((2 ^ s.toNat : Nat) : Int) ≤ y / 2 := by
    have h1 : (2 : Int) ≤ ((2 ^ s.toNat : Nat) : Int) := by omega
    refine (Int.le_ediv_iff_mul_le (by omega)).mpr ?_
    have h2 := Int.ediv_mul_le y (show ((2 ^ s.toNat : Nat) : Int) ≠ 0 by omega)
    have h3 : 0 ≤ y / ((2 ^ s.toNat : Nat) : Int) := Int.ediv_nonneg hy.1 (by omega)
    have h4 := Int.mul_le_mul_of_nonneg_left h1 h3
    omega
  omega
set_option maxRecDepth 100000 in
set_option maxHeartbeats 4000000 in
theorem law_B {Z : XZ} (hZ : ∀ (kc ks : Nat) (w : WD) (sz : Nat) (lv : List (Option Value)), V iL_law Z kc ks w sz 379 lv [xI 1]) {χ : Nat} {w : WD} {sz : Nat} {P : MP} {g gl prf dd : Int → Int} (hW : LW w sz χ P g gl prf dd) : V iL_law Z 33760 205376 w sz 107 [some (.ref 0), some (.ref χ), some (.ref (χ + 37)), some (.ref (χ + 38)), some (.ref (χ + 39)), some (.ref (χ + 40)), some (.ref (χ + 41)), some (.ref (χ + 42)), some (.ref (χ + 43)), none, none, none, none, none] [] := by
  refine V_le (kc' := (2110 * (16 - (0 : Int))).toNat) (ks' := (12836 * (16 - (0 : Int))).toNat) (by decide) (by decide) ?_
  refine V_iconst dL_law_107 ?_
  refine V_istore dL_law_108 (by decide) ?_
  have L110 : ∀ t : Int, 0 ≤ t → t ≤ 16 → ∀ (w : WD) (sz : Nat) (P : MP) (g gl prf dd : Int → Int), LW w sz χ P g gl prf dd → V iL_law Z (2110 * (16 - t)).toNat (12836 * (16 - t)).toNat w sz 110 [some (.ref 0), some (.ref χ), some (.ref (χ + 37)), some (.ref (χ + 38)), some (.ref (χ + 39)), some (.ref (χ + 40)), some (.ref (χ + 41)), some (.ref (χ + 42)), some (.ref (χ + 43)), some (xI t), none, none, none, none] [] := by
    refine up_ind ?_
    intro t ht0 ht1 iht
    intro w0 sz P g gl prf dd hW
    obtain ⟨hI, hP, hN, hC, hA, ⟨F0, h39⟩, ⟨G0, h40⟩, ⟨R0, h42⟩⟩ := hW
    refine V_iload dL_law_110 rfl ?_
    refine V_bipush dL_law_112 (by decide) ?_
    refine V_icmp_ge 378 dL_law_114 (by decide) (by omega) (fun h114 => ?_) (fun h114 => ?_)
    · refine V_iconst dL_law_378 ?_
      exact hZ _ _ _ _ _
    · refine V_aload_n dL_law_117 0 rfl rfl ?_
      refine V_iconst dL_law_118 ?_
      refine V_iload dL_law_119 rfl ?_
      refine V_imul dL_law_121 ?_
      refine V_c_L_116 rfl (by decide) (l_cell (by omega)) dL_law_122 rfl rfl (Nat.le_of_ble_eq_true rfl) (Nat.le_of_eq (Nat.zero_add _)) (Nat.le_of_eq (Nat.zero_add _)) (fun v w9 sz9 q => ?_)
      obtain ⟨⟨x9, rfl⟩, hw9, hs9⟩ := q
      obtain rfl := hw9.symm
      obtain rfl := hs9.symm
      refine V_ldcI (z := 2147483647) dL_law_125 (xG_at 613 (by decide +kernel) rfl) ?_
      refine V_iandM dL_law_127 (fun x hx => ?_)
      refine V_istore dL_law_128 (by decide) ?_
      refine V_aload_n dL_law_130 0 rfl rfl ?_
      refine V_iconst dL_law_131 ?_
      refine V_iload dL_law_132 rfl ?_
      refine V_imul dL_law_134 ?_
      refine V_iconst dL_law_135 ?_
      refine V_iadd dL_law_136 ?_
      refine V_c_L_116 rfl (by decide) (l_cell (by omega)) dL_law_137 rfl rfl (Nat.le_of_ble_eq_true rfl) (Nat.le_of_eq (Nat.zero_add _)) (Nat.le_of_eq (Nat.zero_add _)) (fun v w9 sz9 q => ?_)
      obtain ⟨⟨x9, rfl⟩, hw9, hs9⟩ := q
      obtain rfl := hw9.symm
      obtain rfl := hs9.symm
      refine V_ldcI (z := 2147483647) dL_law_140 (xG_at 613 (by decide +kernel) rfl) ?_
      refine V_iandM dL_law_142 (fun y hy => ?_)
      refine V_istore dL_law_143 (by decide) ?_
      refine V_aload dL_law_145 rfl ?_
      refine V_iconst dL_law_147 ?_
      refine V_iald dL_law_148 hA.2.2.2 (by omega) ?_
      refine V_istore dL_law_149 (by decide) ?_
      refine V_iconst dL_law_151 ?_
      refine V_istore dL_law_152 (by decide) ?_
      have L154 : ∀ k : Int, 0 ≤ k → k ≤ 60 → ∀ (w : WD) (F G R : Int → Int), CY w0 w χ F G R → (∀ j, 0 ≤ j → j < k → F j = pk gl j) → (∀ j, 0 ≤ j → j < k → j < 20 → G j = pk g j) → (∀ j, 0 ≤ j → j < k → j < 27 → R j = prf j) → V iL_law Z (2110 * (16 - t)).toNat (12836 * (16 - t)).toNat w sz 154 [some (.ref 0), some (.ref χ), some (.ref (χ + 37)), some (.ref (χ + 38)), some (.ref (χ + 39)), some (.ref (χ + 40)), some (.ref (χ + 41)), some (.ref (χ + 42)), some (.ref (χ + 43)), some (xI t), some (xI x), some (xI y), some (xI (dd 0)), some (xI k)] [] := by
        refine up_ind ?_
        intro k hk0 hk1 ih
        intro w F G R hcy hF hG hR
        refine V_iload dL_law_154 rfl ?_
        refine V_bipush dL_law_156 (by decide) ?_
        refine V_icmp_ge 209 dL_law_158 (by decide) (by omega) (fun h158 => ?_) (fun h158 => ?_)
        · have hk60 : k = 60 := by omega
          subst hk60
          have hsz := hA.hs hN
          have hAw := hcy.A hA
          have hNw : WN w sz := fun j hj => (hcy.2.2.2 j (by omega) (by omega) (by omega)).trans (hN j hj)
          have hCw : CP w χ P := hC.mv (fun j hj hn => hcy.2.2.2 j (by omega) (by omega) (by omega))
          refine V_aload_n dL_law_209 1 rfl rfl ?_
          have J230 : ∀ a : Int, (0 ≤ a ∧ a < 14) → V iL_law Z (2110 * (16 - t)).toNat (12836 * (16 - t)).toNat w sz 230 [some (.ref 0), some (.ref χ), some (.ref (χ + 37)), some (.ref (χ + 38)), some (.ref (χ + 39)), some (.ref (χ + 40)), some (.ref (χ + 41)), some (.ref (χ + 42)), some (.ref (χ + 43)), some (xI t), some (xI x), some (xI y), some (xI (dd 0)), some (xI 60)] [xI a, .ref χ] := by
            intro a hact
            refine V_iload dL_law_230 rfl ?_
            refine V_iload dL_law_232 rfl ?_
            refine V_aload_n dL_law_234 2 rfl rfl ?_
            refine V_aload_n dL_law_235 3 rfl rfl ?_
            refine V_aload dL_law_236 rfl ?_
            refine V_aload dL_law_238 rfl ?_
            refine V_c_L_120 rfl (kc' := 2091 + (2110 * (16 - (t + 1))).toNat) (ks' := 12546 + (12836 * (16 - (t + 1))).toNat) (by decide) (l_act hI hP rfl hNw hCw hAw hact hx hy) dL_law_240 rfl rfl (Nat.le_of_ble_eq_true rfl) (by omega) (by omega) (fun v w1 sz1 q => ?_)
            obtain ⟨rfl, P1, g1, gl1, pr1, dd1, hI1, hS1, hP1, hN1, hC1, hA1, hK1⟩ := q
            have k39 := (hK1 _ (Or.inl rfl) (nn hcy.1)).trans hcy.1
            have k40 := (hK1 _ (Or.inr (Or.inl rfl)) (nn hcy.2.1)).trans hcy.2.1
            have k42 := (hK1 _ (Or.inr (Or.inr rfl)) (nn hcy.2.2.1)).trans hcy.2.2.1
            refine V_ifeqB 263 dL_law_243 (by decide) (fun h243 => ?_) (fun h243 => ?_)
            · try simp only [decide_eq_true_eq, decide_eq_false_iff_not, Bool.not_eq_true] at h243
              exact absurd h243 (by decide)
            · try simp only [decide_eq_true_eq, decide_eq_false_iff_not, Bool.not_eq_true] at h243
              refine V_aload_n dL_law_246 1 rfl rfl ?_
              refine V_iload dL_law_247 rfl ?_
              refine V_iconst dL_law_249 ?_
              refine V_ishrZ dL_law_250 (by first | omega | (dsimp only; omega) | exact iAnd_0 | exact iOr_0 | exact iShl_0 | exact iShr_0) (by first | omega | (dsimp only; omega) | exact iAnd_0 | exact iOr_0 | exact iShl_0 | exact iShr_0) ?_
              refine V_aload_n dL_law_251 2 rfl rfl ?_
              refine V_aload_n dL_law_252 3 rfl rfl ?_
              refine V_aload dL_law_253 rfl ?_
              refine V_aload dL_law_255 rfl ?_
              refine V_c_L_112 rfl (kc' := 1046 + (2110 * (16 - (t + 1))).toNat) (ks' := 6276 + (12836 * (16 - (t + 1))).toNat) (by decide) (l_told hI1 hP1 rfl (ysh hy 2 (by omega)) hN1 hC1 hA1) dL_law_257 rfl rfl (Nat.le_of_ble_eq_true rfl) (by omega) (by omega) (fun v w2 sz2 q => ?_)
              obtain ⟨rfl, hT2, hC2⟩ := q
              have hA2 := hA1.T hT2
              have k39 := (hT2.2 _ (by omega) (nn k39)).trans k39
              have k40 := (hT2.2 _ (by omega) (nn k40)).trans k40
              have k42 := (hT2.2 _ (by omega) (nn k42)).trans k42
              refine V_ifneB 265 dL_law_260 (by decide) (fun h260 => ?_) (fun h260 => ?_)
              · try simp only [decide_eq_true_eq, decide_eq_false_iff_not, Bool.not_eq_true] at h260
                refine V_iload dL_law_265 rfl ?_
                refine V_bipush dL_law_267 (by decide) ?_
                refine V_ishrZ dL_law_269 (by first | omega | (dsimp only; omega) | exact iAnd_0 | exact iOr_0 | exact iShl_0 | exact iShr_0) (by first | omega | (dsimp only; omega) | exact iAnd_0 | exact iOr_0 | exact iShl_0 | exact iShr_0) ?_
                refine V_iconst dL_law_270 ?_
                refine V_c_L_53 rfl (by decide) (l_at (by have := iShr_l (a := y) (s := 9) hy.1; have := iShr_0 (a := y) (b := 9); omega) (by omega)) dL_law_271 rfl rfl (Nat.le_of_ble_eq_true rfl) (Nat.le_of_eq (Nat.zero_add _)) (Nat.le_of_eq (Nat.zero_add _)) (fun v w sz q => ?_)
                obtain ⟨rfl, hw9, hs9⟩ := q
                obtain rfl := hw9.symm
                obtain rfl := hs9.symm
                have ha5 := iat_r (x := iShr y 9) (n := 5) (by omega)
                generalize iat (iShr y 9) 5 = a5 at ha5 ⊢
                refine V_if_le 280 dL_law_274 (by decide) (by omega) (fun h274 => ?_) (fun h274 => ?_)
                · obtain ⟨P3, hU, hz3⟩ := und_ex hI hS1
                  refine V_aload_n dL_law_280 1 rfl rfl ?_
                  refine V_c_L_124 rfl (kc' := 1045 + (2110 * (16 - (t + 1))).toNat) (ks' := 6270 + (12836 * (16 - (t + 1))).toNat) (by decide) ((c_undo hC2 hI1 hT2.1 (hA2.hs hT2.1)).w1 hU) dL_law_281 hC2.1 rfl rfl (Nat.le_of_ble_eq_true rfl) (by omega) (by omega) (fun v w3 sz3 q => ?_)
                  obtain ⟨rfl, hT3, hC3⟩ := q
                  have hA3 := hA2.T hT3
                  have k39 := (hT3.2 _ (by omega) (nn k39)).trans k39
                  have k40 := (hT3.2 _ (by omega) (nn k40)).trans k40
                  have k42 := (hT3.2 _ (by omega) (nn k42)).trans k42
                  have hsv := hI1.2.1
                  refine V_if_ge 289 dL_law_284 (by decide) (by omega) (fun h284 => ?_) (fun h284 => ?_)
                  · refine V_aload dL_law_289 rfl ?_
                    refine V_iconst dL_law_291 ?_
                    refine V_iload dL_law_292 rfl ?_
                    refine V_iastU dL_law_294 hA3.2.2.2 (by omega) (by omega) (fun wb u9 => ?_)
                    obtain ⟨dd3, hdd3⟩ : ∃ dd3, dd3 = iu dd1 0 (dd 0) := ⟨_, rfl⟩
                    have hAb : LA wb χ g1 gl1 pr1 dd3 := by rw [hdd3]; exact hA3.d u9
                    have k39 := (u9.2 _ (by omega)).trans k39
                    have k40 := (u9.2 _ (by omega)).trans k40
                    have k42 := (u9.2 _ (by omega)).trans k42
                    have hsz3 := hA3.hs hT3.1
                    have hI3 := und_inv2 hI1 hU
                    refine V_iconst dL_law_295 ?_
                    refine V_istore dL_law_296 (by decide) ?_
                    have L298 : ∀ k : Int, 0 ≤ k → k ≤ 60 → ∀ (w : WD) (gx glx prx : Int → Int), LA w χ gx glx prx dd3 → (∀ j, j ≠ χ + 37 → j ≠ χ + 38 → j ≠ χ + 41 → w j = wb j) → B7 gx → B7 glx → (∀ b, 0 ≤ b → b < 8 * k → b < 160 → gx b = g b) → (∀ b, 0 ≤ b → b < 8 * k → glx b = gl b) → (∀ j, 0 ≤ j → j < k → j < 27 → prx j = prf j) → V iL_law Z (1045 + (2110 * (16 - (t + 1))).toNat) (6270 + (12836 * (16 - (t + 1))).toNat) w sz3 298 [some (.ref 0), some (.ref χ), some (.ref (χ + 37)), some (.ref (χ + 38)), some (.ref (χ + 39)), some (.ref (χ + 40)), some (.ref (χ + 41)), some (.ref (χ + 42)), some (.ref (χ + 43)), some (xI t), some (xI x), some (xI y), some (xI (dd 0)), some (xI k)] [] := by
                      refine up_ind ?_
                      intro k hk0 hk1 ih
                      intro w gx glx prx hL hfr hbx hbl hg1 hl1 hp1
                      refine V_iload dL_law_298 rfl ?_
                      refine V_bipush dL_law_300 (by decide) ?_
                      refine V_icmp_ge 353 dL_law_302 (by decide) (by omega) (fun h302 => ?_) (fun h302 => ?_)
                      · have hk60 : k = 60 := by omega
                        subst hk60
                        have k39 := (hfr _ (by omega) (by omega) (by omega)).trans k39
                        have k40 := (hfr _ (by omega) (by omega) (by omega)).trans k40
                        have k42 := (hfr _ (by omega) (by omega) (by omega)).trans k42
                        have hPx : LQ P3.1 gx glx prx (dd 0) := hP.cg hbx hbl (fun b b0 b1 => hg1 b b0 (by omega) b1) (fun b b0 b1 => hl1 b b0 (by omega)) (fun j j0 j1 => hp1 j j0 (by omega) j1) hz3
                        have hNx : WN w sz3 := fun j hj => (hfr j (by omega) (by omega) (by omega)).trans ((u9.2 j (by omega)).trans (hT3.1 j hj))
                        have hCx : CP w χ P3 := hC3.mv (fun j hj hn => (hfr j (by omega) (by omega) (by omega)).trans (u9.2 j (by omega)))
                        refine V_aload_n dL_law_353 1 rfl rfl ?_
                        refine V_iload dL_law_354 rfl ?_
                        refine V_iconst dL_law_356 ?_
                        refine V_ishrZ dL_law_357 (by first | omega | (dsimp only; omega) | exact iAnd_0 | exact iOr_0 | exact iShl_0 | exact iShr_0) (by first | omega | (dsimp only; omega) | exact iAnd_0 | exact iOr_0 | exact iShl_0 | exact iShr_0) ?_
                        refine V_aload_n dL_law_358 2 rfl rfl ?_
                        refine V_aload_n dL_law_359 3 rfl rfl ?_
                        refine V_aload dL_law_360 rfl ?_
                        refine V_aload dL_law_362 rfl ?_
                        refine V_c_L_112 rfl (kc' := (2110 * (16 - (t + 1))).toNat) (ks' := (12836 * (16 - (t + 1))).toNat) (by decide) (l_told hI3 hPx (by rw [hdd3, iu_s]) (ysh hy 3 (by omega)) hNx hCx hL) dL_law_364 rfl rfl (Nat.le_of_ble_eq_true rfl) (by omega) (by omega) (fun v w4 sz4 q => ?_)
                        obtain ⟨rfl, hT4, hC4⟩ := q
                        have k39 := (hT4.2 _ (by omega) (nn k39)).trans k39
                        have k40 := (hT4.2 _ (by omega) (nn k40)).trans k40
                        have k42 := (hT4.2 _ (by omega) (nn k42)).trans k42
                        have hW2 : LW w4 sz4 χ P3 gx glx prx dd3 := ⟨hI3, by rw [hdd3, iu_s]; exact hPx, hT4.1, hC4, hL.T hT4, ⟨_, k39⟩, ⟨_, k40⟩, ⟨_, k42⟩⟩
                        refine V_ifneB 372 dL_law_367 (by decide) (fun h367 => ?_) (fun h367 => ?_)
                        · try simp only [decide_eq_true_eq, decide_eq_false_iff_not, Bool.not_eq_true] at h367
                          refine V_iinc dL_law_372 rfl (by decide) ?_
                          refine V_goto 110 dL_law_375 (by decide) ?_
                          refine V_fg [true, true, true, true, true, true, true, true, true, true, false, false, false, false] ?_
                          refine V_le (kc' := (2110 * (16 - (t + 1))).toNat) (ks' := (12836 * (16 - (t + 1))).toNat) (by omega) (by omega) ?_
                          exact iht (by omega) _ _ _ _ _ _ _ hW2
                        · try simp only [decide_eq_true_eq, decide_eq_false_iff_not, Bool.not_eq_true] at h367
                          exact absurd h367 (by decide)
                      · refine V_aload_n dL_law_305 3 rfl rfl ?_
                        refine V_iload dL_law_306 rfl ?_
                        refine V_aload dL_law_308 rfl ?_
                        refine V_iload dL_law_310 rfl ?_
                        refine V_lald dL_law_312 ((hfr _ (by omega) (by omega) (by omega)).trans k39) (by omega) ?_ (hn := by omega)
                        rw [hF k hk0 (by omega)]
                        refine V_lastU dL_law_313 hL.2.1 (by omega) (by omega) (fun w u8 => ?_)
                        rw [ov_pk] at u8
                        have hL := hL.l u8
                        have hfr : ∀ j, j ≠ χ + 37 → j ≠ χ + 38 → j ≠ χ + 41 → w j = wb j := fun j a b c => (u8.2 j b).trans (hfr j a b c)
                        have hl1 := ov_e hl1
                        have hbl := ov_b (k := k) hP.2.1 hbl
                        refine V_iload dL_law_314 rfl ?_
                        refine V_bipush dL_law_316 (by decide) ?_
                        refine V_icmp_ge 330 dL_law_318 (by decide) (by omega) (fun h318 => ?_) (fun h318 => ?_)
                        · have hg1 : ∀ b, 0 ≤ b → b < 8 * (k + 1) → b < 160 → gx b = g b := fun b b0 b1 b2 => hg1 b b0 (by omega) b2
                          refine V_iload dL_law_330 rfl ?_
                          refine V_bipush dL_law_332 (by decide) ?_
                          refine V_icmp_ge 347 dL_law_334 (by decide) (by omega) (fun h334 => ?_) (fun h334 => ?_)
                          · have hp1 : ∀ j, 0 ≤ j → j < k + 1 → j < 27 → prx j = prf j := fun j j0 j1 j2 => hp1 j j0 (by omega) j2
                            refine V_iinc dL_law_347 rfl (by decide) ?_
                            refine V_goto 298 dL_law_350 (by decide) ?_
                            exact ih (by omega) _ _ _ _ hL hfr hbx hbl hg1 hl1 hp1
                          · refine V_aload dL_law_337 rfl ?_
                            refine V_iload dL_law_339 rfl ?_
                            refine V_aload dL_law_341 rfl ?_
                            refine V_iload dL_law_343 rfl ?_
                            refine V_iald dL_law_345 ((hfr _ (by omega) (by omega) (by omega)).trans k42) (by omega) ?_
                            rw [hR k hk0 (by omega) (by omega)]
                            refine V_iastU dL_law_346 hL.2.2.1 (by omega) (by omega) (fun w u8 => ?_)
                            have hL := hL.r u8
                            have hfr : ∀ j, j ≠ χ + 37 → j ≠ χ + 38 → j ≠ χ + 41 → w j = wb j := fun j a b c => (u8.2 j c).trans (hfr j a b c)
                            have hp1 : ∀ j, 0 ≤ j → j < k + 1 → j < 27 → iu prx k (prf k) j = prf j := fun j j0 j1 j2 => by
                              by_cases q : j = k
                              · rw [q, iu_s]
                              · rw [iu_n q]; exact hp1 j j0 (by omega) j2
                            refine V_iinc dL_law_347 rfl (by decide) ?_
                            refine V_goto 298 dL_law_350 (by decide) ?_
                            exact ih (by omega) _ _ _ _ hL hfr hbx hbl hg1 hl1 hp1
                        · refine V_aload_n dL_law_321 2 rfl rfl ?_
                          refine V_iload dL_law_322 rfl ?_
                          refine V_aload dL_law_324 rfl ?_
                          refine V_iload dL_law_326 rfl ?_
                          refine V_lald dL_law_328 ((hfr _ (by omega) (by omega) (by omega)).trans k40) (by omega) ?_ (hn := by omega)
                          rw [hG k hk0 (by omega) (by omega)]
                          refine V_lastU dL_law_329 hL.1 (by omega) (by omega) (fun w u8 => ?_)
                          rw [ov_pk] at u8
                          have hL := hL.g u8
                          have hfr : ∀ j, j ≠ χ + 37 → j ≠ χ + 38 → j ≠ χ + 41 → w j = wb j := fun j a b c => (u8.2 j a).trans (hfr j a b c)
                          have hg1 : ∀ b, 0 ≤ b → b < 8 * (k + 1) → b < 160 → ov k g gx b = g b := fun b b0 b1 b2 => ov_e (fun b b0 b1 => hg1 b b0 b1 (by omega)) b b0 b1
                          have hbx := ov_b (k := k) hP.1 hbx
                          refine V_iload dL_law_330 rfl ?_
                          refine V_bipush dL_law_332 (by decide) ?_
                          refine V_icmp_ge 347 dL_law_334 (by decide) (by omega) (fun h334 => ?_) (fun h334 => ?_)
                          · have hp1 : ∀ j, 0 ≤ j → j < k + 1 → j < 27 → prx j = prf j := fun j j0 j1 j2 => hp1 j j0 (by omega) j2
                            refine V_iinc dL_law_347 rfl (by decide) ?_
                            refine V_goto 298 dL_law_350 (by decide) ?_
                            exact ih (by omega) _ _ _ _ hL hfr hbx hbl hg1 hl1 hp1
                          · refine V_aload dL_law_337 rfl ?_
                            refine V_iload dL_law_339 rfl ?_
                            refine V_aload dL_law_341 rfl ?_
                            refine V_iload dL_law_343 rfl ?_
                            refine V_iald dL_law_345 ((hfr _ (by omega) (by omega) (by omega)).trans k42) (by omega) ?_
                            rw [hR k hk0 (by omega) (by omega)]
                            refine V_iastU dL_law_346 hL.2.2.1 (by omega) (by omega) (fun w u8 => ?_)
                            have hL := hL.r u8
                            have hfr : ∀ j, j ≠ χ + 37 → j ≠ χ + 38 → j ≠ χ + 41 → w j = wb j := fun j a b c => (u8.2 j c).trans (hfr j a b c)
                            have hp1 : ∀ j, 0 ≤ j → j < k + 1 → j < 27 → iu prx k (prf k) j = prf j := fun j j0 j1 j2 => by
                              by_cases q : j = k
                              · rw [q, iu_s]
                              · rw [iu_n q]; exact hp1 j j0 (by omega) j2
                            refine V_iinc dL_law_347 rfl (by decide) ?_
                            refine V_goto 298 dL_law_350 (by decide) ?_
                            exact ih (by omega) _ _ _ _ hL hfr hbx hbl hg1 hl1 hp1
                    exact L298 0 (by omega) (by omega) wb _ _ _ hAb (fun _ _ _ _ => rfl) hP1.1 hP1.2.1 (fun b b0 b1 => by omega) (fun b b0 b1 => by omega) (fun b b0 b1 => by omega)
                  · have h1 := hS1.1
                    have hi := hI.2.1
                    have hb : 0 ≤ isv P.2.1 := by unfold isv; split <;> omega
                    exact absurd h284 (by omega)
                · have hW2 : LW w2 sz2 χ P1 g1 gl1 pr1 dd1 := ⟨hI1, hP1, hT2.1, hC2, hA2, ⟨_, k39⟩, ⟨_, k40⟩, ⟨_, k42⟩⟩
                  refine V_goto 372 dL_law_277 (by decide) ?_
                  refine V_iinc dL_law_372 rfl (by decide) ?_
                  refine V_goto 110 dL_law_375 (by decide) ?_
                  refine V_fg [true, true, true, true, true, true, true, true, true, true, false, false, false, false] ?_
                  refine V_le (kc' := (2110 * (16 - (t + 1))).toNat) (ks' := (12836 * (16 - (t + 1))).toNat) (by omega) (by omega) ?_
                  exact iht (by omega) _ _ _ _ _ _ _ hW2
              · try simp only [decide_eq_true_eq, decide_eq_false_iff_not, Bool.not_eq_true] at h260
                exact absurd h260 (by decide)
          refine V_iload dL_law_210 rfl ?_
          refine V_iconst dL_law_212 ?_
          refine V_icmp_ge 220 dL_law_213 (by decide) (by omega) (fun h213 => ?_) (fun h213 => ?_)
          · refine V_iload dL_law_220 rfl ?_
            refine V_bipush dL_law_222 (by decide) ?_
            refine V_ishrZ dL_law_224 (by first | omega | (dsimp only; omega) | exact iAnd_0 | exact iOr_0 | exact iShl_0 | exact iShr_0) (by first | omega | (dsimp only; omega) | exact iAnd_0 | exact iOr_0 | exact iShl_0 | exact iShr_0) ?_
            refine V_bipush dL_law_225 (by decide) ?_
            refine V_c_L_53 rfl (by decide) (l_at (by have := iShr_l (a := x) (s := 13) hx.1; have := iShr_0 (a := x) (b := 13); omega) (by omega)) dL_law_227 rfl rfl (Nat.le_of_ble_eq_true rfl) (Nat.le_of_eq (Nat.zero_add _)) (Nat.le_of_eq (Nat.zero_add _)) (fun v w sz q => ?_)
            obtain ⟨rfl, hw9, hs9⟩ := q
            obtain rfl := hw9.symm
            obtain rfl := hs9.symm
            have ha9 := iat_r (x := iShr x 13) (n := 14) (by omega)
            generalize iat (iShr x 13) 14 = a9 at ha9 ⊢
            exact J230 _ (by omega)
          · refine V_iconst dL_law_216 ?_
            refine V_goto 230 dL_law_217 (by decide) ?_
            exact J230 _ (by omega)
        · refine V_aload dL_law_161 rfl ?_
          refine V_iload dL_law_163 rfl ?_
          refine V_aload_n dL_law_165 3 rfl rfl ?_
          refine V_iload dL_law_166 rfl ?_
          refine V_lald dL_law_168 (hcy.A hA).2.1 (by omega) ?_ (hn := by omega)
          refine V_lastU dL_law_169 hcy.1 (by omega) (by omega) (fun w u9 => ?_)
          have hcy := hcy.F u9
          have hF : ∀ j, 0 ≤ j → j < k + 1 → iu F k (pk gl k) j = pk gl j := fun j j0 j1 => by
            by_cases q : j = k
            · rw [q, iu_s]
            · rw [iu_n q]; exact hF j j0 (by omega)
          refine V_iload dL_law_170 rfl ?_
          refine V_bipush dL_law_172 (by decide) ?_
          refine V_icmp_ge 186 dL_law_174 (by decide) (by omega) (fun h174 => ?_) (fun h174 => ?_)
          · have hG : ∀ j, 0 ≤ j → j < k + 1 → j < 20 → G j = pk g j := fun j j0 j1 j2 => hG j j0 (by omega) j2
            refine V_iload dL_law_186 rfl ?_
            refine V_bipush dL_law_188 (by decide) ?_
            refine V_icmp_ge 203 dL_law_190 (by decide) (by omega) (fun h190 => ?_) (fun h190 => ?_)
            · have hR : ∀ j, 0 ≤ j → j < k + 1 → j < 27 → R j = prf j := fun j j0 j1 j2 => hR j j0 (by omega) j2
              refine V_iinc dL_law_203 rfl (by decide) ?_
              refine V_goto 154 dL_law_206 (by decide) ?_
              exact ih (by omega) _ _ _ _ hcy hF hG hR
            · refine V_aload dL_law_193 rfl ?_
              refine V_iload dL_law_195 rfl ?_
              refine V_aload dL_law_197 rfl ?_
              refine V_iload dL_law_199 rfl ?_
              refine V_iald dL_law_201 (hcy.A hA).2.2.1 (by omega) ?_
              refine V_iastU dL_law_202 hcy.2.2.1 (by omega) (by omega) (fun w u9 => ?_)
              have hcy := hcy.R u9
              have hR : ∀ j, 0 ≤ j → j < k + 1 → j < 27 → iu R k (prf k) j = prf j := fun j j0 j1 j2 => by
                by_cases q : j = k
                · rw [q, iu_s]
                · rw [iu_n q]; exact hR j j0 (by omega) j2
              refine V_iinc dL_law_203 rfl (by decide) ?_
              refine V_goto 154 dL_law_206 (by decide) ?_
              exact ih (by omega) _ _ _ _ hcy hF hG hR
          · refine V_aload dL_law_177 rfl ?_
            refine V_iload dL_law_179 rfl ?_
            refine V_aload_n dL_law_181 2 rfl rfl ?_
            refine V_iload dL_law_182 rfl ?_
            refine V_lald dL_law_184 (hcy.A hA).1 (by omega) ?_ (hn := by omega)
            refine V_lastU dL_law_185 hcy.2.1 (by omega) (by omega) (fun w u9 => ?_)
            have hcy := hcy.G u9
            have hG : ∀ j, 0 ≤ j → j < k + 1 → j < 20 → iu G k (pk g k) j = pk g j := fun j j0 j1 j2 => by
              by_cases q : j = k
              · rw [q, iu_s]
              · rw [iu_n q]; exact hG j j0 (by omega) j2
            refine V_iload dL_law_186 rfl ?_
            refine V_bipush dL_law_188 (by decide) ?_
            refine V_icmp_ge 203 dL_law_190 (by decide) (by omega) (fun h190 => ?_) (fun h190 => ?_)
            · have hR : ∀ j, 0 ≤ j → j < k + 1 → j < 27 → R j = prf j := fun j j0 j1 j2 => hR j j0 (by omega) j2
              refine V_iinc dL_law_203 rfl (by decide) ?_
              refine V_goto 154 dL_law_206 (by decide) ?_
              exact ih (by omega) _ _ _ _ hcy hF hG hR
            · refine V_aload dL_law_193 rfl ?_
              refine V_iload dL_law_195 rfl ?_
              refine V_aload dL_law_197 rfl ?_
              refine V_iload dL_law_199 rfl ?_
              refine V_iald dL_law_201 (hcy.A hA).2.2.1 (by omega) ?_
              refine V_iastU dL_law_202 hcy.2.2.1 (by omega) (by omega) (fun w u9 => ?_)
              have hcy := hcy.R u9
              have hR : ∀ j, 0 ≤ j → j < k + 1 → j < 27 → iu R k (prf k) j = prf j := fun j j0 j1 j2 => by
                by_cases q : j = k
                · rw [q, iu_s]
                · rw [iu_n q]; exact hR j j0 (by omega) j2
              refine V_iinc dL_law_203 rfl (by decide) ?_
              refine V_goto 154 dL_law_206 (by decide) ?_
              exact ih (by omega) _ _ _ _ hcy hF hG hR
      exact L154 0 (by omega) (by omega) w0 F0 G0 R0 ⟨h39, h40, h42, fun _ _ _ _ => rfl⟩ (fun j j0 j1 => by omega) (fun j j0 j1 => by omega) (fun j j0 j1 => by omega)
  refine V_fg [true, true, true, true, true, true, true, true, true, true, false, false, false, false] ?_
  exact L110 0 (by omega) (by omega) w sz P g gl prf dd hW
