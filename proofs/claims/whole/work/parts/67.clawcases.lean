/-! the law: its script, what holds between two calls, each call of both -/
abbrev iL_law : XI := (yL_law, cL_law, 9, (some .boolean), 10, 198, [])
def sc (xs : Nat → Int32) (z : Int) : Int := (xs z.toNat).toInt
theorem sc_r (xs : Nat → Int32) (z : Int) : -2147483648 ≤ sc xs z ∧ sc xs z < 2147483648 := ⟨Int32.le_toInt _, Int32.toInt_lt _⟩
def ZS (Z : XZ) (L : Nat) (xs : Nat → Int32) : Prop := ∀ Γ s, Z.1 Γ s → va_X Γ.2.2.1 L xs s s.heap ∧ Γ.2.2.1 < s.heap.size ∧ ¬ Γ.2.2.2 < Γ.2.2.1
theorem V_sald {I : XI} {Z : XZ} {kc ks : Nat} {w : WD} {sz pc : Nat} {lv : List (Option Value)} {st : List Value} {L : Nat} {xs : Nat → Int32} {z : Int} (hS : ZS Z L xs) (hd : decode I.cc pc = .ok (.iaload, 1)) (r : 0 ≤ z ∧ z < (L : Int)) (hn : L < 2147483648) (kk : V I Z kc ks w sz (pc + 1) lv (xI (sc xs z) :: st)) : V I Z kc ks w sz pc lv (xI z :: .ref 0 :: st) := by
  intro Γ p l e R s m args below meth c H locs cells slots ls C N L9 h1 h2
  obtain ⟨g1, g2, g3⟩ := hS Γ s C.2.2.2.2.2.2.2.2.2.2.2.2.2
  refine va_sld C.1 C.2.1 g1 g2 g3 N.2.2.2 (xof_in r.1 r.2 hn) hd ?_
  have k9 := kk Γ p l e R s m args below meth c H locs cells slots ls C N L9 h1 h2
  have e9 : Value.int (xs (Int32.ofInt z).toNatClampNeg) = xI (sc xs z) := by
    rw [xof_clamp r.1 (by omega)]
    exact int_xI _
  rw [e9]
  exact k9
theorem V_slen {I : XI} {Z : XZ} {kc ks : Nat} {w : WD} {sz pc : Nat} {lv : List (Option Value)} {st : List Value} {L : Nat} {xs : Nat → Int32} (hS : ZS Z L xs) (hd : decode I.cc pc = .ok (.arraylength, 1)) (kk : V I Z kc ks w sz (pc + 1) lv (xI (L : Int) :: st)) : V I Z kc ks w sz pc lv (.ref 0 :: st) := by
  intro Γ p l e R s m args below meth c H locs cells slots ls C N L9 h1 h2
  obtain ⟨g1, g2, g3⟩ := hS Γ s C.2.2.2.2.2.2.2.2.2.2.2.2.2
  refine va_slen C.1 C.2.1 g1 g2 g3 N.2.2.2 hd ?_
  exact kk Γ p l e R s m args below meth c H locs cells slots ls C N L9 h1 h2
/-- between two calls -/
def LIv (w : WD) (sz χ : Nat) (P : MP) : Prop := CP w χ P ∧ MInv P ∧ (∃ K, MW w w (χ + 37) P K) ∧ WN w sz ∧ χ + 48 ≤ sz ∧ ∃ f, w (χ + 47) = some (xLA 1 f)
theorem MW.L {w w1 : WD} {sz1 χ : Nat} {P : MP} {K : MK} (h : MW w w (χ + 37) P K) (t : TL w w1 sz1 χ) : MW w1 w1 (χ + 37) P K := by
  have q : ∀ (j : Nat) (e : va_E), χ + 37 ≤ j → j ≠ χ + 47 → w j = some e → w1 j = some e := fun j e h1 h2 h3 => (t.2.2 j (Or.inr h1) h2 (nn h3)).trans h3
  exact ⟨q _ _ (by omega) (by omega) h.1, q _ _ (by omega) (by omega) h.2.1, q _ _ (by omega) (by omega) h.2.2.1, q _ _ (by omega) (by omega) h.2.2.2.1, q _ _ (by omega) (by omega) h.2.2.2.2.1, q _ _ (by omega) (by omega) h.2.2.2.2.2.1, q _ _ (by omega) (by omega) h.2.2.2.2.2.2.1, q _ _ (by omega) (by omega) h.2.2.2.2.2.2.2.1, q _ _ (by omega) (by omega) h.2.2.2.2.2.2.2.2.1, q _ _ (by omega) (by omega) h.2.2.2.2.2.2.2.2.2.1, fun _ _ => rfl⟩
theorem MW.own {w w1 : WD} {μ : Nat} {P : MP} {K : MK} (h : MW w w1 μ P K) : MW w1 w1 μ P K := ⟨h.1, h.2.1, h.2.2.1, h.2.2.2.1, h.2.2.2.2.1, h.2.2.2.2.2.1, h.2.2.2.2.2.2.1, h.2.2.2.2.2.2.2.1, h.2.2.2.2.2.2.2.2.1, h.2.2.2.2.2.2.2.2.2.1, fun _ _ => rfl⟩
theorem LIv.step {w1 w2 : WD} {sz1 χ : Nat} {P1 : MP} {K1 : MK} (hN : WN w1 sz1) (ho : ∃ f, w1 (χ + 47) = some (xLA 1 f)) (hC : CP w1 χ P1) (hI : MInv P1) (hM : MW w1 w2 (χ + 37) P1 K1) : LIv w2 sz1 χ P1 := by
  obtain ⟨f, ho⟩ := ho
  have hlt := hN.lt (nn ho)
  refine ⟨hC.mv (fun j hj _ => hM.fr j ?_), hI, ⟨K1, hM.own⟩, fun j hj => (hM.fr j (by omega)).trans (hN j hj), by omega, f, (hM.fr _ (by omega)).trans ho⟩
  rcases hj with hj | hj | hj <;> omega
theorem LIv.st2 {w w1 w2 : WD} {sz1 χ : Nat} {P1 : MP} {K1 : MK} (t : TL w w1 sz1 χ) (hC : CP w1 χ P1) (hI : MInv P1) (hM : MW w1 w2 (χ + 37) P1 K1) : LIv w2 sz1 χ P1 := LIv.step t.1 t.2.1 hC hI hM
theorem m_undo2 {w0 w : WD} {sz μ : Nat} {P : MP} {K : MK} (hM : MW w0 w μ P K) (hs : 0 ≤ P.2.1 ∧ P.2.1 ≤ 6) : CT iX7_undo 0 0 [.ref μ] w sz (fun o9 w' sz' => sz' = sz ∧ ∃ r t P', o9 = some (xI r) ∧ MD w0 w' μ t P' ∧ undR P t r P') := by
  refine CT.imp (m_undo hM hs) (fun v w' sz' q => ?_)
  rcases q with ⟨h1, h2, h3, h4⟩ | ⟨h1, h2, h3, f, h4, h5⟩
  · exact ⟨h3, 0, 1, P, h2, ⟨_, h4, rfl⟩, Or.inl ⟨h1, rfl, rfl⟩⟩
  · exact ⟨h3, _, 0, _, h2, ⟨_, h4, rfl⟩, Or.inr ⟨h1, rfl, rfl, f, rfl, h5⟩⟩
theorem und_inv2 {P P' : MP} {t r : Int} (h : MInv P) (hR : undR P t r P') : MInv P' := by
  rcases hR with ⟨_, _, rfl⟩ | ⟨h1, _, _, f, rfl, h5⟩
  · exact h
  · exact und_inv h h1 h5
set_option maxRecDepth 100000 in
set_option maxHeartbeats 4000000 in
theorem k_draw {Z : XZ} {kc ks : Nat} {w : WD} {sz χ L : Nat} {P : MP} {xs : Nat → Int32} {i : Int} (hS : ZS Z L xs) (hL : L < 2147483648) (hi : 0 ≤ i ∧ i + 7 ≤ (L : Int)) (hV : LIv w sz χ P) (kk : ∀ w' sz' P', LIv w' sz' χ P' → V iL_law Z kc ks w' sz' 1518 [some (.ref 0), some (.ref χ), some (.ref (χ + 37)), some (.ref (χ + 47)), some (xI i), none, none, none, none] []) : V iL_law Z (kc + 9) (ks + 206) w sz 144 [some (.ref 0), some (.ref χ), some (.ref (χ + 37)), some (.ref (χ + 47)), some (xI i), none, none, none, none] [] := by
  obtain ⟨hC, hI, ⟨K, hM⟩, hN, hs, f9, ho⟩ := hV
  refine V_aload_n dL_law_144 1 rfl rfl ?_
  refine V_aload_n dL_law_145 0 rfl rfl ?_
  refine V_iload dL_law_146 rfl ?_
  refine V_iconst dL_law_148 ?_
  refine V_iadd dL_law_149 ?_
  refine V_sald hS dL_law_150 (by omega) hL ?_
  refine V_aload_n dL_law_151 0 rfl rfl ?_
  refine V_iload dL_law_152 rfl ?_
  refine V_iconst dL_law_154 ?_
  refine V_iadd dL_law_155 ?_
  refine V_sald hS dL_law_156 (by omega) hL ?_
  refine V_aload_n dL_law_157 0 rfl rfl ?_
  refine V_iload dL_law_158 rfl ?_
  refine V_iconst dL_law_160 ?_
  refine V_iadd dL_law_161 ?_
  refine V_sald hS dL_law_162 (by omega) hL ?_
  refine V_aload_n dL_law_163 0 rfl rfl ?_
  refine V_iload dL_law_164 rfl ?_
  refine V_iconst dL_law_166 ?_
  refine V_iadd dL_law_167 ?_
  refine V_sald hS dL_law_168 (by omega) hL ?_
  refine V_aload_n dL_law_169 0 rfl rfl ?_
  refine V_iload dL_law_170 rfl ?_
  refine V_iconst dL_law_172 ?_
  refine V_iadd dL_law_173 ?_
  refine V_sald hS dL_law_174 (by omega) hL ?_
  refine V_aload_n dL_law_175 3 rfl rfl ?_
  refine V_c_L_76 (kc' := kc) (ks' := ks) rfl (by decide) (l_draw hC hI hN hs ho ⟨(sc_r xs (i + 1)).1, (sc_r xs (i + 1)).2, (sc_r xs (i + 2)).1, (sc_r xs (i + 2)).2, (sc_r xs (i + 3)).1, (sc_r xs (i + 3)).2, (sc_r xs (i + 4)).1, (sc_r xs (i + 4)).2, (sc_r xs (i + 5)).1, (sc_r xs (i + 5)).2⟩) dL_law_176 rfl rfl (Nat.le_of_ble_eq_true rfl) (by omega) (by omega) (fun E w1 sz1 q => q.elim) (fun v w1 sz1 q => ?_)
  obtain ⟨hT, k, rfl, hk, hq⟩ := q
  have hM1 := MW.L hM hT
  refine V_istore dL_law_179 (by decide) ?_
  refine V_aload_n dL_law_181 2 rfl rfl ?_
  refine V_aload_n dL_law_182 0 rfl rfl ?_
  refine V_iload dL_law_183 rfl ?_
  refine V_iconst dL_law_185 ?_
  refine V_iadd dL_law_186 ?_
  refine V_sald hS dL_law_187 (by omega) hL ?_
  refine V_aload_n dL_law_188 0 rfl rfl ?_
  refine V_iload dL_law_189 rfl ?_
  refine V_iconst dL_law_191 ?_
  refine V_iadd dL_law_192 ?_
  refine V_sald hS dL_law_193 (by omega) hL ?_
  refine V_aload_n dL_law_194 0 rfl rfl ?_
  refine V_iload dL_law_195 rfl ?_
  refine V_iconst dL_law_197 ?_
  refine V_iadd dL_law_198 ?_
  refine V_sald hS dL_law_199 (by omega) hL ?_
  refine V_aload_n dL_law_200 0 rfl rfl ?_
  refine V_iload dL_law_201 rfl ?_
  refine V_iconst dL_law_203 ?_
  refine V_iadd dL_law_204 ?_
  refine V_sald hS dL_law_205 (by omega) hL ?_
  refine V_aload_n dL_law_206 0 rfl rfl ?_
  refine V_iload dL_law_207 rfl ?_
  refine V_iconst dL_law_209 ?_
  refine V_iadd dL_law_210 ?_
  refine V_sald hS dL_law_211 (by omega) hL ?_
  refine V_c_L_81 rfl (by decide) (m_draw hM1 hI.1 hI.2.1 ⟨(sc_r xs (i + 1)).1, (sc_r xs (i + 1)).2, (sc_r xs (i + 2)).1, (sc_r xs (i + 2)).2, (sc_r xs (i + 3)).1, (sc_r xs (i + 3)).2, (sc_r xs (i + 4)).1, (sc_r xs (i + 4)).2, (sc_r xs (i + 5)).1, (sc_r xs (i + 5)).2⟩) dL_law_212 hM1.1 rfl rfl (Nat.le_of_ble_eq_true rfl) (Nat.le_of_eq (Nat.zero_add _)) (Nat.le_of_eq (Nat.zero_add _)) (fun v w2 sz2 q => ?_)
  obtain ⟨rfl, r9, t9, P1, rfl, ⟨K1, hM2, e9⟩, hR⟩ := q
  obtain ⟨e1, hC1, hg⟩ := hq _ _ _ hR
  have hV2 := LIv.st2 hT hC1 (draw_inv hI hR) hM2
  rw [show xI r9 = xI (Int32.ofInt r9).toInt from int_xI _]
  refine V_istore dL_law_215 (by decide) ?_
  refine V_aload_n dL_law_217 2 rfl rfl ?_
  refine V_c_L_82 rfl (by decide) (m_thrown hM2) dL_law_218 hM2.1 rfl rfl (Nat.le_of_ble_eq_true rfl) (Nat.le_of_eq (Nat.zero_add _)) (Nat.le_of_eq (Nat.zero_add _)) (fun v w sz q => ?_)
  obtain ⟨rfl, rfl, rfl⟩ := q
  refine V_iload dL_law_221 rfl ?_
  refine V_icmp_eq 228 dL_law_223 (by decide) (by omega) (fun h223 => ?_) (fun h223 => ?_)
  · refine V_iload dL_law_228 rfl ?_
    refine V_if_ne 245 dL_law_230 (by decide) (by omega) (fun h230 => ?_) (fun h230 => ?_)
    · refine V_goto 1518 dL_law_245 (by decide) ?_
      refine V_fg [true, true, true, true, true, false, false, false, false] ?_
      exact kk _ _ _ hV2
    · obtain ⟨g9, hg1, hg2⟩ := hg h230
      have ho9 := (hM2.fr (χ + 47) (by omega)).trans hg1
      refine V_aload_n dL_law_233 3 rfl rfl ?_
      refine V_iconst dL_law_234 ?_
      refine V_lald dL_law_235 ho9 (by decide) ?_
      rw [hg2]
      refine V_iload dL_law_236 rfl ?_
      refine V_i2l dL_law_238 (int_r _) ?_
      refine V_lcmpZ dL_law_239 (fun _ => ?_) (fun h => absurd rfl h)
      refine V_if_eq 245 dL_law_240 (by decide) (by omega) (fun h240 => ?_) (fun h240 => ?_)
      · refine V_goto 1518 dL_law_245 (by decide) ?_
        refine V_fg [true, true, true, true, true, false, false, false, false] ?_
        exact kk _ _ _ hV2
      · exact absurd h240 (by simp)
  · exact absurd (e9.trans e1) h223
set_option maxRecDepth 100000 in
set_option maxHeartbeats 4000000 in
theorem k_fill {Z : XZ} {kc ks : Nat} {w : WD} {sz χ L : Nat} {P : MP} {xs : Nat → Int32} {i : Int} (hS : ZS Z L xs) (hL : L < 2147483648) (hi : 0 ≤ i ∧ i + 7 ≤ (L : Int)) (hV : LIv w sz χ P) (kk : ∀ w' sz' P', LIv w' sz' χ P' → V iL_law Z kc ks w' sz' 1518 [some (.ref 0), some (.ref χ), some (.ref (χ + 37)), some (.ref (χ + 47)), some (xI i), none, none, none, none] []) : V iL_law Z (kc + 9) (ks + 206) w sz 248 [some (.ref 0), some (.ref χ), some (.ref (χ + 37)), some (.ref (χ + 47)), some (xI i), none, none, none, none] [] := by
  obtain ⟨hC, hI, ⟨K, hM⟩, hN, hs, f9, ho⟩ := hV
  refine V_aload_n dL_law_248 1 rfl rfl ?_
  refine V_aload_n dL_law_249 0 rfl rfl ?_
  refine V_iload dL_law_250 rfl ?_
  refine V_iconst dL_law_252 ?_
  refine V_iadd dL_law_253 ?_
  refine V_sald hS dL_law_254 (by omega) hL ?_
  refine V_aload_n dL_law_255 3 rfl rfl ?_
  refine V_c_L_85 (kc' := kc) (ks' := ks) rfl (by decide) (l_fill hC hI hN hs ho ⟨(sc_r xs (i + 1)).1, (sc_r xs (i + 1)).2⟩) dL_law_256 rfl rfl (Nat.le_of_ble_eq_true rfl) (by omega) (by omega) (fun E w1 sz1 q => q.elim) (fun v w1 sz1 q => ?_)
  obtain ⟨hT, k, rfl, hk, hq⟩ := q
  have hM1 := MW.L hM hT
  refine V_istore dL_law_259 (by decide) ?_
  refine V_aload_n dL_law_261 2 rfl rfl ?_
  refine V_aload_n dL_law_262 0 rfl rfl ?_
  refine V_iload dL_law_263 rfl ?_
  refine V_iconst dL_law_265 ?_
  refine V_iadd dL_law_266 ?_
  refine V_sald hS dL_law_267 (by omega) hL ?_
  refine V_c_L_88 rfl (by decide) (m_fill hM1 hI.1 hI.2.1 ⟨(sc_r xs (i + 1)).1, (sc_r xs (i + 1)).2⟩) dL_law_268 hM1.1 rfl rfl (Nat.le_of_ble_eq_true rfl) (Nat.le_of_eq (Nat.zero_add _)) (Nat.le_of_eq (Nat.zero_add _)) (fun v w2 sz2 q => ?_)
  obtain ⟨rfl, r9, t9, P1, rfl, ⟨K1, hM2, e9⟩, hR⟩ := q
  obtain ⟨e1, hC1, hg⟩ := hq _ _ _ hR
  have hV2 := LIv.st2 hT hC1 (fill_inv hI hR) hM2
  rw [show xI r9 = xI (Int32.ofInt r9).toInt from int_xI _]
  refine V_istore dL_law_271 (by decide) ?_
  refine V_aload_n dL_law_273 2 rfl rfl ?_
  refine V_c_L_82 rfl (by decide) (m_thrown hM2) dL_law_274 hM2.1 rfl rfl (Nat.le_of_ble_eq_true rfl) (Nat.le_of_eq (Nat.zero_add _)) (Nat.le_of_eq (Nat.zero_add _)) (fun v w sz q => ?_)
  obtain ⟨rfl, rfl, rfl⟩ := q
  refine V_iload dL_law_277 rfl ?_
  refine V_icmp_eq 284 dL_law_279 (by decide) (by omega) (fun h279 => ?_) (fun h279 => ?_)
  · refine V_iload dL_law_284 rfl ?_
    refine V_if_ne 301 dL_law_286 (by decide) (by omega) (fun h286 => ?_) (fun h286 => ?_)
    · refine V_goto 1518 dL_law_301 (by decide) ?_
      refine V_fg [true, true, true, true, true, false, false, false, false] ?_
      exact kk _ _ _ hV2
    · obtain ⟨g9, hg1, hg2⟩ := hg h286
      have ho9 := (hM2.fr (χ + 47) (by omega)).trans hg1
      refine V_aload_n dL_law_289 3 rfl rfl ?_
      refine V_iconst dL_law_290 ?_
      refine V_lald dL_law_291 ho9 (by decide) ?_
      rw [hg2]
      refine V_iload dL_law_292 rfl ?_
      refine V_i2l dL_law_294 (int_r _) ?_
      refine V_lcmpZ dL_law_295 (fun _ => ?_) (fun h => absurd rfl h)
      refine V_if_eq 301 dL_law_296 (by decide) (by omega) (fun h296 => ?_) (fun h296 => ?_)
      · refine V_goto 1518 dL_law_301 (by decide) ?_
        refine V_fg [true, true, true, true, true, false, false, false, false] ?_
        exact kk _ _ _ hV2
      · exact absurd h296 (by simp)
  · exact absurd (e9.trans e1) h279
set_option maxRecDepth 100000 in
set_option maxHeartbeats 4000000 in
theorem k_pick {Z : XZ} {kc ks : Nat} {w : WD} {sz χ L : Nat} {P : MP} {xs : Nat → Int32} {i : Int} (hS : ZS Z L xs) (hL : L < 2147483648) (hi : 0 ≤ i ∧ i + 7 ≤ (L : Int)) (hV : LIv w sz χ P) (kk : ∀ w' sz' P', LIv w' sz' χ P' → V iL_law Z kc ks w' sz' 1518 [some (.ref 0), some (.ref χ), some (.ref (χ + 37)), some (.ref (χ + 47)), some (xI i), none, none, none, none] []) : V iL_law Z (kc + 9) (ks + 206) w sz 304 [some (.ref 0), some (.ref χ), some (.ref (χ + 37)), some (.ref (χ + 47)), some (xI i), none, none, none, none] [] := by
  obtain ⟨hC, hI, ⟨K, hM⟩, hN, hs, f9, ho⟩ := hV
  refine V_aload_n dL_law_304 1 rfl rfl ?_
  refine V_aload_n dL_law_305 0 rfl rfl ?_
  refine V_iload dL_law_306 rfl ?_
  refine V_iconst dL_law_308 ?_
  refine V_iadd dL_law_309 ?_
  refine V_sald hS dL_law_310 (by omega) hL ?_
  refine V_aload_n dL_law_311 0 rfl rfl ?_
  refine V_iload dL_law_312 rfl ?_
  refine V_iconst dL_law_314 ?_
  refine V_iadd dL_law_315 ?_
  refine V_sald hS dL_law_316 (by omega) hL ?_
  refine V_aload_n dL_law_317 0 rfl rfl ?_
  refine V_iload dL_law_318 rfl ?_
  refine V_iconst dL_law_320 ?_
  refine V_iadd dL_law_321 ?_
  refine V_sald hS dL_law_322 (by omega) hL ?_
  refine V_aload_n dL_law_323 0 rfl rfl ?_
  refine V_iload dL_law_324 rfl ?_
  refine V_iconst dL_law_326 ?_
  refine V_iadd dL_law_327 ?_
  refine V_sald hS dL_law_328 (by omega) hL ?_
  refine V_aload_n dL_law_329 0 rfl rfl ?_
  refine V_iload dL_law_330 rfl ?_
  refine V_iconst dL_law_332 ?_
  refine V_iadd dL_law_333 ?_
  refine V_sald hS dL_law_334 (by omega) hL ?_
  refine V_aload_n dL_law_335 0 rfl rfl ?_
  refine V_iload dL_law_336 rfl ?_
  refine V_bipush dL_law_338 (by decide) ?_
  refine V_iadd dL_law_340 ?_
  refine V_sald hS dL_law_341 (by omega) hL ?_
  refine V_aload_n dL_law_342 3 rfl rfl ?_
  refine V_c_L_89 (kc' := kc) (ks' := ks) rfl (by decide) (l_pick hC hI hN hs ho ⟨(sc_r xs (i + 1)).1, (sc_r xs (i + 1)).2, (sc_r xs (i + 2)).1, (sc_r xs (i + 2)).2, (sc_r xs (i + 3)).1, (sc_r xs (i + 3)).2, (sc_r xs (i + 4)).1, (sc_r xs (i + 4)).2, (sc_r xs (i + 5)).1, (sc_r xs (i + 5)).2, (sc_r xs (i + 6)).1, (sc_r xs (i + 6)).2⟩) dL_law_343 rfl rfl (Nat.le_of_ble_eq_true rfl) (by omega) (by omega) (fun E w1 sz1 q => q.elim) (fun v w1 sz1 q => ?_)
  obtain ⟨hT, k, rfl, hk, hq⟩ := q
  have hM1 := MW.L hM hT
  refine V_istore dL_law_346 (by decide) ?_
  refine V_aload_n dL_law_348 2 rfl rfl ?_
  refine V_aload_n dL_law_349 0 rfl rfl ?_
  refine V_iload dL_law_350 rfl ?_
  refine V_iconst dL_law_352 ?_
  refine V_iadd dL_law_353 ?_
  refine V_sald hS dL_law_354 (by omega) hL ?_
  refine V_aload_n dL_law_355 0 rfl rfl ?_
  refine V_iload dL_law_356 rfl ?_
  refine V_iconst dL_law_358 ?_
  refine V_iadd dL_law_359 ?_
  refine V_sald hS dL_law_360 (by omega) hL ?_
  refine V_aload_n dL_law_361 0 rfl rfl ?_
  refine V_iload dL_law_362 rfl ?_
  refine V_iconst dL_law_364 ?_
  refine V_iadd dL_law_365 ?_
  refine V_sald hS dL_law_366 (by omega) hL ?_
  refine V_aload_n dL_law_367 0 rfl rfl ?_
  refine V_iload dL_law_368 rfl ?_
  refine V_iconst dL_law_370 ?_
  refine V_iadd dL_law_371 ?_
  refine V_sald hS dL_law_372 (by omega) hL ?_
  refine V_aload_n dL_law_373 0 rfl rfl ?_
  refine V_iload dL_law_374 rfl ?_
  refine V_iconst dL_law_376 ?_
  refine V_iadd dL_law_377 ?_
  refine V_sald hS dL_law_378 (by omega) hL ?_
  refine V_aload_n dL_law_379 0 rfl rfl ?_
  refine V_iload dL_law_380 rfl ?_
  refine V_bipush dL_law_382 (by decide) ?_
  refine V_iadd dL_law_384 ?_
  refine V_sald hS dL_law_385 (by omega) hL ?_
  refine V_c_L_92 rfl (by decide) (m_pick hM1 hI.1 hI.2.1 ⟨(sc_r xs (i + 1)).1, (sc_r xs (i + 1)).2, (sc_r xs (i + 2)).1, (sc_r xs (i + 2)).2, (sc_r xs (i + 3)).1, (sc_r xs (i + 3)).2, (sc_r xs (i + 4)).1, (sc_r xs (i + 4)).2, (sc_r xs (i + 5)).1, (sc_r xs (i + 5)).2, (sc_r xs (i + 6)).1, (sc_r xs (i + 6)).2⟩) dL_law_386 hM1.1 rfl rfl (Nat.le_of_ble_eq_true rfl) (Nat.le_of_eq (Nat.zero_add _)) (Nat.le_of_eq (Nat.zero_add _)) (fun v w2 sz2 q => ?_)
  obtain ⟨rfl, r9, t9, P1, rfl, ⟨K1, hM2, e9⟩, hR⟩ := q
  obtain ⟨e1, hC1, hg⟩ := hq _ _ _ hR
  have hV2 := LIv.st2 hT hC1 (pick_inv hI hR) hM2
  rw [show xI r9 = xI (Int32.ofInt r9).toInt from int_xI _]
  refine V_istore dL_law_389 (by decide) ?_
  refine V_aload_n dL_law_391 2 rfl rfl ?_
  refine V_c_L_82 rfl (by decide) (m_thrown hM2) dL_law_392 hM2.1 rfl rfl (Nat.le_of_ble_eq_true rfl) (Nat.le_of_eq (Nat.zero_add _)) (Nat.le_of_eq (Nat.zero_add _)) (fun v w sz q => ?_)
  obtain ⟨rfl, rfl, rfl⟩ := q
  refine V_iload dL_law_395 rfl ?_
  refine V_icmp_eq 402 dL_law_397 (by decide) (by omega) (fun h397 => ?_) (fun h397 => ?_)
  · refine V_iload dL_law_402 rfl ?_
    refine V_if_ne 419 dL_law_404 (by decide) (by omega) (fun h404 => ?_) (fun h404 => ?_)
    · refine V_goto 1518 dL_law_419 (by decide) ?_
      refine V_fg [true, true, true, true, true, false, false, false, false] ?_
      exact kk _ _ _ hV2
    · obtain ⟨g9, hg1, hg2⟩ := hg h404
      have ho9 := (hM2.fr (χ + 47) (by omega)).trans hg1
      refine V_aload_n dL_law_407 3 rfl rfl ?_
      refine V_iconst dL_law_408 ?_
      refine V_lald dL_law_409 ho9 (by decide) ?_
      rw [hg2]
      refine V_iload dL_law_410 rfl ?_
      refine V_i2l dL_law_412 (int_r _) ?_
      refine V_lcmpZ dL_law_413 (fun _ => ?_) (fun h => absurd rfl h)
      refine V_if_eq 419 dL_law_414 (by decide) (by omega) (fun h414 => ?_) (fun h414 => ?_)
      · refine V_goto 1518 dL_law_419 (by decide) ?_
        refine V_fg [true, true, true, true, true, false, false, false, false] ?_
        exact kk _ _ _ hV2
      · exact absurd h414 (by simp)
  · exact absurd (e9.trans e1) h397
set_option maxRecDepth 100000 in
set_option maxHeartbeats 4000000 in
theorem k_toggle {Z : XZ} {kc ks : Nat} {w : WD} {sz χ L : Nat} {P : MP} {xs : Nat → Int32} {i : Int} (hS : ZS Z L xs) (hL : L < 2147483648) (hi : 0 ≤ i ∧ i + 7 ≤ (L : Int)) (hV : LIv w sz χ P) (kk : ∀ w' sz' P', LIv w' sz' χ P' → V iL_law Z kc ks w' sz' 1518 [some (.ref 0), some (.ref χ), some (.ref (χ + 37)), some (.ref (χ + 47)), some (xI i), none, none, none, none] []) : V iL_law Z (kc + 9) (ks + 206) w sz 422 [some (.ref 0), some (.ref χ), some (.ref (χ + 37)), some (.ref (χ + 47)), some (xI i), none, none, none, none] [] := by
  obtain ⟨hC, hI, ⟨K, hM⟩, hN, hs, f9, ho⟩ := hV
  refine V_aload_n dL_law_422 1 rfl rfl ?_
  refine V_aload_n dL_law_423 0 rfl rfl ?_
  refine V_iload dL_law_424 rfl ?_
  refine V_iconst dL_law_426 ?_
  refine V_iadd dL_law_427 ?_
  refine V_sald hS dL_law_428 (by omega) hL ?_
  refine V_aload_n dL_law_429 3 rfl rfl ?_
  refine V_c_L_93 (kc' := kc) (ks' := ks) rfl (by decide) (l_toggle hC hI hN hs ho ⟨(sc_r xs (i + 1)).1, (sc_r xs (i + 1)).2⟩) dL_law_430 rfl rfl (Nat.le_of_ble_eq_true rfl) (by omega) (by omega) (fun E w1 sz1 q => q.elim) (fun v w1 sz1 q => ?_)
  obtain ⟨hT, k, rfl, hk, hq⟩ := q
  have hM1 := MW.L hM hT
  refine V_istore dL_law_433 (by decide) ?_
  refine V_aload_n dL_law_435 2 rfl rfl ?_
  refine V_aload_n dL_law_436 0 rfl rfl ?_
  refine V_iload dL_law_437 rfl ?_
  refine V_iconst dL_law_439 ?_
  refine V_iadd dL_law_440 ?_
  refine V_sald hS dL_law_441 (by omega) hL ?_
  refine V_c_L_95 rfl (by decide) (m_toggle hM1 hI.1 hI.2.1 ⟨(sc_r xs (i + 1)).1, (sc_r xs (i + 1)).2⟩) dL_law_442 hM1.1 rfl rfl (Nat.le_of_ble_eq_true rfl) (Nat.le_of_eq (Nat.zero_add _)) (Nat.le_of_eq (Nat.zero_add _)) (fun v w2 sz2 q => ?_)
  obtain ⟨rfl, r9, t9, P1, rfl, ⟨K1, hM2, e9⟩, hR⟩ := q
  obtain ⟨e1, hC1, hg⟩ := hq _ _ _ hR
  have hV2 := LIv.st2 hT hC1 (tog_inv hI hR) hM2
  rw [show xI r9 = xI (Int32.ofInt r9).toInt from int_xI _]
  refine V_istore dL_law_445 (by decide) ?_
  refine V_aload_n dL_law_447 2 rfl rfl ?_
  refine V_c_L_82 rfl (by decide) (m_thrown hM2) dL_law_448 hM2.1 rfl rfl (Nat.le_of_ble_eq_true rfl) (Nat.le_of_eq (Nat.zero_add _)) (Nat.le_of_eq (Nat.zero_add _)) (fun v w sz q => ?_)
  obtain ⟨rfl, rfl, rfl⟩ := q
  refine V_iload dL_law_451 rfl ?_
  refine V_icmp_eq 458 dL_law_453 (by decide) (by omega) (fun h453 => ?_) (fun h453 => ?_)
  · refine V_iload dL_law_458 rfl ?_
    refine V_if_ne 475 dL_law_460 (by decide) (by omega) (fun h460 => ?_) (fun h460 => ?_)
    · refine V_goto 1518 dL_law_475 (by decide) ?_
      refine V_fg [true, true, true, true, true, false, false, false, false] ?_
      exact kk _ _ _ hV2
    · obtain ⟨g9, hg1, hg2⟩ := hg h460
      have ho9 := (hM2.fr (χ + 47) (by omega)).trans hg1
      refine V_aload_n dL_law_463 3 rfl rfl ?_
      refine V_iconst dL_law_464 ?_
      refine V_lald dL_law_465 ho9 (by decide) ?_
      rw [hg2]
      refine V_iload dL_law_466 rfl ?_
      refine V_i2l dL_law_468 (int_r _) ?_
      refine V_lcmpZ dL_law_469 (fun _ => ?_) (fun h => absurd rfl h)
      refine V_if_eq 475 dL_law_470 (by decide) (by omega) (fun h470 => ?_) (fun h470 => ?_)
      · refine V_goto 1518 dL_law_475 (by decide) ?_
        refine V_fg [true, true, true, true, true, false, false, false, false] ?_
        exact kk _ _ _ hV2
      · exact absurd h470 (by simp)
  · exact absurd (e9.trans e1) h453
set_option maxRecDepth 100000 in
set_option maxHeartbeats 4000000 in
theorem k_setKind {Z : XZ} {kc ks : Nat} {w : WD} {sz χ L : Nat} {P : MP} {xs : Nat → Int32} {i : Int} (hS : ZS Z L xs) (hL : L < 2147483648) (hi : 0 ≤ i ∧ i + 7 ≤ (L : Int)) (hV : LIv w sz χ P) (kk : ∀ w' sz' P', LIv w' sz' χ P' → V iL_law Z kc ks w' sz' 1518 [some (.ref 0), some (.ref χ), some (.ref (χ + 37)), some (.ref (χ + 47)), some (xI i), none, none, none, none] []) : V iL_law Z (kc + 9) (ks + 206) w sz 478 [some (.ref 0), some (.ref χ), some (.ref (χ + 37)), some (.ref (χ + 47)), some (xI i), none, none, none, none] [] := by
  obtain ⟨hC, hI, ⟨K, hM⟩, hN, hs, f9, ho⟩ := hV
  refine V_aload_n dL_law_478 1 rfl rfl ?_
  refine V_aload_n dL_law_479 0 rfl rfl ?_
  refine V_iload dL_law_480 rfl ?_
  refine V_iconst dL_law_482 ?_
  refine V_iadd dL_law_483 ?_
  refine V_sald hS dL_law_484 (by omega) hL ?_
  refine V_aload_n dL_law_485 0 rfl rfl ?_
  refine V_iload dL_law_486 rfl ?_
  refine V_iconst dL_law_488 ?_
  refine V_iadd dL_law_489 ?_
  refine V_sald hS dL_law_490 (by omega) hL ?_
  refine V_aload_n dL_law_491 3 rfl rfl ?_
  refine V_c_L_96 (kc' := kc) (ks' := ks) rfl (by decide) (l_setKind hC hI hN hs ho ⟨(sc_r xs (i + 1)).1, (sc_r xs (i + 1)).2, (sc_r xs (i + 2)).1, (sc_r xs (i + 2)).2⟩) dL_law_492 rfl rfl (Nat.le_of_ble_eq_true rfl) (by omega) (by omega) (fun E w1 sz1 q => q.elim) (fun v w1 sz1 q => ?_)
  obtain ⟨hT, k, rfl, hk, hq⟩ := q
  have hM1 := MW.L hM hT
  refine V_istore dL_law_495 (by decide) ?_
  refine V_aload_n dL_law_497 2 rfl rfl ?_
  refine V_aload_n dL_law_498 0 rfl rfl ?_
  refine V_iload dL_law_499 rfl ?_
  refine V_iconst dL_law_501 ?_
  refine V_iadd dL_law_502 ?_
  refine V_sald hS dL_law_503 (by omega) hL ?_
  refine V_aload_n dL_law_504 0 rfl rfl ?_
  refine V_iload dL_law_505 rfl ?_
  refine V_iconst dL_law_507 ?_
  refine V_iadd dL_law_508 ?_
  refine V_sald hS dL_law_509 (by omega) hL ?_
  refine V_c_L_99 rfl (by decide) (m_setKind hM1 hI.1 hI.2.1 ⟨(sc_r xs (i + 1)).1, (sc_r xs (i + 1)).2, (sc_r xs (i + 2)).1, (sc_r xs (i + 2)).2⟩) dL_law_510 hM1.1 rfl rfl (Nat.le_of_ble_eq_true rfl) (Nat.le_of_eq (Nat.zero_add _)) (Nat.le_of_eq (Nat.zero_add _)) (fun v w2 sz2 q => ?_)
  obtain ⟨rfl, r9, t9, P1, rfl, ⟨K1, hM2, e9⟩, hR⟩ := q
  obtain ⟨e1, hC1, hg⟩ := hq _ _ _ hR
  have hV2 := LIv.st2 hT hC1 (knd_inv hI hR) hM2
  rw [show xI r9 = xI (Int32.ofInt r9).toInt from int_xI _]
  refine V_istore dL_law_513 (by decide) ?_
  refine V_aload_n dL_law_515 2 rfl rfl ?_
  refine V_c_L_82 rfl (by decide) (m_thrown hM2) dL_law_516 hM2.1 rfl rfl (Nat.le_of_ble_eq_true rfl) (Nat.le_of_eq (Nat.zero_add _)) (Nat.le_of_eq (Nat.zero_add _)) (fun v w sz q => ?_)
  obtain ⟨rfl, rfl, rfl⟩ := q
  refine V_iload dL_law_519 rfl ?_
  refine V_icmp_eq 526 dL_law_521 (by decide) (by omega) (fun h521 => ?_) (fun h521 => ?_)
  · refine V_iload dL_law_526 rfl ?_
    refine V_if_ne 543 dL_law_528 (by decide) (by omega) (fun h528 => ?_) (fun h528 => ?_)
    · refine V_goto 1518 dL_law_543 (by decide) ?_
      refine V_fg [true, true, true, true, true, false, false, false, false] ?_
      exact kk _ _ _ hV2
    · obtain ⟨g9, hg1, hg2⟩ := hg h528
      have ho9 := (hM2.fr (χ + 47) (by omega)).trans hg1
      refine V_aload_n dL_law_531 3 rfl rfl ?_
      refine V_iconst dL_law_532 ?_
      refine V_lald dL_law_533 ho9 (by decide) ?_
      rw [hg2]
      refine V_iload dL_law_534 rfl ?_
      refine V_i2l dL_law_536 (int_r _) ?_
      refine V_lcmpZ dL_law_537 (fun _ => ?_) (fun h => absurd rfl h)
      refine V_if_eq 543 dL_law_538 (by decide) (by omega) (fun h538 => ?_) (fun h538 => ?_)
      · refine V_goto 1518 dL_law_543 (by decide) ?_
        refine V_fg [true, true, true, true, true, false, false, false, false] ?_
        exact kk _ _ _ hV2
      · exact absurd h538 (by simp)
  · exact absurd (e9.trans e1) h521
set_option maxRecDepth 100000 in
set_option maxHeartbeats 4000000 in
theorem k_reorder {Z : XZ} {kc ks : Nat} {w : WD} {sz χ L : Nat} {P : MP} {xs : Nat → Int32} {i : Int} (hS : ZS Z L xs) (hL : L < 2147483648) (hi : 0 ≤ i ∧ i + 7 ≤ (L : Int)) (hV : LIv w sz χ P) (kk : ∀ w' sz' P', LIv w' sz' χ P' → V iL_law Z kc ks w' sz' 1518 [some (.ref 0), some (.ref χ), some (.ref (χ + 37)), some (.ref (χ + 47)), some (xI i), none, none, none, none] []) : V iL_law Z (kc + 9) (ks + 206) w sz 546 [some (.ref 0), some (.ref χ), some (.ref (χ + 37)), some (.ref (χ + 47)), some (xI i), none, none, none, none] [] := by
  obtain ⟨hC, hI, ⟨K, hM⟩, hN, hs, f9, ho⟩ := hV
  refine V_aload_n dL_law_546 1 rfl rfl ?_
  refine V_aload_n dL_law_547 0 rfl rfl ?_
  refine V_iload dL_law_548 rfl ?_
  refine V_iconst dL_law_550 ?_
  refine V_iadd dL_law_551 ?_
  refine V_sald hS dL_law_552 (by omega) hL ?_
  refine V_aload_n dL_law_553 0 rfl rfl ?_
  refine V_iload dL_law_554 rfl ?_
  refine V_iconst dL_law_556 ?_
  refine V_iadd dL_law_557 ?_
  refine V_sald hS dL_law_558 (by omega) hL ?_
  refine V_aload_n dL_law_559 3 rfl rfl ?_
  refine V_c_L_100 (kc' := kc) (ks' := ks) rfl (by decide) (l_reorder hC hI hN hs ho ⟨(sc_r xs (i + 1)).1, (sc_r xs (i + 1)).2, (sc_r xs (i + 2)).1, (sc_r xs (i + 2)).2⟩) dL_law_560 rfl rfl (Nat.le_of_ble_eq_true rfl) (by omega) (by omega) (fun E w1 sz1 q => q.elim) (fun v w1 sz1 q => ?_)
  obtain ⟨hT, k, rfl, hk, hq⟩ := q
  have hM1 := MW.L hM hT
  refine V_istore dL_law_563 (by decide) ?_
  refine V_aload_n dL_law_565 2 rfl rfl ?_
  refine V_aload_n dL_law_566 0 rfl rfl ?_
  refine V_iload dL_law_567 rfl ?_
  refine V_iconst dL_law_569 ?_
  refine V_iadd dL_law_570 ?_
  refine V_sald hS dL_law_571 (by omega) hL ?_
  refine V_aload_n dL_law_572 0 rfl rfl ?_
  refine V_iload dL_law_573 rfl ?_
  refine V_iconst dL_law_575 ?_
  refine V_iadd dL_law_576 ?_
  refine V_sald hS dL_law_577 (by omega) hL ?_
  refine V_c_L_102 rfl (by decide) (m_reorder hM1 hI.1 hI.2.1 ⟨(sc_r xs (i + 1)).1, (sc_r xs (i + 1)).2, (sc_r xs (i + 2)).1, (sc_r xs (i + 2)).2⟩) dL_law_578 hM1.1 rfl rfl (Nat.le_of_ble_eq_true rfl) (Nat.le_of_eq (Nat.zero_add _)) (Nat.le_of_eq (Nat.zero_add _)) (fun v w2 sz2 q => ?_)
  obtain ⟨rfl, r9, t9, P1, rfl, ⟨K1, hM2, e9⟩, hR⟩ := q
  obtain ⟨e1, hC1, hg⟩ := hq _ _ _ hR
  have hV2 := LIv.st2 hT hC1 (ord_inv hI hR) hM2
  rw [show xI r9 = xI (Int32.ofInt r9).toInt from int_xI _]
  refine V_istore dL_law_581 (by decide) ?_
  refine V_aload_n dL_law_583 2 rfl rfl ?_
  refine V_c_L_82 rfl (by decide) (m_thrown hM2) dL_law_584 hM2.1 rfl rfl (Nat.le_of_ble_eq_true rfl) (Nat.le_of_eq (Nat.zero_add _)) (Nat.le_of_eq (Nat.zero_add _)) (fun v w sz q => ?_)
  obtain ⟨rfl, rfl, rfl⟩ := q
  refine V_iload dL_law_587 rfl ?_
  refine V_icmp_eq 594 dL_law_589 (by decide) (by omega) (fun h589 => ?_) (fun h589 => ?_)
  · refine V_iload dL_law_594 rfl ?_
    refine V_if_ne 611 dL_law_596 (by decide) (by omega) (fun h596 => ?_) (fun h596 => ?_)
    · refine V_goto 1518 dL_law_611 (by decide) ?_
      refine V_fg [true, true, true, true, true, false, false, false, false] ?_
      exact kk _ _ _ hV2
    · obtain ⟨g9, hg1, hg2⟩ := hg h596
      have ho9 := (hM2.fr (χ + 47) (by omega)).trans hg1
      refine V_aload_n dL_law_599 3 rfl rfl ?_
      refine V_iconst dL_law_600 ?_
      refine V_lald dL_law_601 ho9 (by decide) ?_
      rw [hg2]
      refine V_iload dL_law_602 rfl ?_
      refine V_i2l dL_law_604 (int_r _) ?_
      refine V_lcmpZ dL_law_605 (fun _ => ?_) (fun h => absurd rfl h)
      refine V_if_eq 611 dL_law_606 (by decide) (by omega) (fun h606 => ?_) (fun h606 => ?_)
      · refine V_goto 1518 dL_law_611 (by decide) ?_
        refine V_fg [true, true, true, true, true, false, false, false, false] ?_
        exact kk _ _ _ hV2
      · exact absurd h606 (by simp)
  · exact absurd (e9.trans e1) h589
set_option maxRecDepth 100000 in
set_option maxHeartbeats 4000000 in
theorem k_clean {Z : XZ} {kc ks : Nat} {w : WD} {sz χ L : Nat} {P : MP} {xs : Nat → Int32} {i : Int} (hS : ZS Z L xs) (hL : L < 2147483648) (hi : 0 ≤ i ∧ i + 7 ≤ (L : Int)) (hV : LIv w sz χ P) (kk : ∀ w' sz' P', LIv w' sz' χ P' → V iL_law Z kc ks w' sz' 1518 [some (.ref 0), some (.ref χ), some (.ref (χ + 37)), some (.ref (χ + 47)), some (xI i), none, none, none, none] []) : V iL_law Z (kc + 9) (ks + 206) w sz 614 [some (.ref 0), some (.ref χ), some (.ref (χ + 37)), some (.ref (χ + 47)), some (xI i), none, none, none, none] [] := by
  obtain ⟨hC, hI, ⟨K, hM⟩, hN, hs, f9, ho⟩ := hV
  refine V_le (Nat.le_add_right _ _) (Nat.le_add_right _ _) ?_
  refine V_aload_n dL_law_614 1 rfl rfl ?_
  refine V_c_L_103 rfl (by decide) (c_clean hC hI hN hs) dL_law_615 hC.1 rfl rfl (Nat.le_of_ble_eq_true rfl) (Nat.le_of_eq (Nat.zero_add _)) (Nat.le_of_eq (Nat.zero_add _)) (fun v w1 sz1 q => ?_)
  obtain ⟨⟨x9, rfl⟩, hF, hq⟩ := q
  have hT := hF.L ho
  have hM1 := MW.L hM hT
  refine V_aload_n dL_law_618 2 rfl rfl ?_
  refine V_c_L_106 rfl (by decide) (m_clean hM1 hI.1 hI.2.1) dL_law_619 hM1.1 rfl rfl (Nat.le_of_ble_eq_true rfl) (Nat.le_of_eq (Nat.zero_add _)) (Nat.le_of_eq (Nat.zero_add _)) (fun v w2 sz2 q => ?_)
  obtain ⟨rfl, r9, t9, P1, rfl, ⟨K1, hM2, e9⟩, hR⟩ := q
  obtain ⟨e1, e2, hC1⟩ := hq _ _ _ hR
  have hV2 := LIv.st2 hT hC1 (cln_inv hI hR) hM2
  have e3 : Value.int x9 = xI r9 := Option.some.inj e2
  rw [e3, show xI r9 = xI (Int32.ofInt r9).toInt from int_xI _]
  have hr9 := int_r (Int32.ofInt r9)
  simp only [Option.toList, List.cons_append, List.nil_append]
  refine V_icmp_eq 1518 dL_law_622 (by decide) (by omega) (fun h622 => ?_) (fun h622 => ?_)
  · refine V_fg [true, true, true, true, true, false, false, false, false] ?_
    exact kk _ _ _ hV2
  · exact absurd rfl h622
set_option maxRecDepth 100000 in
set_option maxHeartbeats 4000000 in
theorem k_append {Z : XZ} {kc ks : Nat} {w : WD} {sz χ L : Nat} {P : MP} {xs : Nat → Int32} {i : Int} (hS : ZS Z L xs) (hL : L < 2147483648) (hi : 0 ≤ i ∧ i + 7 ≤ (L : Int)) (hV : LIv w sz χ P) (kk : ∀ w' sz' P', LIv w' sz' χ P' → V iL_law Z kc ks w' sz' 1518 [some (.ref 0), some (.ref χ), some (.ref (χ + 37)), some (.ref (χ + 47)), some (xI i), none, none, none, none] []) : V iL_law Z (kc + 9) (ks + 206) w sz 627 [some (.ref 0), some (.ref χ), some (.ref (χ + 37)), some (.ref (χ + 47)), some (xI i), none, none, none, none] [] := by
  obtain ⟨hC, hI, ⟨K, hM⟩, hN, hs, f9, ho⟩ := hV
  refine V_aload_n dL_law_627 1 rfl rfl ?_
  refine V_aload_n dL_law_628 0 rfl rfl ?_
  refine V_iload dL_law_629 rfl ?_
  refine V_iconst dL_law_631 ?_
  refine V_iadd dL_law_632 ?_
  refine V_sald hS dL_law_633 (by omega) hL ?_
  refine V_aload_n dL_law_634 3 rfl rfl ?_
  refine V_c_L_107 (kc' := kc) (ks' := ks) rfl (by decide) (l_append hC hI hN hs ho ⟨(sc_r xs (i + 1)).1, (sc_r xs (i + 1)).2⟩) dL_law_635 rfl rfl (Nat.le_of_ble_eq_true rfl) (by omega) (by omega) (fun E w1 sz1 q => q.elim) (fun v w1 sz1 q => ?_)
  obtain ⟨hT, k, rfl, hk, hq⟩ := q
  have hM1 := MW.L hM hT
  refine V_istore dL_law_638 (by decide) ?_
  refine V_aload_n dL_law_640 2 rfl rfl ?_
  refine V_aload_n dL_law_641 0 rfl rfl ?_
  refine V_iload dL_law_642 rfl ?_
  refine V_iconst dL_law_644 ?_
  refine V_iadd dL_law_645 ?_
  refine V_sald hS dL_law_646 (by omega) hL ?_
  refine V_c_L_109 rfl (by decide) (m_append hM1 hI.2.2.2 ⟨(sc_r xs (i + 1)).1, (sc_r xs (i + 1)).2⟩) dL_law_647 hM1.1 rfl rfl (Nat.le_of_ble_eq_true rfl) (Nat.le_of_eq (Nat.zero_add _)) (Nat.le_of_eq (Nat.zero_add _)) (fun v w2 sz2 q => ?_)
  obtain ⟨rfl, r9, t9, P1, rfl, ⟨K1, hM2, e9⟩, hR⟩ := q
  obtain ⟨e1, hC1, hg⟩ := hq _ _ _ hR
  have hV2 := LIv.st2 hT hC1 (app_inv hI hR) hM2
  rw [show xI r9 = xI (Int32.ofInt r9).toInt from int_xI _]
  refine V_istore dL_law_650 (by decide) ?_
  refine V_aload_n dL_law_652 2 rfl rfl ?_
  refine V_c_L_82 rfl (by decide) (m_thrown hM2) dL_law_653 hM2.1 rfl rfl (Nat.le_of_ble_eq_true rfl) (Nat.le_of_eq (Nat.zero_add _)) (Nat.le_of_eq (Nat.zero_add _)) (fun v w sz q => ?_)
  obtain ⟨rfl, rfl, rfl⟩ := q
  refine V_iload dL_law_656 rfl ?_
  refine V_icmp_eq 663 dL_law_658 (by decide) (by omega) (fun h658 => ?_) (fun h658 => ?_)
  · refine V_iload dL_law_663 rfl ?_
    refine V_if_ne 680 dL_law_665 (by decide) (by omega) (fun h665 => ?_) (fun h665 => ?_)
    · refine V_goto 1518 dL_law_680 (by decide) ?_
      refine V_fg [true, true, true, true, true, false, false, false, false] ?_
      exact kk _ _ _ hV2
    · obtain ⟨g9, hg1, hg2⟩ := hg h665
      have ho9 := (hM2.fr (χ + 47) (by omega)).trans hg1
      refine V_aload_n dL_law_668 3 rfl rfl ?_
      refine V_iconst dL_law_669 ?_
      refine V_lald dL_law_670 ho9 (by decide) ?_
      rw [hg2]
      refine V_iload dL_law_671 rfl ?_
      refine V_i2l dL_law_673 (int_r _) ?_
      refine V_lcmpZ dL_law_674 (fun _ => ?_) (fun h => absurd rfl h)
      refine V_if_eq 680 dL_law_675 (by decide) (by omega) (fun h675 => ?_) (fun h675 => ?_)
      · refine V_goto 1518 dL_law_680 (by decide) ?_
        refine V_fg [true, true, true, true, true, false, false, false, false] ?_
        exact kk _ _ _ hV2
      · exact absurd h675 (by simp)
  · exact absurd (e9.trans e1) h658
set_option maxRecDepth 100000 in
set_option maxHeartbeats 4000000 in
theorem k_clearBuffer {Z : XZ} {kc ks : Nat} {w : WD} {sz χ L : Nat} {P : MP} {xs : Nat → Int32} {i : Int} (hS : ZS Z L xs) (hL : L < 2147483648) (hi : 0 ≤ i ∧ i + 7 ≤ (L : Int)) (hV : LIv w sz χ P) (kk : ∀ w' sz' P', LIv w' sz' χ P' → V iL_law Z kc ks w' sz' 1518 [some (.ref 0), some (.ref χ), some (.ref (χ + 37)), some (.ref (χ + 47)), some (xI i), none, none, none, none] []) : V iL_law Z (kc + 9) (ks + 206) w sz 683 [some (.ref 0), some (.ref χ), some (.ref (χ + 37)), some (.ref (χ + 47)), some (xI i), none, none, none, none] [] := by
  obtain ⟨hC, hI, ⟨K, hM⟩, hN, hs, f9, ho⟩ := hV
  refine V_le (Nat.le_add_right _ _) (Nat.le_add_right _ _) ?_
  refine V_aload_n dL_law_683 1 rfl rfl ?_
  refine V_c_L_110 rfl (by decide) (c_clearBuffer hC hI hN hs) dL_law_684 hC.1 rfl rfl (Nat.le_of_ble_eq_true rfl) (Nat.le_of_eq (Nat.zero_add _)) (Nat.le_of_eq (Nat.zero_add _)) (fun v w1 sz1 q => ?_)
  obtain ⟨⟨x9, rfl⟩, hF, hq⟩ := q
  have hT := hF.L ho
  have hM1 := MW.L hM hT
  refine V_aload_n dL_law_687 2 rfl rfl ?_
  refine V_c_L_113 rfl (by decide) (m_clearBuffer hM1 ) dL_law_688 hM1.1 rfl rfl (Nat.le_of_ble_eq_true rfl) (Nat.le_of_eq (Nat.zero_add _)) (Nat.le_of_eq (Nat.zero_add _)) (fun v w2 sz2 q => ?_)
  obtain ⟨rfl, r9, t9, P1, rfl, ⟨K1, hM2, e9⟩, hR⟩ := q
  obtain ⟨e1, e2, hC1⟩ := hq _ _ _ hR
  have hV2 := LIv.st2 hT hC1 (clb_inv hI hR) hM2
  have e3 : Value.int x9 = xI r9 := Option.some.inj e2
  rw [e3, show xI r9 = xI (Int32.ofInt r9).toInt from int_xI _]
  have hr9 := int_r (Int32.ofInt r9)
  simp only [Option.toList, List.cons_append, List.nil_append]
  refine V_icmp_eq 1518 dL_law_691 (by decide) (by omega) (fun h691 => ?_) (fun h691 => ?_)
  · refine V_fg [true, true, true, true, true, false, false, false, false] ?_
    exact kk _ _ _ hV2
  · exact absurd rfl h691
set_option maxRecDepth 100000 in
set_option maxHeartbeats 4000000 in
theorem k_firstError {Z : XZ} {kc ks : Nat} {w : WD} {sz χ L : Nat} {P : MP} {xs : Nat → Int32} {i : Int} (hS : ZS Z L xs) (hL : L < 2147483648) (hi : 0 ≤ i ∧ i + 7 ≤ (L : Int)) (hV : LIv w sz χ P) (kk : ∀ w' sz' P', LIv w' sz' χ P' → V iL_law Z kc ks w' sz' 1518 [some (.ref 0), some (.ref χ), some (.ref (χ + 37)), some (.ref (χ + 47)), some (xI i), none, none, none, none] []) : V iL_law Z (kc + 9) (ks + 206) w sz 696 [some (.ref 0), some (.ref χ), some (.ref (χ + 37)), some (.ref (χ + 47)), some (xI i), none, none, none, none] [] := by
  obtain ⟨hC, hI, ⟨K, hM⟩, hN, hs, f9, ho⟩ := hV
  refine V_le (Nat.le_add_right _ _) (Nat.le_add_right _ _) ?_
  refine V_aload_n dL_law_696 1 rfl rfl ?_
  refine V_c_L_114 rfl (by decide) (c_firstError hC hI hN hs) dL_law_697 hC.1 rfl rfl (Nat.le_of_ble_eq_true rfl) (Nat.le_of_eq (Nat.zero_add _)) (Nat.le_of_eq (Nat.zero_add _)) (fun v w1 sz1 q => ?_)
  obtain ⟨⟨x9, rfl⟩, hF, hq⟩ := q
  have hT := hF.L ho
  have hM1 := MW.L hM hT
  refine V_aload_n dL_law_700 2 rfl rfl ?_
  refine V_c_L_117 rfl (by decide) (m_firstError hM1 hI.2.2.2) dL_law_701 hM1.1 rfl rfl (Nat.le_of_ble_eq_true rfl) (Nat.le_of_eq (Nat.zero_add _)) (Nat.le_of_eq (Nat.zero_add _)) (fun v w2 sz2 q => ?_)
  obtain ⟨rfl, r9, t9, P1, rfl, ⟨K1, hM2, e9⟩, hR⟩ := q
  obtain ⟨e1, e2, hC1⟩ := hq _ _ _ hR
  have hV2 := LIv.st2 hT hC1 (by rw [hR.2.1]; exact hI) hM2
  have e3 : Value.int x9 = xI r9 := Option.some.inj e2
  rw [e3, show xI r9 = xI (Int32.ofInt r9).toInt from int_xI _]
  have hr9 := int_r (Int32.ofInt r9)
  simp only [Option.toList, List.cons_append, List.nil_append]
  refine V_icmp_eq 1518 dL_law_704 (by decide) (by omega) (fun h704 => ?_) (fun h704 => ?_)
  · refine V_fg [true, true, true, true, true, false, false, false, false] ?_
    exact kk _ _ _ hV2
  · exact absurd rfl h704
set_option maxRecDepth 100000 in
set_option maxHeartbeats 4000000 in
theorem k_load {Z : XZ} {kc ks : Nat} {w : WD} {sz χ L : Nat} {P : MP} {xs : Nat → Int32} {i : Int} (hS : ZS Z L xs) (hL : L < 2147483648) (hi : 0 ≤ i ∧ i + 7 ≤ (L : Int)) (hV : LIv w sz χ P) (kk : ∀ w' sz' P', LIv w' sz' χ P' → V iL_law Z kc ks w' sz' 1518 [some (.ref 0), some (.ref χ), some (.ref (χ + 37)), some (.ref (χ + 47)), some (xI i), none, none, none, none] []) : V iL_law Z (kc + 9) (ks + 206) w sz 709 [some (.ref 0), some (.ref χ), some (.ref (χ + 37)), some (.ref (χ + 47)), some (xI i), none, none, none, none] [] := by
  obtain ⟨hC, hI, ⟨K, hM⟩, hN, hs, f9, ho⟩ := hV
  refine V_aload_n dL_law_709 1 rfl rfl ?_
  refine V_aload_n dL_law_710 3 rfl rfl ?_
  refine V_c_L_118 (kc' := kc) (ks' := ks) rfl (by decide) (l_load hC hI hN hs ho) dL_law_711 rfl rfl (Nat.le_of_ble_eq_true rfl) (by omega) (by omega) (fun E w1 sz1 q => q.elim) (fun v w1 sz1 q => ?_)
  obtain ⟨hT, k, rfl, hk, hq⟩ := q
  have hM1 := MW.L hM hT
  refine V_istore dL_law_714 (by decide) ?_
  refine V_aload_n dL_law_716 2 rfl rfl ?_
  refine V_c_L_121 rfl (by decide) (m_load hM1 hI.1 hI.2.1 hI.2.2.2) dL_law_717 hM1.1 rfl rfl (Nat.le_of_ble_eq_true rfl) (Nat.le_of_eq (Nat.zero_add _)) (Nat.le_of_eq (Nat.zero_add _)) (fun v w2 sz2 q => ?_)
  obtain ⟨rfl, r9, t9, P1, rfl, ⟨K1, hM2, e9⟩, hR⟩ := q
  obtain ⟨e1, hC1, hg⟩ := hq _ _ _ hR
  have hV2 := LIv.st2 hT hC1 (load_inv hI hR) hM2
  rw [show xI r9 = xI (Int32.ofInt r9).toInt from int_xI _]
  refine V_istore dL_law_720 (by decide) ?_
  refine V_aload_n dL_law_722 2 rfl rfl ?_
  refine V_c_L_82 rfl (by decide) (m_thrown hM2) dL_law_723 hM2.1 rfl rfl (Nat.le_of_ble_eq_true rfl) (Nat.le_of_eq (Nat.zero_add _)) (Nat.le_of_eq (Nat.zero_add _)) (fun v w sz q => ?_)
  obtain ⟨rfl, rfl, rfl⟩ := q
  refine V_iload dL_law_726 rfl ?_
  refine V_icmp_eq 733 dL_law_728 (by decide) (by omega) (fun h728 => ?_) (fun h728 => ?_)
  · refine V_iload dL_law_733 rfl ?_
    refine V_if_ne 750 dL_law_735 (by decide) (by omega) (fun h735 => ?_) (fun h735 => ?_)
    · refine V_goto 1518 dL_law_750 (by decide) ?_
      refine V_fg [true, true, true, true, true, false, false, false, false] ?_
      exact kk _ _ _ hV2
    · obtain ⟨g9, hg1, hg2⟩ := hg h735
      have ho9 := (hM2.fr (χ + 47) (by omega)).trans hg1
      refine V_aload_n dL_law_738 3 rfl rfl ?_
      refine V_iconst dL_law_739 ?_
      refine V_lald dL_law_740 ho9 (by decide) ?_
      rw [hg2]
      refine V_iload dL_law_741 rfl ?_
      refine V_i2l dL_law_743 (int_r _) ?_
      refine V_lcmpZ dL_law_744 (fun _ => ?_) (fun h => absurd rfl h)
      refine V_if_eq 750 dL_law_745 (by decide) (by omega) (fun h745 => ?_) (fun h745 => ?_)
      · refine V_goto 1518 dL_law_750 (by decide) ?_
        refine V_fg [true, true, true, true, true, false, false, false, false] ?_
        exact kk _ _ _ hV2
      · exact absurd h745 (by simp)
  · exact absurd (e9.trans e1) h728
set_option maxRecDepth 100000 in
set_option maxHeartbeats 4000000 in
theorem k_undo {Z : XZ} {kc ks : Nat} {w : WD} {sz χ L : Nat} {P : MP} {xs : Nat → Int32} {i : Int} (hS : ZS Z L xs) (hL : L < 2147483648) (hi : 0 ≤ i ∧ i + 7 ≤ (L : Int)) (hV : LIv w sz χ P) (kk : ∀ w' sz' P', LIv w' sz' χ P' → V iL_law Z kc ks w' sz' 1518 [some (.ref 0), some (.ref χ), some (.ref (χ + 37)), some (.ref (χ + 47)), some (xI i), none, none, none, none] []) : V iL_law Z (kc + 9) (ks + 206) w sz 753 [some (.ref 0), some (.ref χ), some (.ref (χ + 37)), some (.ref (χ + 47)), some (xI i), none, none, none, none] [] := by
  obtain ⟨hC, hI, ⟨K, hM⟩, hN, hs, f9, ho⟩ := hV
  refine V_aload_n dL_law_753 1 rfl rfl ?_
  refine V_aload_n dL_law_754 3 rfl rfl ?_
  refine V_c_L_122 (kc' := kc) (ks' := ks) rfl (by decide) (l_undo hC hI hN hs ho) dL_law_755 rfl rfl (Nat.le_of_ble_eq_true rfl) (by omega) (by omega) (fun E w1 sz1 q => q.elim) (fun v w1 sz1 q => ?_)
  obtain ⟨hT, k, rfl, hk, hq⟩ := q
  have hM1 := MW.L hM hT
  refine V_istore dL_law_758 (by decide) ?_
  refine V_aload_n dL_law_760 2 rfl rfl ?_
  refine V_c_L_124 rfl (by decide) (m_undo2 hM1 hI.2.1) dL_law_761 hM1.1 rfl rfl (Nat.le_of_ble_eq_true rfl) (Nat.le_of_eq (Nat.zero_add _)) (Nat.le_of_eq (Nat.zero_add _)) (fun v w2 sz2 q => ?_)
  obtain ⟨rfl, r9, t9, P1, rfl, ⟨K1, hM2, e9⟩, hR⟩ := q
  obtain ⟨e1, hC1, hg⟩ := hq _ _ _ hR
  have hV2 := LIv.st2 hT hC1 (und_inv2 hI hR) hM2
  rw [show xI r9 = xI (Int32.ofInt r9).toInt from int_xI _]
  refine V_istore dL_law_764 (by decide) ?_
  refine V_aload_n dL_law_766 2 rfl rfl ?_
  refine V_c_L_82 rfl (by decide) (m_thrown hM2) dL_law_767 hM2.1 rfl rfl (Nat.le_of_ble_eq_true rfl) (Nat.le_of_eq (Nat.zero_add _)) (Nat.le_of_eq (Nat.zero_add _)) (fun v w sz q => ?_)
  obtain ⟨rfl, rfl, rfl⟩ := q
  refine V_iload dL_law_770 rfl ?_
  refine V_icmp_eq 777 dL_law_772 (by decide) (by omega) (fun h772 => ?_) (fun h772 => ?_)
  · refine V_iload dL_law_777 rfl ?_
    refine V_if_ne 794 dL_law_779 (by decide) (by omega) (fun h779 => ?_) (fun h779 => ?_)
    · refine V_goto 1518 dL_law_794 (by decide) ?_
      refine V_fg [true, true, true, true, true, false, false, false, false] ?_
      exact kk _ _ _ hV2
    · obtain ⟨g9, hg1, hg2⟩ := hg h779
      have ho9 := (hM2.fr (χ + 47) (by omega)).trans hg1
      refine V_aload_n dL_law_782 3 rfl rfl ?_
      refine V_iconst dL_law_783 ?_
      refine V_lald dL_law_784 ho9 (by decide) ?_
      rw [hg2]
      refine V_iload dL_law_785 rfl ?_
      refine V_i2l dL_law_787 (int_r _) ?_
      refine V_lcmpZ dL_law_788 (fun _ => ?_) (fun h => absurd rfl h)
      refine V_if_eq 794 dL_law_789 (by decide) (by omega) (fun h789 => ?_) (fun h789 => ?_)
      · refine V_goto 1518 dL_law_794 (by decide) ?_
        refine V_fg [true, true, true, true, true, false, false, false, false] ?_
        exact kk _ _ _ hV2
      · exact absurd h789 (by simp)
  · exact absurd (e9.trans e1) h772
set_option maxRecDepth 100000 in
set_option maxHeartbeats 4000000 in
theorem k_cell {Z : XZ} {kc ks : Nat} {w : WD} {sz χ L : Nat} {P : MP} {xs : Nat → Int32} {i : Int} (hS : ZS Z L xs) (hL : L < 2147483648) (hi : 0 ≤ i ∧ i + 7 ≤ (L : Int)) (hV : LIv w sz χ P) (kk : ∀ w' sz' P', LIv w' sz' χ P' → V iL_law Z kc ks w' sz' 1518 [some (.ref 0), some (.ref χ), some (.ref (χ + 37)), some (.ref (χ + 47)), some (xI i), none, none, none, none] []) : V iL_law Z (kc + 9) (ks + 206) w sz 797 [some (.ref 0), some (.ref χ), some (.ref (χ + 37)), some (.ref (χ + 47)), some (xI i), none, none, none, none] [] := by
  obtain ⟨hC, hI, ⟨K, hM⟩, hN, hs, f9, ho⟩ := hV
  refine V_aload_n dL_law_797 1 rfl rfl ?_
  refine V_aload_n dL_law_798 0 rfl rfl ?_
  refine V_iload dL_law_799 rfl ?_
  refine V_iconst dL_law_801 ?_
  refine V_iadd dL_law_802 ?_
  refine V_sald hS dL_law_803 (by omega) hL ?_
  refine V_aload_n dL_law_804 0 rfl rfl ?_
  refine V_iload dL_law_805 rfl ?_
  refine V_iconst dL_law_807 ?_
  refine V_iadd dL_law_808 ?_
  refine V_sald hS dL_law_809 (by omega) hL ?_
  refine V_aload_n dL_law_810 0 rfl rfl ?_
  refine V_iload dL_law_811 rfl ?_
  refine V_iconst dL_law_813 ?_
  refine V_iadd dL_law_814 ?_
  refine V_sald hS dL_law_815 (by omega) hL ?_
  refine V_aload_n dL_law_816 3 rfl rfl ?_
  refine V_c_L_125 (kc' := kc) (ks' := ks) rfl (by decide) (l_cell hC hI hN hs ho ⟨(sc_r xs (i + 1)).1, (sc_r xs (i + 1)).2, (sc_r xs (i + 2)).1, (sc_r xs (i + 2)).2, (sc_r xs (i + 3)).1, (sc_r xs (i + 3)).2⟩) dL_law_817 rfl rfl (Nat.le_of_ble_eq_true rfl) (by omega) (by omega) (fun E w1 sz1 q => q.elim) (fun v w1 sz1 q => ?_)
  obtain ⟨hT, k, rfl, hk, hq⟩ := q
  have hM1 := MW.L hM hT
  refine V_istore dL_law_820 (by decide) ?_
  refine V_aload_n dL_law_822 2 rfl rfl ?_
  refine V_aload_n dL_law_823 0 rfl rfl ?_
  refine V_iload dL_law_824 rfl ?_
  refine V_iconst dL_law_826 ?_
  refine V_iadd dL_law_827 ?_
  refine V_sald hS dL_law_828 (by omega) hL ?_
  refine V_aload_n dL_law_829 0 rfl rfl ?_
  refine V_iload dL_law_830 rfl ?_
  refine V_iconst dL_law_832 ?_
  refine V_iadd dL_law_833 ?_
  refine V_sald hS dL_law_834 (by omega) hL ?_
  refine V_aload_n dL_law_835 0 rfl rfl ?_
  refine V_iload dL_law_836 rfl ?_
  refine V_iconst dL_law_838 ?_
  refine V_iadd dL_law_839 ?_
  refine V_sald hS dL_law_840 (by omega) hL ?_
  refine V_c_L_128 rfl (by decide) (m_cell hM1 hI.1 ⟨(sc_r xs (i + 1)).1, (sc_r xs (i + 1)).2, (sc_r xs (i + 2)).1, (sc_r xs (i + 2)).2, (sc_r xs (i + 3)).1, (sc_r xs (i + 3)).2⟩) dL_law_841 hM1.1 rfl rfl (Nat.le_of_ble_eq_true rfl) (Nat.le_of_eq (Nat.zero_add _)) (Nat.le_of_eq (Nat.zero_add _)) (fun v w2 sz2 q => ?_)
  obtain ⟨rfl, r9, t9, P1, rfl, ⟨K1, hM2, e9⟩, hR⟩ := q
  obtain ⟨e1, hC1, hg⟩ := hq _ _ _ hR
  have hV2 := LIv.st2 hT hC1 (by rw [hR.1]; exact hI) hM2
  rw [show xI r9 = xI (Int32.ofInt r9).toInt from int_xI _]
  refine V_istore dL_law_844 (by decide) ?_
  refine V_aload_n dL_law_846 2 rfl rfl ?_
  refine V_c_L_82 rfl (by decide) (m_thrown hM2) dL_law_847 hM2.1 rfl rfl (Nat.le_of_ble_eq_true rfl) (Nat.le_of_eq (Nat.zero_add _)) (Nat.le_of_eq (Nat.zero_add _)) (fun v w sz q => ?_)
  obtain ⟨rfl, rfl, rfl⟩ := q
  refine V_iload dL_law_850 rfl ?_
  refine V_icmp_eq 857 dL_law_852 (by decide) (by omega) (fun h852 => ?_) (fun h852 => ?_)
  · refine V_iload dL_law_857 rfl ?_
    refine V_if_ne 874 dL_law_859 (by decide) (by omega) (fun h859 => ?_) (fun h859 => ?_)
    · refine V_goto 1518 dL_law_874 (by decide) ?_
      refine V_fg [true, true, true, true, true, false, false, false, false] ?_
      exact kk _ _ _ hV2
    · obtain ⟨g9, hg1, hg2⟩ := hg h859
      have ho9 := (hM2.fr (χ + 47) (by omega)).trans hg1
      refine V_aload_n dL_law_862 3 rfl rfl ?_
      refine V_iconst dL_law_863 ?_
      refine V_lald dL_law_864 ho9 (by decide) ?_
      rw [hg2]
      refine V_iload dL_law_865 rfl ?_
      refine V_i2l dL_law_867 (int_r _) ?_
      refine V_lcmpZ dL_law_868 (fun _ => ?_) (fun h => absurd rfl h)
      refine V_if_eq 874 dL_law_869 (by decide) (by omega) (fun h869 => ?_) (fun h869 => ?_)
      · refine V_goto 1518 dL_law_874 (by decide) ?_
        refine V_fg [true, true, true, true, true, false, false, false, false] ?_
        exact kk _ _ _ hV2
      · exact absurd h869 (by simp)
  · exact absurd (e9.trans e1) h852
set_option maxRecDepth 100000 in
set_option maxHeartbeats 4000000 in
theorem k_picked {Z : XZ} {kc ks : Nat} {w : WD} {sz χ L : Nat} {P : MP} {xs : Nat → Int32} {i : Int} (hS : ZS Z L xs) (hL : L < 2147483648) (hi : 0 ≤ i ∧ i + 7 ≤ (L : Int)) (hV : LIv w sz χ P) (kk : ∀ w' sz' P', LIv w' sz' χ P' → V iL_law Z kc ks w' sz' 1518 [some (.ref 0), some (.ref χ), some (.ref (χ + 37)), some (.ref (χ + 47)), some (xI i), none, none, none, none] []) : V iL_law Z (kc + 9) (ks + 206) w sz 877 [some (.ref 0), some (.ref χ), some (.ref (χ + 37)), some (.ref (χ + 47)), some (xI i), none, none, none, none] [] := by
  obtain ⟨hC, hI, ⟨K, hM⟩, hN, hs, f9, ho⟩ := hV
  refine V_aload_n dL_law_877 1 rfl rfl ?_
  refine V_aload_n dL_law_878 0 rfl rfl ?_
  refine V_iload dL_law_879 rfl ?_
  refine V_iconst dL_law_881 ?_
  refine V_iadd dL_law_882 ?_
  refine V_sald hS dL_law_883 (by omega) hL ?_
  refine V_aload_n dL_law_884 0 rfl rfl ?_
  refine V_iload dL_law_885 rfl ?_
  refine V_iconst dL_law_887 ?_
  refine V_iadd dL_law_888 ?_
  refine V_sald hS dL_law_889 (by omega) hL ?_
  refine V_aload_n dL_law_890 3 rfl rfl ?_
  refine V_c_L_129 (kc' := kc) (ks' := ks) rfl (by decide) (l_picked hC hI hN hs ho ⟨(sc_r xs (i + 1)).1, (sc_r xs (i + 1)).2, (sc_r xs (i + 2)).1, (sc_r xs (i + 2)).2⟩) dL_law_891 rfl rfl (Nat.le_of_ble_eq_true rfl) (by omega) (by omega) (fun E w1 sz1 q => q.elim) (fun v w1 sz1 q => ?_)
  obtain ⟨hT, k, rfl, hk, hq⟩ := q
  have hM1 := MW.L hM hT
  refine V_istore dL_law_894 (by decide) ?_
  refine V_aload_n dL_law_896 2 rfl rfl ?_
  refine V_aload_n dL_law_897 0 rfl rfl ?_
  refine V_iload dL_law_898 rfl ?_
  refine V_iconst dL_law_900 ?_
  refine V_iadd dL_law_901 ?_
  refine V_sald hS dL_law_902 (by omega) hL ?_
  refine V_aload_n dL_law_903 0 rfl rfl ?_
  refine V_iload dL_law_904 rfl ?_
  refine V_iconst dL_law_906 ?_
  refine V_iadd dL_law_907 ?_
  refine V_sald hS dL_law_908 (by omega) hL ?_
  refine V_c_L_131 rfl (by decide) (m_picked hM1 hI.1 ⟨(sc_r xs (i + 1)).1, (sc_r xs (i + 1)).2, (sc_r xs (i + 2)).1, (sc_r xs (i + 2)).2⟩) dL_law_909 hM1.1 rfl rfl (Nat.le_of_ble_eq_true rfl) (Nat.le_of_eq (Nat.zero_add _)) (Nat.le_of_eq (Nat.zero_add _)) (fun v w2 sz2 q => ?_)
  obtain ⟨rfl, r9, t9, P1, rfl, ⟨K1, hM2, e9⟩, hR⟩ := q
  obtain ⟨e1, hC1, hg⟩ := hq _ _ _ hR
  have hV2 := LIv.st2 hT hC1 (by rw [hR.1]; exact hI) hM2
  rw [show xI r9 = xI (Int32.ofInt r9).toInt from int_xI _]
  refine V_istore dL_law_912 (by decide) ?_
  refine V_aload_n dL_law_914 2 rfl rfl ?_
  refine V_c_L_82 rfl (by decide) (m_thrown hM2) dL_law_915 hM2.1 rfl rfl (Nat.le_of_ble_eq_true rfl) (Nat.le_of_eq (Nat.zero_add _)) (Nat.le_of_eq (Nat.zero_add _)) (fun v w sz q => ?_)
  obtain ⟨rfl, rfl, rfl⟩ := q
  refine V_iload dL_law_918 rfl ?_
  refine V_icmp_eq 925 dL_law_920 (by decide) (by omega) (fun h920 => ?_) (fun h920 => ?_)
  · refine V_iload dL_law_925 rfl ?_
    refine V_if_ne 942 dL_law_927 (by decide) (by omega) (fun h927 => ?_) (fun h927 => ?_)
    · refine V_goto 1518 dL_law_942 (by decide) ?_
      refine V_fg [true, true, true, true, true, false, false, false, false] ?_
      exact kk _ _ _ hV2
    · obtain ⟨g9, hg1, hg2⟩ := hg h927
      have ho9 := (hM2.fr (χ + 47) (by omega)).trans hg1
      refine V_aload_n dL_law_930 3 rfl rfl ?_
      refine V_iconst dL_law_931 ?_
      refine V_lald dL_law_932 ho9 (by decide) ?_
      rw [hg2]
      refine V_iload dL_law_933 rfl ?_
      refine V_i2l dL_law_935 (int_r _) ?_
      refine V_lcmpZ dL_law_936 (fun _ => ?_) (fun h => absurd rfl h)
      refine V_if_eq 942 dL_law_937 (by decide) (by omega) (fun h937 => ?_) (fun h937 => ?_)
      · refine V_goto 1518 dL_law_942 (by decide) ?_
        refine V_fg [true, true, true, true, true, false, false, false, false] ?_
        exact kk _ _ _ hV2
      · exact absurd h937 (by simp)
  · exact absurd (e9.trans e1) h920
set_option maxRecDepth 100000 in
set_option maxHeartbeats 4000000 in
theorem k_level {Z : XZ} {kc ks : Nat} {w : WD} {sz χ L : Nat} {P : MP} {xs : Nat → Int32} {i : Int} (hS : ZS Z L xs) (hL : L < 2147483648) (hi : 0 ≤ i ∧ i + 7 ≤ (L : Int)) (hV : LIv w sz χ P) (kk : ∀ w' sz' P', LIv w' sz' χ P' → V iL_law Z kc ks w' sz' 1518 [some (.ref 0), some (.ref χ), some (.ref (χ + 37)), some (.ref (χ + 47)), some (xI i), none, none, none, none] []) : V iL_law Z (kc + 9) (ks + 206) w sz 945 [some (.ref 0), some (.ref χ), some (.ref (χ + 37)), some (.ref (χ + 47)), some (xI i), none, none, none, none] [] := by
  obtain ⟨hC, hI, ⟨K, hM⟩, hN, hs, f9, ho⟩ := hV
  refine V_aload_n dL_law_945 1 rfl rfl ?_
  refine V_aload_n dL_law_946 0 rfl rfl ?_
  refine V_iload dL_law_947 rfl ?_
  refine V_iconst dL_law_949 ?_
  refine V_iadd dL_law_950 ?_
  refine V_sald hS dL_law_951 (by omega) hL ?_
  refine V_aload_n dL_law_952 0 rfl rfl ?_
  refine V_iload dL_law_953 rfl ?_
  refine V_iconst dL_law_955 ?_
  refine V_iadd dL_law_956 ?_
  refine V_sald hS dL_law_957 (by omega) hL ?_
  refine V_aload_n dL_law_958 0 rfl rfl ?_
  refine V_iload dL_law_959 rfl ?_
  refine V_iconst dL_law_961 ?_
  refine V_iadd dL_law_962 ?_
  refine V_sald hS dL_law_963 (by omega) hL ?_
  refine V_aload_n dL_law_964 3 rfl rfl ?_
  refine V_c_L_132 (kc' := kc) (ks' := ks) rfl (by decide) (l_level hC hI hN hs ho ⟨(sc_r xs (i + 1)).1, (sc_r xs (i + 1)).2, (sc_r xs (i + 2)).1, (sc_r xs (i + 2)).2, (sc_r xs (i + 3)).1, (sc_r xs (i + 3)).2⟩) dL_law_965 rfl rfl (Nat.le_of_ble_eq_true rfl) (by omega) (by omega) (fun E w1 sz1 q => q.elim) (fun v w1 sz1 q => ?_)
  obtain ⟨hT, k, rfl, hk, hq⟩ := q
  have hM1 := MW.L hM hT
  refine V_istore dL_law_968 (by decide) ?_
  refine V_aload_n dL_law_970 2 rfl rfl ?_
  refine V_aload_n dL_law_971 0 rfl rfl ?_
  refine V_iload dL_law_972 rfl ?_
  refine V_iconst dL_law_974 ?_
  refine V_iadd dL_law_975 ?_
  refine V_sald hS dL_law_976 (by omega) hL ?_
  refine V_aload_n dL_law_977 0 rfl rfl ?_
  refine V_iload dL_law_978 rfl ?_
  refine V_iconst dL_law_980 ?_
  refine V_iadd dL_law_981 ?_
  refine V_sald hS dL_law_982 (by omega) hL ?_
  refine V_aload_n dL_law_983 0 rfl rfl ?_
  refine V_iload dL_law_984 rfl ?_
  refine V_iconst dL_law_986 ?_
  refine V_iadd dL_law_987 ?_
  refine V_sald hS dL_law_988 (by omega) hL ?_
  refine V_c_L_134 rfl (by decide) (m_level hM1 hI.1 ⟨(sc_r xs (i + 1)).1, (sc_r xs (i + 1)).2, (sc_r xs (i + 2)).1, (sc_r xs (i + 2)).2, (sc_r xs (i + 3)).1, (sc_r xs (i + 3)).2⟩) dL_law_989 hM1.1 rfl rfl (Nat.le_of_ble_eq_true rfl) (Nat.le_of_eq (Nat.zero_add _)) (Nat.le_of_eq (Nat.zero_add _)) (fun v w2 sz2 q => ?_)
  obtain ⟨rfl, r9, t9, P1, rfl, ⟨K1, hM2, e9⟩, hR⟩ := q
  obtain ⟨e1, hC1, hg⟩ := hq _ _ _ hR
  have hV2 := LIv.st2 hT hC1 (by rw [hR.1]; exact hI) hM2
  rw [show xI r9 = xI (Int32.ofInt r9).toInt from int_xI _]
  refine V_istore dL_law_992 (by decide) ?_
  refine V_aload_n dL_law_994 2 rfl rfl ?_
  refine V_c_L_82 rfl (by decide) (m_thrown hM2) dL_law_995 hM2.1 rfl rfl (Nat.le_of_ble_eq_true rfl) (Nat.le_of_eq (Nat.zero_add _)) (Nat.le_of_eq (Nat.zero_add _)) (fun v w sz q => ?_)
  obtain ⟨rfl, rfl, rfl⟩ := q
  refine V_iload dL_law_998 rfl ?_
  refine V_icmp_eq 1005 dL_law_1000 (by decide) (by omega) (fun h1000 => ?_) (fun h1000 => ?_)
  · refine V_iload dL_law_1005 rfl ?_
    refine V_if_ne 1022 dL_law_1007 (by decide) (by omega) (fun h1007 => ?_) (fun h1007 => ?_)
    · refine V_goto 1518 dL_law_1022 (by decide) ?_
      refine V_fg [true, true, true, true, true, false, false, false, false] ?_
      exact kk _ _ _ hV2
    · obtain ⟨g9, hg1, hg2⟩ := hg h1007
      have ho9 := (hM2.fr (χ + 47) (by omega)).trans hg1
      refine V_aload_n dL_law_1010 3 rfl rfl ?_
      refine V_iconst dL_law_1011 ?_
      refine V_lald dL_law_1012 ho9 (by decide) ?_
      rw [hg2]
      refine V_iload dL_law_1013 rfl ?_
      refine V_i2l dL_law_1015 (int_r _) ?_
      refine V_lcmpZ dL_law_1016 (fun _ => ?_) (fun h => absurd rfl h)
      refine V_if_eq 1022 dL_law_1017 (by decide) (by omega) (fun h1017 => ?_) (fun h1017 => ?_)
      · refine V_goto 1518 dL_law_1022 (by decide) ?_
        refine V_fg [true, true, true, true, true, false, false, false, false] ?_
        exact kk _ _ _ hV2
      · exact absurd h1017 (by simp)
  · exact absurd (e9.trans e1) h1000
set_option maxRecDepth 100000 in
set_option maxHeartbeats 4000000 in
theorem k_count {Z : XZ} {kc ks : Nat} {w : WD} {sz χ L : Nat} {P : MP} {xs : Nat → Int32} {i : Int} (hS : ZS Z L xs) (hL : L < 2147483648) (hi : 0 ≤ i ∧ i + 7 ≤ (L : Int)) (hV : LIv w sz χ P) (kk : ∀ w' sz' P', LIv w' sz' χ P' → V iL_law Z kc ks w' sz' 1518 [some (.ref 0), some (.ref χ), some (.ref (χ + 37)), some (.ref (χ + 47)), some (xI i), none, none, none, none] []) : V iL_law Z (kc + 9) (ks + 206) w sz 1025 [some (.ref 0), some (.ref χ), some (.ref (χ + 37)), some (.ref (χ + 47)), some (xI i), none, none, none, none] [] := by
  obtain ⟨hC, hI, ⟨K, hM⟩, hN, hs, f9, ho⟩ := hV
  refine V_aload_n dL_law_1025 1 rfl rfl ?_
  refine V_aload_n dL_law_1026 0 rfl rfl ?_
  refine V_iload dL_law_1027 rfl ?_
  refine V_iconst dL_law_1029 ?_
  refine V_iadd dL_law_1030 ?_
  refine V_sald hS dL_law_1031 (by omega) hL ?_
  refine V_aload_n dL_law_1032 3 rfl rfl ?_
  refine V_c_L_135 (kc' := kc) (ks' := ks) rfl (by decide) (l_count hC hI hN hs ho ⟨(sc_r xs (i + 1)).1, (sc_r xs (i + 1)).2⟩) dL_law_1033 rfl rfl (Nat.le_of_ble_eq_true rfl) (by omega) (by omega) (fun E w1 sz1 q => q.elim) (fun v w1 sz1 q => ?_)
  obtain ⟨hT, k, rfl, hk, hq⟩ := q
  have hM1 := MW.L hM hT
  refine V_istore dL_law_1036 (by decide) ?_
  refine V_aload_n dL_law_1038 2 rfl rfl ?_
  refine V_aload_n dL_law_1039 0 rfl rfl ?_
  refine V_iload dL_law_1040 rfl ?_
  refine V_iconst dL_law_1042 ?_
  refine V_iadd dL_law_1043 ?_
  refine V_sald hS dL_law_1044 (by omega) hL ?_
  refine V_c_L_137 rfl (by decide) (m_count hM1 hI.1 ⟨(sc_r xs (i + 1)).1, (sc_r xs (i + 1)).2⟩) dL_law_1045 hM1.1 rfl rfl (Nat.le_of_ble_eq_true rfl) (Nat.le_of_eq (Nat.zero_add _)) (Nat.le_of_eq (Nat.zero_add _)) (fun v w2 sz2 q => ?_)
  obtain ⟨rfl, r9, t9, P1, rfl, ⟨K1, hM2, e9⟩, hR⟩ := q
  obtain ⟨e1, hC1, hg⟩ := hq _ _ _ hR
  have hV2 := LIv.st2 hT hC1 (by rw [hR.1]; exact hI) hM2
  rw [show xI r9 = xI (Int32.ofInt r9).toInt from int_xI _]
  refine V_istore dL_law_1048 (by decide) ?_
  refine V_aload_n dL_law_1050 2 rfl rfl ?_
  refine V_c_L_82 rfl (by decide) (m_thrown hM2) dL_law_1051 hM2.1 rfl rfl (Nat.le_of_ble_eq_true rfl) (Nat.le_of_eq (Nat.zero_add _)) (Nat.le_of_eq (Nat.zero_add _)) (fun v w sz q => ?_)
  obtain ⟨rfl, rfl, rfl⟩ := q
  refine V_iload dL_law_1054 rfl ?_
  refine V_icmp_eq 1061 dL_law_1056 (by decide) (by omega) (fun h1056 => ?_) (fun h1056 => ?_)
  · refine V_iload dL_law_1061 rfl ?_
    refine V_if_ne 1078 dL_law_1063 (by decide) (by omega) (fun h1063 => ?_) (fun h1063 => ?_)
    · refine V_goto 1518 dL_law_1078 (by decide) ?_
      refine V_fg [true, true, true, true, true, false, false, false, false] ?_
      exact kk _ _ _ hV2
    · obtain ⟨g9, hg1, hg2⟩ := hg h1063
      have ho9 := (hM2.fr (χ + 47) (by omega)).trans hg1
      refine V_aload_n dL_law_1066 3 rfl rfl ?_
      refine V_iconst dL_law_1067 ?_
      refine V_lald dL_law_1068 ho9 (by decide) ?_
      rw [hg2]
      refine V_iload dL_law_1069 rfl ?_
      refine V_i2l dL_law_1071 (int_r _) ?_
      refine V_lcmpZ dL_law_1072 (fun _ => ?_) (fun h => absurd rfl h)
      refine V_if_eq 1078 dL_law_1073 (by decide) (by omega) (fun h1073 => ?_) (fun h1073 => ?_)
      · refine V_goto 1518 dL_law_1078 (by decide) ?_
        refine V_fg [true, true, true, true, true, false, false, false, false] ?_
        exact kk _ _ _ hV2
      · exact absurd h1073 (by simp)
  · exact absurd (e9.trans e1) h1056
set_option maxRecDepth 100000 in
set_option maxHeartbeats 4000000 in
theorem k_areaOf {Z : XZ} {kc ks : Nat} {w : WD} {sz χ L : Nat} {P : MP} {xs : Nat → Int32} {i : Int} (hS : ZS Z L xs) (hL : L < 2147483648) (hi : 0 ≤ i ∧ i + 7 ≤ (L : Int)) (hV : LIv w sz χ P) (kk : ∀ w' sz' P', LIv w' sz' χ P' → V iL_law Z kc ks w' sz' 1518 [some (.ref 0), some (.ref χ), some (.ref (χ + 37)), some (.ref (χ + 47)), some (xI i), none, none, none, none] []) : V iL_law Z (kc + 9) (ks + 206) w sz 1081 [some (.ref 0), some (.ref χ), some (.ref (χ + 37)), some (.ref (χ + 47)), some (xI i), none, none, none, none] [] := by
  obtain ⟨hC, hI, ⟨K, hM⟩, hN, hs, f9, ho⟩ := hV
  refine V_aload_n dL_law_1081 1 rfl rfl ?_
  refine V_aload_n dL_law_1082 0 rfl rfl ?_
  refine V_iload dL_law_1083 rfl ?_
  refine V_iconst dL_law_1085 ?_
  refine V_iadd dL_law_1086 ?_
  refine V_sald hS dL_law_1087 (by omega) hL ?_
  refine V_aload_n dL_law_1088 0 rfl rfl ?_
  refine V_iload dL_law_1089 rfl ?_
  refine V_iconst dL_law_1091 ?_
  refine V_iadd dL_law_1092 ?_
  refine V_sald hS dL_law_1093 (by omega) hL ?_
  refine V_aload_n dL_law_1094 0 rfl rfl ?_
  refine V_iload dL_law_1095 rfl ?_
  refine V_iconst dL_law_1097 ?_
  refine V_iadd dL_law_1098 ?_
  refine V_sald hS dL_law_1099 (by omega) hL ?_
  refine V_aload_n dL_law_1100 0 rfl rfl ?_
  refine V_iload dL_law_1101 rfl ?_
  refine V_iconst dL_law_1103 ?_
  refine V_iadd dL_law_1104 ?_
  refine V_sald hS dL_law_1105 (by omega) hL ?_
  refine V_aload_n dL_law_1106 0 rfl rfl ?_
  refine V_iload dL_law_1107 rfl ?_
  refine V_iconst dL_law_1109 ?_
  refine V_iadd dL_law_1110 ?_
  refine V_sald hS dL_law_1111 (by omega) hL ?_
  refine V_aload_n dL_law_1112 3 rfl rfl ?_
  refine V_c_L_138 (kc' := kc) (ks' := ks) rfl (by decide) (l_areaOf hC hI hN hs ho ⟨(sc_r xs (i + 1)).1, (sc_r xs (i + 1)).2, (sc_r xs (i + 2)).1, (sc_r xs (i + 2)).2, (sc_r xs (i + 3)).1, (sc_r xs (i + 3)).2, (sc_r xs (i + 4)).1, (sc_r xs (i + 4)).2, (sc_r xs (i + 5)).1, (sc_r xs (i + 5)).2⟩) dL_law_1113 rfl rfl (Nat.le_of_ble_eq_true rfl) (by omega) (by omega) (fun E w1 sz1 q => q.elim) (fun v w1 sz1 q => ?_)
  obtain ⟨hT, k, rfl, hk, hq⟩ := q
  have hM1 := MW.L hM hT
  refine V_istore dL_law_1116 (by decide) ?_
  refine V_aload_n dL_law_1118 2 rfl rfl ?_
  refine V_aload_n dL_law_1119 0 rfl rfl ?_
  refine V_iload dL_law_1120 rfl ?_
  refine V_iconst dL_law_1122 ?_
  refine V_iadd dL_law_1123 ?_
  refine V_sald hS dL_law_1124 (by omega) hL ?_
  refine V_aload_n dL_law_1125 0 rfl rfl ?_
  refine V_iload dL_law_1126 rfl ?_
  refine V_iconst dL_law_1128 ?_
  refine V_iadd dL_law_1129 ?_
  refine V_sald hS dL_law_1130 (by omega) hL ?_
  refine V_aload_n dL_law_1131 0 rfl rfl ?_
  refine V_iload dL_law_1132 rfl ?_
  refine V_iconst dL_law_1134 ?_
  refine V_iadd dL_law_1135 ?_
  refine V_sald hS dL_law_1136 (by omega) hL ?_
  refine V_aload_n dL_law_1137 0 rfl rfl ?_
  refine V_iload dL_law_1138 rfl ?_
  refine V_iconst dL_law_1140 ?_
  refine V_iadd dL_law_1141 ?_
  refine V_sald hS dL_law_1142 (by omega) hL ?_
  refine V_aload_n dL_law_1143 0 rfl rfl ?_
  refine V_iload dL_law_1144 rfl ?_
  refine V_iconst dL_law_1146 ?_
  refine V_iadd dL_law_1147 ?_
  refine V_sald hS dL_law_1148 (by omega) hL ?_
  refine V_c_L_140 rfl (by decide) (m_areaOf hM1 hI.1 ⟨(sc_r xs (i + 1)).1, (sc_r xs (i + 1)).2, (sc_r xs (i + 2)).1, (sc_r xs (i + 2)).2, (sc_r xs (i + 3)).1, (sc_r xs (i + 3)).2, (sc_r xs (i + 4)).1, (sc_r xs (i + 4)).2, (sc_r xs (i + 5)).1, (sc_r xs (i + 5)).2⟩) dL_law_1149 hM1.1 rfl rfl (Nat.le_of_ble_eq_true rfl) (Nat.le_of_eq (Nat.zero_add _)) (Nat.le_of_eq (Nat.zero_add _)) (fun v w2 sz2 q => ?_)
  obtain ⟨rfl, r9, t9, P1, rfl, ⟨K1, hM2, e9⟩, hR⟩ := q
  obtain ⟨e1, hC1, hg⟩ := hq _ _ _ hR
  have hV2 := LIv.st2 hT hC1 (by rw [hR.1]; exact hI) hM2
  rw [show xI r9 = xI (Int32.ofInt r9).toInt from int_xI _]
  refine V_istore dL_law_1152 (by decide) ?_
  refine V_aload_n dL_law_1154 2 rfl rfl ?_
  refine V_c_L_82 rfl (by decide) (m_thrown hM2) dL_law_1155 hM2.1 rfl rfl (Nat.le_of_ble_eq_true rfl) (Nat.le_of_eq (Nat.zero_add _)) (Nat.le_of_eq (Nat.zero_add _)) (fun v w sz q => ?_)
  obtain ⟨rfl, rfl, rfl⟩ := q
  refine V_iload dL_law_1158 rfl ?_
  refine V_icmp_eq 1165 dL_law_1160 (by decide) (by omega) (fun h1160 => ?_) (fun h1160 => ?_)
  · refine V_iload dL_law_1165 rfl ?_
    refine V_if_ne 1182 dL_law_1167 (by decide) (by omega) (fun h1167 => ?_) (fun h1167 => ?_)
    · refine V_goto 1518 dL_law_1182 (by decide) ?_
      refine V_fg [true, true, true, true, true, false, false, false, false] ?_
      exact kk _ _ _ hV2
    · obtain ⟨g9, hg1, hg2⟩ := hg h1167
      have ho9 := (hM2.fr (χ + 47) (by omega)).trans hg1
      refine V_aload_n dL_law_1170 3 rfl rfl ?_
      refine V_iconst dL_law_1171 ?_
      refine V_lald dL_law_1172 ho9 (by decide) ?_
      rw [hg2]
      refine V_iload dL_law_1173 rfl ?_
      refine V_i2l dL_law_1175 (int_r _) ?_
      refine V_lcmpZ dL_law_1176 (fun _ => ?_) (fun h => absurd rfl h)
      refine V_if_eq 1182 dL_law_1177 (by decide) (by omega) (fun h1177 => ?_) (fun h1177 => ?_)
      · refine V_goto 1518 dL_law_1182 (by decide) ?_
        refine V_fg [true, true, true, true, true, false, false, false, false] ?_
        exact kk _ _ _ hV2
      · exact absurd h1177 (by simp)
  · exact absurd (e9.trans e1) h1160
set_option maxRecDepth 100000 in
set_option maxHeartbeats 4000000 in
theorem k_leastLikeness {Z : XZ} {kc ks : Nat} {w : WD} {sz χ L : Nat} {P : MP} {xs : Nat → Int32} {i : Int} (hS : ZS Z L xs) (hL : L < 2147483648) (hi : 0 ≤ i ∧ i + 7 ≤ (L : Int)) (hV : LIv w sz χ P) (kk : ∀ w' sz' P', LIv w' sz' χ P' → V iL_law Z kc ks w' sz' 1518 [some (.ref 0), some (.ref χ), some (.ref (χ + 37)), some (.ref (χ + 47)), some (xI i), none, none, none, none] []) : V iL_law Z (kc + 9) (ks + 206) w sz 1185 [some (.ref 0), some (.ref χ), some (.ref (χ + 37)), some (.ref (χ + 47)), some (xI i), none, none, none, none] [] := by
  obtain ⟨hC, hI, ⟨K, hM⟩, hN, hs, f9, ho⟩ := hV
  refine V_aload_n dL_law_1185 1 rfl rfl ?_
  refine V_aload_n dL_law_1186 0 rfl rfl ?_
  refine V_iload dL_law_1187 rfl ?_
  refine V_iconst dL_law_1189 ?_
  refine V_iadd dL_law_1190 ?_
  refine V_sald hS dL_law_1191 (by omega) hL ?_
  refine V_aload_n dL_law_1192 0 rfl rfl ?_
  refine V_iload dL_law_1193 rfl ?_
  refine V_iconst dL_law_1195 ?_
  refine V_iadd dL_law_1196 ?_
  refine V_sald hS dL_law_1197 (by omega) hL ?_
  refine V_aload_n dL_law_1198 0 rfl rfl ?_
  refine V_iload dL_law_1199 rfl ?_
  refine V_iconst dL_law_1201 ?_
  refine V_iadd dL_law_1202 ?_
  refine V_sald hS dL_law_1203 (by omega) hL ?_
  refine V_aload_n dL_law_1204 0 rfl rfl ?_
  refine V_iload dL_law_1205 rfl ?_
  refine V_iconst dL_law_1207 ?_
  refine V_iadd dL_law_1208 ?_
  refine V_sald hS dL_law_1209 (by omega) hL ?_
  refine V_aload_n dL_law_1210 0 rfl rfl ?_
  refine V_iload dL_law_1211 rfl ?_
  refine V_iconst dL_law_1213 ?_
  refine V_iadd dL_law_1214 ?_
  refine V_sald hS dL_law_1215 (by omega) hL ?_
  refine V_aload_n dL_law_1216 0 rfl rfl ?_
  refine V_iload dL_law_1217 rfl ?_
  refine V_bipush dL_law_1219 (by decide) ?_
  refine V_iadd dL_law_1221 ?_
  refine V_sald hS dL_law_1222 (by omega) hL ?_
  refine V_aload_n dL_law_1223 3 rfl rfl ?_
  refine V_c_L_141 (kc' := kc) (ks' := ks) rfl (by decide) (l_leastLikeness hC hI hN hs ho ⟨(sc_r xs (i + 1)).1, (sc_r xs (i + 1)).2, (sc_r xs (i + 2)).1, (sc_r xs (i + 2)).2, (sc_r xs (i + 3)).1, (sc_r xs (i + 3)).2, (sc_r xs (i + 4)).1, (sc_r xs (i + 4)).2, (sc_r xs (i + 5)).1, (sc_r xs (i + 5)).2, (sc_r xs (i + 6)).1, (sc_r xs (i + 6)).2⟩) dL_law_1224 rfl rfl (Nat.le_of_ble_eq_true rfl) (by omega) (by omega) (fun E w1 sz1 q => q.elim) (fun v w1 sz1 q => ?_)
  obtain ⟨hT, k, rfl, hk, hq⟩ := q
  have hM1 := MW.L hM hT
  refine V_istore dL_law_1227 (by decide) ?_
  refine V_aload_n dL_law_1229 2 rfl rfl ?_
  refine V_aload_n dL_law_1230 0 rfl rfl ?_
  refine V_iload dL_law_1231 rfl ?_
  refine V_iconst dL_law_1233 ?_
  refine V_iadd dL_law_1234 ?_
  refine V_sald hS dL_law_1235 (by omega) hL ?_
  refine V_aload_n dL_law_1236 0 rfl rfl ?_
  refine V_iload dL_law_1237 rfl ?_
  refine V_iconst dL_law_1239 ?_
  refine V_iadd dL_law_1240 ?_
  refine V_sald hS dL_law_1241 (by omega) hL ?_
  refine V_aload_n dL_law_1242 0 rfl rfl ?_
  refine V_iload dL_law_1243 rfl ?_
  refine V_iconst dL_law_1245 ?_
  refine V_iadd dL_law_1246 ?_
  refine V_sald hS dL_law_1247 (by omega) hL ?_
  refine V_aload_n dL_law_1248 0 rfl rfl ?_
  refine V_iload dL_law_1249 rfl ?_
  refine V_iconst dL_law_1251 ?_
  refine V_iadd dL_law_1252 ?_
  refine V_sald hS dL_law_1253 (by omega) hL ?_
  refine V_aload_n dL_law_1254 0 rfl rfl ?_
  refine V_iload dL_law_1255 rfl ?_
  refine V_iconst dL_law_1257 ?_
  refine V_iadd dL_law_1258 ?_
  refine V_sald hS dL_law_1259 (by omega) hL ?_
  refine V_aload_n dL_law_1260 0 rfl rfl ?_
  refine V_iload dL_law_1261 rfl ?_
  refine V_bipush dL_law_1263 (by decide) ?_
  refine V_iadd dL_law_1265 ?_
  refine V_sald hS dL_law_1266 (by omega) hL ?_
  refine V_c_L_143 rfl (by decide) (m_leastLikeness hM1 hI.1 ⟨(sc_r xs (i + 1)).1, (sc_r xs (i + 1)).2, (sc_r xs (i + 2)).1, (sc_r xs (i + 2)).2, (sc_r xs (i + 3)).1, (sc_r xs (i + 3)).2, (sc_r xs (i + 4)).1, (sc_r xs (i + 4)).2, (sc_r xs (i + 5)).1, (sc_r xs (i + 5)).2, (sc_r xs (i + 6)).1, (sc_r xs (i + 6)).2⟩) dL_law_1267 hM1.1 rfl rfl (Nat.le_of_ble_eq_true rfl) (Nat.le_of_eq (Nat.zero_add _)) (Nat.le_of_eq (Nat.zero_add _)) (fun v w2 sz2 q => ?_)
  obtain ⟨rfl, r9, t9, P1, rfl, ⟨K1, hM2, e9⟩, hR⟩ := q
  obtain ⟨e1, hC1, hg⟩ := hq _ _ _ hR
  have hV2 := LIv.st2 hT hC1 (by rw [hR.1]; exact hI) hM2
  rw [show xI r9 = xI (Int32.ofInt r9).toInt from int_xI _]
  refine V_istore dL_law_1270 (by decide) ?_
  refine V_aload_n dL_law_1272 2 rfl rfl ?_
  refine V_c_L_82 rfl (by decide) (m_thrown hM2) dL_law_1273 hM2.1 rfl rfl (Nat.le_of_ble_eq_true rfl) (Nat.le_of_eq (Nat.zero_add _)) (Nat.le_of_eq (Nat.zero_add _)) (fun v w sz q => ?_)
  obtain ⟨rfl, rfl, rfl⟩ := q
  refine V_iload dL_law_1276 rfl ?_
  refine V_icmp_eq 1283 dL_law_1278 (by decide) (by omega) (fun h1278 => ?_) (fun h1278 => ?_)
  · refine V_iload dL_law_1283 rfl ?_
    refine V_if_ne 1300 dL_law_1285 (by decide) (by omega) (fun h1285 => ?_) (fun h1285 => ?_)
    · refine V_goto 1518 dL_law_1300 (by decide) ?_
      refine V_fg [true, true, true, true, true, false, false, false, false] ?_
      exact kk _ _ _ hV2
    · obtain ⟨g9, hg1, hg2⟩ := hg h1285
      have ho9 := (hM2.fr (χ + 47) (by omega)).trans hg1
      refine V_aload_n dL_law_1288 3 rfl rfl ?_
      refine V_iconst dL_law_1289 ?_
      refine V_lald dL_law_1290 ho9 (by decide) ?_
      rw [hg2]
      refine V_iload dL_law_1291 rfl ?_
      refine V_i2l dL_law_1293 (int_r _) ?_
      refine V_lcmpZ dL_law_1294 (fun _ => ?_) (fun h => absurd rfl h)
      refine V_if_eq 1300 dL_law_1295 (by decide) (by omega) (fun h1295 => ?_) (fun h1295 => ?_)
      · refine V_goto 1518 dL_law_1300 (by decide) ?_
        refine V_fg [true, true, true, true, true, false, false, false, false] ?_
        exact kk _ _ _ hV2
      · exact absurd h1295 (by simp)
  · exact absurd (e9.trans e1) h1278
set_option maxRecDepth 100000 in
set_option maxHeartbeats 4000000 in
theorem k_partingGap {Z : XZ} {kc ks : Nat} {w : WD} {sz χ L : Nat} {P : MP} {xs : Nat → Int32} {i : Int} (hS : ZS Z L xs) (hL : L < 2147483648) (hi : 0 ≤ i ∧ i + 7 ≤ (L : Int)) (hV : LIv w sz χ P) (kk : ∀ w' sz' P', LIv w' sz' χ P' → V iL_law Z kc ks w' sz' 1518 [some (.ref 0), some (.ref χ), some (.ref (χ + 37)), some (.ref (χ + 47)), some (xI i), none, none, none, none] []) : V iL_law Z (kc + 9) (ks + 206) w sz 1303 [some (.ref 0), some (.ref χ), some (.ref (χ + 37)), some (.ref (χ + 47)), some (xI i), none, none, none, none] [] := by
  obtain ⟨hC, hI, ⟨K, hM⟩, hN, hs, f9, ho⟩ := hV
  refine V_aload_n dL_law_1303 1 rfl rfl ?_
  refine V_aload_n dL_law_1304 0 rfl rfl ?_
  refine V_iload dL_law_1305 rfl ?_
  refine V_iconst dL_law_1307 ?_
  refine V_iadd dL_law_1308 ?_
  refine V_sald hS dL_law_1309 (by omega) hL ?_
  refine V_aload_n dL_law_1310 0 rfl rfl ?_
  refine V_iload dL_law_1311 rfl ?_
  refine V_iconst dL_law_1313 ?_
  refine V_iadd dL_law_1314 ?_
  refine V_sald hS dL_law_1315 (by omega) hL ?_
  refine V_aload_n dL_law_1316 0 rfl rfl ?_
  refine V_iload dL_law_1317 rfl ?_
  refine V_iconst dL_law_1319 ?_
  refine V_iadd dL_law_1320 ?_
  refine V_sald hS dL_law_1321 (by omega) hL ?_
  refine V_aload_n dL_law_1322 0 rfl rfl ?_
  refine V_iload dL_law_1323 rfl ?_
  refine V_iconst dL_law_1325 ?_
  refine V_iadd dL_law_1326 ?_
  refine V_sald hS dL_law_1327 (by omega) hL ?_
  refine V_aload_n dL_law_1328 0 rfl rfl ?_
  refine V_iload dL_law_1329 rfl ?_
  refine V_iconst dL_law_1331 ?_
  refine V_iadd dL_law_1332 ?_
  refine V_sald hS dL_law_1333 (by omega) hL ?_
  refine V_aload_n dL_law_1334 3 rfl rfl ?_
  refine V_c_L_144 (kc' := kc) (ks' := ks) rfl (by decide) (l_partingGap hC hI hN hs ho ⟨(sc_r xs (i + 1)).1, (sc_r xs (i + 1)).2, (sc_r xs (i + 2)).1, (sc_r xs (i + 2)).2, (sc_r xs (i + 3)).1, (sc_r xs (i + 3)).2, (sc_r xs (i + 4)).1, (sc_r xs (i + 4)).2, (sc_r xs (i + 5)).1, (sc_r xs (i + 5)).2⟩) dL_law_1335 rfl rfl (Nat.le_of_ble_eq_true rfl) (by omega) (by omega) (fun E w1 sz1 q => q.elim) (fun v w1 sz1 q => ?_)
  obtain ⟨hT, k, rfl, hk, hq⟩ := q
  have hM1 := MW.L hM hT
  refine V_istore dL_law_1338 (by decide) ?_
  refine V_aload_n dL_law_1340 2 rfl rfl ?_
  refine V_aload_n dL_law_1341 0 rfl rfl ?_
  refine V_iload dL_law_1342 rfl ?_
  refine V_iconst dL_law_1344 ?_
  refine V_iadd dL_law_1345 ?_
  refine V_sald hS dL_law_1346 (by omega) hL ?_
  refine V_aload_n dL_law_1347 0 rfl rfl ?_
  refine V_iload dL_law_1348 rfl ?_
  refine V_iconst dL_law_1350 ?_
  refine V_iadd dL_law_1351 ?_
  refine V_sald hS dL_law_1352 (by omega) hL ?_
  refine V_aload_n dL_law_1353 0 rfl rfl ?_
  refine V_iload dL_law_1354 rfl ?_
  refine V_iconst dL_law_1356 ?_
  refine V_iadd dL_law_1357 ?_
  refine V_sald hS dL_law_1358 (by omega) hL ?_
  refine V_aload_n dL_law_1359 0 rfl rfl ?_
  refine V_iload dL_law_1360 rfl ?_
  refine V_iconst dL_law_1362 ?_
  refine V_iadd dL_law_1363 ?_
  refine V_sald hS dL_law_1364 (by omega) hL ?_
  refine V_aload_n dL_law_1365 0 rfl rfl ?_
  refine V_iload dL_law_1366 rfl ?_
  refine V_iconst dL_law_1368 ?_
  refine V_iadd dL_law_1369 ?_
  refine V_sald hS dL_law_1370 (by omega) hL ?_
  refine V_c_L_146 rfl (by decide) (m_partingGap hM1 hI.1 ⟨(sc_r xs (i + 1)).1, (sc_r xs (i + 1)).2, (sc_r xs (i + 2)).1, (sc_r xs (i + 2)).2, (sc_r xs (i + 3)).1, (sc_r xs (i + 3)).2, (sc_r xs (i + 4)).1, (sc_r xs (i + 4)).2, (sc_r xs (i + 5)).1, (sc_r xs (i + 5)).2⟩) dL_law_1371 hM1.1 rfl rfl (Nat.le_of_ble_eq_true rfl) (Nat.le_of_eq (Nat.zero_add _)) (Nat.le_of_eq (Nat.zero_add _)) (fun v w2 sz2 q => ?_)
  obtain ⟨rfl, r9, t9, P1, rfl, ⟨K1, hM2, e9⟩, hR⟩ := q
  obtain ⟨e1, hC1, hg⟩ := hq _ _ _ hR
  have hV2 := LIv.st2 hT hC1 (by rw [hR.1]; exact hI) hM2
  rw [show xI r9 = xI (Int32.ofInt r9).toInt from int_xI _]
  refine V_istore dL_law_1374 (by decide) ?_
  refine V_aload_n dL_law_1376 2 rfl rfl ?_
  refine V_c_L_82 rfl (by decide) (m_thrown hM2) dL_law_1377 hM2.1 rfl rfl (Nat.le_of_ble_eq_true rfl) (Nat.le_of_eq (Nat.zero_add _)) (Nat.le_of_eq (Nat.zero_add _)) (fun v w sz q => ?_)
  obtain ⟨rfl, rfl, rfl⟩ := q
  refine V_iload dL_law_1380 rfl ?_
  refine V_icmp_eq 1387 dL_law_1382 (by decide) (by omega) (fun h1382 => ?_) (fun h1382 => ?_)
  · refine V_iload dL_law_1387 rfl ?_
    refine V_if_ne 1404 dL_law_1389 (by decide) (by omega) (fun h1389 => ?_) (fun h1389 => ?_)
    · refine V_goto 1518 dL_law_1404 (by decide) ?_
      refine V_fg [true, true, true, true, true, false, false, false, false] ?_
      exact kk _ _ _ hV2
    · obtain ⟨g9, hg1, hg2⟩ := hg h1389
      have ho9 := (hM2.fr (χ + 47) (by omega)).trans hg1
      refine V_aload_n dL_law_1392 3 rfl rfl ?_
      refine V_iconst dL_law_1393 ?_
      refine V_lald dL_law_1394 ho9 (by decide) ?_
      rw [hg2]
      refine V_iload dL_law_1395 rfl ?_
      refine V_i2l dL_law_1397 (int_r _) ?_
      refine V_lcmpZ dL_law_1398 (fun _ => ?_) (fun h => absurd rfl h)
      refine V_if_eq 1404 dL_law_1399 (by decide) (by omega) (fun h1399 => ?_) (fun h1399 => ?_)
      · refine V_goto 1518 dL_law_1404 (by decide) ?_
        refine V_fg [true, true, true, true, true, false, false, false, false] ?_
        exact kk _ _ _ hV2
      · exact absurd h1399 (by simp)
  · exact absurd (e9.trans e1) h1382
set_option maxRecDepth 100000 in
set_option maxHeartbeats 4000000 in
theorem k_areas {Z : XZ} {kc ks : Nat} {w : WD} {sz χ L : Nat} {P : MP} {xs : Nat → Int32} {i : Int} (hS : ZS Z L xs) (hL : L < 2147483648) (hi : 0 ≤ i ∧ i + 7 ≤ (L : Int)) (hV : LIv w sz χ P) (kk : ∀ w' sz' P', LIv w' sz' χ P' → V iL_law Z kc ks w' sz' 1518 [some (.ref 0), some (.ref χ), some (.ref (χ + 37)), some (.ref (χ + 47)), some (xI i), none, none, none, none] []) : V iL_law Z (kc + 9) (ks + 206) w sz 1407 [some (.ref 0), some (.ref χ), some (.ref (χ + 37)), some (.ref (χ + 47)), some (xI i), none, none, none, none] [] := by
  obtain ⟨hC, hI, ⟨K, hM⟩, hN, hs, f9, ho⟩ := hV
  refine V_aload_n dL_law_1407 1 rfl rfl ?_
  refine V_aload_n dL_law_1408 0 rfl rfl ?_
  refine V_iload dL_law_1409 rfl ?_
  refine V_iconst dL_law_1411 ?_
  refine V_iadd dL_law_1412 ?_
  refine V_sald hS dL_law_1413 (by omega) hL ?_
  refine V_aload_n dL_law_1414 3 rfl rfl ?_
  refine V_c_L_147 (kc' := kc) (ks' := ks) rfl (by decide) (l_areas hC hI hN hs ho ⟨(sc_r xs (i + 1)).1, (sc_r xs (i + 1)).2⟩) dL_law_1415 rfl rfl (Nat.le_of_ble_eq_true rfl) (by omega) (by omega) (fun E w1 sz1 q => q.elim) (fun v w1 sz1 q => ?_)
  obtain ⟨hT, k, rfl, hk, hq⟩ := q
  have hM1 := MW.L hM hT
  refine V_istore dL_law_1418 (by decide) ?_
  refine V_aload_n dL_law_1420 2 rfl rfl ?_
  refine V_aload_n dL_law_1421 0 rfl rfl ?_
  refine V_iload dL_law_1422 rfl ?_
  refine V_iconst dL_law_1424 ?_
  refine V_iadd dL_law_1425 ?_
  refine V_sald hS dL_law_1426 (by omega) hL ?_
  refine V_c_L_149 rfl (by decide) (m_areas hM1 hI.1 ⟨(sc_r xs (i + 1)).1, (sc_r xs (i + 1)).2⟩) dL_law_1427 hM1.1 rfl rfl (Nat.le_of_ble_eq_true rfl) (Nat.le_of_eq (Nat.zero_add _)) (Nat.le_of_eq (Nat.zero_add _)) (fun v w2 sz2 q => ?_)
  obtain ⟨rfl, r9, t9, P1, rfl, ⟨K1, hM2, e9⟩, hR⟩ := q
  obtain ⟨e1, hC1, hg⟩ := hq _ _ _ hR
  have hV2 := LIv.st2 hT hC1 (by rw [hR.1]; exact hI) hM2
  rw [show xI r9 = xI (Int32.ofInt r9).toInt from int_xI _]
  refine V_istore dL_law_1430 (by decide) ?_
  refine V_aload_n dL_law_1432 2 rfl rfl ?_
  refine V_c_L_82 rfl (by decide) (m_thrown hM2) dL_law_1433 hM2.1 rfl rfl (Nat.le_of_ble_eq_true rfl) (Nat.le_of_eq (Nat.zero_add _)) (Nat.le_of_eq (Nat.zero_add _)) (fun v w sz q => ?_)
  obtain ⟨rfl, rfl, rfl⟩ := q
  refine V_iload dL_law_1436 rfl ?_
  refine V_icmp_eq 1443 dL_law_1438 (by decide) (by omega) (fun h1438 => ?_) (fun h1438 => ?_)
  · refine V_iload dL_law_1443 rfl ?_
    refine V_if_ne 1460 dL_law_1445 (by decide) (by omega) (fun h1445 => ?_) (fun h1445 => ?_)
    · refine V_goto 1518 dL_law_1460 (by decide) ?_
      refine V_fg [true, true, true, true, true, false, false, false, false] ?_
      exact kk _ _ _ hV2
    · obtain ⟨g9, hg1, hg2⟩ := hg h1445
      have ho9 := (hM2.fr (χ + 47) (by omega)).trans hg1
      refine V_aload_n dL_law_1448 3 rfl rfl ?_
      refine V_iconst dL_law_1449 ?_
      refine V_lald dL_law_1450 ho9 (by decide) ?_
      rw [hg2]
      refine V_iload dL_law_1451 rfl ?_
      refine V_i2l dL_law_1453 (int_r _) ?_
      refine V_lcmpZ dL_law_1454 (fun _ => ?_) (fun h => absurd rfl h)
      refine V_if_eq 1460 dL_law_1455 (by decide) (by omega) (fun h1455 => ?_) (fun h1455 => ?_)
      · refine V_goto 1518 dL_law_1460 (by decide) ?_
        refine V_fg [true, true, true, true, true, false, false, false, false] ?_
        exact kk _ _ _ hV2
      · exact absurd h1455 (by simp)
  · exact absurd (e9.trans e1) h1438
set_option maxRecDepth 100000 in
set_option maxHeartbeats 4000000 in
theorem k_coverage {Z : XZ} {kc ks : Nat} {w : WD} {sz χ L : Nat} {P : MP} {xs : Nat → Int32} {i : Int} (hS : ZS Z L xs) (hL : L < 2147483648) (hi : 0 ≤ i ∧ i + 7 ≤ (L : Int)) (hV : LIv w sz χ P) (kk : ∀ w' sz' P', LIv w' sz' χ P' → V iL_law Z kc ks w' sz' 1518 [some (.ref 0), some (.ref χ), some (.ref (χ + 37)), some (.ref (χ + 47)), some (xI i), none, none, none, none] []) : V iL_law Z (kc + 9) (ks + 206) w sz 1463 [some (.ref 0), some (.ref χ), some (.ref (χ + 37)), some (.ref (χ + 47)), some (xI i), none, none, none, none] [] := by
  obtain ⟨hC, hI, ⟨K, hM⟩, hN, hs, f9, ho⟩ := hV
  refine V_le (Nat.le_add_right _ _) (Nat.le_add_right _ _) ?_
  refine V_aload_n dL_law_1463 1 rfl rfl ?_
  refine V_c_L_150 rfl (by decide) (c_cov hC hI) dL_law_1464 hC.1 rfl rfl (Nat.le_of_ble_eq_true rfl) (Nat.le_of_eq (Nat.zero_add _)) (Nat.le_of_eq (Nat.zero_add _)) (fun v w1 sz1 q => ?_)
  obtain ⟨rfl, rfl, hC1, hf⟩ := q
  have hN1 : WN w1 _ := fun j hj => (hf j (by omega)).trans (hN j hj)
  have hT : TL w w1 _ χ := ⟨hN1, ⟨f9, (hf _ (by omega)).trans ho⟩, fun j hj _ _ => hf j (by omega)⟩
  have hM1 := MW.L hM hT
  refine V_dstore dL_law_1467 (by decide) ?_
  refine V_aload_n dL_law_1469 2 rfl rfl ?_
  refine V_c_L_154 rfl (by decide) (m_coverage hM1 hI.1) dL_law_1470 hM1.1 rfl rfl (Nat.le_of_ble_eq_true rfl) (Nat.le_of_eq (Nat.zero_add _)) (Nat.le_of_eq (Nat.zero_add _)) (fun v w2 sz2 q => ?_)
  obtain ⟨rfl, ⟨K1, hM2, e9⟩, rfl⟩ := q
  have hV2 := LIv.st2 hT hC1 hI hM2
  refine V_dstore dL_law_1473 (by decide) ?_
  refine V_dload dL_law_1475 rfl ?_
  refine V_dload dL_law_1477 rfl ?_
  refine V_dcmp dL_law_1479 ?_
  rw [n64_cmp (cov_n hI.1)]
  show V _ _ _ _ _ _ _ _ [xI 0]
  refine V_if_eq 1501 dL_law_1480 (by decide) (by omega) (fun h1480 => ?_) (fun h1480 => ?_)
  · refine V_goto 1518 dL_law_1501 (by decide) ?_
    refine V_fg [true, true, true, true, true, false, false, false, false] ?_
    exact kk _ _ _ hV2
  · exact absurd h1480 (by simp)
set_option maxRecDepth 100000 in
set_option maxHeartbeats 4000000 in
theorem k_digest {Z : XZ} {kc ks : Nat} {w : WD} {sz χ L : Nat} {P : MP} {xs : Nat → Int32} {i : Int} (hS : ZS Z L xs) (hL : L < 2147483648) (hi : 0 ≤ i ∧ i + 7 ≤ (L : Int)) (hV : LIv w sz χ P) (kk : ∀ w' sz' P', LIv w' sz' χ P' → V iL_law Z kc ks w' sz' 1518 [some (.ref 0), some (.ref χ), some (.ref (χ + 37)), some (.ref (χ + 47)), some (xI i), none, none, none, none] []) : V iL_law Z (kc + 9) (ks + 206) w sz 1504 [some (.ref 0), some (.ref χ), some (.ref (χ + 37)), some (.ref (χ + 47)), some (xI i), none, none, none, none] [] := by
  obtain ⟨hC, hI, ⟨K, hM⟩, hN, hs, f9, ho⟩ := hV
  refine V_le (Nat.le_add_right _ _) (Nat.le_add_right _ _) ?_
  refine V_aload_n dL_law_1504 1 rfl rfl ?_
  refine V_c_L_155 rfl (by decide) (c_digest hC hI hN hs) dL_law_1505 hC.1 rfl rfl (Nat.le_of_ble_eq_true rfl) (Nat.le_of_eq (Nat.zero_add _)) (Nat.le_of_eq (Nat.zero_add _)) (fun v w1 sz1 q => ?_)
  obtain ⟨rfl, hF, hC1, g1, hg1, rfl⟩ := q
  have hT := hF.L ho
  have hM1 := MW.L hM hT
  refine V_aload_n dL_law_1508 2 rfl rfl ?_
  refine V_c_L_159 rfl (by decide) (m_digest hM1 hI.1 hI.2.1 hI.2.2.2) dL_law_1509 hM1.1 rfl rfl (Nat.le_of_ble_eq_true rfl) (Nat.le_of_eq (Nat.zero_add _)) (Nat.le_of_eq (Nat.zero_add _)) (fun v w2 sz2 q => ?_)
  obtain ⟨rfl, ⟨g2, hg2, rfl⟩, ⟨K1, hM2, e9⟩⟩ := q
  have hV2 := LIv.st2 hT hC1 hI hM2
  have eg : idg P g1 = idg P g2 := by
    have e0 : imx g1 (dg4 P) 6 = imx g2 (dg4 P) 6 := imx_c (fun j h1 h2 => arN_u (hg1 j h1 h2) (hg2 j h1 h2))
    unfold idg
    rw [e0]
  rw [eg]
  refine V_lcmpZ dL_law_1512 (fun _ => ?_) (fun h => absurd rfl h)
  refine V_if_eq 1518 dL_law_1513 (by decide) (by omega) (fun h1513 => ?_) (fun h1513 => ?_)
  · refine V_fg [true, true, true, true, true, false, false, false, false] ?_
    exact kk _ _ _ hV2
  · exact absurd h1513 (by simp)
