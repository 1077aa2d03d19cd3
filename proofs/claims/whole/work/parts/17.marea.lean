/-! the reference: the area -/
/-- a search of squares under way -/
def JI (a : Int → Prop) (f u : Int) (S0 : Int → Bool) (l : Int → Int) (S : Int → Bool) (n : Int) : Prop := n = cnt S0 - cnt S ∧ (∀ q, 0 ≤ q → q < n → 0 ≤ l q ∧ l q < 160 ∧ S0 (l q) = true ∧ S (l q) = false ∧ joA a f u (l q)) ∧ (∀ j, 0 ≤ j → j < 160 → S j = true → S0 j = true) ∧ (∀ j, 0 ≤ j → j < 160 → S0 j = true → S j = false → ∃ q, 0 ≤ q ∧ q < n ∧ l q = j)
def JC (u : Int) (S0 : Int → Bool) (l : Int → Int) (S : Int → Bool) (h : Int) : Prop := ∀ q, 0 ≤ q → q < h → ∀ j, 0 ≤ j → j < 160 → S0 j = true → adj u (l q) j → S j = false
theorem cnt_gt {A : Int → Bool} {k : Int} (h0 : 0 ≤ k) (h1 : k < 160) (h : A k = true) : 1 ≤ cnt A := by
  have e := cnt_iu (A := A) (b := false) h0 h1
  rw [h, b2i_t, b2i_f] at e
  have := cnt_b (iu A k false)
  omega
theorem JI.le {a : Int → Prop} {f u n : Int} {S0 S : Int → Bool} {l : Int → Int} (h : JI a f u S0 l S n) : n ≤ 160 := by
  have := h.1
  have := cnt_b S
  have := cnt_b S0
  omega
theorem JI.lt {a : Int → Prop} {f u n k : Int} {S0 S : Int → Bool} {l : Int → Int} (h : JI a f u S0 l S n) (h0 : 0 ≤ k) (h1 : k < 160) (hk : S k = true) : n < 160 := by
  have := h.1
  have := cnt_gt h0 h1 hk
  have := cnt_b S0
  omega
theorem JI.start {a : Int → Prop} {f u : Int} {S0 : Int → Bool} {l : Int → Int} : JI a f u S0 l S0 0 := ⟨by omega, fun q h1 h2 => by omega, fun j _ _ h => h, fun j _ _ h1 h2 => by rw [h1] at h2; cases h2⟩
theorem JI.add {a : Int → Prop} {f u n k : Int} {S0 S : Int → Bool} {l : Int → Int} (R : JI a f u S0 l S n) (h0 : 0 ≤ k) (h1 : k < 160) (hk : S k = true) (hj : joA a f u k) : JI a f u S0 (iu l n k) (iu S k false) (n + 1) := by
  refine ⟨?_, fun q q0 q1 => ?_, fun j j0 j1 hj1 => ?_, fun j j0 j1 hj1 hj2 => ?_⟩
  · rw [cnt_iu h0 h1, hk, b2i_t, b2i_f]
    have := R.1
    omega
  · by_cases e : q = n
    · rw [e, iu_s]
      exact ⟨h0, h1, R.2.2.1 k h0 h1 hk, iu_s, hj⟩
    · rw [iu_n e]
      obtain ⟨g1, g2, g3, g4, g5⟩ := R.2.1 q q0 (by omega)
      refine ⟨g1, g2, g3, ?_, g5⟩
      by_cases e : l q = k
      · rw [e, iu_s]
      · rw [iu_n e, g4]
  · by_cases e : j = k
    · rw [e, iu_s] at hj1
      cases hj1
    · rw [iu_n e] at hj1
      exact R.2.2.1 j j0 j1 hj1
  · by_cases e : j = k
    · exact ⟨n, by have := R.1; have := cnt_b S; have := cnt_gt h0 h1 (R.2.2.1 k h0 h1 hk); by_cases g : 0 ≤ n; exact g; exact absurd (R.2.2.1 k h0 h1 hk) (by
        exfalso
        have e1 : cnt S ≤ cnt S0 := by
          unfold cnt isum
          have key : ∀ m : Nat, (m : Int) ≤ 160 → nsum (fun k => b2i (S k)) m ≤ nsum (fun k => b2i (S0 k)) m := by
            intro m
            induction m with
            | zero => intro _; exact Int.le_refl _
            | succ m ih =>
              intro hm
              have h2 : b2i (S m) ≤ b2i (S0 m) := by
                cases e2 : S m with
                | false => exact (b2i_r _).1
                | true => rw [R.2.2.1 m (by omega) (by omega) e2]; exact Int.le_refl _
              have h3 := ih (by omega)
              show nsum _ m + b2i (S m) ≤ nsum _ m + b2i (S0 m)
              omega
          exact key _ (by omega)
        omega), by omega, by rw [iu_s, e]⟩
    · rw [iu_n e] at hj2
      obtain ⟨q, g1, g2, g3⟩ := R.2.2.2 j j0 j1 hj1 hj2
      exact ⟨q, g1, by omega, by rw [iu_n (by omega), g3]⟩
theorem JC.add {u n k h : Int} {S0 S : Int → Bool} {l : Int → Int} (hn : h ≤ n) (C : JC u S0 l S h) : JC u S0 (iu l n k) (iu S k false) h := by
  intro q q0 q1 j j0 j1 hj
  rw [iu_n (by omega)]
  intro ha
  by_cases e : j = k
  · rw [e, iu_s]
  · rw [iu_n e]
    exact C q q0 q1 j j0 j1 hj ha
theorem JI.fin {a : Int → Prop} {f u n h : Int} {S0 S R : Int → Bool} {l : Int → Int} (J : JI a f u S0 l S n) (C : JC u S0 l S h) (hn : n ≤ h) (hh : h ≤ n) (hS0 : ∀ j, 0 ≤ j → j < 160 → (S0 j = true ↔ sqA a u j)) (hs : ∀ j, 0 ≤ j → j < 160 → S0 j = true → iLies f j u → S j = false) (hR : ∀ j, 0 ≤ j → j < 160 → (R j = true ↔ ∃ q, 0 ≤ q ∧ q < h ∧ iLies j (l q) u)) : ∀ k, 0 ≤ k → k < 160 → (R k = true ↔ arA a f u k) := by
  intro k k0 k1
  rw [hR k k0 k1]
  constructor
  · rintro ⟨q, q0, q1, q2⟩
    obtain ⟨g1, g2, g3, g4, g5⟩ := J.2.1 q q0 (by omega)
    exact ⟨l q, g1, g2, g5, q2⟩
  · rintro ⟨q, q0, q1, q2, q3⟩
    have := q2 (fun i => 0 ≤ i ∧ i < 160 ∧ S0 i = true ∧ S i = false) (fun i i0 i1 hi hl => ⟨i0, i1, (hS0 i i0 i1).mpr hi, hs i i0 i1 ((hS0 i i0 i1).mpr hi) hl⟩) (fun i j hi i0 i1 j0 j1 hj ha => by
      obtain ⟨q', g1, g2, g3⟩ := J.2.2.2 i i0 i1 hi.2.2.1 hi.2.2.2
      exact ⟨j0, j1, (hS0 j j0 j1).mpr hj, C q' g1 (by omega) j j0 j1 ((hS0 j j0 j1).mpr hj) (by rw [g3]; exact ha)⟩)
    obtain ⟨q', g1, g2, g3⟩ := J.2.2.2 q q0 q1 this.2.2.1 this.2.2.2
    exact ⟨q', g1, by omega, by rw [g3]; exact q3⟩
theorem joA_seed {a : Int → Prop} {f u i : Int} (i0 : 0 ≤ i) (i1 : i < 160) (hs : sqA a u i) (hl : iLies f i u) : joA a f u i := fun X h1 _ => h1 i i0 i1 hs hl
theorem joA_step {a : Int → Prop} {f u i j : Int} (hi : joA a f u i) (i0 : 0 ≤ i) (i1 : i < 160) (j0 : 0 ≤ j) (j1 : j < 160) (hs : sqA a u j) (ha : adj u i j) : joA a f u j := fun X h1 h2 => h2 i j (hi X h1 h2) i0 i1 j0 j1 hs ha
set_option maxRecDepth 100000 in
set_option maxHeartbeats 8000000 in
theorem m_layArea_D {w0 w : WD} {sz μ : Nat} {P : MP} {K : MK} {Z : XZ} {f L a g u : Int} {A : Int → Bool} {S0 S1 R0 : Int → Bool} {l0 : Int → Int} {n0 : Int} (hE : xEnd Z (fun v w' sz' => v = none ∧ sz' = sz ∧ ∃ K', MW w0 w' μ P K' ∧ K'.thrown = K.1 ∧ K'.mask = K.2.2.2.2.2.2.1 ∧ K'.before = K.2.2.2.2.2.2.2.1 ∧ K'.h = K.2.2.2.2.2.2.2.2.2.2 ∧ wiA (aP P.1 f L a) f g K'.width ∧ ∀ k, 0 ≤ k → k < 160 → (K'.isArea k = true ↔ arA (aP P.1 f L a) f K'.width k))) (hf : 0 ≤ f ∧ f < 160) (hg : 0 ≤ g ∧ g ≤ 5) (hw : wiA (aP P.1 f L a) f g u) (hS0 : ∀ j, 0 ≤ j → j < 160 → (S0 j = true ↔ sqA (aP P.1 f L a) u j)) (hM : MW w0 w μ P (K.1, A, R0, l0, S1, u, K.2.2.2.2.2.2.1, K.2.2.2.2.2.2.2.1, K.2.2.2.2.2.2.2.2.1, K.2.2.2.2.2.2.2.2.2.1, K.2.2.2.2.2.2.2.2.2.2)) (J0 : JI (aP P.1 f L a) f u S0 l0 S1 n0) (hn0 : 0 ≤ n0) (hsd0 : (∀ j, 0 ≤ j → j < 160 → S0 j = true → iLies f j u → S1 j = false)) (hR0 : ∀ j, 0 ≤ j → j < 160 → R0 j = false) : V iX7_layArea Z 0 0 w sz 145 [some (.ref μ), some (xI f), some (xI L), some (xI a), some (xI g), some (xI n0), some (xI 0), none, none] [] := by
  have hu := And.intro hw.1 hw.2.1
  have L145 : ∀ h : Int, 0 ≤ h → h ≤ 160 → ∀ (w : WD) (n : Int) (l : Int → Int) (S R : Int → Bool), MW w0 w μ P (K.1, A, R, l, S, u, K.2.2.2.2.2.2.1, K.2.2.2.2.2.2.2.1, K.2.2.2.2.2.2.2.2.1, K.2.2.2.2.2.2.2.2.2.1, K.2.2.2.2.2.2.2.2.2.2) → JI (aP P.1 f L a) f u S0 l S n → JC u S0 l S h → h ≤ n → (∀ j, 0 ≤ j → j < 160 → S0 j = true → iLies f j u → S j = false) → (∀ j, 0 ≤ j → j < 160 → (R j = true ↔ ∃ q, 0 ≤ q ∧ q < h ∧ iLies j (l q) u)) → V iX7_layArea Z 0 0 w sz 145 [some (.ref μ), some (xI f), some (xI L), some (xI a), some (xI g), some (xI n), some (xI h), none, none] [] := by
    refine up_ind ?_
    intro h hh0 hh1 ihh w n l S R hM J C hhn hsd hR
    have hn9 := J.le
    refine V_iload dX7_layArea_145 rfl ?_
    refine V_iload dX7_layArea_147 rfl ?_
    refine V_icmp_ge 285 dX7_layArea_149 (by decide) (by first | omega | (simp only [stp, ifar, iabs]; omega)) (fun h149 => ?_) (fun h149 => ?_)
    · exact V_vret hE rfl dX7_layArea_285 ⟨rfl, rfl, _, hM, rfl, rfl, rfl, rfl, hw, J.fin C (by omega) (by omega) hS0 hsd hR⟩
    · refine V_aload_n dX7_layArea_152 0 rfl rfl ?_
      refine M_g_line hM rfl dX7_layArea_153 ?_
      refine V_iload dX7_layArea_156 rfl ?_
      refine M_l_line hM dX7_layArea_158 (by first | omega | (dsimp only; omega) | (dsimp only at *; omega)) ?_
      try dsimp only
      refine V_istore dX7_layArea_159 (by decide) ?_
      refine V_iconst dX7_layArea_161 ?_
      refine V_istore dX7_layArea_162 (by decide) ?_
      have L164 : ∀ k : Int, 0 ≤ k → k ≤ 160 → ∀ (w : WD) (n1 : Int) (l1 : Int → Int) (S1 R1 : Int → Bool), MW w0 w μ P (K.1, A, R1, l1, S1, u, K.2.2.2.2.2.2.1, K.2.2.2.2.2.2.2.1, K.2.2.2.2.2.2.2.2.1, K.2.2.2.2.2.2.2.2.2.1, K.2.2.2.2.2.2.2.2.2.2) → JI (aP P.1 f L a) f u S0 l1 S1 n1 → JC u S0 l1 S1 h → h < n1 → (∀ q, 0 ≤ q → q ≤ h → l1 q = l q) → (∀ j, 0 ≤ j → j < 160 → S0 j = true → iLies f j u → S1 j = false) → (∀ j, 0 ≤ j → j < k → S0 j = true → adj u (l h) j → S1 j = false) → (∀ j, 0 ≤ j → j < 160 → (R1 j = true ↔ (∃ q, 0 ≤ q ∧ q < h ∧ iLies j (l q) u) ∨ (j < k ∧ iLies j (l h) u))) → V iX7_layArea Z 0 0 w sz 164 [some (.ref μ), some (xI f), some (xI L), some (xI a), some (xI g), some (xI n1), some (xI h), some (xI (l h)), some (xI k)] [] := by
        refine up_ind ?_
        intro k hk0 hk1 ih w n1 l1 S1 R1 hM J1 C1 hlt heq hsd1 hp hR1
        have gc := J1.2.1 h hh0 hlt
        rw [heq h hh0 (by omega)] at gc
        have hn9 := J1.le
        refine V_iload dX7_layArea_164 rfl ?_
        refine V_sipush dX7_layArea_166 (by decide) ?_
        refine V_icmp_ge 279 dX7_layArea_169 (by decide) (by first | omega | (simp only [stp, ifar, iabs]; omega)) (fun h169 => ?_) (fun h169 => ?_)
        · refine V_iinc dX7_layArea_279 rfl (by decide) ?_
          refine V_goto 145 dX7_layArea_282 (by decide) ?_
          refine V_fg [true, true, true, true, true, true, true, false, false] ?_
          refine ihh (by omega) _ _ _ _ _ hM J1 (fun q g1 g2 j g3 g4 g5 g6 => ?_) (by omega) hsd1 (fun j g1 g2 => ?_)
          · by_cases e : q = h
            · rw [e, heq h hh0 (by omega)] at g6
              exact hp j g3 (by omega) g5 g6
            · exact C1 q g1 (by omega) j g3 g4 g5 g6
          · rw [hR1 j g1 g2]
            constructor
            · rintro (⟨q, q0, q1, q2⟩ | ⟨q1, q2⟩)
              · exact ⟨q, q0, by omega, by rw [heq q q0 (by omega)]; exact q2⟩
              · exact ⟨h, hh0, by omega, by rw [heq h hh0 (by omega)]; exact q2⟩
            · rintro ⟨q, q0, q1, q2⟩
              rw [heq q q0 (by omega)] at q2
              by_cases e : q = h
              · rw [e] at q2
                exact Or.inr ⟨by omega, q2⟩
              · exact Or.inl ⟨q, q0, by omega, q2⟩
        · refine V_aload_n dX7_layArea_172 0 rfl rfl ?_
          refine M_g_isArea hM rfl dX7_layArea_173 ?_
          refine V_iload dX7_layArea_176 rfl ?_
          refine V_aload_n dX7_layArea_178 0 rfl rfl ?_
          refine M_g_isArea hM rfl dX7_layArea_179 ?_
          refine V_iload dX7_layArea_182 rfl ?_
          refine M_l_isArea hM dX7_layArea_184 (by first | omega | (dsimp only; omega) | (dsimp only at *; omega)) ?_
          try dsimp only
          refine V_ifneB 202 dX7_layArea_185 (by decide) (fun h185 => ?_) (fun h185 => ?_)
          · try simp only [decide_eq_true_eq, decide_eq_false_iff_not, Bool.not_eq_true] at h185
            refine V_iconst dX7_layArea_202 ?_
            refine V_goto 207 dX7_layArea_203 (by decide) ?_
            refine M_s_isArea (b := true) hM dX7_layArea_207 (by first | omega | (dsimp only; omega) | (dsimp only at *; omega)) (fun w hM => ?_)
            try dsimp only at hM
            refine V_aload_n dX7_layArea_208 0 rfl rfl ?_
            refine M_g_isSquare hM rfl dX7_layArea_209 ?_
            refine V_iload dX7_layArea_212 rfl ?_
            refine M_l_isSquare hM dX7_layArea_214 (by first | omega | (dsimp only; omega) | (dsimp only at *; omega)) ?_
            try dsimp only
            refine V_ifeqB 273 dX7_layArea_215 (by decide) (fun h215 => ?_) (fun h215 => ?_)
            · try simp only [decide_eq_true_eq, decide_eq_false_iff_not, Bool.not_eq_true] at h215
              refine V_iinc dX7_layArea_273 rfl (by decide) ?_
              refine V_goto 164 dX7_layArea_276 (by decide) ?_
              refine ih (by omega) _ _ _ _ _ hM J1 C1 hlt heq hsd1 (fun j g1 g2 g3 g4 => ?_) (fun j g1 g2 => ?_)
              · by_cases e : j = k
                · rw [e] at g3 g4 ⊢
                  first | exact h215 | (exfalso; rw [adj, if_pos (by omega)] at g4; omega) | (exfalso; rw [adj, if_neg (by omega)] at g4; omega)
                · exact hp j g1 (by omega) g3 g4
              · by_cases e : j = k
                · rw [e, iu_s]
                  have e9 := hR1 k hk0 (by omega)
                  first
                    | exact ⟨fun _ => e9.mp h185 |>.elim (fun q => Or.inl q) (fun q => Or.inr ⟨by omega, q.2⟩), fun _ => rfl⟩
                    | exact ⟨fun _ => Or.inr ⟨by omega, h199⟩, fun _ => rfl⟩
                    | exact ⟨fun q => (by cases q), fun q => q.elim (fun q => by rw [← h185]; exact e9.mpr (Or.inl q)) (fun q => absurd q.2 h199)⟩
                · rw [iu_n e, hR1 j g1 g2]
                  constructor
                  · rintro (q | ⟨q1, q2⟩)
                    · exact Or.inl q
                    · exact Or.inr ⟨by omega, q2⟩
                  · rintro (q | ⟨q1, q2⟩)
                    · exact Or.inl q
                    · exact Or.inr ⟨by omega, q2⟩
            · try simp only [decide_eq_true_eq, decide_eq_false_iff_not, Bool.not_eq_true] at h215
              refine V_aload_n dX7_layArea_218 0 rfl rfl ?_
              refine M_g_width hM rfl dX7_layArea_219 ?_
              try dsimp only
              refine V_if_ne 239 dX7_layArea_222 (by decide) (by first | omega | (simp only [stp, ifar, iabs]; omega)) (fun h222 => ?_) (fun h222 => ?_)
              · refine V_iload dX7_layArea_239 rfl ?_
                refine V_iload dX7_layArea_241 rfl ?_
                refine V_c_X7_82 rfl (by decide) (m_far (by omega)) dX7_layArea_243 rfl rfl (Nat.le_of_ble_eq_true rfl) (Nat.le_of_eq (Nat.zero_add _)) (Nat.le_of_eq (Nat.zero_add _)) (fun v w sz q => ?_)
                try dsimp only at q
                obtain ⟨rfl, rfl, rfl⟩ := q
                refine V_aload_n dX7_layArea_246 0 rfl rfl ?_
                refine M_g_width hM rfl dX7_layArea_247 ?_
                try dsimp only
                refine V_icmp_gt 273 dX7_layArea_250 (by decide) (by first | omega | (simp only [stp, ifar, iabs]; omega)) (fun h250 => ?_) (fun h250 => ?_)
                · refine V_iinc dX7_layArea_273 rfl (by decide) ?_
                  refine V_goto 164 dX7_layArea_276 (by decide) ?_
                  refine ih (by omega) _ _ _ _ _ hM J1 C1 hlt heq hsd1 (fun j g1 g2 g3 g4 => ?_) (fun j g1 g2 => ?_)
                  · by_cases e : j = k
                    · rw [e] at g3 g4 ⊢
                      first | exact h215 | (exfalso; rw [adj, if_pos (by omega)] at g4; omega) | (exfalso; rw [adj, if_neg (by omega)] at g4; omega)
                    · exact hp j g1 (by omega) g3 g4
                  · by_cases e : j = k
                    · rw [e, iu_s]
                      have e9 := hR1 k hk0 (by omega)
                      first
                        | exact ⟨fun _ => e9.mp h185 |>.elim (fun q => Or.inl q) (fun q => Or.inr ⟨by omega, q.2⟩), fun _ => rfl⟩
                        | exact ⟨fun _ => Or.inr ⟨by omega, h199⟩, fun _ => rfl⟩
                        | exact ⟨fun q => (by cases q), fun q => q.elim (fun q => by rw [← h185]; exact e9.mpr (Or.inl q)) (fun q => absurd q.2 h199)⟩
                    · rw [iu_n e, hR1 j g1 g2]
                      constructor
                      · rintro (q | ⟨q1, q2⟩)
                        · exact Or.inl q
                        · exact Or.inr ⟨by omega, q2⟩
                      · rintro (q | ⟨q1, q2⟩)
                        · exact Or.inl q
                        · exact Or.inr ⟨by omega, q2⟩
                · refine V_aload_n dX7_layArea_253 0 rfl rfl ?_
                  refine M_g_line hM rfl dX7_layArea_254 ?_
                  refine V_iload dX7_layArea_257 rfl ?_
                  refine V_iload dX7_layArea_259 rfl ?_
                  refine M_s_line hM dX7_layArea_261 (by have g9 := J1.lt hk0 (by omega) h215; omega) (fun w hM => ?_)
                  try dsimp only at hM
                  refine V_iinc dX7_layArea_262 rfl (by decide) ?_
                  refine V_aload_n dX7_layArea_265 0 rfl rfl ?_
                  refine M_g_isSquare hM rfl dX7_layArea_266 ?_
                  refine V_iload dX7_layArea_269 rfl ?_
                  refine V_iconst dX7_layArea_271 ?_
                  refine M_s_isSquare (b := false) hM dX7_layArea_272 (by first | omega | (dsimp only; omega) | (dsimp only at *; omega)) (fun w hM => ?_)
                  try dsimp only at hM
                  refine V_iinc dX7_layArea_273 rfl (by decide) ?_
                  refine V_goto 164 dX7_layArea_276 (by decide) ?_
                  have hadj : adj u (l h) k := by
                    first | (rw [adj, if_pos (by omega)]; omega) | (rw [adj, if_neg (by omega)]; omega)
                  have hq9 : sqA (aP P.1 f L a) u k := (hS0 k hk0 (by omega)).mp (J1.2.2.1 k hk0 (by omega) h215)
                  refine ih (by omega) _ _ _ _ _ hM (J1.add hk0 (by omega) h215 (joA_step gc.2.2.2.2 gc.1 gc.2.1 hk0 (by omega) hq9 hadj)) (C1.add (by omega)) (by omega) (fun q g1 g2 => by rw [iu_n (by omega)]; exact heq q g1 g2) (fun j g1 g2 g3 g4 => ?_) (fun j g1 g2 g3 g4 => ?_) (fun j g1 g2 => ?_)
                  · by_cases e : j = k
                    · rw [e, iu_s]
                    · rw [iu_n e]; exact hsd1 j g1 g2 g3 g4
                  · by_cases e : j = k
                    · rw [e, iu_s]
                    · rw [iu_n e]; exact hp j g1 (by omega) g3 g4
                  · by_cases e : j = k
                    · rw [e, iu_s]
                      have e9 := hR1 k hk0 (by omega)
                      first
                        | exact ⟨fun _ => e9.mp h185 |>.elim (fun q => Or.inl q) (fun q => Or.inr ⟨by omega, q.2⟩), fun _ => rfl⟩
                        | exact ⟨fun _ => Or.inr ⟨by omega, h199⟩, fun _ => rfl⟩
                        | exact ⟨fun q => (by cases q), fun q => q.elim (fun q => by rw [← h185]; exact e9.mpr (Or.inl q)) (fun q => absurd q.2 h199)⟩
                    · rw [iu_n e, hR1 j g1 g2]
                      constructor
                      · rintro (q | ⟨q1, q2⟩)
                        · exact Or.inl q
                        · exact Or.inr ⟨by omega, q2⟩
                      · rintro (q | ⟨q1, q2⟩)
                        · exact Or.inl q
                        · exact Or.inr ⟨by omega, q2⟩
              · refine V_iload dX7_layArea_225 rfl ?_
                refine V_iload dX7_layArea_227 rfl ?_
                refine V_c_X7_58 rfl (by decide) (m_steps (by omega)) dX7_layArea_229 rfl rfl (Nat.le_of_ble_eq_true rfl) (Nat.le_of_eq (Nat.zero_add _)) (Nat.le_of_eq (Nat.zero_add _)) (fun v w sz q => ?_)
                try dsimp only at q
                obtain ⟨rfl, rfl, rfl⟩ := q
                refine V_iconst dX7_layArea_232 ?_
                refine V_icmp_ne 273 dX7_layArea_233 (by decide) (by first | omega | (simp only [stp, ifar, iabs]; omega)) (fun h233 => ?_) (fun h233 => ?_)
                · refine V_iinc dX7_layArea_273 rfl (by decide) ?_
                  refine V_goto 164 dX7_layArea_276 (by decide) ?_
                  refine ih (by omega) _ _ _ _ _ hM J1 C1 hlt heq hsd1 (fun j g1 g2 g3 g4 => ?_) (fun j g1 g2 => ?_)
                  · by_cases e : j = k
                    · rw [e] at g3 g4 ⊢
                      first | exact h215 | (exfalso; rw [adj, if_pos (by omega)] at g4; omega) | (exfalso; rw [adj, if_neg (by omega)] at g4; omega)
                    · exact hp j g1 (by omega) g3 g4
                  · by_cases e : j = k
                    · rw [e, iu_s]
                      have e9 := hR1 k hk0 (by omega)
                      first
                        | exact ⟨fun _ => e9.mp h185 |>.elim (fun q => Or.inl q) (fun q => Or.inr ⟨by omega, q.2⟩), fun _ => rfl⟩
                        | exact ⟨fun _ => Or.inr ⟨by omega, h199⟩, fun _ => rfl⟩
                        | exact ⟨fun q => (by cases q), fun q => q.elim (fun q => by rw [← h185]; exact e9.mpr (Or.inl q)) (fun q => absurd q.2 h199)⟩
                    · rw [iu_n e, hR1 j g1 g2]
                      constructor
                      · rintro (q | ⟨q1, q2⟩)
                        · exact Or.inl q
                        · exact Or.inr ⟨by omega, q2⟩
                      · rintro (q | ⟨q1, q2⟩)
                        · exact Or.inl q
                        · exact Or.inr ⟨by omega, q2⟩
                · refine V_goto 253 dX7_layArea_236 (by decide) ?_
                  refine V_aload_n dX7_layArea_253 0 rfl rfl ?_
                  refine M_g_line hM rfl dX7_layArea_254 ?_
                  refine V_iload dX7_layArea_257 rfl ?_
                  refine V_iload dX7_layArea_259 rfl ?_
                  refine M_s_line hM dX7_layArea_261 (by have g9 := J1.lt hk0 (by omega) h215; omega) (fun w hM => ?_)
                  try dsimp only at hM
                  refine V_iinc dX7_layArea_262 rfl (by decide) ?_
                  refine V_aload_n dX7_layArea_265 0 rfl rfl ?_
                  refine M_g_isSquare hM rfl dX7_layArea_266 ?_
                  refine V_iload dX7_layArea_269 rfl ?_
                  refine V_iconst dX7_layArea_271 ?_
                  refine M_s_isSquare (b := false) hM dX7_layArea_272 (by first | omega | (dsimp only; omega) | (dsimp only at *; omega)) (fun w hM => ?_)
                  try dsimp only at hM
                  refine V_iinc dX7_layArea_273 rfl (by decide) ?_
                  refine V_goto 164 dX7_layArea_276 (by decide) ?_
                  have hadj : adj u (l h) k := by
                    first | (rw [adj, if_pos (by omega)]; omega) | (rw [adj, if_neg (by omega)]; omega)
                  have hq9 : sqA (aP P.1 f L a) u k := (hS0 k hk0 (by omega)).mp (J1.2.2.1 k hk0 (by omega) h215)
                  refine ih (by omega) _ _ _ _ _ hM (J1.add hk0 (by omega) h215 (joA_step gc.2.2.2.2 gc.1 gc.2.1 hk0 (by omega) hq9 hadj)) (C1.add (by omega)) (by omega) (fun q g1 g2 => by rw [iu_n (by omega)]; exact heq q g1 g2) (fun j g1 g2 g3 g4 => ?_) (fun j g1 g2 g3 g4 => ?_) (fun j g1 g2 => ?_)
                  · by_cases e : j = k
                    · rw [e, iu_s]
                    · rw [iu_n e]; exact hsd1 j g1 g2 g3 g4
                  · by_cases e : j = k
                    · rw [e, iu_s]
                    · rw [iu_n e]; exact hp j g1 (by omega) g3 g4
                  · by_cases e : j = k
                    · rw [e, iu_s]
                      have e9 := hR1 k hk0 (by omega)
                      first
                        | exact ⟨fun _ => e9.mp h185 |>.elim (fun q => Or.inl q) (fun q => Or.inr ⟨by omega, q.2⟩), fun _ => rfl⟩
                        | exact ⟨fun _ => Or.inr ⟨by omega, h199⟩, fun _ => rfl⟩
                        | exact ⟨fun q => (by cases q), fun q => q.elim (fun q => by rw [← h185]; exact e9.mpr (Or.inl q)) (fun q => absurd q.2 h199)⟩
                    · rw [iu_n e, hR1 j g1 g2]
                      constructor
                      · rintro (q | ⟨q1, q2⟩)
                        · exact Or.inl q
                        · exact Or.inr ⟨by omega, q2⟩
                      · rintro (q | ⟨q1, q2⟩)
                        · exact Or.inl q
                        · exact Or.inr ⟨by omega, q2⟩
          · try simp only [decide_eq_true_eq, decide_eq_false_iff_not, Bool.not_eq_true] at h185
            refine V_iload dX7_layArea_188 rfl ?_
            refine V_iload dX7_layArea_190 rfl ?_
            refine V_aload_n dX7_layArea_192 0 rfl rfl ?_
            refine M_g_width hM rfl dX7_layArea_193 ?_
            try dsimp only
            refine V_c_X7_65 rfl (by decide) (m_liesIn (by omega)) dX7_layArea_196 rfl rfl (Nat.le_of_ble_eq_true rfl) (Nat.le_of_eq (Nat.zero_add _)) (Nat.le_of_eq (Nat.zero_add _)) (fun v w sz q => ?_)
            try dsimp only at q
            obtain ⟨rfl, rfl, rfl⟩ := q
            refine V_ifeqB 206 dX7_layArea_199 (by decide) (fun h199 => ?_) (fun h199 => ?_)
            · try simp only [decide_eq_true_eq, decide_eq_false_iff_not, Bool.not_eq_true] at h199
              refine V_iconst dX7_layArea_206 ?_
              refine M_s_isArea (b := false) hM dX7_layArea_207 (by first | omega | (dsimp only; omega) | (dsimp only at *; omega)) (fun w hM => ?_)
              try dsimp only at hM
              refine V_aload_n dX7_layArea_208 0 rfl rfl ?_
              refine M_g_isSquare hM rfl dX7_layArea_209 ?_
              refine V_iload dX7_layArea_212 rfl ?_
              refine M_l_isSquare hM dX7_layArea_214 (by first | omega | (dsimp only; omega) | (dsimp only at *; omega)) ?_
              try dsimp only
              refine V_ifeqB 273 dX7_layArea_215 (by decide) (fun h215 => ?_) (fun h215 => ?_)
              · try simp only [decide_eq_true_eq, decide_eq_false_iff_not, Bool.not_eq_true] at h215
                refine V_iinc dX7_layArea_273 rfl (by decide) ?_
                refine V_goto 164 dX7_layArea_276 (by decide) ?_
                refine ih (by omega) _ _ _ _ _ hM J1 C1 hlt heq hsd1 (fun j g1 g2 g3 g4 => ?_) (fun j g1 g2 => ?_)
                · by_cases e : j = k
                  · rw [e] at g3 g4 ⊢
                    first | exact h215 | (exfalso; rw [adj, if_pos (by omega)] at g4; omega) | (exfalso; rw [adj, if_neg (by omega)] at g4; omega)
                  · exact hp j g1 (by omega) g3 g4
                · by_cases e : j = k
                  · rw [e, iu_s]
                    have e9 := hR1 k hk0 (by omega)
                    first
                      | exact ⟨fun _ => e9.mp h185 |>.elim (fun q => Or.inl q) (fun q => Or.inr ⟨by omega, q.2⟩), fun _ => rfl⟩
                      | exact ⟨fun _ => Or.inr ⟨by omega, h199⟩, fun _ => rfl⟩
                      | exact ⟨fun q => (by cases q), fun q => q.elim (fun q => by rw [← h185]; exact e9.mpr (Or.inl q)) (fun q => absurd q.2 h199)⟩
                  · rw [iu_n e, hR1 j g1 g2]
                    constructor
                    · rintro (q | ⟨q1, q2⟩)
                      · exact Or.inl q
                      · exact Or.inr ⟨by omega, q2⟩
                    · rintro (q | ⟨q1, q2⟩)
                      · exact Or.inl q
                      · exact Or.inr ⟨by omega, q2⟩
              · try simp only [decide_eq_true_eq, decide_eq_false_iff_not, Bool.not_eq_true] at h215
                refine V_aload_n dX7_layArea_218 0 rfl rfl ?_
                refine M_g_width hM rfl dX7_layArea_219 ?_
                try dsimp only
                refine V_if_ne 239 dX7_layArea_222 (by decide) (by first | omega | (simp only [stp, ifar, iabs]; omega)) (fun h222 => ?_) (fun h222 => ?_)
                · refine V_iload dX7_layArea_239 rfl ?_
                  refine V_iload dX7_layArea_241 rfl ?_
                  refine V_c_X7_82 rfl (by decide) (m_far (by omega)) dX7_layArea_243 rfl rfl (Nat.le_of_ble_eq_true rfl) (Nat.le_of_eq (Nat.zero_add _)) (Nat.le_of_eq (Nat.zero_add _)) (fun v w sz q => ?_)
                  try dsimp only at q
                  obtain ⟨rfl, rfl, rfl⟩ := q
                  refine V_aload_n dX7_layArea_246 0 rfl rfl ?_
                  refine M_g_width hM rfl dX7_layArea_247 ?_
                  try dsimp only
                  refine V_icmp_gt 273 dX7_layArea_250 (by decide) (by first | omega | (simp only [stp, ifar, iabs]; omega)) (fun h250 => ?_) (fun h250 => ?_)
                  · refine V_iinc dX7_layArea_273 rfl (by decide) ?_
                    refine V_goto 164 dX7_layArea_276 (by decide) ?_
                    refine ih (by omega) _ _ _ _ _ hM J1 C1 hlt heq hsd1 (fun j g1 g2 g3 g4 => ?_) (fun j g1 g2 => ?_)
                    · by_cases e : j = k
                      · rw [e] at g3 g4 ⊢
                        first | exact h215 | (exfalso; rw [adj, if_pos (by omega)] at g4; omega) | (exfalso; rw [adj, if_neg (by omega)] at g4; omega)
                      · exact hp j g1 (by omega) g3 g4
                    · by_cases e : j = k
                      · rw [e, iu_s]
                        have e9 := hR1 k hk0 (by omega)
                        first
                          | exact ⟨fun _ => e9.mp h185 |>.elim (fun q => Or.inl q) (fun q => Or.inr ⟨by omega, q.2⟩), fun _ => rfl⟩
                          | exact ⟨fun _ => Or.inr ⟨by omega, h199⟩, fun _ => rfl⟩
                          | exact ⟨fun q => (by cases q), fun q => q.elim (fun q => by rw [← h185]; exact e9.mpr (Or.inl q)) (fun q => absurd q.2 h199)⟩
                      · rw [iu_n e, hR1 j g1 g2]
                        constructor
                        · rintro (q | ⟨q1, q2⟩)
                          · exact Or.inl q
                          · exact Or.inr ⟨by omega, q2⟩
                        · rintro (q | ⟨q1, q2⟩)
                          · exact Or.inl q
                          · exact Or.inr ⟨by omega, q2⟩
                  · refine V_aload_n dX7_layArea_253 0 rfl rfl ?_
                    refine M_g_line hM rfl dX7_layArea_254 ?_
                    refine V_iload dX7_layArea_257 rfl ?_
                    refine V_iload dX7_layArea_259 rfl ?_
                    refine M_s_line hM dX7_layArea_261 (by have g9 := J1.lt hk0 (by omega) h215; omega) (fun w hM => ?_)
                    try dsimp only at hM
                    refine V_iinc dX7_layArea_262 rfl (by decide) ?_
                    refine V_aload_n dX7_layArea_265 0 rfl rfl ?_
                    refine M_g_isSquare hM rfl dX7_layArea_266 ?_
                    refine V_iload dX7_layArea_269 rfl ?_
                    refine V_iconst dX7_layArea_271 ?_
                    refine M_s_isSquare (b := false) hM dX7_layArea_272 (by first | omega | (dsimp only; omega) | (dsimp only at *; omega)) (fun w hM => ?_)
                    try dsimp only at hM
                    refine V_iinc dX7_layArea_273 rfl (by decide) ?_
                    refine V_goto 164 dX7_layArea_276 (by decide) ?_
                    have hadj : adj u (l h) k := by
                      first | (rw [adj, if_pos (by omega)]; omega) | (rw [adj, if_neg (by omega)]; omega)
                    have hq9 : sqA (aP P.1 f L a) u k := (hS0 k hk0 (by omega)).mp (J1.2.2.1 k hk0 (by omega) h215)
                    refine ih (by omega) _ _ _ _ _ hM (J1.add hk0 (by omega) h215 (joA_step gc.2.2.2.2 gc.1 gc.2.1 hk0 (by omega) hq9 hadj)) (C1.add (by omega)) (by omega) (fun q g1 g2 => by rw [iu_n (by omega)]; exact heq q g1 g2) (fun j g1 g2 g3 g4 => ?_) (fun j g1 g2 g3 g4 => ?_) (fun j g1 g2 => ?_)
                    · by_cases e : j = k
                      · rw [e, iu_s]
                      · rw [iu_n e]; exact hsd1 j g1 g2 g3 g4
                    · by_cases e : j = k
                      · rw [e, iu_s]
                      · rw [iu_n e]; exact hp j g1 (by omega) g3 g4
                    · by_cases e : j = k
                      · rw [e, iu_s]
                        have e9 := hR1 k hk0 (by omega)
                        first
                          | exact ⟨fun _ => e9.mp h185 |>.elim (fun q => Or.inl q) (fun q => Or.inr ⟨by omega, q.2⟩), fun _ => rfl⟩
                          | exact ⟨fun _ => Or.inr ⟨by omega, h199⟩, fun _ => rfl⟩
                          | exact ⟨fun q => (by cases q), fun q => q.elim (fun q => by rw [← h185]; exact e9.mpr (Or.inl q)) (fun q => absurd q.2 h199)⟩
                      · rw [iu_n e, hR1 j g1 g2]
                        constructor
                        · rintro (q | ⟨q1, q2⟩)
                          · exact Or.inl q
                          · exact Or.inr ⟨by omega, q2⟩
                        · rintro (q | ⟨q1, q2⟩)
                          · exact Or.inl q
                          · exact Or.inr ⟨by omega, q2⟩
                · refine V_iload dX7_layArea_225 rfl ?_
                  refine V_iload dX7_layArea_227 rfl ?_
                  refine V_c_X7_58 rfl (by decide) (m_steps (by omega)) dX7_layArea_229 rfl rfl (Nat.le_of_ble_eq_true rfl) (Nat.le_of_eq (Nat.zero_add _)) (Nat.le_of_eq (Nat.zero_add _)) (fun v w sz q => ?_)
                  try dsimp only at q
                  obtain ⟨rfl, rfl, rfl⟩ := q
                  refine V_iconst dX7_layArea_232 ?_
                  refine V_icmp_ne 273 dX7_layArea_233 (by decide) (by first | omega | (simp only [stp, ifar, iabs]; omega)) (fun h233 => ?_) (fun h233 => ?_)
                  · refine V_iinc dX7_layArea_273 rfl (by decide) ?_
                    refine V_goto 164 dX7_layArea_276 (by decide) ?_
                    refine ih (by omega) _ _ _ _ _ hM J1 C1 hlt heq hsd1 (fun j g1 g2 g3 g4 => ?_) (fun j g1 g2 => ?_)
                    · by_cases e : j = k
                      · rw [e] at g3 g4 ⊢
                        first | exact h215 | (exfalso; rw [adj, if_pos (by omega)] at g4; omega) | (exfalso; rw [adj, if_neg (by omega)] at g4; omega)
                      · exact hp j g1 (by omega) g3 g4
                    · by_cases e : j = k
                      · rw [e, iu_s]
                        have e9 := hR1 k hk0 (by omega)
                        first
                          | exact ⟨fun _ => e9.mp h185 |>.elim (fun q => Or.inl q) (fun q => Or.inr ⟨by omega, q.2⟩), fun _ => rfl⟩
                          | exact ⟨fun _ => Or.inr ⟨by omega, h199⟩, fun _ => rfl⟩
                          | exact ⟨fun q => (by cases q), fun q => q.elim (fun q => by rw [← h185]; exact e9.mpr (Or.inl q)) (fun q => absurd q.2 h199)⟩
                      · rw [iu_n e, hR1 j g1 g2]
                        constructor
                        · rintro (q | ⟨q1, q2⟩)
                          · exact Or.inl q
                          · exact Or.inr ⟨by omega, q2⟩
                        · rintro (q | ⟨q1, q2⟩)
                          · exact Or.inl q
                          · exact Or.inr ⟨by omega, q2⟩
                  · refine V_goto 253 dX7_layArea_236 (by decide) ?_
                    refine V_aload_n dX7_layArea_253 0 rfl rfl ?_
                    refine M_g_line hM rfl dX7_layArea_254 ?_
                    refine V_iload dX7_layArea_257 rfl ?_
                    refine V_iload dX7_layArea_259 rfl ?_
                    refine M_s_line hM dX7_layArea_261 (by have g9 := J1.lt hk0 (by omega) h215; omega) (fun w hM => ?_)
                    try dsimp only at hM
                    refine V_iinc dX7_layArea_262 rfl (by decide) ?_
                    refine V_aload_n dX7_layArea_265 0 rfl rfl ?_
                    refine M_g_isSquare hM rfl dX7_layArea_266 ?_
                    refine V_iload dX7_layArea_269 rfl ?_
                    refine V_iconst dX7_layArea_271 ?_
                    refine M_s_isSquare (b := false) hM dX7_layArea_272 (by first | omega | (dsimp only; omega) | (dsimp only at *; omega)) (fun w hM => ?_)
                    try dsimp only at hM
                    refine V_iinc dX7_layArea_273 rfl (by decide) ?_
                    refine V_goto 164 dX7_layArea_276 (by decide) ?_
                    have hadj : adj u (l h) k := by
                      first | (rw [adj, if_pos (by omega)]; omega) | (rw [adj, if_neg (by omega)]; omega)
                    have hq9 : sqA (aP P.1 f L a) u k := (hS0 k hk0 (by omega)).mp (J1.2.2.1 k hk0 (by omega) h215)
                    refine ih (by omega) _ _ _ _ _ hM (J1.add hk0 (by omega) h215 (joA_step gc.2.2.2.2 gc.1 gc.2.1 hk0 (by omega) hq9 hadj)) (C1.add (by omega)) (by omega) (fun q g1 g2 => by rw [iu_n (by omega)]; exact heq q g1 g2) (fun j g1 g2 g3 g4 => ?_) (fun j g1 g2 g3 g4 => ?_) (fun j g1 g2 => ?_)
                    · by_cases e : j = k
                      · rw [e, iu_s]
                      · rw [iu_n e]; exact hsd1 j g1 g2 g3 g4
                    · by_cases e : j = k
                      · rw [e, iu_s]
                      · rw [iu_n e]; exact hp j g1 (by omega) g3 g4
                    · by_cases e : j = k
                      · rw [e, iu_s]
                        have e9 := hR1 k hk0 (by omega)
                        first
                          | exact ⟨fun _ => e9.mp h185 |>.elim (fun q => Or.inl q) (fun q => Or.inr ⟨by omega, q.2⟩), fun _ => rfl⟩
                          | exact ⟨fun _ => Or.inr ⟨by omega, h199⟩, fun _ => rfl⟩
                          | exact ⟨fun q => (by cases q), fun q => q.elim (fun q => by rw [← h185]; exact e9.mpr (Or.inl q)) (fun q => absurd q.2 h199)⟩
                      · rw [iu_n e, hR1 j g1 g2]
                        constructor
                        · rintro (q | ⟨q1, q2⟩)
                          · exact Or.inl q
                          · exact Or.inr ⟨by omega, q2⟩
                        · rintro (q | ⟨q1, q2⟩)
                          · exact Or.inl q
                          · exact Or.inr ⟨by omega, q2⟩
            · try simp only [decide_eq_true_eq, decide_eq_false_iff_not, Bool.not_eq_true] at h199
              refine V_iconst dX7_layArea_202 ?_
              refine V_goto 207 dX7_layArea_203 (by decide) ?_
              refine M_s_isArea (b := true) hM dX7_layArea_207 (by first | omega | (dsimp only; omega) | (dsimp only at *; omega)) (fun w hM => ?_)
              try dsimp only at hM
              refine V_aload_n dX7_layArea_208 0 rfl rfl ?_
              refine M_g_isSquare hM rfl dX7_layArea_209 ?_
              refine V_iload dX7_layArea_212 rfl ?_
              refine M_l_isSquare hM dX7_layArea_214 (by first | omega | (dsimp only; omega) | (dsimp only at *; omega)) ?_
              try dsimp only
              refine V_ifeqB 273 dX7_layArea_215 (by decide) (fun h215 => ?_) (fun h215 => ?_)
              · try simp only [decide_eq_true_eq, decide_eq_false_iff_not, Bool.not_eq_true] at h215
                refine V_iinc dX7_layArea_273 rfl (by decide) ?_
                refine V_goto 164 dX7_layArea_276 (by decide) ?_
                refine ih (by omega) _ _ _ _ _ hM J1 C1 hlt heq hsd1 (fun j g1 g2 g3 g4 => ?_) (fun j g1 g2 => ?_)
                · by_cases e : j = k
                  · rw [e] at g3 g4 ⊢
                    first | exact h215 | (exfalso; rw [adj, if_pos (by omega)] at g4; omega) | (exfalso; rw [adj, if_neg (by omega)] at g4; omega)
                  · exact hp j g1 (by omega) g3 g4
                · by_cases e : j = k
                  · rw [e, iu_s]
                    have e9 := hR1 k hk0 (by omega)
                    first
                      | exact ⟨fun _ => e9.mp h185 |>.elim (fun q => Or.inl q) (fun q => Or.inr ⟨by omega, q.2⟩), fun _ => rfl⟩
                      | exact ⟨fun _ => Or.inr ⟨by omega, h199⟩, fun _ => rfl⟩
                      | exact ⟨fun q => (by cases q), fun q => q.elim (fun q => by rw [← h185]; exact e9.mpr (Or.inl q)) (fun q => absurd q.2 h199)⟩
                  · rw [iu_n e, hR1 j g1 g2]
                    constructor
                    · rintro (q | ⟨q1, q2⟩)
                      · exact Or.inl q
                      · exact Or.inr ⟨by omega, q2⟩
                    · rintro (q | ⟨q1, q2⟩)
                      · exact Or.inl q
                      · exact Or.inr ⟨by omega, q2⟩
              · try simp only [decide_eq_true_eq, decide_eq_false_iff_not, Bool.not_eq_true] at h215
                refine V_aload_n dX7_layArea_218 0 rfl rfl ?_
                refine M_g_width hM rfl dX7_layArea_219 ?_
                try dsimp only
                refine V_if_ne 239 dX7_layArea_222 (by decide) (by first | omega | (simp only [stp, ifar, iabs]; omega)) (fun h222 => ?_) (fun h222 => ?_)
                · refine V_iload dX7_layArea_239 rfl ?_
                  refine V_iload dX7_layArea_241 rfl ?_
                  refine V_c_X7_82 rfl (by decide) (m_far (by omega)) dX7_layArea_243 rfl rfl (Nat.le_of_ble_eq_true rfl) (Nat.le_of_eq (Nat.zero_add _)) (Nat.le_of_eq (Nat.zero_add _)) (fun v w sz q => ?_)
                  try dsimp only at q
                  obtain ⟨rfl, rfl, rfl⟩ := q
                  refine V_aload_n dX7_layArea_246 0 rfl rfl ?_
                  refine M_g_width hM rfl dX7_layArea_247 ?_
                  try dsimp only
                  refine V_icmp_gt 273 dX7_layArea_250 (by decide) (by first | omega | (simp only [stp, ifar, iabs]; omega)) (fun h250 => ?_) (fun h250 => ?_)
                  · refine V_iinc dX7_layArea_273 rfl (by decide) ?_
                    refine V_goto 164 dX7_layArea_276 (by decide) ?_
                    refine ih (by omega) _ _ _ _ _ hM J1 C1 hlt heq hsd1 (fun j g1 g2 g3 g4 => ?_) (fun j g1 g2 => ?_)
                    · by_cases e : j = k
                      · rw [e] at g3 g4 ⊢
                        first | exact h215 | (exfalso; rw [adj, if_pos (by omega)] at g4; omega) | (exfalso; rw [adj, if_neg (by omega)] at g4; omega)
                      · exact hp j g1 (by omega) g3 g4
                    · by_cases e : j = k
                      · rw [e, iu_s]
                        have e9 := hR1 k hk0 (by omega)
                        first
                          | exact ⟨fun _ => e9.mp h185 |>.elim (fun q => Or.inl q) (fun q => Or.inr ⟨by omega, q.2⟩), fun _ => rfl⟩
                          | exact ⟨fun _ => Or.inr ⟨by omega, h199⟩, fun _ => rfl⟩
                          | exact ⟨fun q => (by cases q), fun q => q.elim (fun q => by rw [← h185]; exact e9.mpr (Or.inl q)) (fun q => absurd q.2 h199)⟩
                      · rw [iu_n e, hR1 j g1 g2]
                        constructor
                        · rintro (q | ⟨q1, q2⟩)
                          · exact Or.inl q
                          · exact Or.inr ⟨by omega, q2⟩
                        · rintro (q | ⟨q1, q2⟩)
                          · exact Or.inl q
                          · exact Or.inr ⟨by omega, q2⟩
                  · refine V_aload_n dX7_layArea_253 0 rfl rfl ?_
                    refine M_g_line hM rfl dX7_layArea_254 ?_
                    refine V_iload dX7_layArea_257 rfl ?_
                    refine V_iload dX7_layArea_259 rfl ?_
                    refine M_s_line hM dX7_layArea_261 (by have g9 := J1.lt hk0 (by omega) h215; omega) (fun w hM => ?_)
                    try dsimp only at hM
                    refine V_iinc dX7_layArea_262 rfl (by decide) ?_
                    refine V_aload_n dX7_layArea_265 0 rfl rfl ?_
                    refine M_g_isSquare hM rfl dX7_layArea_266 ?_
                    refine V_iload dX7_layArea_269 rfl ?_
                    refine V_iconst dX7_layArea_271 ?_
                    refine M_s_isSquare (b := false) hM dX7_layArea_272 (by first | omega | (dsimp only; omega) | (dsimp only at *; omega)) (fun w hM => ?_)
                    try dsimp only at hM
                    refine V_iinc dX7_layArea_273 rfl (by decide) ?_
                    refine V_goto 164 dX7_layArea_276 (by decide) ?_
                    have hadj : adj u (l h) k := by
                      first | (rw [adj, if_pos (by omega)]; omega) | (rw [adj, if_neg (by omega)]; omega)
                    have hq9 : sqA (aP P.1 f L a) u k := (hS0 k hk0 (by omega)).mp (J1.2.2.1 k hk0 (by omega) h215)
                    refine ih (by omega) _ _ _ _ _ hM (J1.add hk0 (by omega) h215 (joA_step gc.2.2.2.2 gc.1 gc.2.1 hk0 (by omega) hq9 hadj)) (C1.add (by omega)) (by omega) (fun q g1 g2 => by rw [iu_n (by omega)]; exact heq q g1 g2) (fun j g1 g2 g3 g4 => ?_) (fun j g1 g2 g3 g4 => ?_) (fun j g1 g2 => ?_)
                    · by_cases e : j = k
                      · rw [e, iu_s]
                      · rw [iu_n e]; exact hsd1 j g1 g2 g3 g4
                    · by_cases e : j = k
                      · rw [e, iu_s]
                      · rw [iu_n e]; exact hp j g1 (by omega) g3 g4
                    · by_cases e : j = k
                      · rw [e, iu_s]
                        have e9 := hR1 k hk0 (by omega)
                        first
                          | exact ⟨fun _ => e9.mp h185 |>.elim (fun q => Or.inl q) (fun q => Or.inr ⟨by omega, q.2⟩), fun _ => rfl⟩
                          | exact ⟨fun _ => Or.inr ⟨by omega, h199⟩, fun _ => rfl⟩
                          | exact ⟨fun q => (by cases q), fun q => q.elim (fun q => by rw [← h185]; exact e9.mpr (Or.inl q)) (fun q => absurd q.2 h199)⟩
                      · rw [iu_n e, hR1 j g1 g2]
                        constructor
                        · rintro (q | ⟨q1, q2⟩)
                          · exact Or.inl q
                          · exact Or.inr ⟨by omega, q2⟩
                        · rintro (q | ⟨q1, q2⟩)
                          · exact Or.inl q
                          · exact Or.inr ⟨by omega, q2⟩
                · refine V_iload dX7_layArea_225 rfl ?_
                  refine V_iload dX7_layArea_227 rfl ?_
                  refine V_c_X7_58 rfl (by decide) (m_steps (by omega)) dX7_layArea_229 rfl rfl (Nat.le_of_ble_eq_true rfl) (Nat.le_of_eq (Nat.zero_add _)) (Nat.le_of_eq (Nat.zero_add _)) (fun v w sz q => ?_)
                  try dsimp only at q
                  obtain ⟨rfl, rfl, rfl⟩ := q
                  refine V_iconst dX7_layArea_232 ?_
                  refine V_icmp_ne 273 dX7_layArea_233 (by decide) (by first | omega | (simp only [stp, ifar, iabs]; omega)) (fun h233 => ?_) (fun h233 => ?_)
                  · refine V_iinc dX7_layArea_273 rfl (by decide) ?_
                    refine V_goto 164 dX7_layArea_276 (by decide) ?_
                    refine ih (by omega) _ _ _ _ _ hM J1 C1 hlt heq hsd1 (fun j g1 g2 g3 g4 => ?_) (fun j g1 g2 => ?_)
                    · by_cases e : j = k
                      · rw [e] at g3 g4 ⊢
                        first | exact h215 | (exfalso; rw [adj, if_pos (by omega)] at g4; omega) | (exfalso; rw [adj, if_neg (by omega)] at g4; omega)
                      · exact hp j g1 (by omega) g3 g4
                    · by_cases e : j = k
                      · rw [e, iu_s]
                        have e9 := hR1 k hk0 (by omega)
                        first
                          | exact ⟨fun _ => e9.mp h185 |>.elim (fun q => Or.inl q) (fun q => Or.inr ⟨by omega, q.2⟩), fun _ => rfl⟩
                          | exact ⟨fun _ => Or.inr ⟨by omega, h199⟩, fun _ => rfl⟩
                          | exact ⟨fun q => (by cases q), fun q => q.elim (fun q => by rw [← h185]; exact e9.mpr (Or.inl q)) (fun q => absurd q.2 h199)⟩
                      · rw [iu_n e, hR1 j g1 g2]
                        constructor
                        · rintro (q | ⟨q1, q2⟩)
                          · exact Or.inl q
                          · exact Or.inr ⟨by omega, q2⟩
                        · rintro (q | ⟨q1, q2⟩)
                          · exact Or.inl q
                          · exact Or.inr ⟨by omega, q2⟩
                  · refine V_goto 253 dX7_layArea_236 (by decide) ?_
                    refine V_aload_n dX7_layArea_253 0 rfl rfl ?_
                    refine M_g_line hM rfl dX7_layArea_254 ?_
                    refine V_iload dX7_layArea_257 rfl ?_
                    refine V_iload dX7_layArea_259 rfl ?_
                    refine M_s_line hM dX7_layArea_261 (by have g9 := J1.lt hk0 (by omega) h215; omega) (fun w hM => ?_)
                    try dsimp only at hM
                    refine V_iinc dX7_layArea_262 rfl (by decide) ?_
                    refine V_aload_n dX7_layArea_265 0 rfl rfl ?_
                    refine M_g_isSquare hM rfl dX7_layArea_266 ?_
                    refine V_iload dX7_layArea_269 rfl ?_
                    refine V_iconst dX7_layArea_271 ?_
                    refine M_s_isSquare (b := false) hM dX7_layArea_272 (by first | omega | (dsimp only; omega) | (dsimp only at *; omega)) (fun w hM => ?_)
                    try dsimp only at hM
                    refine V_iinc dX7_layArea_273 rfl (by decide) ?_
                    refine V_goto 164 dX7_layArea_276 (by decide) ?_
                    have hadj : adj u (l h) k := by
                      first | (rw [adj, if_pos (by omega)]; omega) | (rw [adj, if_neg (by omega)]; omega)
                    have hq9 : sqA (aP P.1 f L a) u k := (hS0 k hk0 (by omega)).mp (J1.2.2.1 k hk0 (by omega) h215)
                    refine ih (by omega) _ _ _ _ _ hM (J1.add hk0 (by omega) h215 (joA_step gc.2.2.2.2 gc.1 gc.2.1 hk0 (by omega) hq9 hadj)) (C1.add (by omega)) (by omega) (fun q g1 g2 => by rw [iu_n (by omega)]; exact heq q g1 g2) (fun j g1 g2 g3 g4 => ?_) (fun j g1 g2 g3 g4 => ?_) (fun j g1 g2 => ?_)
                    · by_cases e : j = k
                      · rw [e, iu_s]
                      · rw [iu_n e]; exact hsd1 j g1 g2 g3 g4
                    · by_cases e : j = k
                      · rw [e, iu_s]
                      · rw [iu_n e]; exact hp j g1 (by omega) g3 g4
                    · by_cases e : j = k
                      · rw [e, iu_s]
                        have e9 := hR1 k hk0 (by omega)
                        first
                          | exact ⟨fun _ => e9.mp h185 |>.elim (fun q => Or.inl q) (fun q => Or.inr ⟨by omega, q.2⟩), fun _ => rfl⟩
                          | exact ⟨fun _ => Or.inr ⟨by omega, h199⟩, fun _ => rfl⟩
                          | exact ⟨fun q => (by cases q), fun q => q.elim (fun q => by rw [← h185]; exact e9.mpr (Or.inl q)) (fun q => absurd q.2 h199)⟩
                      · rw [iu_n e, hR1 j g1 g2]
                        constructor
                        · rintro (q | ⟨q1, q2⟩)
                          · exact Or.inl q
                          · exact Or.inr ⟨by omega, q2⟩
                        · rintro (q | ⟨q1, q2⟩)
                          · exact Or.inl q
                          · exact Or.inr ⟨by omega, q2⟩
      exact L164 (0) (by omega) (by omega) w n l S R hM J C (by omega) (fun q _ _ => rfl) hsd (fun j g1 g2 => by omega) (fun j g1 g2 => by rw [hR j g1 g2]; exact ⟨fun q => Or.inl q, fun q => q.elim id (fun q => by omega)⟩)
  refine V_fg [true, true, true, true, true, true, true, false, false] ?_
  exact L145 (0) (by omega) (by omega) w n0 l0 S1 R0 hM J0 (fun q h1 h2 => by omega) hn0 hsd0 (fun j h1 h2 => ⟨fun g => (by rw [hR0 j h1 h2] at g; cases g), fun ⟨q, h3, h4, _⟩ => by omega⟩)
set_option maxRecDepth 100000 in
set_option maxHeartbeats 8000000 in
theorem m_layArea_C {w0 w : WD} {sz μ : Nat} {P : MP} {K : MK} {Z : XZ} {f L a g u : Int} {A : Int → Bool} {S0 R0 : Int → Bool} {l0 : Int → Int} (hE : xEnd Z (fun v w' sz' => v = none ∧ sz' = sz ∧ ∃ K', MW w0 w' μ P K' ∧ K'.thrown = K.1 ∧ K'.mask = K.2.2.2.2.2.2.1 ∧ K'.before = K.2.2.2.2.2.2.2.1 ∧ K'.h = K.2.2.2.2.2.2.2.2.2.2 ∧ wiA (aP P.1 f L a) f g K'.width ∧ ∀ k, 0 ≤ k → k < 160 → (K'.isArea k = true ↔ arA (aP P.1 f L a) f K'.width k))) (hf : 0 ≤ f ∧ f < 160) (hg : 0 ≤ g ∧ g ≤ 5) (hw : wiA (aP P.1 f L a) f g u) (hS0 : ∀ j, 0 ≤ j → j < 160 → (S0 j = true ↔ sqA (aP P.1 f L a) u j)) (hM : MW w0 w μ P (K.1, A, R0, l0, S0, u, K.2.2.2.2.2.2.1, K.2.2.2.2.2.2.2.1, K.2.2.2.2.2.2.2.2.1, K.2.2.2.2.2.2.2.2.2.1, K.2.2.2.2.2.2.2.2.2.2)) (hR0 : ∀ j, 0 ≤ j → j < 160 → R0 j = false) : V iX7_layArea Z 0 0 w sz 85 [some (.ref μ), some (xI f), some (xI L), some (xI a), some (xI g), some (xI 0), some (xI 0), none, none] [] := by
  have hu := And.intro hw.1 hw.2.1
  have L85 : ∀ k : Int, 0 ≤ k → k ≤ 160 → ∀ (w : WD) (n : Int) (l : Int → Int) (S : Int → Bool), MW w0 w μ P (K.1, A, R0, l, S, u, K.2.2.2.2.2.2.1, K.2.2.2.2.2.2.2.1, K.2.2.2.2.2.2.2.2.1, K.2.2.2.2.2.2.2.2.2.1, K.2.2.2.2.2.2.2.2.2.2) → JI (aP P.1 f L a) f u S0 l S n → 0 ≤ n → (∀ j, 0 ≤ j → j < 160 → k ≤ j → S j = S0 j) → (∀ j, 0 ≤ j → j < k → S0 j = true → iLies f j u → S j = false) → V iX7_layArea Z 0 0 w sz 85 [some (.ref μ), some (xI f), some (xI L), some (xI a), some (xI g), some (xI n), some (xI k), none, none] [] := by
    refine up_ind ?_
    intro k hk0 hk1 ih w n l S hM J hn0 hS hsd
    have hn9 := J.le
    refine V_iload dX7_layArea_85 rfl ?_
    refine V_sipush dX7_layArea_87 (by decide) ?_
    refine V_icmp_ge 142 dX7_layArea_90 (by decide) (by omega) (fun h90 => ?_) (fun h90 => ?_)
    · refine V_iconst dX7_layArea_142 ?_
      refine V_istore dX7_layArea_143 (by decide) ?_
      exact m_layArea_D hE hf hg hw hS0 hM J hn0 (fun j g1 g2 => hsd j g1 (by omega)) hR0
    · refine V_aload_n dX7_layArea_93 0 rfl rfl ?_
      refine M_g_isSquare hM rfl dX7_layArea_94 ?_
      refine V_iload dX7_layArea_97 rfl ?_
      refine M_l_isSquare hM dX7_layArea_99 (by first | omega | (dsimp only; omega) | (dsimp only at *; omega)) ?_
      try dsimp only
      refine V_ifeqB 136 dX7_layArea_100 (by decide) (fun h100 => ?_) (fun h100 => ?_)
      · try simp only [decide_eq_true_eq, decide_eq_false_iff_not, Bool.not_eq_true] at h100
        refine V_iinc dX7_layArea_136 rfl (by decide) ?_
        refine V_goto 85 dX7_layArea_139 (by decide) ?_
        refine V_fg [true, true, true, true, true, true, true, false, false] ?_
        refine ih (by omega) _ _ _ _ hM J hn0 (fun j g1 g2 g3 => hS j g1 g2 (by omega)) (fun j g1 g2 g3 g4 => ?_)
        by_cases e : j = k
        · rw [e] at g3 g4 ⊢
          first | exact h100 | exact absurd g4 h113
        · exact hsd j g1 (by omega) g3 g4
      · try simp only [decide_eq_true_eq, decide_eq_false_iff_not, Bool.not_eq_true] at h100
        refine V_iload_n dX7_layArea_103 1 rfl rfl ?_
        refine V_iload dX7_layArea_104 rfl ?_
        refine V_aload_n dX7_layArea_106 0 rfl rfl ?_
        refine M_g_width hM rfl dX7_layArea_107 ?_
        try dsimp only
        refine V_c_X7_65 rfl (by decide) (m_liesIn (by omega)) dX7_layArea_110 rfl rfl (Nat.le_of_ble_eq_true rfl) (Nat.le_of_eq (Nat.zero_add _)) (Nat.le_of_eq (Nat.zero_add _)) (fun v w sz q => ?_)
        try dsimp only at q
        obtain ⟨rfl, rfl, rfl⟩ := q
        refine V_ifeqB 136 dX7_layArea_113 (by decide) (fun h113 => ?_) (fun h113 => ?_)
        · try simp only [decide_eq_true_eq, decide_eq_false_iff_not, Bool.not_eq_true] at h113
          refine V_iinc dX7_layArea_136 rfl (by decide) ?_
          refine V_goto 85 dX7_layArea_139 (by decide) ?_
          refine V_fg [true, true, true, true, true, true, true, false, false] ?_
          refine ih (by omega) _ _ _ _ hM J hn0 (fun j g1 g2 g3 => hS j g1 g2 (by omega)) (fun j g1 g2 g3 g4 => ?_)
          by_cases e : j = k
          · rw [e] at g3 g4 ⊢
            first | exact h100 | exact absurd g4 h113
          · exact hsd j g1 (by omega) g3 g4
        · try simp only [decide_eq_true_eq, decide_eq_false_iff_not, Bool.not_eq_true] at h113
          refine V_aload_n dX7_layArea_116 0 rfl rfl ?_
          refine M_g_line hM rfl dX7_layArea_117 ?_
          refine V_iload dX7_layArea_120 rfl ?_
          refine V_iload dX7_layArea_122 rfl ?_
          refine M_s_line hM dX7_layArea_124 (by have g9 := J.lt hk0 (by omega) h100; omega) (fun w hM => ?_)
          try dsimp only at hM
          refine V_iinc dX7_layArea_125 rfl (by decide) ?_
          refine V_aload_n dX7_layArea_128 0 rfl rfl ?_
          refine M_g_isSquare hM rfl dX7_layArea_129 ?_
          refine V_iload dX7_layArea_132 rfl ?_
          refine V_iconst dX7_layArea_134 ?_
          refine M_s_isSquare (b := false) hM dX7_layArea_135 (by first | omega | (dsimp only; omega) | (dsimp only at *; omega)) (fun w hM => ?_)
          try dsimp only at hM
          refine V_iinc dX7_layArea_136 rfl (by decide) ?_
          refine V_goto 85 dX7_layArea_139 (by decide) ?_
          refine V_fg [true, true, true, true, true, true, true, false, false] ?_
          refine ih (by omega) _ _ _ _ hM (J.add hk0 (by omega) h100 (joA_seed hk0 (by omega) ((hS0 k hk0 (by omega)).mp (J.2.2.1 k hk0 (by omega) h100)) h113)) (by omega) (fun j g1 g2 g3 => by rw [iu_n (by omega)]; exact hS j g1 g2 (by omega)) (fun j g1 g2 g3 g4 => ?_)
          by_cases e : j = k
          · rw [e, iu_s]
          · rw [iu_n e]; exact hsd j g1 (by omega) g3 g4
  refine V_fg [true, true, true, true, true, true, true, false, false] ?_
  exact L85 (0) (by omega) (by omega) w 0 _ S0 hM JI.start (by omega) (fun j _ _ _ => rfl) (fun j g1 g2 => by omega)
set_option maxRecDepth 100000 in
set_option maxHeartbeats 8000000 in
theorem m_layArea_B {w0 w : WD} {sz μ : Nat} {P : MP} {K : MK} {Z : XZ} {f L a g u : Int} {A : Int → Bool} {S0 R0 : Int → Bool} {l0 : Int → Int} (hE : xEnd Z (fun v w' sz' => v = none ∧ sz' = sz ∧ ∃ K', MW w0 w' μ P K' ∧ K'.thrown = K.1 ∧ K'.mask = K.2.2.2.2.2.2.1 ∧ K'.before = K.2.2.2.2.2.2.2.1 ∧ K'.h = K.2.2.2.2.2.2.2.2.2.2 ∧ wiA (aP P.1 f L a) f g K'.width ∧ ∀ k, 0 ≤ k → k < 160 → (K'.isArea k = true ↔ arA (aP P.1 f L a) f K'.width k))) (hf : 0 ≤ f ∧ f < 160) (hg : 0 ≤ g ∧ g ≤ 5) (hw : wiA (aP P.1 f L a) f g u) (hS0 : ∀ j, 0 ≤ j → j < 160 → (S0 j = true ↔ sqA (aP P.1 f L a) u j)) (hM : MW w0 w μ P (K.1, A, R0, l0, S0, u, K.2.2.2.2.2.2.1, K.2.2.2.2.2.2.2.1, K.2.2.2.2.2.2.2.2.1, K.2.2.2.2.2.2.2.2.2.1, K.2.2.2.2.2.2.2.2.2.2)) : V iX7_layArea Z 0 0 w sz 54 [some (.ref μ), some (xI f), some (xI L), some (xI a), some (xI g), none, none, none, none] [] := by
  refine V_iconst dX7_layArea_54 ?_
  refine V_istore dX7_layArea_55 (by decide) ?_
  have L57 : ∀ k : Int, 0 ≤ k → k ≤ 160 → ∀ (w : WD) (R : Int → Bool), MW w0 w μ P (K.1, A, R, l0, S0, u, K.2.2.2.2.2.2.1, K.2.2.2.2.2.2.2.1, K.2.2.2.2.2.2.2.2.1, K.2.2.2.2.2.2.2.2.2.1, K.2.2.2.2.2.2.2.2.2.2) → (∀ j, 0 ≤ j → j < k → R j = false) → V iX7_layArea Z 0 0 w sz 57 [some (.ref μ), some (xI f), some (xI L), some (xI a), some (xI g), some (xI k), none, none, none] [] := by
    refine up_ind ?_
    intro k hk0 hk1 ih w R hM hR
    refine V_iload dX7_layArea_57 rfl ?_
    refine V_sipush dX7_layArea_59 (by decide) ?_
    refine V_icmp_ge 79 dX7_layArea_62 (by decide) (by omega) (fun h62 => ?_) (fun h62 => ?_)
    · refine V_iconst dX7_layArea_79 ?_
      refine V_istore dX7_layArea_80 (by decide) ?_
      refine V_iconst dX7_layArea_82 ?_
      refine V_istore dX7_layArea_83 (by decide) ?_
      refine V_fg [true, true, true, true, true, true, true, false, false] ?_
      exact m_layArea_C hE hf hg hw hS0 hM (fun j g1 g2 => hR j g1 (by omega))
    · refine V_aload_n dX7_layArea_65 0 rfl rfl ?_
      refine M_g_isArea hM rfl dX7_layArea_66 ?_
      refine V_iload dX7_layArea_69 rfl ?_
      refine V_iconst dX7_layArea_71 ?_
      refine M_s_isArea (b := false) hM dX7_layArea_72 (by first | omega | (dsimp only; omega) | (dsimp only at *; omega)) (fun w hM => ?_)
      try dsimp only at hM
      refine V_iinc dX7_layArea_73 rfl (by decide) ?_
      refine V_goto 57 dX7_layArea_76 (by decide) ?_
      refine V_fg [true, true, true, true, true, true, false, false, false] ?_
      refine ih (by omega) _ _ hM (fun j g1 g2 => ?_)
      by_cases e : j = k
      · rw [e, iu_s]
      · rw [iu_n e]; exact hR j g1 (by omega)
  refine V_fg [true, true, true, true, true, true, false, false, false] ?_
  exact L57 (0) (by omega) (by omega) w R0 hM (fun j g1 g2 => by omega)
set_option maxRecDepth 100000 in
set_option maxHeartbeats 4000000 in
theorem m_layArea {w0 w : WD} {sz μ : Nat} {P : MP} {K : MK} {f L a g : Int} (hM : MW w0 w μ P K) (hz : ∀ k, 0 ≤ k → k < 160 → 0 ≤ P.1 k ∧ P.1 k ≤ 99) (hf : 0 ≤ f ∧ f < 160) (hL : 0 ≤ L ∧ L ≤ 99) (ha : 0 ≤ a ∧ a ≤ 1) (hg : 0 ≤ g ∧ g ≤ 5) : CT iX7_layArea 0 0 [.ref μ, xI f, xI L, xI a, xI g] w sz (fun v w' sz' => v = none ∧ sz' = sz ∧ ∃ K', MW w0 w' μ P K' ∧ K'.thrown = K.1 ∧ K'.mask = K.2.2.2.2.2.2.1 ∧ K'.before = K.2.2.2.2.2.2.2.1 ∧ K'.h = K.2.2.2.2.2.2.2.2.2.2 ∧ wiA (aP P.1 f L a) f g K'.width ∧ ∀ k, 0 ≤ k → k < 160 → (K'.isArea k = true ↔ arA (aP P.1 f L a) f K'.width k)) := by
  refine CT.ofZ (by decide) rfl (Nat.le_of_ble_eq_true rfl) (fun Z hE => ?_)
  refine V_aload_n dX7_layArea_0 0 rfl rfl ?_
  refine V_iload_n dX7_layArea_1 1 rfl rfl ?_
  refine V_iload_n dX7_layArea_2 2 rfl rfl ?_
  refine V_iload_n dX7_layArea_3 3 rfl rfl ?_
  refine V_c_X7_68 rfl (by decide) (m_layAlike hM hz hf hL ha) dX7_layArea_4 hM.1 rfl rfl (Nat.le_of_ble_eq_true rfl) (Nat.le_of_eq (Nat.zero_add _)) (Nat.le_of_eq (Nat.zero_add _)) (fun v w sz q => ?_)
  try dsimp only at q
  obtain ⟨rfl, rfl, A, l, hM, hA⟩ := q
  refine V_aload_n dX7_layArea_7 0 rfl rfl ?_
  refine V_iload dX7_layArea_8 rfl ?_
  refine M_p_width hM rfl dX7_layArea_10 (fun w hM => ?_)
  try dsimp only at hM
  refine V_aload_n dX7_layArea_13 0 rfl rfl ?_
  refine V_aload_n dX7_layArea_14 0 rfl rfl ?_
  refine M_g_width hM rfl dX7_layArea_15 ?_
  try dsimp only
  refine V_c_X7_75 rfl (by decide) (m_laySquares hM (by (try dsimp only); omega)) dX7_layArea_18 hM.1 rfl rfl (Nat.le_of_ble_eq_true rfl) (Nat.le_of_eq (Nat.zero_add _)) (Nat.le_of_eq (Nat.zero_add _)) (fun v w sz q => ?_)
  try dsimp only at q
  obtain ⟨rfl, rfl, S1, hM, hS1⟩ := q
  have L21 : ∀ u : Int, 0 ≤ u → u ≤ g → ∀ (w : WD) (S : Int → Bool), MW w0 w μ P (K.1, A, K.2.2.1, l, S, u, K.2.2.2.2.2.2.1, K.2.2.2.2.2.2.2.1, K.2.2.2.2.2.2.2.2.1, K.2.2.2.2.2.2.2.2.2.1, K.2.2.2.2.2.2.2.2.2.2) → (∀ j, 0 ≤ j → j < 160 → (S j = true ↔ sqA (aP P.1 f L a) u j)) → (∀ w', u < w' → w' ≤ g → ¬ liA (aP P.1 f L a) f w') → V iX7_layArea Z 0 0 w sz 21 [some (.ref μ), some (xI f), some (xI L), some (xI a), some (xI g), none, none, none, none] [] := by
    refine down_ind ?_
    intro u hu0 hu1 ihu w S hM hS hno
    have hex : iex (fun j => S j && decide (iLies f j u)) 160 = true ↔ liA (aP P.1 f L a) f u := by
      rw [iex_iff (by omega)]
      constructor
      · rintro ⟨q, q0, q1, q2⟩
        rw [Bool.and_eq_true, decide_eq_true_eq] at q2
        exact ⟨q, q0, q1, (hS q q0 q1).mp q2.1, q2.2⟩
      · rintro ⟨q, q0, q1, q2, q3⟩
        exact ⟨q, q0, q1, by rw [Bool.and_eq_true, decide_eq_true_eq]; exact ⟨(hS q q0 q1).mpr q2, q3⟩⟩
    refine V_aload_n dX7_layArea_21 0 rfl rfl ?_
    refine V_iload_n dX7_layArea_22 1 rfl rfl ?_
    refine V_aload_n dX7_layArea_23 0 rfl rfl ?_
    refine M_g_width hM rfl dX7_layArea_24 ?_
    try dsimp only
    refine V_c_X7_79 rfl (by decide) (m_liesInAny hM (by omega) (by (try dsimp only); omega)) dX7_layArea_27 hM.1 rfl rfl (Nat.le_of_ble_eq_true rfl) (Nat.le_of_eq (Nat.zero_add _)) (Nat.le_of_eq (Nat.zero_add _)) (fun v w sz q => ?_)
    try dsimp only at q
    obtain ⟨rfl, rfl, rfl⟩ := q
    refine V_ifneB 54 dX7_layArea_30 (by decide) (fun h30 => ?_) (fun h30 => ?_)
    · try simp only [decide_eq_true_eq, decide_eq_false_iff_not, Bool.not_eq_true] at h30
      refine V_fg [true, true, true, true, true, false, false, false, false] ?_
      exact m_layArea_B hE hf hg ⟨hu0, hu1, hex.mp h30, hno⟩ hS hM
    · try simp only [decide_eq_true_eq, decide_eq_false_iff_not, Bool.not_eq_true] at h30
      have hno2 : ¬ liA (aP P.1 f L a) f u := fun q => by rw [hex.mpr q] at h30; cases h30
      have hup : 0 < u := by
        by_cases e : u = 0
        · subst e
          exact absurd (liA_0 hf (aP_self hL.1)) hno2
        · omega
      refine V_aload_n dX7_layArea_33 0 rfl rfl ?_
      refine V_dup dX7_layArea_34 rfl ?_
      refine M_g_width hM rfl dX7_layArea_35 ?_
      try dsimp only
      refine V_iconst dX7_layArea_38 ?_
      refine V_isub dX7_layArea_39 ?_
      refine M_p_width hM rfl dX7_layArea_40 (fun w hM => ?_)
      try dsimp only at hM
      refine V_aload_n dX7_layArea_43 0 rfl rfl ?_
      refine V_aload_n dX7_layArea_44 0 rfl rfl ?_
      refine M_g_width hM rfl dX7_layArea_45 ?_
      try dsimp only
      refine V_c_X7_75 rfl (by decide) (m_laySquares hM (by (try dsimp only); omega)) dX7_layArea_48 hM.1 rfl rfl (Nat.le_of_ble_eq_true rfl) (Nat.le_of_eq (Nat.zero_add _)) (Nat.le_of_eq (Nat.zero_add _)) (fun v w sz q => ?_)
      try dsimp only at q
      obtain ⟨rfl, rfl, S1, hM, hS1⟩ := q
      refine V_goto 21 dX7_layArea_51 (by decide) ?_
      refine V_fg [true, true, true, true, true, false, false, false, false] ?_
      refine ihu hup _ _ hM (fun j g1 g2 => (hS1 j g1 g2).trans (sqA_c hA ⟨g1, g2⟩ (by omega))) (fun w' g1 g2 => ?_)
      by_cases e : w' = u
      · rw [e]; exact hno2
      · exact hno w' (by omega) g2
  refine V_fg [true, true, true, true, true, false, false, false, false] ?_
  exact L21 (g) (by omega) (by omega) w S1 hM (fun j g1 g2 => (hS1 j g1 g2).trans (sqA_c hA ⟨g1, g2⟩ (by omega))) (fun w' g1 g2 => by omega)
