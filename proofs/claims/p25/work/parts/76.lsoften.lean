/-! p25's law: sizes, soft edges -/
set_option maxRecDepth 100000 in
set_option maxHeartbeats 4000000 in
theorem l_size {w : WD} {sz ar : Nat} {R : Int → Int} (hw : w ar = some (xIA 10 R)) (hR : rr R) : CT iL_size 0 0 [.ref ar] w sz (pR (some (xI (isum (fun c => b2i (cb R c)) 160))) w sz) := by
  refine CT.ofZ (by decide) rfl (Nat.le_of_ble_eq_true rfl) (fun Z hE => ?_)
  refine V_iconst dL_size_0 ?_
  refine V_istore_n dL_size_1 1 rfl (by decide) ?_
  refine V_iconst dL_size_2 ?_
  refine V_istore_n dL_size_3 2 rfl (by decide) ?_
  have L4 : ∀ k : Int, 0 ≤ k → k ≤ 160 → V iL_size Z 0 0 w sz 4 [some (.ref ar), some (xI (isum (fun c => b2i (cb R c)) k)), some (xI k)] [] := by
    refine up_ind ?_
    intro k hk0 hk1 ih
    refine V_iload_n dL_size_4 2 rfl rfl ?_
    refine V_sipush dL_size_5 (by decide) ?_
    refine V_icmp_ge 33 dL_size_8 (by decide) (by omega) (fun h8 => ?_) (fun h8 => ?_)
    · refine V_iload_n dL_size_33 1 rfl rfl ?_
      exact V_iret hE rfl dL_size_34 ⟨by rw [show k = 160 by omega], rfl, rfl⟩
    · refine V_iload_n dL_size_11 1 rfl rfl ?_
      refine V_aload_n dL_size_12 0 rfl rfl ?_
      refine V_iload_n dL_size_13 2 rfl rfl ?_
      refine V_bipush dL_size_14 (by decide) ?_
      refine V_idivN dL_size_16 (by first | omega | (dsimp only; omega) | exact iAnd_0 | exact iOr_0 | exact iShl_0 | exact iShr_0) ?_
      have hRk := hR (k / 16) (by omega) (by omega)
      refine V_iald dL_size_17 hw (by omega) ?_
      refine V_iload_n dL_size_18 2 rfl rfl ?_
      refine V_bipush dL_size_19 (by decide) ?_
      refine V_iremN dL_size_21 (by first | omega | (dsimp only; omega) | exact iAnd_0 | exact iOr_0 | exact iShl_0 | exact iShr_0) ?_
      refine V_ishrZ dL_size_22 (by first | omega | (dsimp only; omega) | exact iAnd_0 | exact iOr_0 | exact iShl_0 | exact iShr_0) (by first | omega | (dsimp only; omega) | exact iAnd_0 | exact iOr_0 | exact iShl_0 | exact iShr_0) ?_
      refine V_iconst dL_size_23 ?_
      refine V_iandZ dL_size_24 iShr_0 (by omega) ?_
      rw [iAnd_1 (by omega)]
      refine V_iadd dL_size_25 ?_
      refine V_istore_n dL_size_26 1 rfl (by decide) ?_
      refine V_iinc dL_size_27 rfl (by decide) ?_
      refine V_goto 4 dL_size_30 (by decide) ?_
      rw [show isum (fun c => b2i (cb R c)) k + b2i (tb (R (k / 16)) (k % 16)) = isum (fun c => b2i (cb R c)) (k + 1) from (isum_s hk0).symm]
      exact ih (by omega)
  exact L4 (0) (by omega) (by omega)
theorem tb_65535 {x : Int} (hx : 0 ≤ x) : tb 65535 x = decide (x < 16) := by
  rw [show (65535 : Int) = iShl 1 16 - 1 by decide]
  exact tb_low hx
theorem dil_a {N : Int → Int} {k a b x : Int} (hk : 0 ≤ k ∧ k < 10) (ha : a = if 0 < k then N (k - 1) else 0) (hb : b = if k < 9 then N (k + 1) else 0) : tb (iOr (iOr (N k) a) b) x = true ↔ ∃ r, 0 ≤ r ∧ r < 10 ∧ k - 1 ≤ r ∧ r ≤ k + 1 ∧ tb (N r) x = true := by
  rw [tb_or, tb_or, Bool.or_eq_true, Bool.or_eq_true]
  constructor
  · rintro ((q | q) | q)
    · exact ⟨k, by omega, by omega, by omega, by omega, q⟩
    · by_cases e : 0 < k
      · rw [ha, if_pos e] at q
        exact ⟨k - 1, by omega, by omega, by omega, by omega, q⟩
      · rw [ha, if_neg e, tb_0] at q
        cases q
    · by_cases e : k < 9
      · rw [hb, if_pos e] at q
        exact ⟨k + 1, by omega, by omega, by omega, by omega, q⟩
      · rw [hb, if_neg e, tb_0] at q
        cases q
  · rintro ⟨r, r0, r1, r2, r3, q⟩
    rcases (show r = k ∨ (r = k - 1 ∧ 0 < k) ∨ (r = k + 1 ∧ k < 9) by omega) with rfl | ⟨rfl, e⟩ | ⟨rfl, e⟩
    · exact Or.inl (Or.inl q)
    · refine Or.inl (Or.inr ?_)
      rw [ha, if_pos e]
      exact q
    · refine Or.inr ?_
      rw [hb, if_pos e]
      exact q
def dilR (N : Int → Int) (k v : Int) : Prop := (0 ≤ v ∧ v < 65536) ∧ ∀ x, 0 ≤ x → x < 16 → (tb v x = true ↔ ∃ c, 0 ≤ c ∧ c < 160 ∧ cb N c = true ∧ ifar (16 * k + x) c ≤ 1)
theorem dil {N : Int → Int} {k a b : Int} (hN : rr N) (hk : 0 ≤ k ∧ k < 10) (ha : a = if 0 < k then N (k - 1) else 0) (hb : b = if k < 9 then N (k + 1) else 0) : dilR N k (iAnd (iOr (iOr (iOr (iOr (N k) a) b) (iShl (iOr (iOr (N k) a) b) 1)) (iShr (iOr (iOr (N k) a) b) 1)) 65535) := by
  refine ⟨⟨iAnd_0, by have := iAnd_r (a := iOr (iOr (iOr (iOr (N k) a) b) (iShl (iOr (iOr (N k) a) b) 1)) (iShr (iOr (iOr (N k) a) b) 1)) (b := 65535) (by omega); omega⟩, fun x x0 x1 => ?_⟩
  have big : ∀ r y, 0 ≤ r → r < 10 → tb (N r) y = true → y < 16 := fun r y r0 r1 q => by
    by_cases e : y < 16
    · exact e
    · rw [tb_hi (hN r r0 r1).2 (by omega)] at q
      cases q
  rw [tb_and, tb_or, tb_or, tb_65535 x0, decide_eq_true x1, Bool.and_true, tb_shl (by omega) x0, tb_shr (by omega) x0, Bool.or_eq_true, Bool.or_eq_true, Bool.and_eq_true, decide_eq_true_eq, dil_a hk ha hb, dil_a hk ha hb, dil_a hk ha hb]
  constructor
  · rintro ((⟨r, r0, r1, r2, r3, q⟩ | ⟨e, r, r0, r1, r2, r3, q⟩) | ⟨r, r0, r1, r2, r3, q⟩)
    · refine ⟨16 * r + x, by omega, by omega, by rw [cb_at (by omega)]; exact q, ?_⟩
      unfold ifar iabs
      (repeat' split) <;> omega
    · refine ⟨16 * r + (x - 1), by omega, by omega, by rw [cb_at (by omega)]; exact q, ?_⟩
      unfold ifar iabs
      (repeat' split) <;> omega
    · have e := big r _ r0 r1 q
      refine ⟨16 * r + (x + 1), by omega, by omega, by rw [cb_at (by omega)]; exact q, ?_⟩
      unfold ifar iabs
      (repeat' split) <;> omega
  · rintro ⟨c, c0, c1, hc, hq⟩
    have key : (x - 1 ≤ c % 16 ∧ c % 16 ≤ x + 1) ∧ (k - 1 ≤ c / 16 ∧ c / 16 ≤ k + 1) := by
      unfold ifar iabs at hq
      (repeat' split at hq) <;> omega
    unfold cb at hc
    rcases (show c % 16 = x ∨ (c % 16 = x - 1 ∧ 1 ≤ x) ∨ c % 16 = x + 1 by omega) with e | ⟨e, e2⟩ | e <;> rw [e] at hc
    · exact Or.inl (Or.inl ⟨c / 16, by omega, by omega, by omega, by omega, hc⟩)
    · exact Or.inl (Or.inr ⟨e2, c / 16, by omega, by omega, by omega, by omega, hc⟩)
    · exact Or.inr ⟨c / 16, by omega, by omega, by omega, by omega, hc⟩
/-- soft edges under way -/
def SO (w0 w : WD) (sz le : Nat) (N X g : Int → Int) : Prop := w sz = some (xIA 10 N) ∧ w (sz + 1) = some (xIA 10 X) ∧ w le = some (xPA 60 g) ∧ le < sz ∧ ∀ j, j ≠ sz → j ≠ sz + 1 → j ≠ le → w j = w0 j
theorem SO.N {w0 w w1 : WD} {sz le : Nat} {N X g R : Int → Int} (h : SO w0 w sz le N X g) (u : UA w w1 sz (xIA 10 R)) : SO w0 w1 sz le R X g := by
  obtain ⟨h1, h2, h3, h4, h5⟩ := h
  exact ⟨u.1, (u.2 _ (by omega)).trans h2, (u.2 _ (by omega)).trans h3, h4, fun j a b c => (u.2 _ a).trans (h5 j a b c)⟩
theorem SO.X {w0 w w1 : WD} {sz le : Nat} {N X g R : Int → Int} (h : SO w0 w sz le N X g) (u : UA w w1 (sz + 1) (xIA 10 R)) : SO w0 w1 sz le N R g := by
  obtain ⟨h1, h2, h3, h4, h5⟩ := h
  exact ⟨(u.2 _ (by omega)).trans h1, u.1, (u.2 _ (by omega)).trans h3, h4, fun j a b c => (u.2 _ b).trans (h5 j a b c)⟩
theorem SO.g {w0 w w1 : WD} {sz le : Nat} {N X g g1 : Int → Int} (h : SO w0 w sz le N X g) (u : UA w w1 le (xPA 60 g1)) : SO w0 w1 sz le N X g1 := by
  obtain ⟨h1, h2, h3, h4, h5⟩ := h
  exact ⟨(u.2 _ (by omega)).trans h1, (u.2 _ (by omega)).trans h2, u.1, h4, fun j a b c => (u.2 _ c).trans (h5 j a b c)⟩
/-- what lies outside stays -/
def Out (gl g : Int → Int) (F : Int) : Prop := B7 g ∧ ∀ j, (j < F ∨ F + 160 ≤ j) → g j = gl j
theorem Out.u {gl g : Int → Int} {F c v : Int} (h : Out gl g F) (hc : 0 ≤ c ∧ c < 160) (hv : 0 ≤ v ∧ v ≤ 100) : Out gl (iu g (F + c) v) F := ⟨h.1.u (by omega), fun j hj => by rw [iu_n (by omega)]; exact h.2 j hj⟩
theorem idst_0 {A : Int → Bool} {s c : Int} (hs : 0 ≤ s) (hc : 0 ≤ c ∧ c < 160) : idst A s c ≤ 0 ↔ A c = true := by
  rw [idst_le hs]
  constructor
  · rintro ⟨j, j0, j1, hj, hf⟩
    have e : j = c := by
      unfold ifar iabs at hf
      (repeat' split at hf) <;> omega
    rw [← e]
    exact hj
  · intro h
    refine ⟨c, hc.1, hc.2, h, ?_⟩
    unfold ifar iabs
    (repeat' split) <;> omega
def nowP (A : Int → Bool) (s d : Int) (N : Int → Int) : Prop := rr N ∧ ∀ c, 0 ≤ c → c < 160 → (cb N c = true ↔ idst A s c ≤ d)
theorem nowP.c {A : Int → Bool} {s d : Int} {N X : Int → Int} (h : nowP A s d X) (e : ∀ j, 0 ≤ j → j < 10 → N j = X j) : nowP A s d N := ⟨fun k k0 k1 => by rw [e k k0 k1]; exact h.1 k k0 k1, fun c c0 c1 => by rw [cb_eq e c0 c1]; exact h.2 c c0 c1⟩
theorem nowP.dil {A : Int → Bool} {s d : Int} {N X : Int → Int} (h : nowP A s (d - 1) N) (hd : 1 ≤ d ∧ d ≤ s) (hX : ∀ j, 0 ≤ j → j < 10 → dilR N j (X j)) : nowP A s d X := by
  refine ⟨fun k k0 k1 => (hX k k0 k1).1, fun c c0 c1 => ?_⟩
  have e1 := (hX (c / 16) (by omega) (by omega)).2 (c % 16) (by omega) (by omega)
  have e2 := idst_s (A := A) (s := s) (c := c) (d := d - 1) ⟨c0, c1⟩ (by omega) (by omega)
  rw [show d - 1 + 1 = d by omega] at e2
  rw [e2]
  unfold cb
  rw [e1, show 16 * (c / 16) + c % 16 = c by omega]
  constructor
  · rintro ⟨j, j0, j1, q1, q2⟩
    exact ⟨j, j0, j1, q2, (h.2 j j0 j1).mp q1⟩
  · rintro ⟨j, j0, j1, q1, q2⟩
    exact ⟨j, j0, j1, (h.2 j j0 j1).mpr q2, q1⟩
/-- a ring under way -/
def PL (A : Int → Bool) (s d k : Int) (f : Int → Int) : Prop := ∀ c, 0 ≤ c → c < 160 → (idst A s c < (if c < k then d + 1 else d) ∧ f c = ilv s (idst A s c)) ∨ ((if c < k then d + 1 else d) ≤ idst A s c ∧ f c = 0)
theorem PL.start {A : Int → Bool} {s d : Int} {f : Int → Int} (h : Lvl A s f d) : PL A s d 0 f := fun c c0 c1 => by rw [if_neg (by omega)]; exact h c c0 c1
theorem PL.fin {A : Int → Bool} {s d : Int} {f : Int → Int} (h : PL A s d 160 f) : Lvl A s f (d + 1) := fun c c0 c1 => by have := h c c0 c1; rw [if_pos c1] at this; exact this
theorem PL.keep {A : Int → Bool} {s d k : Int} {f : Int → Int} (h : PL A s d k f) (hk : 0 ≤ k ∧ k < 160) (q : ¬ (idst A s k ≤ d ∧ ¬ idst A s k ≤ d - 1)) : PL A s d (k + 1) f := by
  intro c c0 c1
  have e := h c c0 c1
  by_cases hc : c = k
  · rw [if_pos (by omega)]
    rw [if_neg (by omega)] at e
    rw [hc] at e ⊢
    rcases e with ⟨e1, e2⟩ | ⟨e1, e2⟩
    · exact Or.inl ⟨by omega, e2⟩
    · exact Or.inr ⟨by omega, e2⟩
  · by_cases hlt : c < k
    · rw [if_pos hlt] at e
      rw [if_pos (by omega)]
      exact e
    · rw [if_neg hlt] at e
      rw [if_neg (by omega)]
      exact e
theorem PL.set {A : Int → Bool} {s d k F : Int} {g : Int → Int} (h : PL A s d k (fun c => g (F + c))) (hk : 0 ≤ k ∧ k < 160) (q : idst A s k = d) : PL A s d (k + 1) (fun c => iu g (F + k) (100 * (s + 1 - d) / (s + 1)) (F + c)) := by
  intro c c0 c1
  have e := h c c0 c1
  dsimp only at e ⊢
  by_cases hc : c = k
  · rw [if_pos (by omega)]
    refine Or.inl ⟨by rw [hc]; omega, ?_⟩
    rw [hc, iu_s, q]
    rfl
  · rw [iu_n (by omega)]
    by_cases hlt : c < k
    · rw [if_pos hlt] at e
      rw [if_pos (by omega)]
      exact e
    · rw [if_neg hlt] at e
      rw [if_neg (by omega)]
      exact e
theorem lev_r {s d : Int} (hs : 0 ≤ s ∧ s ≤ 4) (hd : 0 ≤ d ∧ d ≤ s) : 0 ≤ 100 * (s + 1 - d) / (s + 1) ∧ 100 * (s + 1 - d) / (s + 1) ≤ 100 := by
  rcases (show s = 0 ∨ s = 1 ∨ s = 2 ∨ s = 3 ∨ s = 4 by omega) with rfl | rfl | rfl | rfl | rfl <;> omega
def QSO (w0 : WD) (sz le : Nat) (A : Int → Bool) (gl : Int → Int) (s F : Int) : XQ := fun o9 w' sz' => o9 = none ∧ sz' = sz + 2 ∧ ∃ g, w' le = some (xPA 60 g) ∧ Out gl g F ∧ (∀ c, 0 ≤ c → c < 160 → g (F + c) = ilev A c s) ∧ ∀ j, (j < sz ∧ j ≠ le) ∨ sz + 2 ≤ j → w' j = w0 j
set_option maxRecDepth 100000 in
set_option maxHeartbeats 4000000 in
theorem soften_A {Z : XZ} {w0 w : WD} {sz ar le : Nat} {R gl N X : Int → Int} {s fr : Int} (hE : xEnd Z (QSO w0 sz le (cb R) gl s (8 * fr))) (hA : SO w0 w sz le N X gl) (har : w0 ar = some (xIA 10 R)) (hlt : ar < sz) (hne : ar ≠ le) (hR : rr R) (hgl : B7 gl) (hs : 0 ≤ s ∧ s ≤ 4) (hfr : 0 ≤ fr ∧ fr + 20 ≤ 60) : V iL_soften Z 0 0 w (sz + 2) 12 [some (xI s), some (xI fr), some (.ref ar), some (.ref le), some (.ref sz), some (.ref (sz + 1)), none, none, none] [] := by
  refine V_iconst dL_soften_12 ?_
  refine V_istore dL_soften_13 (by decide) ?_
  have L15 : ∀ k : Int, 0 ≤ k → k ≤ 10 → ∀ (w : WD) (N : Int → Int), SO w0 w sz le N X gl → (∀ j, 0 ≤ j → j < k → N j = R j) → V iL_soften Z 0 0 w (sz + 2) 15 [some (xI s), some (xI fr), some (.ref ar), some (.ref le), some (.ref sz), some (.ref (sz + 1)), some (xI k), none, none] [] := by
    refine up_ind ?_
    intro k hk0 hk1 ih
    intro w N hA h0
    refine V_iload dL_soften_15 rfl ?_
    refine V_bipush dL_soften_17 (by decide) ?_
    refine V_icmp_ge 37 dL_soften_19 (by decide) (by omega) (fun h19 => ?_) (fun h19 => ?_)
    · have h010 : ∀ j, 0 ≤ j → j < 10 → N j = R j := fun j j0 j1 => h0 j j0 (by omega)
      have hN0 : rr N := fun j j0 j1 => by rw [h010 j j0 j1]; exact hR j j0 j1
      refine V_iconst dL_soften_37 ?_
      refine V_istore dL_soften_38 (by decide) ?_
      have L40 : ∀ k : Int, 0 ≤ k → k ≤ 160 → ∀ (w : WD) (g : Int → Int), SO w0 w sz le N X g → Out gl g (8 * fr) → (∀ c, 0 ≤ c → c < k → g (8 * fr + c) = if cb R c = true then 100 else 0) → V iL_soften Z 0 0 w (sz + 2) 40 [some (xI s), some (xI fr), some (.ref ar), some (.ref le), some (.ref sz), some (.ref (sz + 1)), some (xI k), none, none] [] := by
        refine up_ind ?_
        intro k hk0 hk1 ih
        intro w g hA hO h1
        refine V_iload dL_soften_40 rfl ?_
        refine V_sipush dL_soften_42 (by decide) ?_
        refine V_icmp_ge 93 dL_soften_45 (by decide) (by omega) (fun h45 => ?_) (fun h45 => ?_)
        · have hN1 : nowP (cb R) s (1 - 1) N := ⟨hN0, fun c c0 c1 => by rw [cb_eq h010 c0 c1, show (1 : Int) - 1 = 0 from rfl]; exact (idst_0 hs.1 ⟨c0, c1⟩).symm⟩
          refine V_iconst dL_soften_93 ?_
          refine V_istore dL_soften_94 (by decide) ?_
          have L96 : ∀ d : Int, 1 ≤ d → d ≤ s + 1 → ∀ (w : WD) (N X g : Int → Int), SO w0 w sz le N X g → Out gl g (8 * fr) → nowP (cb R) s (d - 1) N → Lvl (cb R) s (fun c => g (8 * fr + c)) d → V iL_soften Z 0 0 w (sz + 2) 96 [some (xI s), some (xI fr), some (.ref ar), some (.ref le), some (.ref sz), some (.ref (sz + 1)), some (xI d), none, none] [] := by
            refine up_ind ?_
            intro d hd0 hd1 ihd
            intro w N X g hA hO hN hL
            refine V_iload dL_soften_96 rfl ?_
            refine V_iload_n dL_soften_98 0 rfl rfl ?_
            refine V_icmp_gt 294 dL_soften_99 (by decide) (by omega) (fun h99 => ?_) (fun h99 => ?_)
            · exact V_vret hE rfl dL_soften_294 ⟨rfl, rfl, _, hA.2.2.1, hO, hL.fin hs.1 (by omega) (by omega), fun j hj => hA.2.2.2.2 j (by omega) (by omega) (by have := hA.2.2.2.1; omega)⟩
            · refine V_iconst dL_soften_102 ?_
              refine V_istore dL_soften_103 (by decide) ?_
              have L105 : ∀ k : Int, 0 ≤ k → k ≤ 10 → ∀ (w : WD) (X : Int → Int), SO w0 w sz le N X g → (∀ j, 0 ≤ j → j < k → dilR N j (X j)) → V iL_soften Z 0 0 w (sz + 2) 105 [some (xI s), some (xI fr), some (.ref ar), some (.ref le), some (.ref sz), some (.ref (sz + 1)), some (xI d), some (xI k), none] [] := by
                refine up_ind ?_
                intro k hk0 hk1 ih
                intro w X hA hX
                refine V_iload dL_soften_105 rfl ?_
                refine V_bipush dL_soften_107 (by decide) ?_
                refine V_icmp_ge 181 dL_soften_109 (by decide) (by omega) (fun h109 => ?_) (fun h109 => ?_)
                · have hX2 : nowP (cb R) s d X := hN.dil (by omega) (fun j j0 j1 => hX j j0 (by omega))
                  refine V_iconst dL_soften_181 ?_
                  refine V_istore dL_soften_182 (by decide) ?_
                  have L184 : ∀ k : Int, 0 ≤ k → k ≤ 160 → ∀ (w : WD) (g : Int → Int), SO w0 w sz le N X g → Out gl g (8 * fr) → PL (cb R) s d k (fun c => g (8 * fr + c)) → V iL_soften Z 0 0 w (sz + 2) 184 [some (xI s), some (xI fr), some (.ref ar), some (.ref le), some (.ref sz), some (.ref (sz + 1)), some (xI d), some (xI k), none] [] := by
                    refine up_ind ?_
                    intro k hk0 hk1 ih
                    intro w g hA hO hP
                    refine V_iload dL_soften_184 rfl ?_
                    refine V_sipush dL_soften_186 (by decide) ?_
                    refine V_icmp_ge 262 dL_soften_189 (by decide) (by omega) (fun h189 => ?_) (fun h189 => ?_)
                    · have hL2 : Lvl (cb R) s (fun c => g (8 * fr + c)) (d + 1) := by rw [show k = 160 by omega] at hP; exact hP.fin
                      refine V_iconst dL_soften_262 ?_
                      refine V_istore dL_soften_263 (by decide) ?_
                      have L265 : ∀ k : Int, 0 ≤ k → k ≤ 10 → ∀ (w : WD) (N : Int → Int), SO w0 w sz le N X g → (∀ j, 0 ≤ j → j < k → N j = X j) → V iL_soften Z 0 0 w (sz + 2) 265 [some (xI s), some (xI fr), some (.ref ar), some (.ref le), some (.ref sz), some (.ref (sz + 1)), some (xI d), some (xI k), none] [] := by
                        refine up_ind ?_
                        intro k hk0 hk1 ih
                        intro w N hA h0
                        refine V_iload dL_soften_265 rfl ?_
                        refine V_bipush dL_soften_267 (by decide) ?_
                        refine V_icmp_ge 288 dL_soften_269 (by decide) (by omega) (fun h269 => ?_) (fun h269 => ?_)
                        · have hN : nowP (cb R) s (d + 1 - 1) N := by rw [show d + 1 - 1 = d by omega]; exact hX2.c (fun j j0 j1 => h0 j j0 (by omega))
                          have hL := hL2
                          refine V_iinc dL_soften_288 rfl (by decide) ?_
                          refine V_goto 96 dL_soften_291 (by decide) ?_
                          refine V_fg [true, true, true, true, true, true, true, false, false] ?_
                          exact ihd (by omega) _ _ _ _ hA hO hN hL
                        · refine V_aload dL_soften_272 rfl ?_
                          refine V_iload dL_soften_274 rfl ?_
                          refine V_aload dL_soften_276 rfl ?_
                          refine V_iload dL_soften_278 rfl ?_
                          refine V_iald dL_soften_280 hA.2.1 (by omega) ?_
                          refine V_iast dL_soften_281 hA.1 (by omega) ?_
                          have hA := hA.N (R := iu N k (X k)) (UA.st hA.1)
                          refine V_iinc dL_soften_282 rfl (by decide) ?_
                          refine V_goto 265 dL_soften_285 (by decide) ?_
                          refine V_fg [true, true, true, true, true, true, true, true, false] ?_
                          exact ih (by omega) _ _ hA (fun j h1 h2 => by by_cases q9 : j = k; rw [q9, iu_s]; rw [iu_n q9]; exact h0 j h1 (by omega))
                      refine V_fg [true, true, true, true, true, true, true, true, false] ?_
                      exact L265 (0) (by omega) (by omega) w _ hA (fun j h1 h2 => by omega)
                    · refine V_aload dL_soften_192 rfl ?_
                      refine V_iload dL_soften_194 rfl ?_
                      refine V_bipush dL_soften_196 (by decide) ?_
                      refine V_iremN dL_soften_198 (by first | omega | (dsimp only; omega) | exact iAnd_0 | exact iOr_0 | exact iShl_0 | exact iShr_0) ?_
                      refine V_iload dL_soften_199 rfl ?_
                      refine V_bipush dL_soften_201 (by decide) ?_
                      refine V_idivN dL_soften_203 (by first | omega | (dsimp only; omega) | exact iAnd_0 | exact iOr_0 | exact iShl_0 | exact iShr_0) ?_
                      refine V_c_L_22 rfl (by decide) (l_is hA.2.1 hX2.1 (by omega)) dL_soften_204 rfl rfl (Nat.le_of_ble_eq_true rfl) (Nat.le_of_eq (Nat.zero_add _)) (Nat.le_of_eq (Nat.zero_add _)) (fun v w sz q => ?_)
                      obtain ⟨rfl, hw9, hs9⟩ := q
                      obtain rfl := hw9.symm
                      obtain rfl := hs9.symm
                      refine V_ifeqB 256 dL_soften_207 (by decide) (fun h207 => ?_) (fun h207 => ?_)
                      · try simp only [decide_eq_true_eq, decide_eq_false_iff_not, Bool.not_eq_true] at h207
                        have hP := hP.keep (by omega) (fun q => by
                          rw [isb_t.mpr ⟨by omega, by rw [show 16 * (k / 16) + k % 16 = k by omega]; exact (hX2.2 k (by omega) (by omega)).mpr q.1⟩] at h207
                          cases h207)
                        refine V_iinc dL_soften_256 rfl (by decide) ?_
                        refine V_goto 184 dL_soften_259 (by decide) ?_
                        refine V_fg [true, true, true, true, true, true, true, true, false] ?_
                        exact ih (by omega) _ _ hA hO hP
                      · try simp only [decide_eq_true_eq, decide_eq_false_iff_not, Bool.not_eq_true] at h207
                        refine V_aload dL_soften_210 rfl ?_
                        refine V_iload dL_soften_212 rfl ?_
                        refine V_bipush dL_soften_214 (by decide) ?_
                        refine V_iremN dL_soften_216 (by first | omega | (dsimp only; omega) | exact iAnd_0 | exact iOr_0 | exact iShl_0 | exact iShr_0) ?_
                        refine V_iload dL_soften_217 rfl ?_
                        refine V_bipush dL_soften_219 (by decide) ?_
                        refine V_idivN dL_soften_221 (by first | omega | (dsimp only; omega) | exact iAnd_0 | exact iOr_0 | exact iShl_0 | exact iShr_0) ?_
                        refine V_c_L_22 rfl (by decide) (l_is hA.1 hN.1 (by omega)) dL_soften_222 rfl rfl (Nat.le_of_ble_eq_true rfl) (Nat.le_of_eq (Nat.zero_add _)) (Nat.le_of_eq (Nat.zero_add _)) (fun v w sz q => ?_)
                        obtain ⟨rfl, hw9, hs9⟩ := q
                        obtain rfl := hw9.symm
                        obtain rfl := hs9.symm
                        refine V_ifneB 256 dL_soften_225 (by decide) (fun h225 => ?_) (fun h225 => ?_)
                        · try simp only [decide_eq_true_eq, decide_eq_false_iff_not, Bool.not_eq_true] at h225
                          have hP := hP.keep (by omega) (fun q => q.2 (by
                            have q1 := (isb_t.mp h225).2
                            rw [show 16 * (k / 16) + k % 16 = k by omega] at q1
                            exact (hN.2 k (by omega) (by omega)).mp q1))
                          refine V_iinc dL_soften_256 rfl (by decide) ?_
                          refine V_goto 184 dL_soften_259 (by decide) ?_
                          refine V_fg [true, true, true, true, true, true, true, true, false] ?_
                          exact ih (by omega) _ _ hA hO hP
                        · try simp only [decide_eq_true_eq, decide_eq_false_iff_not, Bool.not_eq_true] at h225
                          refine V_aload_n dL_soften_228 3 rfl rfl ?_
                          refine V_iload_n dL_soften_229 1 rfl rfl ?_
                          refine V_iload dL_soften_230 rfl ?_
                          refine V_bipush dL_soften_232 (by decide) ?_
                          refine V_iremN dL_soften_234 (by first | omega | (dsimp only; omega) | exact iAnd_0 | exact iOr_0 | exact iShl_0 | exact iShr_0) ?_
                          refine V_iload dL_soften_235 rfl ?_
                          refine V_bipush dL_soften_237 (by decide) ?_
                          refine V_idivN dL_soften_239 (by first | omega | (dsimp only; omega) | exact iAnd_0 | exact iOr_0 | exact iShl_0 | exact iShr_0) ?_
                          refine V_bipush dL_soften_240 (by decide) ?_
                          refine V_iload_n dL_soften_242 0 rfl rfl ?_
                          refine V_iconst dL_soften_243 ?_
                          refine V_iadd dL_soften_244 ?_
                          refine V_iload dL_soften_245 rfl ?_
                          refine V_isub dL_soften_247 ?_
                          refine V_imul dL_soften_248 ?_
                          refine V_iload_n dL_soften_249 0 rfl rfl ?_
                          refine V_iconst dL_soften_250 ?_
                          refine V_iadd dL_soften_251 ?_
                          refine V_idivN dL_soften_252 (by omega) ?_
                          refine V_c_L_34 rfl (by decide) (l_put (n := 60) hA.2.2.1 hO.1 (by omega) (by omega) (by omega) (by omega) (by have := lev_r (s := s) (d := d) hs (by omega); omega)) dL_soften_253 rfl rfl (Nat.le_of_ble_eq_true rfl) (Nat.le_of_eq (Nat.zero_add _)) (Nat.le_of_eq (Nat.zero_add _)) (fun v w1 sz1 q => ?_)
                          obtain ⟨rfl, hw9, hs9⟩ := q
                          obtain rfl := hw9.symm
                          obtain rfl := hs9.symm
                          rw [show 8 * fr + 16 * (k / 16) + k % 16 = 8 * fr + k by omega]
                          have hA := hA.g (UA.st (e' := xPA 60 (iu g (8 * fr + k) (100 * (s + 1 - d) / (s + 1)))) hA.2.2.1)
                          have hO := hO.u (c := k) (v := 100 * (s + 1 - d) / (s + 1)) (by omega) (lev_r hs (by omega))
                          have hP := hP.set (by omega) (by
                            have q1 := (isb_t.mp h207).2
                            rw [show 16 * (k / 16) + k % 16 = k by omega, hX2.2 k (by omega) (by omega)] at q1
                            have q2 : ¬ idst (cb R) s k ≤ d - 1 := fun q => by
                              rw [isb_t.mpr ⟨by omega, by rw [show 16 * (k / 16) + k % 16 = k by omega]; exact (hN.2 k (by omega) (by omega)).mpr q⟩] at h225
                              cases h225
                            omega)
                          refine V_iinc dL_soften_256 rfl (by decide) ?_
                          refine V_goto 184 dL_soften_259 (by decide) ?_
                          refine V_fg [true, true, true, true, true, true, true, true, false] ?_
                          exact ih (by omega) _ _ hA hO hP
                  refine V_fg [true, true, true, true, true, true, true, true, false] ?_
                  exact L184 (0) (by omega) (by omega) w _ hA hO (PL.start hL)
                · refine V_aload dL_soften_112 rfl ?_
                  refine V_iload dL_soften_114 rfl ?_
                  have hNk := hN.1 k (by omega) (by omega)
                  refine V_iald dL_soften_116 hA.1 (by omega) ?_
                  have J133 : ∀ a1, (a1 = if 0 < k then N (k - 1) else 0) → V iL_soften Z 0 0 w (sz + 2) 133 [some (xI s), some (xI fr), some (.ref ar), some (.ref le), some (.ref sz), some (.ref (sz + 1)), some (xI d), some (xI k), none] [xI a1, xI (N k)] := by
                    intro a1 ha1
                    have ra1 : 0 ≤ a1 ∧ a1 < 65536 := by rw [ha1]; split; exact hN.1 _ (by omega) (by omega); omega
                    have J152 : ∀ a2, (a2 = if k < 9 then N (k + 1) else 0) → V iL_soften Z 0 0 w (sz + 2) 152 [some (xI s), some (xI fr), some (.ref ar), some (.ref le), some (.ref sz), some (.ref (sz + 1)), some (xI d), some (xI k), none] [xI a2, xI (iOr (N k) a1)] := by
                      intro a2 ha2
                      have ra2 : 0 ≤ a2 ∧ a2 < 65536 := by rw [ha2]; split; exact hN.1 _ (by omega) (by omega); omega
                      have hall := iOr_16 (iOr_16 (a := N k) (b := a1) hNk.2 ra1.2) ra2.2
                      refine V_iorZ dL_soften_152 (by first | omega | (dsimp only; omega) | exact iAnd_0 | exact iOr_0 | exact iShl_0 | exact iShr_0) (by first | omega | (dsimp only; omega) | exact iAnd_0 | exact iOr_0 | exact iShl_0 | exact iShr_0) ?_
                      refine V_istore dL_soften_153 (by decide) ?_
                      refine V_aload dL_soften_155 rfl ?_
                      refine V_iload dL_soften_157 rfl ?_
                      refine V_iload dL_soften_159 rfl ?_
                      refine V_iload dL_soften_161 rfl ?_
                      refine V_iconst dL_soften_163 ?_
                      refine V_ishlZ dL_soften_164 (by first | omega | (dsimp only; omega) | exact iAnd_0 | exact iOr_0 | exact iShl_0 | exact iShr_0) (by first | omega | (dsimp only; omega) | exact iAnd_0 | exact iOr_0 | exact iShl_0 | exact iShr_0) ?_
                      refine V_iorZ dL_soften_165 (by first | omega | (dsimp only; omega) | exact iAnd_0 | exact iOr_0 | exact iShl_0 | exact iShr_0) (by first | omega | (dsimp only; omega) | exact iAnd_0 | exact iOr_0 | exact iShl_0 | exact iShr_0) ?_
                      refine V_iload dL_soften_166 rfl ?_
                      refine V_iconst dL_soften_168 ?_
                      refine V_ishrZ dL_soften_169 ⟨iOr_0, by omega⟩ (by omega) ?_
                      refine V_iorZ dL_soften_170 (by first | omega | (dsimp only; omega) | exact iAnd_0 | exact iOr_0 | exact iShl_0 | exact iShr_0) (by first | omega | (dsimp only; omega) | exact iAnd_0 | exact iOr_0 | exact iShl_0 | exact iShr_0) ?_
                      refine V_ldcI (z := 65535) dL_soften_171 (xG_at 485 (by decide +kernel) rfl) ?_
                      refine V_iandZ dL_soften_173 (by first | omega | (dsimp only; omega) | exact iAnd_0 | exact iOr_0 | exact iShl_0 | exact iShr_0) (by first | omega | (dsimp only; omega) | exact iAnd_0 | exact iOr_0 | exact iShl_0 | exact iShr_0) ?_
                      refine V_iast dL_soften_174 hA.2.1 (by omega) ?_
                      have hA := hA.X (R := iu X k (iAnd (iOr (iOr (iOr (iOr (N k) a1) a2) (iShl (iOr (iOr (N k) a1) a2) 1)) (iShr (iOr (iOr (N k) a1) a2) 1)) 65535)) (UA.st hA.2.1)
                      refine V_iinc dL_soften_175 rfl (by decide) ?_
                      refine V_goto 105 dL_soften_178 (by decide) ?_
                      refine V_fg [true, true, true, true, true, true, true, true, false] ?_
                      exact ih (by omega) _ _ hA (fun j h1 h2 => by by_cases q9 : j = k; rw [q9, iu_s]; exact dil hN.1 (by omega) ha1 ha2; rw [iu_n q9]; exact hX j h1 (by omega))
                    refine V_iorZ dL_soften_133 (by first | omega | (dsimp only; omega) | exact iAnd_0 | exact iOr_0 | exact iShl_0 | exact iShr_0) (by first | omega | (dsimp only; omega) | exact iAnd_0 | exact iOr_0 | exact iShl_0 | exact iShr_0) ?_
                    refine V_iload dL_soften_134 rfl ?_
                    refine V_bipush dL_soften_136 (by decide) ?_
                    refine V_icmp_ge 151 dL_soften_138 (by decide) (by omega) (fun h138 => ?_) (fun h138 => ?_)
                    · refine V_iconst dL_soften_151 ?_
                      exact J152 _ (if_neg (by omega)).symm
                    · refine V_aload dL_soften_141 rfl ?_
                      refine V_iload dL_soften_143 rfl ?_
                      refine V_iconst dL_soften_145 ?_
                      refine V_iadd dL_soften_146 ?_
                      refine V_iald dL_soften_147 hA.1 (by omega) ?_
                      refine V_goto 152 dL_soften_148 (by decide) ?_
                      exact J152 _ (if_pos h138).symm
                  refine V_iload dL_soften_117 rfl ?_
                  refine V_if_le 132 dL_soften_119 (by decide) (by omega) (fun h119 => ?_) (fun h119 => ?_)
                  · refine V_iconst dL_soften_132 ?_
                    exact J133 _ (if_neg (by omega)).symm
                  · refine V_aload dL_soften_122 rfl ?_
                    refine V_iload dL_soften_124 rfl ?_
                    refine V_iconst dL_soften_126 ?_
                    refine V_isub dL_soften_127 ?_
                    refine V_iald dL_soften_128 hA.1 (by omega) ?_
                    refine V_goto 133 dL_soften_129 (by decide) ?_
                    exact J133 _ (if_pos h119).symm
              refine V_fg [true, true, true, true, true, true, true, true, false] ?_
              exact L105 (0) (by omega) (by omega) w _ hA (fun j h1 h2 => by omega)
          refine V_fg [true, true, true, true, true, true, true, false, false] ?_
          exact L96 (1) (by omega) (by omega) w _ _ _ hA hO hN1 (Lvl.start hs (fun c c0 c1 => h1 c c0 (by omega)))
        · have J84 : ∀ v, (v = if cb R k = true then 100 else 0) → V iL_soften Z 0 0 w (sz + 2) 84 [some (xI s), some (xI fr), some (.ref ar), some (.ref le), some (.ref sz), some (.ref (sz + 1)), some (xI k), none, none] [xI v, xI (k / 16), xI (k % 16), xI fr, .ref le] := by
            intro v hv
            have hv2 : 0 ≤ v ∧ v ≤ 100 := by rw [hv]; split <;> omega
            refine V_c_L_34 rfl (by decide) (l_put (n := 60) hA.2.2.1 hO.1 (by omega) (by omega) (by omega) (by omega) (by omega)) dL_soften_84 rfl rfl (Nat.le_of_ble_eq_true rfl) (Nat.le_of_eq (Nat.zero_add _)) (Nat.le_of_eq (Nat.zero_add _)) (fun v w1 sz1 q => ?_)
            obtain ⟨rfl, hw9, hs9⟩ := q
            obtain rfl := hw9.symm
            obtain rfl := hs9.symm
            rw [show 8 * fr + 16 * (k / 16) + k % 16 = 8 * fr + k by omega]
            have hA := hA.g (UA.st (e' := xPA 60 (iu g (8 * fr + k) v)) hA.2.2.1)
            have hO := hO.u (c := k) (v := v) (by omega) hv2
            have h1 : ∀ c, 0 ≤ c → c < k + 1 → iu g (8 * fr + k) v (8 * fr + c) = if cb R c = true then 100 else 0 := fun c c0 c1 => by
              by_cases q9 : c = k
              · rw [q9, iu_s, hv]
              · rw [iu_n (by omega)]
                exact h1 c c0 (by omega)
            refine V_iinc dL_soften_87 rfl (by decide) ?_
            refine V_goto 40 dL_soften_90 (by decide) ?_
            refine V_fg [true, true, true, true, true, true, true, false, false] ?_
            exact ih (by omega) _ _ hA hO h1
          refine V_aload_n dL_soften_48 3 rfl rfl ?_
          refine V_iload_n dL_soften_49 1 rfl rfl ?_
          refine V_iload dL_soften_50 rfl ?_
          refine V_bipush dL_soften_52 (by decide) ?_
          refine V_iremN dL_soften_54 (by first | omega | (dsimp only; omega) | exact iAnd_0 | exact iOr_0 | exact iShl_0 | exact iShr_0) ?_
          refine V_iload dL_soften_55 rfl ?_
          refine V_bipush dL_soften_57 (by decide) ?_
          refine V_idivN dL_soften_59 (by first | omega | (dsimp only; omega) | exact iAnd_0 | exact iOr_0 | exact iShl_0 | exact iShr_0) ?_
          refine V_aload dL_soften_60 rfl ?_
          refine V_iload dL_soften_62 rfl ?_
          refine V_bipush dL_soften_64 (by decide) ?_
          refine V_iremN dL_soften_66 (by first | omega | (dsimp only; omega) | exact iAnd_0 | exact iOr_0 | exact iShl_0 | exact iShr_0) ?_
          refine V_iload dL_soften_67 rfl ?_
          refine V_bipush dL_soften_69 (by decide) ?_
          refine V_idivN dL_soften_71 (by first | omega | (dsimp only; omega) | exact iAnd_0 | exact iOr_0 | exact iShl_0 | exact iShr_0) ?_
          refine V_c_L_22 rfl (by decide) (l_is hA.1 hN0 (by omega)) dL_soften_72 rfl rfl (Nat.le_of_ble_eq_true rfl) (Nat.le_of_eq (Nat.zero_add _)) (Nat.le_of_eq (Nat.zero_add _)) (fun v w sz q => ?_)
          obtain ⟨rfl, hw9, hs9⟩ := q
          obtain rfl := hw9.symm
          obtain rfl := hs9.symm
          refine V_ifeqB 83 dL_soften_75 (by decide) (fun h75 => ?_) (fun h75 => ?_)
          · try simp only [decide_eq_true_eq, decide_eq_false_iff_not, Bool.not_eq_true] at h75
            refine V_iconst dL_soften_83 ?_
            exact J84 _ (if_neg (fun q => by rw [← cb_eq h010 (by omega) (by omega)] at q; rw [isb_t.mpr ⟨by omega, by rw [show 16 * (k / 16) + k % 16 = k by omega]; exact q⟩] at h75; cases h75)).symm
          · try simp only [decide_eq_true_eq, decide_eq_false_iff_not, Bool.not_eq_true] at h75
            refine V_bipush dL_soften_78 (by decide) ?_
            refine V_goto 84 dL_soften_80 (by decide) ?_
            exact J84 _ (if_pos (by rw [← cb_eq h010 (by omega) (by omega)]; have q := (isb_t.mp h75).2; rw [show 16 * (k / 16) + k % 16 = k by omega] at q; exact q)).symm
      refine V_fg [true, true, true, true, true, true, true, false, false] ?_
      exact L40 (0) (by omega) (by omega) w _ hA ⟨hgl, fun _ _ => rfl⟩ (fun c c0 c1 => by omega)
    · refine V_aload dL_soften_22 rfl ?_
      refine V_iload dL_soften_24 rfl ?_
      refine V_aload_n dL_soften_26 2 rfl rfl ?_
      refine V_iload dL_soften_27 rfl ?_
      refine V_iald dL_soften_29 ((hA.2.2.2.2 ar (by omega) (by omega) hne).trans har) (by omega) ?_
      refine V_iast dL_soften_30 hA.1 (by omega) ?_
      have hA := hA.N (R := iu N k (R k)) (UA.st hA.1)
      refine V_iinc dL_soften_31 rfl (by decide) ?_
      refine V_goto 15 dL_soften_34 (by decide) ?_
      refine V_fg [true, true, true, true, true, true, true, false, false] ?_
      exact ih (by omega) _ _ hA (fun j h1 h2 => by by_cases q9 : j = k; rw [q9, iu_s]; rw [iu_n q9]; exact h0 j h1 (by omega))
  refine V_fg [true, true, true, true, true, true, true, false, false] ?_
  exact L15 (0) (by omega) (by omega) w _ hA (fun j h1 h2 => by omega)
set_option maxRecDepth 100000 in
set_option maxHeartbeats 4000000 in
theorem l_soften {w0 : WD} {sz ar le : Nat} {R gl : Int → Int} {s fr : Int} (har : w0 ar = some (xIA 10 R)) (hle : w0 le = some (xPA 60 gl)) (hlt : ar < sz ∧ le < sz) (hR : rr R) (hgl : B7 gl) (hs : 0 ≤ s ∧ s ≤ 4) (hfr : 0 ≤ fr ∧ fr + 20 ≤ 60) : CT iL_soften 2 20 [xI s, xI fr, .ref ar, .ref le] w0 sz (QSO w0 sz le (cb R) gl s (8 * fr)) := by
  refine CT.ofZ (by decide) rfl (Nat.le_of_ble_eq_true rfl) (fun Z hE => ?_)
  have hne : ar ≠ le := fun e => by rw [e, hle] at har; cases har
  refine V_bipush dL_soften_0 (by decide) ?_
  refine V_newI (kc' := 1) (ks' := 10) (n := 10) rfl (xG_at 83 (by decide +kernel) rfl) dL_soften_2 rfl (by decide) (by decide) (by decide) ?_
  refine V_astore dL_soften_4 (by decide) ?_
  refine V_bipush dL_soften_6 (by decide) ?_
  refine V_newI (kc' := 0) (ks' := 0) (n := 10) rfl (xG_at 83 (by decide +kernel) rfl) dL_soften_8 rfl (by decide) (by decide) (by decide) ?_
  refine V_astore dL_soften_10 (by decide) ?_
  exact soften_A hE (N := fun _ => 0) (X := fun _ => 0) ⟨(xU_n (by omega)).trans xU_s, xU_s, (xU_n (by omega)).trans ((xU_n (by omega)).trans hle), hlt.2, fun j a b c => (xU_n (by omega)).trans (xU_n (by omega))⟩ har hlt.1 hne hR hgl hs hfr
