theorem sqA_0 {a : Int → Prop} {c : Int} (hc : 0 ≤ c ∧ c < 160) : sqA a 0 c ↔ a c := by
  unfold sqA
  constructor
  · rintro ⟨-, -, h⟩
    have := h 0 0 (by omega) (by omega) (by omega) (by omega)
    rw [show 16 * (c / 16 + 0) + (c % 16 + 0) = c by omega] at this
    exact this
  · intro h
    refine ⟨by omega, by omega, fun dx dy h1 h2 h3 h4 => ?_⟩
    rw [show 16 * (c / 16 + dy) + (c % 16 + dx) = c by omega]
    exact h
/-- a wider square is made of three that are less wide, and of a cell -/
theorem sqA_s {a : Int → Prop} {w c : Int} (hc : 0 ≤ c ∧ c < 160) (hw : 0 ≤ w) : sqA a (w + 1) c ↔ a c ∧ (iCell (c % 16 + 1) (c / 16) ∧ sqA a w (c + 1)) ∧ (iCell (c % 16) (c / 16 + 1) ∧ sqA a w (c + 16)) ∧ (iCell (c % 16 + 1) (c / 16 + 1) ∧ sqA a w (c + 17)) := by
  constructor
  · rintro ⟨h1, h2, h3⟩
    have e1 : (c + 1) % 16 = c % 16 + 1 := by omega
    have e2 : (c + 1) / 16 = c / 16 := by omega
    have e3 : (c + 16) % 16 = c % 16 := by omega
    have e4 : (c + 16) / 16 = c / 16 + 1 := by omega
    have e5 : (c + 17) % 16 = c % 16 + 1 := by omega
    have e6 : (c + 17) / 16 = c / 16 + 1 := by omega
    refine ⟨?_, ⟨⟨by omega, by omega⟩, by omega, by omega, fun dx dy g1 g2 g3 g4 => ?_⟩, ⟨⟨by omega, by omega⟩, by omega, by omega, fun dx dy g1 g2 g3 g4 => ?_⟩, ⟨⟨by omega, by omega⟩, by omega, by omega, fun dx dy g1 g2 g3 g4 => ?_⟩⟩
    · have := h3 0 0 (by omega) (by omega) (by omega) (by omega)
      rw [show 16 * (c / 16 + 0) + (c % 16 + 0) = c by omega] at this
      exact this
    · have := h3 (dx + 1) dy (by omega) (by omega) (by omega) (by omega)
      rw [e1, e2, show 16 * (c / 16 + dy) + (c % 16 + 1 + dx) = 16 * (c / 16 + dy) + (c % 16 + (dx + 1)) by omega]
      exact this
    · have := h3 dx (dy + 1) (by omega) (by omega) (by omega) (by omega)
      rw [e3, e4, show 16 * (c / 16 + 1 + dy) + (c % 16 + dx) = 16 * (c / 16 + (dy + 1)) + (c % 16 + dx) by omega]
      exact this
    · have := h3 (dx + 1) (dy + 1) (by omega) (by omega) (by omega) (by omega)
      rw [e5, e6, show 16 * (c / 16 + 1 + dy) + (c % 16 + 1 + dx) = 16 * (c / 16 + (dy + 1)) + (c % 16 + (dx + 1)) by omega]
      exact this
  · rintro ⟨h0, ⟨k1, h1⟩, ⟨k2, h2⟩, ⟨k3, h3⟩⟩
    have e1 : (c + 1) % 16 = c % 16 + 1 := by omega
    have e2 : (c + 1) / 16 = c / 16 := by omega
    have e3 : (c + 16) % 16 = c % 16 := by omega
    have e4 : (c + 16) / 16 = c / 16 + 1 := by omega
    have e5 : (c + 17) % 16 = c % 16 + 1 := by omega
    have e6 : (c + 17) / 16 = c / 16 + 1 := by omega
    refine ⟨by have := h1.1; omega, by have := h2.2.1; omega, fun dx dy g1 g2 g3 g4 => ?_⟩
    by_cases q : dx = 0
    · by_cases q2 : dy = 0
      · rw [show 16 * (c / 16 + dy) + (c % 16 + dx) = c by omega]
        exact h0
      · have := h2.2.2 0 (dy - 1) (by omega) (by omega) (by omega) (by omega)
        rw [e3, e4, show 16 * (c / 16 + 1 + (dy - 1)) + (c % 16 + 0) = 16 * (c / 16 + dy) + (c % 16 + dx) by omega] at this
        exact this
    · by_cases q2 : dy = 0
      · have := h1.2.2 (dx - 1) 0 (by omega) (by omega) (by omega) (by omega)
        rw [e1, e2, show 16 * (c / 16 + 0) + (c % 16 + 1 + (dx - 1)) = 16 * (c / 16 + dy) + (c % 16 + dx) by omega] at this
        exact this
      · have := h3.2.2 (dx - 1) (dy - 1) (by omega) (by omega) (by omega) (by omega)
        rw [e5, e6, show 16 * (c / 16 + 1 + (dy - 1)) + (c % 16 + 1 + (dx - 1)) = 16 * (c / 16 + dy) + (c % 16 + dx) by omega] at this
        exact this
/-- the widths of the squares that begin in a cell -/
def Sid (a : Int → Prop) (s : Int → Int) (c : Int) : Prop := (0 ≤ s c ∧ s c ≤ 16) ∧ ∀ w, 0 ≤ w → (w < s c ↔ sqA a w c)
def sdA (s : Int → Int) (x y : Int) : Int := if iCell x y then s (16 * y + x) else 0
theorem Sid.one {a : Int → Prop} {s : Int → Int} {c x y d : Int} (h : ∀ j, c < j → j < 160 → Sid a s j) (hd : iCell x y → 16 * y + x = d ∧ c < d ∧ d < 160) : (0 ≤ sdA s x y ∧ sdA s x y ≤ 16) ∧ ∀ w, 0 ≤ w → (w < sdA s x y ↔ iCell x y ∧ sqA a w d) := by
  unfold sdA
  by_cases q : iCell x y
  · obtain ⟨e, d0, d1⟩ := hd q
    have g := h d d0 d1
    rw [if_pos q, e]
    exact ⟨g.1, fun w hw => ⟨fun k => ⟨q, (g.2 w hw).mp k⟩, fun k => (g.2 w hw).mpr k.2⟩⟩
  · rw [if_neg q]
    exact ⟨⟨by omega, by omega⟩, fun w hw => ⟨fun k => by omega, fun k => absurd k.1 q⟩⟩
theorem Sid.step {a : Int → Prop} {s : Int → Int} {c v : Int} (hc : 0 ≤ c ∧ c < 160) (h : ∀ j, c < j → j < 160 → Sid a s j) (hv : (¬ a c ∧ v = 0) ∨ (a c ∧ v ≤ 1 + sdA s (c % 16 + 1) (c / 16) ∧ v ≤ 1 + sdA s (c % 16) (c / 16 + 1) ∧ v ≤ 1 + sdA s (c % 16 + 1) (c / 16 + 1) ∧ (v = 1 + sdA s (c % 16 + 1) (c / 16) ∨ v = 1 + sdA s (c % 16) (c / 16 + 1) ∨ v = 1 + sdA s (c % 16 + 1) (c / 16 + 1)))) : (0 ≤ v ∧ v ≤ 16) ∧ ∀ w, 0 ≤ w → (w < v ↔ sqA a w c) := by
  have hx := Sid.one (x := c % 16 + 1) (y := c / 16) (d := c + 1) h (fun q => by omega)
  have hy := Sid.one (x := c % 16) (y := c / 16 + 1) (d := c + 16) h (fun q => by omega)
  have hz := Sid.one (x := c % 16 + 1) (y := c / 16 + 1) (d := c + 17) h (fun q => by omega)
  generalize sdA s (c % 16 + 1) (c / 16) = A at *
  generalize sdA s (c % 16) (c / 16 + 1) = B at *
  generalize sdA s (c % 16 + 1) (c / 16 + 1) = C at *
  obtain ⟨x0, hx⟩ := hx
  obtain ⟨y0, hy⟩ := hy
  obtain ⟨z0, hz⟩ := hz
  have key : ∀ w, 0 ≤ w → (w < v ↔ sqA a w c) := by
    intro w hw
    rcases hv with ⟨n, e⟩ | ⟨n, e⟩
    · refine ⟨fun g => by omega, fun g => ?_⟩
      have := g.2.2 0 0 (by omega) (by omega) (by omega) (by omega)
      rw [show 16 * (c / 16 + 0) + (c % 16 + 0) = c by omega] at this
      exact absurd this n
    · by_cases q : w = 0
      · rw [q, sqA_0 hc]
        exact ⟨fun _ => n, fun _ => by omega⟩
      · have g := sqA_s (a := a) (w := w - 1) hc (by omega)
        rw [show w - 1 + 1 = w by omega] at g
        rw [g, ← hx (w - 1) (by omega), ← hy (w - 1) (by omega), ← hz (w - 1) (by omega)]
        exact ⟨fun k => ⟨n, by omega, by omega, by omega⟩, fun k => by omega⟩
  refine ⟨⟨by omega, ?_⟩, key⟩
  by_cases q : v ≤ 16
  · exact q
  · have := ((key 16 (by omega)).mp (by omega)).1
    omega
set_option maxRecDepth 100000 in
set_option maxHeartbeats 4000000 in
theorem c_clear {w : WD} {sz a : Nat} {f : Int → Bool} (hv : w a = some (xBA 160 f)) : CT iX0_clear 0 0 [.ref a] w sz (fun v w' sz' => v = none ∧ sz' = sz ∧ ∃ g, UA w w' a (xBA 160 g) ∧ ∀ k, 0 ≤ k → k < 160 → g k = false) := by
  refine CT.ofZ (by decide) rfl (Nat.le_of_ble_eq_true rfl) (fun Z hE => ?_)
  refine V_iconst dX0_clear_0 ?_
  refine V_istore_n dX0_clear_1 1 rfl (by decide) ?_
  have L2 : ∀ k : Int, 0 ≤ k → k ≤ 160 → ∀ (w' : WD) (g : Int → Bool), UA w w' a (xBA 160 g) → (∀ j, 0 ≤ j → j < k → g j = false) → V iX0_clear Z 0 0 w' sz 2 [some (.ref a), some (xI k)] [] := by
    refine up_ind ?_
    intro k hk0 hk1 ih w' g hu hg
    refine V_iload_n dX0_clear_2 1 rfl rfl ?_
    refine V_sipush dX0_clear_3 (by decide) ?_
    refine V_icmp_ge 19 dX0_clear_6 (by decide) (by omega) (fun h6 => ?_) (fun h6 => ?_)
    · exact V_vret hE rfl dX0_clear_19 ⟨rfl, rfl, g, hu, fun j g1 g2 => hg j g1 (by omega)⟩
    · refine V_aload_n dX0_clear_9 0 rfl rfl ?_
      refine V_iload_n dX0_clear_10 1 rfl rfl ?_
      refine V_iconst dX0_clear_11 ?_
      refine V_zast (x := false) dX0_clear_12 hu.1 (by omega) ?_
      refine V_iinc dX0_clear_13 rfl (by decide) ?_
      refine V_goto 2 dX0_clear_16 (by decide) ?_
      refine ih (by omega) _ _ hu.u (fun j g1 g2 => ?_)
      by_cases e : j = k
      · rw [e, iu_s]
      · rw [iu_n e]; exact hg j g1 (by omega)
  exact L2 (0) (by omega) (by omega) w f (UA.rf hv) (fun j g1 g2 => by omega)
set_option maxRecDepth 100000 in
set_option maxHeartbeats 4000000 in
theorem c_enter_alike {w0 w : WD} {sz φ : Nat} {T : FT} {c : Int} (hM : FW w0 w φ T) (hc : 0 ≤ c ∧ c < 160) (hq : 0 ≤ T.2.2.2.2.2.1 ∧ T.2.2.2.2.2.1 ≤ 160) : CT iX0_enter 0 0 [.ref φ, .ref (φ + 1), xI c] w sz (fun v w' sz' => v = none ∧ sz' = sz ∧ ((T.1 c = false ∧ T.2.2.2.2.2.1 < 160 ∧ FW w0 w' φ (iu T.1 c true, T.2.1, T.2.2.1, T.2.2.2.1, iu T.2.2.2.2.1 T.2.2.2.2.2.1 c, T.2.2.2.2.2.1 + 1, T.2.2.2.2.2.2)) ∨ (¬ (T.1 c = false ∧ T.2.2.2.2.2.1 < 160) ∧ FW w0 w' φ T))) := by
  refine CT.ofZ (by decide) rfl (Nat.le_of_ble_eq_true rfl) (fun Z hE => ?_)
  refine V_aload_n dX0_enter_0 1 rfl rfl ?_
  refine V_iload_n dX0_enter_1 2 rfl rfl ?_
  refine F_l_alike hM dX0_enter_2 hc ?_
  try dsimp only
  refine V_ifneB 40 dX0_enter_3 (by decide) (fun h3 => ?_) (fun h3 => ?_)
  · try simp only [decide_eq_true_eq, decide_eq_false_iff_not, Bool.not_eq_true] at h3
    exact V_vret hE rfl dX0_enter_40 ⟨rfl, rfl, Or.inr ⟨fun q => Bool.false_ne_true (q.1.symm.trans h3), hM⟩⟩
  · try simp only [decide_eq_true_eq, decide_eq_false_iff_not, Bool.not_eq_true] at h3
    refine V_aload_n dX0_enter_6 0 rfl rfl ?_
    refine F_g_queued hM rfl dX0_enter_7 ?_
    try dsimp only
    refine V_sipush dX0_enter_10 (by decide) ?_
    refine V_icmp_ge 40 dX0_enter_13 (by decide) (by omega) (fun h13 => ?_) (fun h13 => ?_)
    · exact V_vret hE rfl dX0_enter_40 ⟨rfl, rfl, Or.inr ⟨fun q => by omega, hM⟩⟩
    · refine V_aload_n dX0_enter_16 1 rfl rfl ?_
      refine V_iload_n dX0_enter_17 2 rfl rfl ?_
      refine V_iconst dX0_enter_18 ?_
      refine F_s_alike (b := true) hM dX0_enter_19 hc (fun w hM => ?_)
      try dsimp only at hM
      refine V_aload_n dX0_enter_20 0 rfl rfl ?_
      refine F_g_queue hM rfl dX0_enter_21 ?_
      refine V_aload_n dX0_enter_24 0 rfl rfl ?_
      refine F_g_queued hM rfl dX0_enter_25 ?_
      try dsimp only
      refine V_iload_n dX0_enter_28 2 rfl rfl ?_
      refine F_s_queue hM dX0_enter_29 (by first | omega | (dsimp only; omega) | (dsimp only at *; omega)) (fun w hM => ?_)
      try dsimp only at hM
      refine V_aload_n dX0_enter_30 0 rfl rfl ?_
      refine V_dup dX0_enter_31 rfl ?_
      refine F_g_queued hM rfl dX0_enter_32 ?_
      try dsimp only
      refine V_iconst dX0_enter_35 ?_
      refine V_iadd dX0_enter_36 ?_
      refine F_p_queued hM rfl dX0_enter_37 (fun w hM => ?_)
      try dsimp only at hM
      exact V_vret hE rfl dX0_enter_40 ⟨rfl, rfl, Or.inl ⟨h3, by omega, hM⟩⟩
set_option maxRecDepth 100000 in
set_option maxHeartbeats 4000000 in
theorem c_enter_joined {w0 w : WD} {sz φ : Nat} {T : FT} {c : Int} (hM : FW w0 w φ T) (hc : 0 ≤ c ∧ c < 160) (hq : 0 ≤ T.2.2.2.2.2.1 ∧ T.2.2.2.2.2.1 ≤ 160) : CT iX0_enter 0 0 [.ref φ, .ref (φ + 3), xI c] w sz (fun v w' sz' => v = none ∧ sz' = sz ∧ ((T.2.2.1 c = false ∧ T.2.2.2.2.2.1 < 160 ∧ FW w0 w' φ (T.1, T.2.1, iu T.2.2.1 c true, T.2.2.2.1, iu T.2.2.2.2.1 T.2.2.2.2.2.1 c, T.2.2.2.2.2.1 + 1, T.2.2.2.2.2.2)) ∨ (¬ (T.2.2.1 c = false ∧ T.2.2.2.2.2.1 < 160) ∧ FW w0 w' φ T))) := by
  refine CT.ofZ (by decide) rfl (Nat.le_of_ble_eq_true rfl) (fun Z hE => ?_)
  refine V_aload_n dX0_enter_0 1 rfl rfl ?_
  refine V_iload_n dX0_enter_1 2 rfl rfl ?_
  refine F_l_joined hM dX0_enter_2 hc ?_
  try dsimp only
  refine V_ifneB 40 dX0_enter_3 (by decide) (fun h3 => ?_) (fun h3 => ?_)
  · try simp only [decide_eq_true_eq, decide_eq_false_iff_not, Bool.not_eq_true] at h3
    exact V_vret hE rfl dX0_enter_40 ⟨rfl, rfl, Or.inr ⟨fun q => Bool.false_ne_true (q.1.symm.trans h3), hM⟩⟩
  · try simp only [decide_eq_true_eq, decide_eq_false_iff_not, Bool.not_eq_true] at h3
    refine V_aload_n dX0_enter_6 0 rfl rfl ?_
    refine F_g_queued hM rfl dX0_enter_7 ?_
    try dsimp only
    refine V_sipush dX0_enter_10 (by decide) ?_
    refine V_icmp_ge 40 dX0_enter_13 (by decide) (by omega) (fun h13 => ?_) (fun h13 => ?_)
    · exact V_vret hE rfl dX0_enter_40 ⟨rfl, rfl, Or.inr ⟨fun q => by omega, hM⟩⟩
    · refine V_aload_n dX0_enter_16 1 rfl rfl ?_
      refine V_iload_n dX0_enter_17 2 rfl rfl ?_
      refine V_iconst dX0_enter_18 ?_
      refine F_s_joined (b := true) hM dX0_enter_19 hc (fun w hM => ?_)
      try dsimp only at hM
      refine V_aload_n dX0_enter_20 0 rfl rfl ?_
      refine F_g_queue hM rfl dX0_enter_21 ?_
      refine V_aload_n dX0_enter_24 0 rfl rfl ?_
      refine F_g_queued hM rfl dX0_enter_25 ?_
      try dsimp only
      refine V_iload_n dX0_enter_28 2 rfl rfl ?_
      refine F_s_queue hM dX0_enter_29 (by first | omega | (dsimp only; omega) | (dsimp only at *; omega)) (fun w hM => ?_)
      try dsimp only at hM
      refine V_aload_n dX0_enter_30 0 rfl rfl ?_
      refine V_dup dX0_enter_31 rfl ?_
      refine F_g_queued hM rfl dX0_enter_32 ?_
      try dsimp only
      refine V_iconst dX0_enter_35 ?_
      refine V_iadd dX0_enter_36 ?_
      refine F_p_queued hM rfl dX0_enter_37 (fun w hM => ?_)
      try dsimp only at hM
      exact V_vret hE rfl dX0_enter_40 ⟨rfl, rfl, Or.inl ⟨h3, by omega, hM⟩⟩
set_option maxRecDepth 100000 in
set_option maxHeartbeats 4000000 in
theorem c_sideAt {w0 w : WD} {sz φ : Nat} {T : FT} {x y : Int} (hM : FW w0 w φ T) (r : -1000 ≤ x ∧ x ≤ 1000 ∧ -1000 ≤ y ∧ y ≤ 1000) : CT iX0_sideAt 0 0 [.ref φ, xI x, xI y] w sz (pR (some (xI (sdA T.2.1 x y))) w sz) := by
  refine CT.ofZ (by decide) rfl (Nat.le_of_ble_eq_true rfl) (fun Z hE => ?_)
  refine V_iload_n dX0_sideAt_0 1 rfl rfl ?_
  refine V_iload_n dX0_sideAt_1 2 rfl rfl ?_
  refine V_c_X0_92 rfl (by decide) (c_isCell (by omega)) dX0_sideAt_2 rfl rfl (Nat.le_of_ble_eq_true rfl) (Nat.le_of_eq (Nat.zero_add _)) (Nat.le_of_eq (Nat.zero_add _)) (fun v w sz q => ?_)
  try dsimp only at q
  obtain ⟨rfl, rfl, rfl⟩ := q
  refine V_ifeqB 21 dX0_sideAt_5 (by decide) (fun h5 => ?_) (fun h5 => ?_)
  · try simp only [decide_eq_true_eq, decide_eq_false_iff_not, Bool.not_eq_true] at h5
    refine V_iconst dX0_sideAt_21 ?_
    exact V_iret hE rfl dX0_sideAt_22 ⟨bE (by unfold sdA; rw [if_neg h5]), rfl, rfl⟩
  · try simp only [decide_eq_true_eq, decide_eq_false_iff_not, Bool.not_eq_true] at h5
    refine V_aload_n dX0_sideAt_8 0 rfl rfl ?_
    refine F_g_sides hM rfl dX0_sideAt_9 ?_
    refine V_iload_n dX0_sideAt_12 1 rfl rfl ?_
    refine V_iload_n dX0_sideAt_13 2 rfl rfl ?_
    refine V_c_X0_96 rfl (by decide) (c_cellAt) dX0_sideAt_14 rfl rfl (Nat.le_of_ble_eq_true rfl) (Nat.le_of_eq (Nat.zero_add _)) (Nat.le_of_eq (Nat.zero_add _)) (fun v w sz q => ?_)
    try dsimp only at q
    obtain ⟨rfl, rfl, rfl⟩ := q
    refine F_l_sides hM dX0_sideAt_17 (by first | omega | (dsimp only; omega) | (dsimp only at *; omega)) ?_
    try dsimp only
    refine V_goto 22 dX0_sideAt_18 (by decide) ?_
    exact V_iret hE rfl dX0_sideAt_22 ⟨bE (by unfold sdA; rw [if_pos h5]), rfl, rfl⟩
set_option maxRecDepth 100000 in
set_option maxHeartbeats 4000000 in
theorem c_measure {w0 w : WD} {sz φ : Nat} {T : FT} (hM : FW w0 w φ T) : CT iX0_measureSquares 0 0 [.ref φ] w sz (fun v w' sz' => v = none ∧ sz' = sz ∧ ∃ s, FW w0 w' φ (T.1, s, T.2.2.1, T.2.2.2.1, T.2.2.2.2.1, T.2.2.2.2.2.1, T.2.2.2.2.2.2) ∧ ∀ c, 0 ≤ c → c < 160 → Sid (fun k => T.1 k = true) s c) := by
  refine CT.ofZ (by decide) rfl (Nat.le_of_ble_eq_true rfl) (fun Z hE => ?_)
  refine V_sipush dX0_measureSquares_0 (by decide) ?_
  refine V_istore_n dX0_measureSquares_3 1 rfl (by decide) ?_
  have L4 : ∀ k : Int, -1 ≤ k → k ≤ 159 → ∀ (w : WD) (s : Int → Int), FW w0 w φ (T.1, s, T.2.2.1, T.2.2.2.1, T.2.2.2.2.1, T.2.2.2.2.2.1, T.2.2.2.2.2.2) → (∀ j, k < j → j < 160 → Sid (fun k => T.1 k = true) s j) → V iX0_measureSquares Z 0 0 w sz 4 [some (.ref φ), some (xI k), none, none, none] [] := by
    refine down_ind ?_
    intro k hk0 hk1 ih w s hM hs
    have sx := Sid.one (x := k % 16 + 1) (y := k / 16) (d := k + 1) hs (fun q => by omega)
    have sy := Sid.one (x := k % 16) (y := k / 16 + 1) (d := k + 16) hs (fun q => by omega)
    have sz9 := Sid.one (x := k % 16 + 1) (y := k / 16 + 1) (d := k + 17) hs (fun q => by omega)
    refine V_iload_n dX0_measureSquares_4 1 rfl rfl ?_
    refine V_if_lt 81 dX0_measureSquares_5 (by decide) (by omega) (fun h5 => ?_) (fun h5 => ?_)
    · exact V_vret hE rfl dX0_measureSquares_81 ⟨rfl, rfl, s, hM, fun j g1 g2 => hs j (by omega) g2⟩
    · refine V_iload_n dX0_measureSquares_8 1 rfl rfl ?_
      refine V_bipush dX0_measureSquares_9 (by decide) ?_
      refine V_iremN dX0_measureSquares_11 (by omega) ?_
      refine V_istore_n dX0_measureSquares_12 2 rfl (by decide) ?_
      refine V_iload_n dX0_measureSquares_13 1 rfl rfl ?_
      refine V_bipush dX0_measureSquares_14 (by decide) ?_
      refine V_idivN dX0_measureSquares_16 (by omega) ?_
      refine V_istore_n dX0_measureSquares_17 3 rfl (by decide) ?_
      refine V_aload_n dX0_measureSquares_18 0 rfl rfl ?_
      refine V_iload_n dX0_measureSquares_19 2 rfl rfl ?_
      refine V_iconst dX0_measureSquares_20 ?_
      refine V_iadd dX0_measureSquares_21 ?_
      refine V_iload_n dX0_measureSquares_22 3 rfl rfl ?_
      refine V_c_X0_86 rfl (by decide) (c_sideAt hM (by omega)) dX0_measureSquares_23 hM.1 rfl rfl (Nat.le_of_ble_eq_true rfl) (Nat.le_of_eq (Nat.zero_add _)) (Nat.le_of_eq (Nat.zero_add _)) (fun v w sz q => ?_)
      try dsimp only at q
      obtain ⟨rfl, rfl, rfl⟩ := q
      refine V_aload_n dX0_measureSquares_26 0 rfl rfl ?_
      refine V_iload_n dX0_measureSquares_27 2 rfl rfl ?_
      refine V_iload_n dX0_measureSquares_28 3 rfl rfl ?_
      refine V_iconst dX0_measureSquares_29 ?_
      refine V_iadd dX0_measureSquares_30 ?_
      refine V_c_X0_86 rfl (by decide) (c_sideAt hM (by omega)) dX0_measureSquares_31 hM.1 rfl rfl (Nat.le_of_ble_eq_true rfl) (Nat.le_of_eq (Nat.zero_add _)) (Nat.le_of_eq (Nat.zero_add _)) (fun v w sz q => ?_)
      try dsimp only at q
      obtain ⟨rfl, rfl, rfl⟩ := q
      refine V_c_X0_89 rfl (by decide) (Nat.le_of_ble_eq_true rfl) dX0_measureSquares_34 (by omega) ?_
      refine V_istore dX0_measureSquares_37 (by decide) ?_
      refine V_aload_n dX0_measureSquares_39 0 rfl rfl ?_
      refine F_g_sides hM rfl dX0_measureSquares_40 ?_
      refine V_iload_n dX0_measureSquares_43 1 rfl rfl ?_
      refine V_aload_n dX0_measureSquares_44 0 rfl rfl ?_
      refine F_g_alike hM rfl dX0_measureSquares_45 ?_
      refine V_iload_n dX0_measureSquares_48 1 rfl rfl ?_
      refine F_l_alike hM dX0_measureSquares_49 (by first | omega | (dsimp only; omega) | (dsimp only at *; omega)) ?_
      try dsimp only
      refine V_ifeqB 73 dX0_measureSquares_50 (by decide) (fun h50 => ?_) (fun h50 => ?_)
      · try simp only [decide_eq_true_eq, decide_eq_false_iff_not, Bool.not_eq_true] at h50
        refine V_iconst dX0_measureSquares_73 ?_
        refine F_s_sides hM dX0_measureSquares_74 (by first | omega | (dsimp only; omega) | (dsimp only at *; omega)) (fun w hM => ?_)
        try dsimp only at hM
        refine V_iinc dX0_measureSquares_75 rfl (by decide) ?_
        refine V_goto 4 dX0_measureSquares_78 (by decide) ?_
        refine V_fg [true, true, false, false, false] ?_
        refine ih (by omega) _ _ hM (fun j g1 g2 => ?_)
        by_cases e : j = k
        · rw [e]; unfold Sid; rw [iu_s]; exact Sid.step ⟨by omega, by omega⟩ hs (Or.inl ⟨by rw [h50]; exact Bool.false_ne_true, by omega⟩)
        · unfold Sid; rw [iu_n e]; exact hs j (by omega) g2
      · try simp only [decide_eq_true_eq, decide_eq_false_iff_not, Bool.not_eq_true] at h50
        refine V_iconst dX0_measureSquares_53 ?_
        refine V_iload dX0_measureSquares_54 rfl ?_
        refine V_aload_n dX0_measureSquares_56 0 rfl rfl ?_
        refine V_iload_n dX0_measureSquares_57 2 rfl rfl ?_
        refine V_iconst dX0_measureSquares_58 ?_
        refine V_iadd dX0_measureSquares_59 ?_
        refine V_iload_n dX0_measureSquares_60 3 rfl rfl ?_
        refine V_iconst dX0_measureSquares_61 ?_
        refine V_iadd dX0_measureSquares_62 ?_
        refine V_c_X0_86 rfl (by decide) (c_sideAt hM (by omega)) dX0_measureSquares_63 hM.1 rfl rfl (Nat.le_of_ble_eq_true rfl) (Nat.le_of_eq (Nat.zero_add _)) (Nat.le_of_eq (Nat.zero_add _)) (fun v w sz q => ?_)
        try dsimp only at q
        obtain ⟨rfl, rfl, rfl⟩ := q
        refine V_c_X0_89 rfl (by decide) (Nat.le_of_ble_eq_true rfl) dX0_measureSquares_66 (by omega) ?_
        refine V_iadd dX0_measureSquares_69 ?_
        refine V_goto 74 dX0_measureSquares_70 (by decide) ?_
        refine F_s_sides hM dX0_measureSquares_74 (by first | omega | (dsimp only; omega) | (dsimp only at *; omega)) (fun w hM => ?_)
        try dsimp only at hM
        refine V_iinc dX0_measureSquares_75 rfl (by decide) ?_
        refine V_goto 4 dX0_measureSquares_78 (by decide) ?_
        refine V_fg [true, true, false, false, false] ?_
        refine ih (by omega) _ _ hM (fun j g1 g2 => ?_)
        by_cases e : j = k
        · rw [e]; unfold Sid; rw [iu_s]; exact Sid.step ⟨by omega, by omega⟩ hs (Or.inr ⟨h50, by omega, by omega, by omega, by omega⟩)
        · unfold Sid; rw [iu_n e]; exact hs j (by omega) g2
  refine V_fg [true, true, false, false, false] ?_
  exact L4 (159) (by omega) (by omega) w T.2.1 hM (fun j g1 g2 => by omega)
