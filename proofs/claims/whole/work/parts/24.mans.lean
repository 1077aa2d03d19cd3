/-! the reference: answers -/
theorem imk_c {f g : Int → Int} {x y : Int} (h : ∀ k, 0 ≤ k → k < 160 → f k = g k) : imk f x y = imk g x y := by
  unfold imk
  by_cases q : iCell x y
  · rw [h _ (by omega) (by omega)]
  · rw [decide_eq_false (by omega), decide_eq_false (by omega)]
theorem iegr_c {f g : Int → Int} {j : Int} (h : ∀ k, 0 ≤ k → k < 160 → f k = g k) : iegr f j = iegr g j := by
  unfold iegr ieg
  exact isum_c (fun i _ _ => by rw [imk_c h, imk_c (x := i - 1 + 1) h, imk_c (y := j - 1 + 1) h])
theorem icnt_c {z f g : Int → Int} {s a : Int} (h : ∀ k, 0 ≤ k → k < 160 → f k = g k) : icnt z f s a = icnt z g s a := by
  have e2 : isum (fun k => if 100 ≤ f k then 1 else 0) 160 = isum (fun k => if 100 ≤ g k then 1 else 0) 160 := isum_c (fun j h1 h2 => by rw [h j h1 h2])
  have e3 : isum (fun k => if 1 ≤ f k then 1 else 0) 160 = isum (fun k => if 1 ≤ g k then 1 else 0) 160 := isum_c (fun j h1 h2 => by rw [h j h1 h2])
  have e4 : isum f 160 = isum g 160 := isum_c h
  have e5 : isum (iegr f) 11 = isum (iegr g) 11 := isum_c (fun j _ _ => iegr_c h)
  unfold icnt
  rw [e2, e3, e4, e5]
theorem icel_c {z f g : Int → Int} {c a : Int} (h : f c = g c) : icel z f c a = icel z g c a := by
  unfold icel
  rw [h]
/-- the size of an area -/
def arN (z : Int → Int) (f l a g r : Int) : Prop := ∃ (u : Int) (A : Int → Bool), wiA (aP z f l a) f g u ∧ (∀ k, 0 ≤ k → k < 160 → (A k = true ↔ arA (aP z f l a) f u k)) ∧ r = isum (fun k => b2i (A k)) 160
/-- whether a cell lies in an area -/
def arI (z : Int → Int) (f l a g c : Int) : Prop := ∃ u, wiA (aP z f l a) f g u ∧ arA (aP z f l a) f u c
theorem arI_iff {z : Int → Int} {f l a g u c : Int} (h : wiA (aP z f l a) f g u) : arI z f l a g c ↔ arA (aP z f l a) f u c := by
  constructor
  · rintro ⟨u', h1, h2⟩
    rw [wiA_u h h1]
    exact h2
  · exact fun q => ⟨u, h, q⟩
def likA (z : Int → Int) (c e a g r : Int) : Prop := ((0 ≤ r ∧ r < 100) ∧ arI z c r a g e ∧ ∀ l, 0 ≤ l → l < r → ¬ arI z c l a g e) ∨ (r = -1 ∧ ∀ l, 0 ≤ l → l < 100 → ¬ arI z c l a g e)
def gapA (z : Int → Int) (c e l r : Int) : Prop := ((0 ≤ r ∧ r < 6) ∧ ¬ arI z c l 0 r e ∧ ∀ g, 0 ≤ g → g < r → arI z c l 0 g e) ∨ (r = -1 ∧ ∀ g, 0 ≤ g → g < 6 → arI z c l 0 g e)
noncomputable def nArs (z : Int → Int) (L : Int) : Nat → (Int → Bool) × Int
  | 0 => (fun _ => false, 0)
  | n + 1 => if (nArs z L n).1 n = true then nArs z L n else (fun j => @decide ((nArs z L n).1 j = true ∨ Rch z L (nArs z L n).1 n j) (Classical.propDecidable _), (nArs z L n).2 + 1)
/-- the cells of the areas that begin before the cell k, and how many areas these are -/
noncomputable def iArs (z : Int → Int) (L k : Int) : (Int → Bool) × Int := nArs z L k.toNat
theorem iArs_1 {z : Int → Int} {L k : Int} (hk : 0 ≤ k) (h : (iArs z L k).1 k = true) : iArs z L (k + 1) = iArs z L k := by
  unfold iArs at *
  rw [show (k + 1).toNat = k.toNat + 1 by omega]
  show (if (nArs z L k.toNat).1 (k.toNat : Nat) = true then _ else _) = _
  rw [if_pos (by rw [show ((k.toNat : Nat) : Int) = k by omega]; exact h)]
theorem iArs_2 {z : Int → Int} {L k : Int} (hk : 0 ≤ k) (h : (iArs z L k).1 k = false) : (∀ j, (iArs z L (k + 1)).1 j = true ↔ (iArs z L k).1 j = true ∨ Rch z L (iArs z L k).1 k j) ∧ (iArs z L (k + 1)).2 = (iArs z L k).2 + 1 := by
  unfold iArs at *
  rw [show (k + 1).toNat = k.toNat + 1 by omega]
  have e : ((k.toNat : Nat) : Int) = k := by omega
  constructor
  · intro j
    show (if (nArs z L k.toNat).1 (k.toNat : Nat) = true then nArs z L k.toNat else (_, _)).1 j = true ↔ _
    rw [if_neg (by rw [e, h]; simp), e]
    simp only [decide_eq_true_eq]
  · show (if (nArs z L k.toNat).1 (k.toNat : Nat) = true then nArs z L k.toNat else (_, _)).2 = _
    rw [if_neg (by rw [e, h]; simp)]
abbrev ask (c : Prop) (P : MP) (t : Int) (P' : MP) (d : Prop) : Prop := P' = P ∧ ((¬ c ∧ t = 1) ∨ (c ∧ t = 0 ∧ d))
abbrev ask2 (c e : Prop) (P : MP) (t : Int) (P' : MP) (d : Prop) : Prop := P' = P ∧ ((¬ c ∧ t = 1) ∨ (c ∧ ¬ e ∧ t = 2) ∨ (c ∧ e ∧ t = 0 ∧ d))
def celR (P : MP) (x y a t r : Int) (P' : MP) : Prop := ask2 (iCell x y) (0 ≤ a ∧ a ≤ 2) P t P' (r = icel P.1 (imS P.1) (16 * y + x) a)
def pkdR (P : MP) (p a t r : Int) (P' : MP) : Prop := ask2 (isP P.1 p) (0 ≤ a ∧ a ≤ 11) P t P' (r = ipic P.1 p a)
def lvlR (P : MP) (p x y t r : Int) (P' : MP) : Prop := ask (isP P.1 p ∧ iCell x y) P t P' (r = P.1 (161 + 169 * p + (9 + (16 * y + x))))
def cntR (P : MP) (a t r : Int) (P' : MP) : Prop := ask (0 ≤ a ∧ a ≤ 8) P t P' (r = icnt P.1 (imS P.1) P.2.1 a)
abbrev aOk (l a g : Int) : Prop := (0 ≤ l ∧ l ≤ 99) ∧ (0 ≤ a ∧ a ≤ 1) ∧ (0 ≤ g ∧ g ≤ 5)
def aofR (P : MP) (x y l a g t r : Int) (P' : MP) : Prop := ask2 (iCell x y) (aOk l a g) P t P' (arN P.1 (16 * y + x) l a g r)
def likR (P : MP) (x y u v a g t r : Int) (P' : MP) : Prop := ask2 (iCell x y ∧ iCell u v) (aOk 0 a g) P t P' (likA P.1 (16 * y + x) (16 * v + u) a g r)
def gapR (P : MP) (x y u v l t r : Int) (P' : MP) : Prop := ask2 (iCell x y ∧ iCell u v) (0 ≤ l ∧ l ≤ 99) P t P' (gapA P.1 (16 * y + x) (16 * v + u) l r)
def arsR (P : MP) (l t r : Int) (P' : MP) : Prop := ask (0 ≤ l ∧ l ≤ 99) P t P' (r = (iArs P.1 l 160).2)
set_option maxRecDepth 100000 in
set_option maxHeartbeats 4000000 in
theorem m_cell {w0 w : WD} {sz μ : Nat} {P : MP} {K : MK} {x y a : Int} (hM : MW w0 w μ P K) (hv : VZ P.1) (r : -2147483648 ≤ x ∧ x < 2147483648 ∧ -2147483648 ≤ y ∧ y < 2147483648 ∧ -2147483648 ≤ a ∧ a < 2147483648) : CT iX7_cell 0 0 [.ref μ, xI x, xI y, xI a] w sz (fun o9 w' sz' => sz' = sz ∧ ∃ r t P', o9 = some (xI r) ∧ MD w0 w' μ t P' ∧ celR P x y a t r P') := by
  have hzp := hv.2.1
  refine CT.ofZ (by decide) rfl (Nat.le_of_ble_eq_true rfl) (fun Z hE => ?_)
  refine V_aload_n dX7_cell_0 0 rfl rfl ?_
  refine V_iload_n dX7_cell_1 1 rfl rfl ?_
  refine V_iload_n dX7_cell_2 2 rfl rfl ?_
  refine V_c_X7_91 rfl (by decide) (m_isCell (by omega)) dX7_cell_3 rfl rfl (Nat.le_of_ble_eq_true rfl) (Nat.le_of_eq (Nat.zero_add _)) (Nat.le_of_eq (Nat.zero_add _)) (fun v w sz q => ?_)
  try dsimp only at q
  obtain ⟨rfl, rfl, rfl⟩ := q
  refine V_ifneB 13 dX7_cell_6 (by decide) (fun h6 => ?_) (fun h6 => ?_)
  · try simp only [decide_eq_true_eq, decide_eq_false_iff_not, Bool.not_eq_true] at h6
    refine V_iload_n dX7_cell_13 3 rfl rfl ?_
    refine V_iconst dX7_cell_14 ?_
    refine V_iconst dX7_cell_15 ?_
    refine V_c_X7_42 rfl (by decide) (m_within (by omega)) dX7_cell_16 rfl rfl (Nat.le_of_ble_eq_true rfl) (Nat.le_of_eq (Nat.zero_add _)) (Nat.le_of_eq (Nat.zero_add _)) (fun v w sz q => ?_)
    try dsimp only at q
    obtain ⟨rfl, rfl, rfl⟩ := q
    refine V_ifeqB 26 dX7_cell_19 (by decide) (fun h19 => ?_) (fun h19 => ?_)
    · try simp only [decide_eq_true_eq, decide_eq_false_iff_not, Bool.not_eq_true] at h19
      refine V_iconst dX7_cell_26 ?_
      refine M_p_thrown hM rfl dX7_cell_27 (fun w hM => ?_)
      try dsimp only at hM
      refine V_aload_n dX7_cell_30 0 rfl rfl ?_
      refine M_g_thrown hM rfl dX7_cell_31 ?_
      try dsimp only
      refine V_if_le 39 dX7_cell_34 (by decide) (by omega) (fun h34 => ?_) (fun h34 => ?_)
      · exact absurd h34 (by simp)
      · refine V_iconst dX7_cell_37 ?_
        exact V_iret hE rfl dX7_cell_38 ⟨rfl, 0, 2, _, rfl, ⟨_, hM, rfl⟩, rfl, Or.inr (Or.inl ⟨by omega, by omega, rfl⟩)⟩
    · try simp only [decide_eq_true_eq, decide_eq_false_iff_not, Bool.not_eq_true] at h19
      refine V_iconst dX7_cell_22 ?_
      refine V_goto 27 dX7_cell_23 (by decide) ?_
      refine M_p_thrown hM rfl dX7_cell_27 (fun w hM => ?_)
      try dsimp only at hM
      refine V_aload_n dX7_cell_30 0 rfl rfl ?_
      refine M_g_thrown hM rfl dX7_cell_31 ?_
      try dsimp only
      refine V_if_le 39 dX7_cell_34 (by decide) (by omega) (fun h34 => ?_) (fun h34 => ?_)
      · refine V_aload_n dX7_cell_39 0 rfl rfl ?_
        refine V_c_X7_105 rfl (by decide) (m_layMask hM hv) dX7_cell_40 hM.1 rfl rfl (Nat.le_of_ble_eq_true rfl) (Nat.le_of_eq (Nat.zero_add _)) (Nat.le_of_eq (Nat.zero_add _)) (fun v w sz q => ?_)
        try dsimp only at q
        obtain ⟨rfl, rfl, m, hM, hm⟩ := q
        refine V_aload_n dX7_cell_43 0 rfl rfl ?_
        refine V_bipush dX7_cell_44 (by decide) ?_
        refine V_iload_n dX7_cell_46 2 rfl rfl ?_
        refine V_imul dX7_cell_47 ?_
        refine V_iload_n dX7_cell_48 1 rfl rfl ?_
        refine V_iadd dX7_cell_49 ?_
        refine V_iload_n dX7_cell_50 3 rfl rfl ?_
        refine V_c_X7_145 rfl (by decide) (m_cellNow hM hzp hv.lev (by omega) (by omega)) dX7_cell_51 hM.1 rfl rfl (Nat.le_of_ble_eq_true rfl) (Nat.le_of_eq (Nat.zero_add _)) (Nat.le_of_eq (Nat.zero_add _)) (fun v w sz q => ?_)
        try dsimp only at q
        obtain ⟨rfl, rfl, rfl⟩ := q
        exact V_iret hE rfl dX7_cell_54 ⟨rfl, _, 0, _, rfl, ⟨_, hM, rfl⟩, rfl, Or.inr (Or.inr ⟨by omega, by omega, rfl, icel_c (hm _ (by omega) (by omega))⟩)⟩
      · exact absurd h34 (by simp)
  · try simp only [decide_eq_true_eq, decide_eq_false_iff_not, Bool.not_eq_true] at h6
    refine V_iconst dX7_cell_9 ?_
    refine V_goto 27 dX7_cell_10 (by decide) ?_
    refine M_p_thrown hM rfl dX7_cell_27 (fun w hM => ?_)
    try dsimp only at hM
    refine V_aload_n dX7_cell_30 0 rfl rfl ?_
    refine M_g_thrown hM rfl dX7_cell_31 ?_
    try dsimp only
    refine V_if_le 39 dX7_cell_34 (by decide) (by omega) (fun h34 => ?_) (fun h34 => ?_)
    · exact absurd h34 (by simp)
    · refine V_iconst dX7_cell_37 ?_
      exact V_iret hE rfl dX7_cell_38 ⟨rfl, 0, 1, _, rfl, ⟨_, hM, rfl⟩, rfl, Or.inl ⟨by omega, rfl⟩⟩
set_option maxRecDepth 100000 in
set_option maxHeartbeats 4000000 in
theorem m_picked {w0 w : WD} {sz μ : Nat} {P : MP} {K : MK} {p a : Int} (hM : MW w0 w μ P K) (hv : VZ P.1) (r : -2147483648 ≤ p ∧ p < 2147483648 ∧ -2147483648 ≤ a ∧ a < 2147483648) : CT iX7_picked 0 0 [.ref μ, xI p, xI a] w sz (fun o9 w' sz' => sz' = sz ∧ ∃ r t P', o9 = some (xI r) ∧ MD w0 w' μ t P' ∧ pkdR P p a t r P') := by
  have hzp := hv.2.1
  refine CT.ofZ (by decide) rfl (Nat.le_of_ble_eq_true rfl) (fun Z hE => ?_)
  refine V_aload_n dX7_picked_0 0 rfl rfl ?_
  refine V_aload_n dX7_picked_1 0 rfl rfl ?_
  refine V_iload_n dX7_picked_2 1 rfl rfl ?_
  refine V_c_X7_121 rfl (by decide) (m_isPick hM (by omega) hzp) dX7_picked_3 hM.1 rfl rfl (Nat.le_of_ble_eq_true rfl) (Nat.le_of_eq (Nat.zero_add _)) (Nat.le_of_eq (Nat.zero_add _)) (fun v w sz q => ?_)
  try dsimp only at q
  obtain ⟨rfl, rfl, rfl⟩ := q
  refine V_ifneB 13 dX7_picked_6 (by decide) (fun h6 => ?_) (fun h6 => ?_)
  · try simp only [decide_eq_true_eq, decide_eq_false_iff_not, Bool.not_eq_true] at h6
    refine V_iload_n dX7_picked_13 2 rfl rfl ?_
    refine V_iconst dX7_picked_14 ?_
    refine V_bipush dX7_picked_15 (by decide) ?_
    refine V_c_X7_42 rfl (by decide) (m_within (by omega)) dX7_picked_17 rfl rfl (Nat.le_of_ble_eq_true rfl) (Nat.le_of_eq (Nat.zero_add _)) (Nat.le_of_eq (Nat.zero_add _)) (fun v w sz q => ?_)
    try dsimp only at q
    obtain ⟨rfl, rfl, rfl⟩ := q
    refine V_ifeqB 27 dX7_picked_20 (by decide) (fun h20 => ?_) (fun h20 => ?_)
    · try simp only [decide_eq_true_eq, decide_eq_false_iff_not, Bool.not_eq_true] at h20
      refine V_iconst dX7_picked_27 ?_
      refine M_p_thrown hM rfl dX7_picked_28 (fun w hM => ?_)
      try dsimp only at hM
      refine V_aload_n dX7_picked_31 0 rfl rfl ?_
      refine M_g_thrown hM rfl dX7_picked_32 ?_
      try dsimp only
      refine V_if_le 42 dX7_picked_35 (by decide) (by omega) (fun h35 => ?_) (fun h35 => ?_)
      · exact absurd h35 (by simp)
      · refine V_iconst dX7_picked_38 ?_
        refine V_goto 48 dX7_picked_39 (by decide) ?_
        exact V_iret hE rfl dX7_picked_48 ⟨rfl, 0, 2, _, rfl, ⟨_, hM, rfl⟩, rfl, Or.inr (Or.inl ⟨by omega, by omega, rfl⟩)⟩
    · try simp only [decide_eq_true_eq, decide_eq_false_iff_not, Bool.not_eq_true] at h20
      refine V_iconst dX7_picked_23 ?_
      refine V_goto 28 dX7_picked_24 (by decide) ?_
      refine M_p_thrown hM rfl dX7_picked_28 (fun w hM => ?_)
      try dsimp only at hM
      refine V_aload_n dX7_picked_31 0 rfl rfl ?_
      refine M_g_thrown hM rfl dX7_picked_32 ?_
      try dsimp only
      refine V_if_le 42 dX7_picked_35 (by decide) (by omega) (fun h35 => ?_) (fun h35 => ?_)
      · refine V_aload_n dX7_picked_42 0 rfl rfl ?_
        refine V_iload_n dX7_picked_43 1 rfl rfl ?_
        refine V_iload_n dX7_picked_44 2 rfl rfl ?_
        refine V_c_X7_148 rfl (by decide) (m_pickedNow hM hzp hv.lev (by omega) (by omega)) dX7_picked_45 hM.1 rfl rfl (Nat.le_of_ble_eq_true rfl) (Nat.le_of_eq (Nat.zero_add _)) (Nat.le_of_eq (Nat.zero_add _)) (fun v w sz q => ?_)
        try dsimp only at q
        obtain ⟨rfl, rfl, rfl⟩ := q
        exact V_iret hE rfl dX7_picked_48 ⟨rfl, _, 0, _, rfl, ⟨_, hM, rfl⟩, rfl, Or.inr (Or.inr ⟨by omega, by omega, rfl, rfl⟩)⟩
      · exact absurd h35 (by simp)
  · try simp only [decide_eq_true_eq, decide_eq_false_iff_not, Bool.not_eq_true] at h6
    refine V_iconst dX7_picked_9 ?_
    refine V_goto 28 dX7_picked_10 (by decide) ?_
    refine M_p_thrown hM rfl dX7_picked_28 (fun w hM => ?_)
    try dsimp only at hM
    refine V_aload_n dX7_picked_31 0 rfl rfl ?_
    refine M_g_thrown hM rfl dX7_picked_32 ?_
    try dsimp only
    refine V_if_le 42 dX7_picked_35 (by decide) (by omega) (fun h35 => ?_) (fun h35 => ?_)
    · exact absurd h35 (by simp)
    · refine V_iconst dX7_picked_38 ?_
      refine V_goto 48 dX7_picked_39 (by decide) ?_
      exact V_iret hE rfl dX7_picked_48 ⟨rfl, 0, 1, _, rfl, ⟨_, hM, rfl⟩, rfl, Or.inl ⟨by omega, rfl⟩⟩
set_option maxRecDepth 100000 in
set_option maxHeartbeats 4000000 in
theorem m_level {w0 w : WD} {sz μ : Nat} {P : MP} {K : MK} {p x y : Int} (hM : MW w0 w μ P K) (hv : VZ P.1) (r : -2147483648 ≤ p ∧ p < 2147483648 ∧ -2147483648 ≤ x ∧ x < 2147483648 ∧ -2147483648 ≤ y ∧ y < 2147483648) : CT iX7_level 0 0 [.ref μ, xI p, xI x, xI y] w sz (fun o9 w' sz' => sz' = sz ∧ ∃ r t P', o9 = some (xI r) ∧ MD w0 w' μ t P' ∧ lvlR P p x y t r P') := by
  have hzp := hv.2.1
  refine CT.ofZ (by decide) rfl (Nat.le_of_ble_eq_true rfl) (fun Z hE => ?_)
  refine V_aload_n dX7_level_0 0 rfl rfl ?_
  refine V_aload_n dX7_level_1 0 rfl rfl ?_
  refine V_iload_n dX7_level_2 1 rfl rfl ?_
  refine V_c_X7_121 rfl (by decide) (m_isPick hM (by omega) hzp) dX7_level_3 hM.1 rfl rfl (Nat.le_of_ble_eq_true rfl) (Nat.le_of_eq (Nat.zero_add _)) (Nat.le_of_eq (Nat.zero_add _)) (fun v w sz q => ?_)
  try dsimp only at q
  obtain ⟨rfl, rfl, rfl⟩ := q
  refine V_ifeqB 21 dX7_level_6 (by decide) (fun h6 => ?_) (fun h6 => ?_)
  · try simp only [decide_eq_true_eq, decide_eq_false_iff_not, Bool.not_eq_true] at h6
    refine V_iconst dX7_level_21 ?_
    refine M_p_thrown hM rfl dX7_level_22 (fun w hM => ?_)
    try dsimp only at hM
    refine V_aload_n dX7_level_25 0 rfl rfl ?_
    refine M_g_thrown hM rfl dX7_level_26 ?_
    try dsimp only
    refine V_if_le 36 dX7_level_29 (by decide) (by omega) (fun h29 => ?_) (fun h29 => ?_)
    · exact absurd h29 (by simp)
    · refine V_iconst dX7_level_32 ?_
      refine V_goto 47 dX7_level_33 (by decide) ?_
      exact V_iret hE rfl dX7_level_47 ⟨rfl, 0, 1, _, rfl, ⟨_, hM, rfl⟩, rfl, Or.inl ⟨by omega, rfl⟩⟩
  · try simp only [decide_eq_true_eq, decide_eq_false_iff_not, Bool.not_eq_true] at h6
    refine V_iload_n dX7_level_9 2 rfl rfl ?_
    refine V_iload_n dX7_level_10 3 rfl rfl ?_
    refine V_c_X7_91 rfl (by decide) (m_isCell (by omega)) dX7_level_11 rfl rfl (Nat.le_of_ble_eq_true rfl) (Nat.le_of_eq (Nat.zero_add _)) (Nat.le_of_eq (Nat.zero_add _)) (fun v w sz q => ?_)
    try dsimp only at q
    obtain ⟨rfl, rfl, rfl⟩ := q
    refine V_ifeqB 21 dX7_level_14 (by decide) (fun h14 => ?_) (fun h14 => ?_)
    · try simp only [decide_eq_true_eq, decide_eq_false_iff_not, Bool.not_eq_true] at h14
      refine V_iconst dX7_level_21 ?_
      refine M_p_thrown hM rfl dX7_level_22 (fun w hM => ?_)
      try dsimp only at hM
      refine V_aload_n dX7_level_25 0 rfl rfl ?_
      refine M_g_thrown hM rfl dX7_level_26 ?_
      try dsimp only
      refine V_if_le 36 dX7_level_29 (by decide) (by omega) (fun h29 => ?_) (fun h29 => ?_)
      · exact absurd h29 (by simp)
      · refine V_iconst dX7_level_32 ?_
        refine V_goto 47 dX7_level_33 (by decide) ?_
        exact V_iret hE rfl dX7_level_47 ⟨rfl, 0, 1, _, rfl, ⟨_, hM, rfl⟩, rfl, Or.inl ⟨by omega, rfl⟩⟩
    · try simp only [decide_eq_true_eq, decide_eq_false_iff_not, Bool.not_eq_true] at h14
      refine V_iconst dX7_level_17 ?_
      refine V_goto 22 dX7_level_18 (by decide) ?_
      refine M_p_thrown hM rfl dX7_level_22 (fun w hM => ?_)
      try dsimp only at hM
      refine V_aload_n dX7_level_25 0 rfl rfl ?_
      refine M_g_thrown hM rfl dX7_level_26 ?_
      try dsimp only
      refine V_if_le 36 dX7_level_29 (by decide) (by omega) (fun h29 => ?_) (fun h29 => ?_)
      · refine V_aload_n dX7_level_36 0 rfl rfl ?_
        refine V_iload_n dX7_level_37 1 rfl rfl ?_
        refine V_bipush dX7_level_38 (by decide) ?_
        refine V_iload_n dX7_level_40 3 rfl rfl ?_
        refine V_imul dX7_level_41 ?_
        refine V_iload_n dX7_level_42 2 rfl rfl ?_
        refine V_iadd dX7_level_43 ?_
        refine V_c_X7_85 rfl (by decide) (m_levelOf hM (by omega)) dX7_level_44 hM.1 rfl rfl (Nat.le_of_ble_eq_true rfl) (Nat.le_of_eq (Nat.zero_add _)) (Nat.le_of_eq (Nat.zero_add _)) (fun v w sz q => ?_)
        try dsimp only at q
        obtain ⟨rfl, rfl, rfl⟩ := q
        exact V_iret hE rfl dX7_level_47 ⟨rfl, _, 0, _, rfl, ⟨_, hM, rfl⟩, rfl, Or.inr ⟨by omega, rfl, rfl⟩⟩
      · exact absurd h29 (by simp)
set_option maxRecDepth 100000 in
set_option maxHeartbeats 4000000 in
theorem m_count {w0 w : WD} {sz μ : Nat} {P : MP} {K : MK} {a : Int} (hM : MW w0 w μ P K) (hv : VZ P.1) (r : -2147483648 ≤ a ∧ a < 2147483648) : CT iX7_count 0 0 [.ref μ, xI a] w sz (fun o9 w' sz' => sz' = sz ∧ ∃ r t P', o9 = some (xI r) ∧ MD w0 w' μ t P' ∧ cntR P a t r P') := by
  have hzp := hv.2.1
  refine CT.ofZ (by decide) rfl (Nat.le_of_ble_eq_true rfl) (fun Z hE => ?_)
  refine V_aload_n dX7_count_0 0 rfl rfl ?_
  refine V_iload_n dX7_count_1 1 rfl rfl ?_
  refine V_iconst dX7_count_2 ?_
  refine V_bipush dX7_count_3 (by decide) ?_
  refine V_c_X7_42 rfl (by decide) (m_within (by omega)) dX7_count_5 rfl rfl (Nat.le_of_ble_eq_true rfl) (Nat.le_of_eq (Nat.zero_add _)) (Nat.le_of_eq (Nat.zero_add _)) (fun v w sz q => ?_)
  try dsimp only at q
  obtain ⟨rfl, rfl, rfl⟩ := q
  refine V_ifeqB 15 dX7_count_8 (by decide) (fun h8 => ?_) (fun h8 => ?_)
  · try simp only [decide_eq_true_eq, decide_eq_false_iff_not, Bool.not_eq_true] at h8
    refine V_iconst dX7_count_15 ?_
    refine M_p_thrown hM rfl dX7_count_16 (fun w hM => ?_)
    try dsimp only at hM
    refine V_aload_n dX7_count_19 0 rfl rfl ?_
    refine M_g_thrown hM rfl dX7_count_20 ?_
    try dsimp only
    refine V_if_le 28 dX7_count_23 (by decide) (by omega) (fun h23 => ?_) (fun h23 => ?_)
    · exact absurd h23 (by simp)
    · refine V_iconst dX7_count_26 ?_
      exact V_iret hE rfl dX7_count_27 ⟨rfl, 0, 1, _, rfl, ⟨_, hM, rfl⟩, rfl, Or.inl ⟨by omega, rfl⟩⟩
  · try simp only [decide_eq_true_eq, decide_eq_false_iff_not, Bool.not_eq_true] at h8
    refine V_iconst dX7_count_11 ?_
    refine V_goto 16 dX7_count_12 (by decide) ?_
    refine M_p_thrown hM rfl dX7_count_16 (fun w hM => ?_)
    try dsimp only at hM
    refine V_aload_n dX7_count_19 0 rfl rfl ?_
    refine M_g_thrown hM rfl dX7_count_20 ?_
    try dsimp only
    refine V_if_le 28 dX7_count_23 (by decide) (by omega) (fun h23 => ?_) (fun h23 => ?_)
    · refine V_aload_n dX7_count_28 0 rfl rfl ?_
      refine V_c_X7_105 rfl (by decide) (m_layMask hM hv) dX7_count_29 hM.1 rfl rfl (Nat.le_of_ble_eq_true rfl) (Nat.le_of_eq (Nat.zero_add _)) (Nat.le_of_eq (Nat.zero_add _)) (fun v w sz q => ?_)
      try dsimp only at q
      obtain ⟨rfl, rfl, m, hM, hm⟩ := q
      refine V_aload_n dX7_count_32 0 rfl rfl ?_
      refine V_iload_n dX7_count_33 1 rfl rfl ?_
      refine V_c_X7_172 rfl (by decide) (m_counted hM hzp (fun k g1 g2 => by (try dsimp only); rw [hm k g1 g2]; exact imsk_b hv ⟨g1, g2⟩ _ hv.2.1.1 (Int.le_refl _)) hv.1 (by omega)) dX7_count_34 hM.1 rfl rfl (Nat.le_of_ble_eq_true rfl) (Nat.le_of_eq (Nat.zero_add _)) (Nat.le_of_eq (Nat.zero_add _)) (fun v w sz q => ?_)
      try dsimp only at q
      obtain ⟨rfl, rfl, rfl⟩ := q
      exact V_iret hE rfl dX7_count_37 ⟨rfl, _, 0, _, rfl, ⟨_, hM, rfl⟩, rfl, Or.inr ⟨by omega, rfl, icnt_c hm⟩⟩
    · exact absurd h23 (by simp)
set_option maxRecDepth 100000 in
set_option maxHeartbeats 4000000 in
theorem m_areaAnswer {w0 w : WD} {sz μ : Nat} {P : MP} {K : MK} {f L a g : Int} (hM : MW w0 w μ P K) (hz : ∀ k, 0 ≤ k → k < 160 → 0 ≤ P.1 k ∧ P.1 k ≤ 99) (hf : 0 ≤ f ∧ f < 160) (hL : 0 ≤ L ∧ L ≤ 99) (ha : 0 ≤ a ∧ a ≤ 1) (hg : 0 ≤ g ∧ g ≤ 5) : CT iX7_areaAnswer 0 0 [.ref μ, xI f, xI L, xI a, xI g] w sz (fun o9 w' sz' => sz' = sz ∧ ∃ r K', o9 = some (xI r) ∧ MW w0 w' μ P K' ∧ K'.thrown = K.1 ∧ K'.mask = K.2.2.2.2.2.2.1 ∧ K'.h = K.2.2.2.2.2.2.2.2.2.2 ∧ arN P.1 f L a g r) := by
  refine CT.ofZ (by decide) rfl (Nat.le_of_ble_eq_true rfl) (fun Z hE => ?_)
  refine V_aload_n dX7_areaAnswer_0 0 rfl rfl ?_
  refine V_iload_n dX7_areaAnswer_1 1 rfl rfl ?_
  refine V_iload_n dX7_areaAnswer_2 2 rfl rfl ?_
  refine V_iload_n dX7_areaAnswer_3 3 rfl rfl ?_
  refine V_iload dX7_areaAnswer_4 rfl ?_
  refine V_c_X7_111 rfl (by decide) (m_layArea hM hz hf hL ha hg) dX7_areaAnswer_6 hM.1 rfl rfl (Nat.le_of_ble_eq_true rfl) (Nat.le_of_eq (Nat.zero_add _)) (Nat.le_of_eq (Nat.zero_add _)) (fun v w sz q => ?_)
  try dsimp only at q
  obtain ⟨rfl, rfl, K', hM, hK0, hK1, -, hK3, hwi, hA⟩ := q
  refine V_aload_n dX7_areaAnswer_9 0 rfl rfl ?_
  refine V_c_X7_118 rfl (by decide) (m_areaSize hM) dX7_areaAnswer_10 hM.1 rfl rfl (Nat.le_of_ble_eq_true rfl) (Nat.le_of_eq (Nat.zero_add _)) (Nat.le_of_eq (Nat.zero_add _)) (fun v w sz q => ?_)
  try dsimp only at q
  obtain ⟨rfl, rfl, rfl⟩ := q
  exact V_iret hE rfl dX7_areaAnswer_13 ⟨rfl, _, _, rfl, hM, hK0, hK1, hK3, _, _, hwi, hA, rfl⟩
set_option maxRecDepth 100000 in
set_option maxHeartbeats 4000000 in
theorem m_areaOf {w0 w : WD} {sz μ : Nat} {P : MP} {K : MK} {x y l a g : Int} (hM : MW w0 w μ P K) (hv : VZ P.1) (r : -2147483648 ≤ x ∧ x < 2147483648 ∧ -2147483648 ≤ y ∧ y < 2147483648 ∧ -2147483648 ≤ l ∧ l < 2147483648 ∧ -2147483648 ≤ a ∧ a < 2147483648 ∧ -2147483648 ≤ g ∧ g < 2147483648) : CT iX7_areaOf 0 0 [.ref μ, xI x, xI y, xI l, xI a, xI g] w sz (fun o9 w' sz' => sz' = sz ∧ ∃ r t P', o9 = some (xI r) ∧ MD w0 w' μ t P' ∧ aofR P x y l a g t r P') := by
  refine CT.ofZ (by decide) rfl (Nat.le_of_ble_eq_true rfl) (fun Z hE => ?_)
  refine V_aload_n dX7_areaOf_0 0 rfl rfl ?_
  refine V_iload_n dX7_areaOf_1 1 rfl rfl ?_
  refine V_iload_n dX7_areaOf_2 2 rfl rfl ?_
  refine V_c_X7_91 rfl (by decide) (m_isCell (by omega)) dX7_areaOf_3 rfl rfl (Nat.le_of_ble_eq_true rfl) (Nat.le_of_eq (Nat.zero_add _)) (Nat.le_of_eq (Nat.zero_add _)) (fun v w sz q => ?_)
  try dsimp only at q
  obtain ⟨rfl, rfl, rfl⟩ := q
  refine V_ifneB 13 dX7_areaOf_6 (by decide) (fun h6 => ?_) (fun h6 => ?_)
  · try simp only [decide_eq_true_eq, decide_eq_false_iff_not, Bool.not_eq_true] at h6
    refine V_iload_n dX7_areaOf_13 3 rfl rfl ?_
    refine V_iload dX7_areaOf_14 rfl ?_
    refine V_iload dX7_areaOf_16 rfl ?_
    refine V_c_X7_108 rfl (by decide) (m_isAsked (by omega)) dX7_areaOf_18 rfl rfl (Nat.le_of_ble_eq_true rfl) (Nat.le_of_eq (Nat.zero_add _)) (Nat.le_of_eq (Nat.zero_add _)) (fun v w sz q => ?_)
    try dsimp only at q
    obtain ⟨rfl, rfl, rfl⟩ := q
    refine V_ifeqB 28 dX7_areaOf_21 (by decide) (fun h21 => ?_) (fun h21 => ?_)
    · try simp only [decide_eq_true_eq, decide_eq_false_iff_not, Bool.not_eq_true] at h21
      refine V_iconst dX7_areaOf_28 ?_
      refine M_p_thrown hM rfl dX7_areaOf_29 (fun w hM => ?_)
      try dsimp only at hM
      refine V_aload_n dX7_areaOf_32 0 rfl rfl ?_
      refine M_g_thrown hM rfl dX7_areaOf_33 ?_
      try dsimp only
      refine V_if_le 43 dX7_areaOf_36 (by decide) (by omega) (fun h36 => ?_) (fun h36 => ?_)
      · exact absurd h36 (by simp)
      · refine V_iconst dX7_areaOf_39 ?_
        refine V_goto 58 dX7_areaOf_40 (by decide) ?_
        exact V_iret hE rfl dX7_areaOf_58 ⟨rfl, 0, 2, _, rfl, ⟨_, hM, rfl⟩, rfl, Or.inr (Or.inl ⟨by omega, by omega, rfl⟩)⟩
    · try simp only [decide_eq_true_eq, decide_eq_false_iff_not, Bool.not_eq_true] at h21
      refine V_iconst dX7_areaOf_24 ?_
      refine V_goto 29 dX7_areaOf_25 (by decide) ?_
      refine M_p_thrown hM rfl dX7_areaOf_29 (fun w hM => ?_)
      try dsimp only at hM
      refine V_aload_n dX7_areaOf_32 0 rfl rfl ?_
      refine M_g_thrown hM rfl dX7_areaOf_33 ?_
      try dsimp only
      refine V_if_le 43 dX7_areaOf_36 (by decide) (by omega) (fun h36 => ?_) (fun h36 => ?_)
      · refine V_aload_n dX7_areaOf_43 0 rfl rfl ?_
        refine V_bipush dX7_areaOf_44 (by decide) ?_
        refine V_iload_n dX7_areaOf_46 2 rfl rfl ?_
        refine V_imul dX7_areaOf_47 ?_
        refine V_iload_n dX7_areaOf_48 1 rfl rfl ?_
        refine V_iadd dX7_areaOf_49 ?_
        refine V_iload_n dX7_areaOf_50 3 rfl rfl ?_
        refine V_iload dX7_areaOf_51 rfl ?_
        refine V_iload dX7_areaOf_53 rfl ?_
        refine V_c_X7_175 rfl (by decide) (m_areaAnswer hM hv.1 (by omega) (by omega) (by omega) (by omega)) dX7_areaOf_55 hM.1 rfl rfl (Nat.le_of_ble_eq_true rfl) (Nat.le_of_eq (Nat.zero_add _)) (Nat.le_of_eq (Nat.zero_add _)) (fun v w sz q => ?_)
        try dsimp only at q
        obtain ⟨rfl, r9, K', rfl, hM, hK0, -, -, hR⟩ := q
        exact V_iret hE rfl dX7_areaOf_58 ⟨rfl, _, 0, _, rfl, ⟨_, hM, hK0⟩, rfl, Or.inr (Or.inr ⟨by omega, by omega, rfl, hR⟩)⟩
      · exact absurd h36 (by simp)
  · try simp only [decide_eq_true_eq, decide_eq_false_iff_not, Bool.not_eq_true] at h6
    refine V_iconst dX7_areaOf_9 ?_
    refine V_goto 29 dX7_areaOf_10 (by decide) ?_
    refine M_p_thrown hM rfl dX7_areaOf_29 (fun w hM => ?_)
    try dsimp only at hM
    refine V_aload_n dX7_areaOf_32 0 rfl rfl ?_
    refine M_g_thrown hM rfl dX7_areaOf_33 ?_
    try dsimp only
    refine V_if_le 43 dX7_areaOf_36 (by decide) (by omega) (fun h36 => ?_) (fun h36 => ?_)
    · exact absurd h36 (by simp)
    · refine V_iconst dX7_areaOf_39 ?_
      refine V_goto 58 dX7_areaOf_40 (by decide) ?_
      exact V_iret hE rfl dX7_areaOf_58 ⟨rfl, 0, 1, _, rfl, ⟨_, hM, rfl⟩, rfl, Or.inl ⟨by omega, rfl⟩⟩
