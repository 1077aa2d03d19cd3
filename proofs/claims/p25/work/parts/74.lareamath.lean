/-! p25's law: areas by rows of bits, the mathematics -/
theorem nsum_le {f g : Int → Int} : ∀ n : Nat, (∀ j : Int, 0 ≤ j → j < n → f j ≤ g j) → nsum f n ≤ nsum g n
  | 0, _ => Int.le_refl _
  | n + 1, h => by
    have h1 := nsum_le n (fun j h0 h1 => h j h0 (by omega))
    have h2 := h n (by omega) (by omega)
    show nsum f n + f n ≤ nsum g n + g n
    omega
theorem isum_le {f g : Int → Int} {k : Int} (h : ∀ j, 0 ≤ j → j < k → f j ≤ g j) : isum f k ≤ isum g k := nsum_le _ (fun j h1 h2 => h j h1 (by omega))
theorem cnt_le {A B : Int → Bool} (h : ∀ c, 0 ≤ c → c < 160 → A c = true → B c = true) : cnt A ≤ cnt B := by
  refine isum_le (fun j h0 h1 => ?_)
  show b2i (A j) ≤ b2i (B j)
  cases e : A j with
  | false => have := b2i_r (B j); rw [b2i_f]; omega
  | true => rw [h j h0 h1 e, b2i_t]; omega
theorem cnt_lt2 {A B : Int → Bool} {c : Int} (h : ∀ c, 0 ≤ c → c < 160 → A c = true → B c = true) (c0 : 0 ≤ c) (c1 : c < 160) (ha : A c = false) (hb : B c = true) : cnt A < cnt B := by
  have e := cnt_iu (A := A) (k := c) (b := true) c0 c1
  have l : cnt (iu A c true) ≤ cnt B := cnt_le (fun j h0 h1 q => by
    unfold iu at q
    by_cases hj : j = c
    · rw [hj]; exact hb
    · rw [if_neg hj] at q
      exact h j h0 h1 q)
  rw [ha, b2i_t, b2i_f] at e
  omega
/-! the width -/
def goW (RS RG : Int → Int) (x y u k : Int) : Prop := ∀ j, 0 ≤ j → j < k → (0 ≤ RG j ∧ RG j < 65536) ∧ ∀ c, 0 ≤ c → c < 16 → (tb (RG j) c = true ↔ tb (RS j) c = true ∧ (0 ≤ x - c ∧ x - c ≤ u) ∧ (0 ≤ y - j ∧ y - j ≤ u))
def goR (RS : Int → Int) (x y u k i v : Int) : Prop := (0 ≤ v ∧ v < 65536) ∧ ∀ c, 0 ≤ c → c < 16 → (tb v c = true ↔ tb (RS k) c = true ∧ (0 ≤ x - c ∧ x - c < i) ∧ (0 ≤ y - k ∧ y - k ≤ u))
theorem goR.zero {RS : Int → Int} {x y u k : Int} : goR RS x y u k 0 0 := ⟨by omega, fun c _ _ => by rw [tb_0]; constructor; intro q; cases q; rintro ⟨-, q, -⟩; omega⟩
theorem goR.nxt {RS : Int → Int} {x y u k i v : Int} (h : goR RS x y u k i v) (hRS : rr RS) (hk : 0 ≤ k ∧ k < 10) (hi : 0 ≤ i) (hy : 0 ≤ y - k ∧ y - k ≤ u) (hx : 0 ≤ x - i ∧ x - i < 16) : goR RS x y u k (i + 1) (iOr v (iAnd (RS k) (iShl 1 (x - i)))) := by
  have h1 := hRS k hk.1 hk.2
  have hl := iAnd_l (a := RS k) (b := iShl 1 (x - i)) h1.1
  refine ⟨⟨iOr_0, iOr_16 h.1.2 (by omega)⟩, fun c c0 c1 => ?_⟩
  rw [tb_or, tb_and, tb_bit hx.1 c0, Bool.or_eq_true, Bool.and_eq_true, decide_eq_true_eq, h.2 c c0 c1]
  constructor
  · rintro (⟨q1, q2, q3⟩ | ⟨q1, q2⟩)
    · exact ⟨q1, by omega, q3⟩
    · exact ⟨q1, by omega, hy⟩
  · rintro ⟨q1, q2, q3⟩
    by_cases e : c = x - i
    · exact Or.inr ⟨q1, e⟩
    · exact Or.inl ⟨q1, by omega, q3⟩
theorem goR.skip {RS : Int → Int} {x y u k i v : Int} (h : goR RS x y u k i v) (hx : x - i < 0) : goR RS x y u k (i + 1) v := ⟨h.1, fun c c0 c1 => by rw [h.2 c c0 c1]; constructor <;> rintro ⟨q1, q2, q3⟩ <;> exact ⟨q1, by omega, q3⟩⟩
theorem goR.fin {RS : Int → Int} {x y u k i v : Int} (h : goR RS x y u k i v) (hi : i = u + 1 ∨ ¬ (0 ≤ y - k ∧ y - k ≤ u)) : goR RS x y u k (u + 1) v := ⟨h.1, fun c c0 c1 => by rw [h.2 c c0 c1]; constructor <;> rintro ⟨q1, q2, q3⟩ <;> exact ⟨q1, by omega, q3⟩⟩
theorem goW.set {RS RG : Int → Int} {x y u k : Int} (h : goW RS RG x y u k) (hv : goR RS x y u k (u + 1) (RG k)) : goW RS RG x y u (k + 1) := by
  intro j j0 j1
  by_cases q : j = k
  · rw [q]
    exact ⟨hv.1, fun c c0 c1 => by rw [hv.2 c c0 c1]; constructor <;> rintro ⟨q1, q2, q3⟩ <;> exact ⟨q1, by omega, q3⟩⟩
  · exact h j j0 (by omega)
theorem goW.u {RS RG : Int → Int} {x y u k v : Int} (h : goW RS RG x y u k) : goW RS (iu RG k v) x y u k := fun j j0 j1 => by rw [iu_n (by omega)]; exact h j j0 j1
/-- seeds: all squares over f -/
def Gsd (a : Int → Prop) (RG : Int → Int) (f u : Int) : Prop := rr RG ∧ ∀ c, 0 ≤ c → c < 160 → (cb RG c = true ↔ sqA a u c ∧ iLies f c u)
theorem goW.fin {a : Int → Prop} {RS RG : Int → Int} {x y u : Int} (h : goW RS RG x y u 10) (hc : iCell x y) (hS : ∀ c, 0 ≤ c → c < 160 → (cb RS c = true ↔ sqA a u c)) : Gsd a RG (16 * y + x) u := by
  refine ⟨fun k k0 k1 => (h k k0 k1).1, fun c c0 c1 => ?_⟩
  have e := (h (c / 16) (by omega) (by omega)).2 (c % 16) (by omega) (by omega)
  have e2 := hS c c0 c1
  unfold cb at e2 ⊢
  rw [e, e2]
  unfold iLies
  rw [show (16 * y + x) % 16 = x by omega, show (16 * y + x) / 16 = y by omega]
theorem Gsd.li {a : Int → Prop} {RG : Int → Int} {f u : Int} (h : Gsd a RG f u) : liA a f u ↔ ∃ k, 0 ≤ k ∧ k < 10 ∧ RG k ≠ 0 := by
  constructor
  · rintro ⟨q, q0, q1, hs, hl⟩
    have e := (h.2 q q0 q1).mpr ⟨hs, hl⟩
    refine ⟨q / 16, by omega, by omega, (tb_n0 (h.1 _ (by omega) (by omega))).mpr ⟨q % 16, by omega, by omega, e⟩⟩
  · rintro ⟨k, k0, k1, hk⟩
    obtain ⟨x, x0, x1, e⟩ := (tb_n0 (h.1 k k0 k1)).mp hk
    have e2 := (h.2 (16 * k + x) (by omega) (by omega)).mp (by rw [cb_at ⟨x0, x1⟩]; exact e)
    exact ⟨16 * k + x, by omega, by omega, e2.1, e2.2⟩
/-- the search of the width -/
def BG (a : Int → Prop) (RS RG : Int → Int) (f gap W β : Int) : Prop := (β = 0 ∧ (1 ≤ W ∧ W ≤ gap + 1) ∧ ∀ w', W ≤ w' → w' ≤ gap → ¬ liA a f w') ∨ (β = 1 ∧ (0 ≤ W ∧ W ≤ gap) ∧ wiA a f gap W ∧ rr RS ∧ (∀ c, 0 ≤ c → c < 160 → (cb RS c = true ↔ sqA a W c)) ∧ Gsd a RG f W)
theorem BG.start {a : Int → Prop} {RS RG : Int → Int} {f gap : Int} (hg : 0 ≤ gap) : BG a RS RG f gap (gap + 1) 0 := Or.inl ⟨rfl, by omega, fun w' h1 h2 => by omega⟩
theorem BG.nxt {a : Int → Prop} {RS RG RS0 RG0 : Int → Int} {f gap W β : Int} (h : BG a RS0 RG0 f gap W 0) (hS : rr RS) (hS2 : ∀ c, 0 ≤ c → c < 160 → (cb RS c = true ↔ sqA a (W - 1) c)) (hG : Gsd a RG f (W - 1)) (hβ : β = 0 ∨ β = 1) (hb : β = 1 ↔ ∃ k, 0 ≤ k ∧ k < 10 ∧ RG k ≠ 0) (h0 : liA a f 0) : BG a RS RG f gap (W - 1) β := by
  rcases h with ⟨-, hW, hn⟩ | ⟨h, -⟩
  · rcases hβ with rfl | rfl
    · have hno : ¬ liA a f (W - 1) := fun q => by
        have := hb.mpr (hG.li.mp q)
        omega
      refine Or.inl ⟨rfl, ?_, fun w' h1 h2 => ?_⟩
      · by_cases q : W = 1
        · subst q
          exact absurd h0 hno
        · omega
      · by_cases q : w' = W - 1
        · rw [q]; exact hno
        · exact hn w' (by omega) h2
    · have hli := hG.li.mpr (hb.mp rfl)
      exact Or.inr ⟨rfl, by omega, ⟨by omega, by omega, hli, fun w' h1 h2 => hn w' (by omega) h2⟩, hS, hS2, hG⟩
  · exact absurd h (by decide)
/-! what is near -/
def nbP (R : Int → Int) (W k i j x : Int) : Prop := ∃ i' j', (0 ≤ i' ∧ k - W ≤ i') ∧ (0 ≤ j' ∧ j' ≤ W) ∧ (i' < i ∨ (i' = i ∧ j' < j)) ∧ ((j' ≤ x ∧ tb (R i') (x - j') = true) ∨ tb (R i') (x + j') = true)
def nbB (R : Int → Int) (W k i j m : Int) : Prop := (0 ≤ m ∧ m < 4194304) ∧ ∀ x, 0 ≤ x → x < 16 → (tb m x = true ↔ nbP R W k i j x)
theorem nbB.start {R : Int → Int} {W k i : Int} (hi : i ≤ 0 ∨ i ≤ k - W) : nbB R W k i 0 0 := ⟨by omega, fun x x0 x1 => by
  rw [tb_0]
  constructor
  · intro q; cases q
  · rintro ⟨i', j', q1, q2, q3, -⟩; omega⟩
theorem nbB.nxt {R : Int → Int} {W k i m : Int} (h : nbB R W k i (W + 1) m) : nbB R W k (i + 1) 0 m := ⟨h.1, fun x x0 x1 => by
  rw [h.2 x x0 x1]
  constructor
  · rintro ⟨i', j', q1, q2, q3, q4⟩
    exact ⟨i', j', q1, q2, by omega, q4⟩
  · rintro ⟨i', j', q1, q2, q3, q4⟩
    exact ⟨i', j', q1, q2, by omega, q4⟩⟩
theorem nbB.or {R : Int → Int} {W k i j m : Int} (h : nbB R W k i j m) (hR : rr R) (hi : 0 ≤ i ∧ i < 10 ∧ k - W ≤ i) (hj : 0 ≤ j ∧ j ≤ W) (hW : W ≤ 5) : nbB R W k i (j + 1) (iOr m (iOr (iShl (R i) j) (iShr (R i) j))) := by
  have h1 := hR i hi.1 hi.2.1
  have h2 := iShl_5 (a := R i) (s := j) h1.2 (by omega)
  have h3 := iShr_l (a := R i) (s := j) h1.1
  refine ⟨⟨iOr_0, iOr_22 h.1.2 (iOr_22 h2 (by omega))⟩, fun x x0 x1 => ?_⟩
  rw [tb_or, tb_or, tb_shl hj.1 x0, tb_shr hj.1 x0, Bool.or_eq_true, Bool.or_eq_true, Bool.and_eq_true, decide_eq_true_eq, h.2 x x0 x1]
  constructor
  · rintro (⟨i', j', q1, q2, q3, q4⟩ | q)
    · exact ⟨i', j', q1, q2, by omega, q4⟩
    · exact ⟨i, j, by omega, by omega, by omega, q⟩
  · rintro ⟨i', j', q1, q2, q3, q4⟩
    by_cases e : i' = i ∧ j' = j
    · rw [e.1, e.2] at q4
      exact Or.inr q4
    · exact Or.inl ⟨i', j', q1, q2, by omega, q4⟩
/-- the cells next to those of R -/
def nrS (R : Int → Int) (W k m : Int) : Prop := (0 ≤ m ∧ m < 4194304) ∧ ∀ x, 0 ≤ x → x < 16 → (tb m x = true ↔ ∃ c, 0 ≤ c ∧ c < 160 ∧ cb R c = true ∧ adj W c (16 * k + x))
theorem nbB.fin {R : Int → Int} {W k i m : Int} (h : nbB R W k i 0 m) (hR : rr R) (hk : 0 ≤ k ∧ k < 10) (hW : 1 ≤ W ∧ W ≤ 5) (hi : k + W < i ∨ 10 ≤ i) (hi2 : i ≤ k + W + 1 ∧ i ≤ 10) : nrS R W k m := by
  refine ⟨h.1, fun x x0 x1 => ?_⟩
  rw [h.2 x x0 x1]
  constructor
  · rintro ⟨i', j', q1, q2, q3, q4⟩
    rcases q4 with ⟨q4, q5⟩ | q4
    · refine ⟨16 * i' + (x - j'), by omega, by omega, by rw [cb_at (by omega)]; exact q5, ?_⟩
      show if W = 0 then _ else _
      rw [if_neg (by omega)]
      unfold ifar iabs
      (repeat' split) <;> omega
    · have hx : x + j' < 16 := by
        by_cases e : x + j' < 16
        · exact e
        · rw [tb_hi (hR i' (by omega) (by omega)).2 (by omega)] at q4
          cases q4
      refine ⟨16 * i' + (x + j'), by omega, by omega, by rw [cb_at (by omega)]; exact q4, ?_⟩
      show if W = 0 then _ else _
      rw [if_neg (by omega)]
      unfold ifar iabs
      (repeat' split) <;> omega
  · rintro ⟨c, c0, c1, hb, ha⟩
    replace ha : ifar c (16 * k + x) ≤ W := by
      have ha2 : if W = 0 then stp c (16 * k + x) = 1 else ifar c (16 * k + x) ≤ W := ha
      rwa [if_neg (by omega)] at ha2
    have key : -W ≤ c % 16 - x ∧ c % 16 - x ≤ W ∧ -W ≤ c / 16 - k ∧ c / 16 - k ≤ W := by
      unfold ifar iabs at ha
      (repeat' split at ha) <;> omega
    unfold cb at hb
    by_cases e : c % 16 ≤ x
    · exact ⟨c / 16, x - c % 16, by omega, by omega, by omega, Or.inl ⟨by omega, by rw [show x - (x - c % 16) = c % 16 by omega]; exact hb⟩⟩
    · exact ⟨c / 16, c % 16 - x, by omega, by omega, by omega, Or.inr (by rw [show x + (c % 16 - x) = c % 16 by omega]; exact hb)⟩
/-- with the width 0: the row itself, the one above, the one below -/
theorem nrS_0 {R : Int → Int} {k a b : Int} (hR : rr R) (hk : 0 ≤ k ∧ k < 10) (ha : a = if 0 < k then R (k - 1) else 0) (hb : b = if k < 9 then R (k + 1) else 0) : nrS R 0 k (iOr (iOr (iShl (R k) 1) (iShr (R k) 1)) (iOr a b)) := by
  have h1 := hR k hk.1 hk.2
  have h2 := iShl_5 (a := R k) (s := 1) h1.2 (by omega)
  have h3 := iShr_l (a := R k) (s := 1) h1.1
  have ra : 0 ≤ a ∧ a < 65536 := by
    rw [ha]
    split
    · exact hR _ (by omega) (by omega)
    · omega
  have rb : 0 ≤ b ∧ b < 65536 := by
    rw [hb]
    split
    · exact hR _ (by omega) (by omega)
    · omega
  refine ⟨⟨iOr_0, iOr_22 (iOr_22 h2 (by omega)) (iOr_22 (by omega) (by omega))⟩, fun x x0 x1 => ?_⟩
  rw [tb_or, tb_or, tb_or, tb_shl (by omega) x0, tb_shr (by omega) x0, Bool.or_eq_true, Bool.or_eq_true, Bool.or_eq_true, Bool.and_eq_true, decide_eq_true_eq]
  constructor
  · rintro ((⟨q, q2⟩ | q) | (q | q))
    · refine ⟨16 * k + (x - 1), by omega, by omega, by rw [cb_at (by omega)]; exact q2, ?_⟩
      show if (0 : Int) = 0 then _ else _
      rw [if_pos rfl]
      unfold stp iabs
      (repeat' split) <;> omega
    · have hx : x + 1 < 16 := by
        by_cases e : x + 1 < 16
        · exact e
        · rw [tb_hi h1.2 (by omega)] at q
          cases q
      refine ⟨16 * k + (x + 1), by omega, by omega, by rw [cb_at (by omega)]; exact q, ?_⟩
      show if (0 : Int) = 0 then _ else _
      rw [if_pos rfl]
      unfold stp iabs
      (repeat' split) <;> omega
    · by_cases e : 0 < k
      · rw [ha, if_pos e] at q
        refine ⟨16 * (k - 1) + x, by omega, by omega, by rw [cb_at (by omega)]; exact q, ?_⟩
        show if (0 : Int) = 0 then _ else _
        rw [if_pos rfl]
        unfold stp iabs
        (repeat' split) <;> omega
      · rw [ha, if_neg e, tb_0] at q
        cases q
    · by_cases e : k < 9
      · rw [hb, if_pos e] at q
        refine ⟨16 * (k + 1) + x, by omega, by omega, by rw [cb_at (by omega)]; exact q, ?_⟩
        show if (0 : Int) = 0 then _ else _
        rw [if_pos rfl]
        unfold stp iabs
        (repeat' split) <;> omega
      · rw [hb, if_neg e, tb_0] at q
        cases q
  · rintro ⟨c, c0, c1, hc, hq⟩
    replace hq : stp c (16 * k + x) = 1 := by
      have hq2 : if (0 : Int) = 0 then stp c (16 * k + x) = 1 else ifar c (16 * k + x) ≤ 0 := hq
      rwa [if_pos rfl] at hq2
    have key : (c / 16 = k ∧ c % 16 = x - 1) ∨ (c / 16 = k ∧ c % 16 = x + 1) ∨ (c / 16 = k - 1 ∧ c % 16 = x) ∨ (c / 16 = k + 1 ∧ c % 16 = x) := by
      unfold stp iabs at hq
      (repeat' split at hq) <;> omega
    unfold cb at hc
    rcases key with ⟨e1, e2⟩ | ⟨e1, e2⟩ | ⟨e1, e2⟩ | ⟨e1, e2⟩ <;> rw [e1, e2] at hc
    · exact Or.inl (Or.inl ⟨by omega, hc⟩)
    · exact Or.inl (Or.inr hc)
    · refine Or.inr (Or.inl ?_)
      rw [ha, if_pos (by omega)]
      exact hc
    · refine Or.inr (Or.inr ?_)
      rw [hb, if_pos (by omega)]
      exact hc
/-! the squares that are joined -/
def Jnd (a : Int → Prop) (R : Int → Int) (f W : Int) : Prop := rr R ∧ (∀ c, 0 ≤ c → c < 160 → cb R c = true → joA a f W c) ∧ (∀ c, 0 ≤ c → c < 160 → sqA a W c → iLies f c W → cb R c = true) ∧ ∀ c, 0 ≤ c → c < 160 → cb R c = true → sqA a W c
theorem Gsd.jnd {a : Int → Prop} {R : Int → Int} {f W : Int} (h : Gsd a R f W) : Jnd a R f W := ⟨h.1, fun c c0 c1 q => joA_seed c0 c1 ((h.2 c c0 c1).mp q).1 ((h.2 c c0 c1).mp q).2, fun c c0 c1 q1 q2 => (h.2 c c0 c1).mpr ⟨q1, q2⟩, fun c c0 c1 q => ((h.2 c c0 c1).mp q).1⟩
/-- a row's new bits -/
theorem cb_row {R : Int → Int} {k v c : Int} : cb (iu R k v) c = if c / 16 = k then tb v (c % 16) else cb R c := by
  unfold cb iu
  by_cases q : c / 16 = k
  · rw [if_pos q, if_pos q]
  · rw [if_neg q, if_neg q]
theorem more_t {R S : Int → Int} {k m x : Int} : tb (iOr (R k) (iAnd (S k) m)) x = (tb (R k) x || (tb (S k) x && tb m x)) := by rw [tb_or, tb_and]
theorem more_r {R S : Int → Int} {k m : Int} (hR : rr R) (hS : rr S) (hk : 0 ≤ k ∧ k < 10) : 0 ≤ iOr (R k) (iAnd (S k) m) ∧ iOr (R k) (iAnd (S k) m) < 65536 := ⟨iOr_0, iOr_16 (hR k hk.1 hk.2).2 (by have := iAnd_l (a := S k) (b := m) (hS k hk.1 hk.2).1; have := hS k hk.1 hk.2; omega)⟩
theorem Jnd.row {a : Int → Prop} {R S : Int → Int} {f W k m : Int} (h : Jnd a R f W) (hS : rr S) (hS2 : ∀ c, 0 ≤ c → c < 160 → (cb S c = true ↔ sqA a W c)) (hk : 0 ≤ k ∧ k < 10) (hm : nrS R W k m) : Jnd a (iu R k (iOr (R k) (iAnd (S k) m))) f W := by
  obtain ⟨h1, h2, h3, h4⟩ := h
  have key : ∀ c, 0 ≤ c → c < 160 → cb (iu R k (iOr (R k) (iAnd (S k) m))) c = true → cb R c = true ∨ (sqA a W c ∧ ∃ i, 0 ≤ i ∧ i < 160 ∧ cb R i = true ∧ adj W i c) := by
    intro c c0 c1 q
    rw [cb_row] at q
    by_cases e : c / 16 = k
    · rw [if_pos e, more_t, Bool.or_eq_true, Bool.and_eq_true] at q
      rcases q with q | ⟨q, q2⟩
      · refine Or.inl ?_
        unfold cb
        rw [e]
        exact q
      · have q3 := (hm.2 (c % 16) (by omega) (by omega)).mp q2
        rw [show 16 * k + c % 16 = c by omega] at q3
        refine Or.inr ⟨(hS2 c c0 c1).mp ?_, q3⟩
        unfold cb
        rw [e]
        exact q
    · rw [if_neg e] at q
      exact Or.inl q
  refine ⟨h1.u (more_r h1 hS hk), fun c c0 c1 q => ?_, fun c c0 c1 q1 q2 => ?_, fun c c0 c1 q => ?_⟩
  · rcases key c c0 c1 q with q | ⟨q1, i, i0, i1, q2, q3⟩
    · exact h2 c c0 c1 q
    · exact joA_step (h2 i i0 i1 q2) i0 i1 c0 c1 q1 q3
  · have e := h3 c c0 c1 q1 q2
    rw [cb_row]
    by_cases q : c / 16 = k
    · rw [if_pos q, more_t]
      unfold cb at e
      rw [q] at e
      rw [e, Bool.true_or]
    · rw [if_neg q]
      exact e
  · rcases key c c0 c1 q with q | ⟨q1, -⟩
    · exact h4 c c0 c1 q
    · exact q1
def Swj (a : Int → Prop) (R R2 : Int → Int) (W γ k : Int) : Prop := (γ = 0 ∧ (∀ j, 0 ≤ j → j < 10 → R2 j = R j) ∧ ∀ c, 0 ≤ c → c < 160 → c / 16 < k → sqA a W c → (∃ i, 0 ≤ i ∧ i < 160 ∧ cb R i = true ∧ adj W i c) → cb R c = true) ∨ (γ = 1 ∧ cnt (cb R) < cnt (cb R2))
theorem Swj.r {a : Int → Prop} {R R2 : Int → Int} {W γ k : Int} (h : Swj a R R2 W γ k) : 0 ≤ γ ∧ γ ≤ 1 := by
  rcases h with ⟨h, -⟩ | ⟨h, -⟩ <;> omega
theorem cb_eq {R R2 : Int → Int} (h : ∀ j, 0 ≤ j → j < 10 → R2 j = R j) {c : Int} (c0 : 0 ≤ c) (c1 : c < 160) : cb R2 c = cb R c := by
  unfold cb
  rw [h _ (by omega) (by omega)]
theorem Swj.row {a : Int → Prop} {R R2 S : Int → Int} {f W γ γ' k m : Int} (h : Swj a R R2 W γ k) (hJ : Jnd a R2 f W) (hS : rr S) (hS2 : ∀ c, 0 ≤ c → c < 160 → (cb S c = true ↔ sqA a W c)) (hk : 0 ≤ k ∧ k < 10) (hm : nrS R2 W k m) (hγ : (γ' = 0 ∨ γ' = 1) ∧ (γ' = 1 ↔ γ = 1 ∨ iOr (R2 k) (iAnd (S k) m) ≠ R2 k)) : Swj a R (iu R2 k (iOr (R2 k) (iAnd (S k) m))) W γ' (k + 1) := by
  have up : ∀ c, 0 ≤ c → c < 160 → cb R2 c = true → cb (iu R2 k (iOr (R2 k) (iAnd (S k) m))) c = true := by
    intro c c0 c1 e
    rw [cb_row]
    by_cases q : c / 16 = k
    · rw [if_pos q, more_t]
      unfold cb at e
      rw [q] at e
      rw [e, Bool.true_or]
    · rw [if_neg q]
      exact e
  rcases h with ⟨h1, h2, h3⟩ | ⟨h1, h2⟩
  · by_cases e : iOr (R2 k) (iAnd (S k) m) = R2 k
    · have hg : γ' = 0 := by
        rcases hγ.1 with q | q
        · exact q
        · rcases hγ.2.mp q with q | q
          · omega
          · exact absurd e q
      refine Or.inl ⟨hg, fun j j0 j1 => ?_, fun c c0 c1 c2 q1 q2 => ?_⟩
      · by_cases q : j = k
        · rw [q, iu_s, e]
          exact h2 k hk.1 hk.2
        · rw [iu_n q]
          exact h2 j j0 j1
      · by_cases q : c / 16 = k
        · obtain ⟨i, i0, i1, q3, q4⟩ := q2
          have t1 : tb (iOr (R2 k) (iAnd (S k) m)) (c % 16) = true := by
            rw [more_t, (hm.2 (c % 16) (by omega) (by omega)).mpr ⟨i, i0, i1, by rw [cb_eq h2 i0 i1]; exact q3, by rw [show 16 * k + c % 16 = c by omega]; exact q4⟩, Bool.and_true]
            have := (hS2 c c0 c1).mpr q1
            unfold cb at this
            rw [q] at this
            rw [this, Bool.or_true]
          rw [e] at t1
          rw [← cb_eq h2 c0 c1]
          unfold cb
          rw [q]
          exact t1
        · exact h3 c c0 c1 (by omega) q1 q2
    · refine Or.inr ⟨hγ.2.mpr (Or.inr e), ?_⟩
      have hne : ∃ x, 0 ≤ x ∧ x < 16 ∧ tb (iOr (R2 k) (iAnd (S k) m)) x ≠ tb (R2 k) x := by
        refine Classical.byContradiction (fun q => e (tb_ext (more_r hJ.1 hS hk) (hJ.1 k hk.1 hk.2) (fun x x0 x1 => ?_)))
        exact Classical.byContradiction (fun q2 => q ⟨x, x0, x1, q2⟩)
      obtain ⟨x, x0, x1, hx⟩ := hne
      have f1 : cb R2 (16 * k + x) = false := by
        rw [cb_at ⟨x0, x1⟩]
        cases q : tb (R2 k) x with
        | false => rfl
        | true =>
          rw [more_t, q, Bool.true_or] at hx
          exact absurd rfl hx
      have f2 : cb (iu R2 k (iOr (R2 k) (iAnd (S k) m))) (16 * k + x) = true := by
        rw [cb_at ⟨x0, x1⟩, iu_s]
        rw [cb_at ⟨x0, x1⟩] at f1
        rw [f1] at hx
        cases q : tb (iOr (R2 k) (iAnd (S k) m)) x with
        | true => rfl
        | false => rw [q] at hx; exact absurd rfl hx
      have l := cnt_lt2 up (by omega) (by omega) f1 f2
      have l2 : cnt (cb R) ≤ cnt (cb R2) := cnt_le (fun c c0 c1 q => by rw [cb_eq h2 c0 c1]; exact q)
      omega
  · refine Or.inr ⟨hγ.2.mpr (Or.inl h1), ?_⟩
    have l := cnt_le up
    omega
/-- all of them -/
theorem Jnd.fin {a : Int → Prop} {R R2 : Int → Int} {f W : Int} (h : Jnd a R f W) (hf : 0 ≤ f ∧ f < 160) (hw : Swj a R R2 W 0 10) : ∀ c, 0 ≤ c → c < 160 → (cb R c = true ↔ joA a f W c) := by
  intro c c0 c1
  rcases hw with ⟨-, -, hw⟩ | ⟨hw, -⟩
  · refine ⟨h.2.1 c c0 c1, fun q => ?_⟩
    exact q (fun k => cb R k = true) (fun i i0 i1 q1 q2 => h.2.2.1 i i0 i1 q1 q2) (fun i j hi i0 i1 j0 j1 q1 q2 => hw j j0 j1 (by omega) q1 ⟨i, i0, i1, hi, q2⟩)
  · exact absurd hw (by decide)
/-! the area's cells -/
def arP (G : Int → Int) (W k i j c : Int) : Prop := ∃ q dy dx, (0 ≤ q ∧ q < 160) ∧ cb G q = true ∧ (0 ≤ dy ∧ dy ≤ W) ∧ (0 ≤ dx ∧ dx ≤ W) ∧ (q / 16 < k ∨ (q / 16 = k ∧ (dy < i ∨ (dy = i ∧ dx < j)))) ∧ c = q + 16 * dy + dx
def arB (G R : Int → Int) (W k i j : Int) : Prop := rr R ∧ ∀ c, 0 ≤ c → c < 160 → (cb R c = true ↔ arP G W k i j c)
def gOk (G : Int → Int) (W : Int) : Prop := ∀ c, 0 ≤ c → c < 160 → cb G c = true → c % 16 + W < 16 ∧ c / 16 + W < 10
theorem arB.or {G R : Int → Int} {W k i j : Int} (h : arB G R W k i j) (hG : rr G) (hO : gOk G W) (hk : 0 ≤ k ∧ k + i < 10) (hi : 0 ≤ i ∧ i ≤ W) (hj : 0 ≤ j ∧ j ≤ W) (hW : W ≤ 15) : arB G (iu R (k + i) (iOr (R (k + i)) (iShl (G k) j))) W k i (j + 1) := by
  have hlt : iShl (G k) j < 65536 := by
    refine tb_lt iShl_0 (fun x hx => ?_)
    rw [tb_shl hj.1 (by omega), decide_eq_true (by omega), Bool.true_and]
    by_cases e : x - j < 16
    · cases q : tb (G k) (x - j) with
      | false => rfl
      | true =>
        have := hO (16 * k + (x - j)) (by omega) (by omega) (by rw [cb_at (by omega)]; exact q)
        omega
    · exact tb_hi (hG k (by omega) (by omega)).2 (by omega)
  refine ⟨h.1.u ⟨iOr_0, iOr_16 (h.1 _ (by omega) (by omega)).2 hlt⟩, fun c c0 c1 => ?_⟩
  have hc := h.2 c c0 c1
  constructor
  · intro q
    rw [cb_row] at q
    by_cases e : c / 16 = k + i
    · rw [if_pos e, tb_or, Bool.or_eq_true, tb_shl hj.1 (by omega), Bool.and_eq_true, decide_eq_true_eq] at q
      rcases q with q | ⟨q1, q2⟩
      · have q3 := hc.mp (by unfold cb; rw [e]; exact q)
        obtain ⟨q9, dy, dx, a1, a2, a3, a4, a5, a6⟩ := q3
        exact ⟨q9, dy, dx, a1, a2, a3, a4, by omega, a6⟩
      · exact ⟨16 * k + (c % 16 - j), i, j, by omega, by rw [cb_at (by omega)]; exact q2, hi, hj, by omega, by omega⟩
    · rw [if_neg e] at q
      obtain ⟨q9, dy, dx, a1, a2, a3, a4, a5, a6⟩ := hc.mp q
      exact ⟨q9, dy, dx, a1, a2, a3, a4, by omega, a6⟩
  · rintro ⟨q9, dy, dx, a1, a2, a3, a4, a5, a6⟩
    have o := hO q9 a1.1 a1.2 a2
    rw [cb_row]
    by_cases e : q9 / 16 = k ∧ dy = i ∧ dx = j
    · rw [if_pos (by omega), tb_or, tb_shl hj.1 (by omega), decide_eq_true (show j ≤ c % 16 by omega), Bool.true_and, show c % 16 - j = q9 % 16 by omega]
      unfold cb at a2
      rw [e.1] at a2
      rw [a2, Bool.or_true]
    · have q := hc.mpr ⟨q9, dy, dx, a1, a2, a3, a4, by omega, a6⟩
      by_cases e2 : c / 16 = k + i
      · rw [if_pos e2, tb_or]
        unfold cb at q
        rw [e2] at q
        rw [q, Bool.true_or]
      · rw [if_neg e2]
        exact q
theorem arB.nj {G R : Int → Int} {W k i : Int} (h : arB G R W k i (W + 1)) : arB G R W k (i + 1) 0 := ⟨h.1, fun c c0 c1 => by
  rw [h.2 c c0 c1]
  constructor <;> (rintro ⟨q9, dy, dx, a1, a2, a3, a4, a5, a6⟩; exact ⟨q9, dy, dx, a1, a2, a3, a4, by omega, a6⟩)⟩
theorem arB.ni {G R : Int → Int} {W k i : Int} (h : arB G R W k i 0) (hO : gOk G W) (hi : i = W + 1 ∨ (i ≤ W ∧ 10 ≤ k + i)) : arB G R W (k + 1) 0 0 := ⟨h.1, fun c c0 c1 => by
  rw [h.2 c c0 c1]
  constructor
  · rintro ⟨q9, dy, dx, a1, a2, a3, a4, a5, a6⟩
    exact ⟨q9, dy, dx, a1, a2, a3, a4, by omega, a6⟩
  · rintro ⟨q9, dy, dx, a1, a2, a3, a4, a5, a6⟩
    have o := hO q9 a1.1 a1.2 a2
    exact ⟨q9, dy, dx, a1, a2, a3, a4, by omega, a6⟩⟩
theorem arB.start {G R : Int → Int} {W : Int} (h : ∀ j, 0 ≤ j → j < 10 → R j = 0) : arB G R W 0 0 0 := ⟨fun k k0 k1 => by rw [h k k0 k1]; omega, fun c c0 c1 => by
  unfold cb
  rw [h _ (by omega) (by omega), tb_0]
  constructor
  · intro q; cases q
  · rintro ⟨q9, dy, dx, a1, a2, a3, a4, a5, a6⟩; omega⟩
theorem arB.fin {a : Int → Prop} {G R : Int → Int} {f W : Int} (h : arB G R W 10 0 0) (hO : gOk G W) (hG : ∀ c, 0 ≤ c → c < 160 → (cb G c = true ↔ joA a f W c)) : rr R ∧ ∀ c, 0 ≤ c → c < 160 → (cb R c = true ↔ arA a f W c) := ⟨h.1, fun c c0 c1 => by
  rw [h.2 c c0 c1]
  constructor
  · rintro ⟨q9, dy, dx, a1, a2, a3, a4, a5, a6⟩
    have o := hO q9 a1.1 a1.2 a2
    exact ⟨q9, a1.1, a1.2, (hG q9 a1.1 a1.2).mp a2, by unfold iLies; omega⟩
  · rintro ⟨q9, q0, q1, q2, q3⟩
    unfold iLies at q3
    exact ⟨q9, c / 16 - q9 / 16, c % 16 - q9 % 16, by omega, (hG q9 q0 q1).mpr q2, by omega, by omega, by omega, by omega⟩⟩
