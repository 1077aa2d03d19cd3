/-! a number's bits: it equals itself -/
theorem cmp_self (x : Int) : (compare x x : Ordering) = .eq := by
  show compareOfLessAndEq x x = .eq
  unfold compareOfLessAndEq
  rw [if_neg (by omega), if_pos rfl]
theorem order_self : ∀ d : FP.Core.Datum, d ≠ .nan → FP.Core.order d d = some .eq
  | .nan, h => absurd rfl h
  | .inf _, _ => congrArg some (cmp_self _)
  | .fin _ _ _, _ => congrArg some (cmp_self _)
theorem n64_dec {b : UInt64} (h : vf_n64 b) : FP.Core.decode FP.Core.b64 b.toNat ≠ .nan := by
  intro hn
  unfold FP.Core.decode at hn
  split at hn
  · rename_i h1
    split at hn
    · cases hn
    · rename_i h2
      have e1 : b.toNat / 4503599627370496 % 2048 = 2047 := h1
      have e2 : ¬ b.toNat % 4503599627370496 = 0 := h2
      have e3 := UInt64.le_iff_toNat_le.mp h
      rw [UInt64.toNat_and] at e3
      have e4 : b.toNat &&& 9223372036854775807 ≤ 9218868437227405312 := e3
      rw [show (9223372036854775807 : Nat) = 2 ^ 63 - 1 by rfl, Nat.and_two_pow_sub_one_eq_mod] at e4
      omega
  · split at hn <;> cases hn
theorem n64_cmp {b : UInt64} (h : vf_n64 b) : Op.cmpValue (FP.dcmp b b) .l = 0 := by
  have e : FP.dcmp b b = some .eq := order_self _ (n64_dec h)
  rw [e]
  rfl
theorem cov_n {z : Int → Int} (h : VZ z) : vf_n64 (covD z) := shD_n (imS_sum h)
/-! p25's law: what the calls of the class give it -/
theorem CT.ofX {J : XI} {mc ms : Nat} {as : List Value} {w : WD} {sz : Nat} {Q Q' : XQ} {QE : XE} (k : CX J mc ms as w sz Q QE) (h : ∀ v w' sz', Q v w' sz' → Q' v w' sz') (hx : ∀ E w' sz', ¬ QE E w' sz') : CT J mc ms as w sz Q' := by
  intro Γ l hl p e ha hc hk s m args below hf hap hpc ht
  obtain ⟨n, o, h1, h2, h3, h4⟩ := k Γ l hl p e ha hc hk s m args below hf hap hpc ht
  rcases h4 with ⟨h4, h5⟩ | ⟨q, rfl, E, ce, L, hx1, -⟩
  · exact ⟨n, o, h1, h2, h3, xQc.imp h h4, h5⟩
  · obtain ⟨⟨w', sz', hq, -⟩, -⟩ := hx1
    exact absurd hq (hx E w' sz')
abbrev OQ (w : WD) (χ : Nat) (P' : MP) (r : Int) : XQ := fun o9 w' sz' => o9 = some (xI r) ∧ TF w w' sz' χ ∧ CP w' χ P'
theorem OKQ.get {w w' : WD} {χ sz' : Nat} {R : Int → Int → MP → Prop} {v : Option Value} {r : Int} {P' : MP} (h : OKQ w χ R v w' sz') (hR : R 0 r P') : OQ w χ P' r v w' sz' := ⟨(h.2.2 0 r P' hR).2.1, h.2.1, (h.2.2 0 r P' hR).2.2⟩
theorem EXQ.no {w w' : WD} {χ sz' : Nat} {R : Int → Int → MP → Prop} {E0 E : String} {k r : Int} {P' : MP} (h : EXQ w χ R E0 k E w' sz') (hR : R 0 r P') (hk : k ≠ 0) : False := hk ((h.2.2 0 r P' hR).1).symm
theorem CX.w1 {J : XI} {mc ms χ : Nat} {as : List Value} {w : WD} {sz : Nat} {R : Int → Int → MP → Prop} {E1 : String} {r : Int} {P' : MP} (k : CX J mc ms as w sz (OKQ w χ R) (EXQ w χ R E1 1)) (hR : R 0 r P') : CT J mc ms as w sz (OQ w χ P' r) := CT.ofX k (fun _ _ _ h => OKQ.get h hR) (fun _ _ _ h => EXQ.no h hR (by decide))
theorem CX.w2 {J : XI} {mc ms χ : Nat} {as : List Value} {w : WD} {sz : Nat} {R : Int → Int → MP → Prop} {E1 E2 : String} {r : Int} {P' : MP} (k : CX J mc ms as w sz (OKQ w χ R) (EX2 w χ R E1 E2)) (hR : R 0 r P') : CT J mc ms as w sz (OQ w χ P' r) := CT.ofX k (fun _ _ _ h => OKQ.get h hR) (fun _ _ _ h => h.elim (fun h => EXQ.no h hR (by decide)) (fun h => EXQ.no h hR (by decide)))
theorem CX.w3 {J : XI} {mc ms χ : Nat} {as : List Value} {w : WD} {sz : Nat} {R : Int → Int → MP → Prop} {E1 E2 E3 : String} {r : Int} {P' : MP} (k : CX J mc ms as w sz (OKQ w χ R) (EX3 w χ R E1 E2 E3)) (hR : R 0 r P') : CT J mc ms as w sz (OQ w χ P' r) := CT.ofX k (fun _ _ _ h => OKQ.get h hR) (fun _ _ _ h => h.elim (fun h => EXQ.no h hR (by decide)) (fun h => h.elim (fun h => EXQ.no h hR (by decide)) (fun h => EXQ.no h hR (by decide))))
theorem CT.w0 {J : XI} {mc ms χ : Nat} {as : List Value} {w : WD} {sz : Nat} {R : Int → Int → MP → Prop} {r : Int} {P' : MP} (k : CT J mc ms as w sz (OKQ w χ R)) (hR : R 0 r P') : CT J mc ms as w sz (OQ w χ P' r) := CT.imp k (fun _ _ _ h => OKQ.get h hR)
theorem celR_0 {P : MP} {x y a : Int} (hc : iCell x y) (ha : 0 ≤ a ∧ a ≤ 2) : celR P x y a 0 (icel P.1 (imS P.1) (16 * y + x) a) P := by
  unfold celR
  exact ⟨rfl, Or.inr (Or.inr ⟨hc, ha, rfl, rfl⟩)⟩
theorem pkdR_0 {P : MP} {p a : Int} (hc : isP P.1 p) (ha : 0 ≤ a ∧ a ≤ 11) : pkdR P p a 0 (ipic P.1 p a) P := by
  unfold pkdR
  exact ⟨rfl, Or.inr (Or.inr ⟨hc, ha, rfl, rfl⟩)⟩
theorem lvlR_0 {P : MP} {p x y : Int} (hc : isP P.1 p) (h2 : iCell x y) : lvlR P p x y 0 (P.1 (161 + 169 * p + (9 + (16 * y + x)))) P := by
  unfold lvlR
  exact ⟨rfl, Or.inr ⟨⟨hc, h2⟩, rfl, rfl⟩⟩
theorem cntR_0 {P : MP} {a : Int} (ha : 0 ≤ a ∧ a ≤ 8) : cntR P a 0 (icnt P.1 (imS P.1) P.2.1 a) P := by
  unfold cntR
  exact ⟨rfl, Or.inr ⟨ha, rfl, rfl⟩⟩
theorem aofR_0 {P : MP} {x y l a g r : Int} (hc : iCell x y) (ha : aOk l a g) (hr : arN P.1 (16 * y + x) l a g r) : aofR P x y l a g 0 r P := by
  unfold aofR
  exact ⟨rfl, Or.inr (Or.inr ⟨hc, ha, rfl, hr⟩)⟩
/-- what is saved -/
theorem savR_ex (P : MP) (f : Int → Int) : ∃ P' : MP, P'.1 = f ∧ SavR P P' := by
  refine ⟨(f, isv P.2.1 + 1, (fun j => if j / 2189 = isv P.2.1 then P.1 (j % 2189) else P.2.2.1 (2189 * (if P.2.1 = 6 then j / 2189 + 1 else j / 2189) + j % 2189)), P.2.2.2), rfl, rfl, ⟨fun k k0 k1 => ?_, fun i k i0 i1 k0 k1 => ?_⟩, rfl⟩
  · dsimp only
    rw [show (2189 * isv P.2.1 + k) / 2189 = isv P.2.1 by omega, show (2189 * isv P.2.1 + k) % 2189 = k by omega, if_pos rfl]
  · dsimp only
    rw [show (2189 * i + k) / 2189 = i by omega, show (2189 * i + k) % 2189 = k by omega, if_neg (by omega)]
section LROWS3
variable {I : XI} {Z : XZ} {kc ks : Nat} {w : WD} {sz pc : Nat} {lv : List (Option Value)} {st : List Value}
/-- two ints that are the same -/
theorem V_icmp_neS {a b : Int} {off : Int} {t : Nat} (h : a = b) (hd : decode I.cc pc = .ok (.if_icmp .ne off, 3)) (ht : (pc : Int) + off = (t : Int)) (k : V I Z kc ks w sz (pc + 3) lv st) : V I Z kc ks w sz pc lv (xI b :: xI a :: st) := by
  subst h
  intro Γ p l e R s m args below meth c H locs cells slots ls C N L hc hs
  exact lv_icmp_ne C.1 C.2.1 hd ht (fun q => absurd rfl q) (fun _ => k Γ p l e R s m args below meth c H locs cells slots ls C N L hc hs)
theorem V_icmp_eqS {a b : Int} {off : Int} {t : Nat} (h : a = b) (hd : decode I.cc pc = .ok (.if_icmp .eq off, 3)) (ht : (pc : Int) + off = (t : Int)) (k : V I Z kc ks w sz t lv st) : V I Z kc ks w sz pc lv (xI b :: xI a :: st) := by
  subst h
  intro Γ p l e R s m args below meth c H locs cells slots ls C N L hc hs
  exact lv_icmp_eq C.1 C.2.1 hd ht (fun _ => k Γ p l e R s m args below meth c H locs cells slots ls C N L hc hs) (fun q => absurd rfl q)
end LROWS3
/-! the edge, cell by cell -/
theorem emk_b2 (f : Int → Int) (x y : Int) : 0 ≤ emk f x y ∧ emk f x y ≤ 1 := b2i_r _
def eN (a b : Int) : Int := if a ≠ b then 1 else 0
def rtM (f : Int → Int) (c : Int) : Int := if c % 16 < 15 then f (c + 1) else 0
def beM (f : Int → Int) (c : Int) : Int := if c / 16 < 9 then f (c + 16) else 0
def lE (f : Int → Int) (c : Int) : Int := eN (if 50 ≤ f c then 1 else 0) (if 50 ≤ rtM f c then 1 else 0) + eN (if 50 ≤ f c then 1 else 0) (if 50 ≤ beM f c then 1 else 0) + (if 50 ≤ f c then (if c % 16 = 0 then 1 else 0) + (if c / 16 = 0 then 1 else 0) else 0)
theorem lE_e {f : Int → Int} {x y : Int} (h : iCell x y) : lE f (16 * y + x) = ieg f x y + ((if x = 0 then emk f 0 y else 0) + (if y = 0 then emk f x 0 else 0)) := by
  have e1 : (16 * y + x) % 16 = x := by omega
  have e2 : (16 * y + x) / 16 = y := by omega
  have m1 := emk_i (f := f) h
  have m2 : (if 50 ≤ rtM f (16 * y + x) then (1 : Int) else 0) = emk f (x + 1) y := by
    unfold rtM
    rw [e1]
    by_cases q : x < 15
    · rw [if_pos q, emk_i (f := f) (x := x + 1) (y := y) (by omega), show 16 * y + (x + 1) = 16 * y + x + 1 by omega]
    · rw [if_neg q, emk_o (f := f) (x := x + 1) (y := y) (by omega), if_neg (by omega)]
  have m3 : (if 50 ≤ beM f (16 * y + x) then (1 : Int) else 0) = emk f x (y + 1) := by
    unfold beM
    rw [e2]
    by_cases q : y < 9
    · rw [if_pos q, emk_i (f := f) (x := x) (y := y + 1) (by omega), show 16 * (y + 1) + x = 16 * y + x + 16 by omega]
    · rw [if_neg q, emk_o (f := f) (x := x) (y := y + 1) (by omega), if_neg (by omega)]
  have m4 : ieg f x y = eN (emk f x y) (emk f (x + 1) y) + eN (emk f x y) (emk f x (y + 1)) := by
    unfold ieg emk eN
    cases imk f x y <;> cases imk f (x + 1) y <;> cases imk f x (y + 1) <;> rfl
  have m5 : (if 50 ≤ f (16 * y + x) then ((if x = 0 then (1 : Int) else 0) + (if y = 0 then 1 else 0)) else 0) = (if x = 0 then emk f 0 y else 0) + (if y = 0 then emk f x 0 else 0) := by
    by_cases q : 50 ≤ f (16 * y + x)
    · rw [if_pos q]
      rw [if_pos q] at m1
      by_cases qx : x = 0
      · rw [if_pos qx, if_pos qx]
        rw [qx] at m1
        rw [m1]
        by_cases qy : y = 0
        · rw [if_pos qy, if_pos qy, qx]
          rw [qy] at m1
          rw [m1]
        · rw [if_neg qy, if_neg qy]
      · rw [if_neg qx, if_neg qx]
        by_cases qy : y = 0
        · rw [if_pos qy, if_pos qy]
          rw [qy] at m1
          rw [m1]
        · rw [if_neg qy, if_neg qy]
    · rw [if_neg q]
      rw [if_neg q] at m1
      by_cases qx : x = 0
      · rw [if_pos qx]
        rw [qx] at m1
        rw [m1]
        by_cases qy : y = 0
        · rw [if_pos qy, qx]
          rw [qy] at m1
          rw [m1]
          rfl
        · rw [if_neg qy]
          rfl
      · rw [if_neg qx]
        by_cases qy : y = 0
        · rw [if_pos qy]
          rw [qy] at m1
          rw [m1]
          rfl
        · rw [if_neg qy]
          rfl
  unfold lE
  rw [e1, e2, m2, m3, ← m1, m4, m5]
theorem lE_sum (f : Int → Int) : isum (lE f) 160 = isum (iegr f) 11 := by
  have a1 : isum (lE f) 160 = nsum (fun y => nsum (fun x => ieg f x y) 16 + (emk f 0 y + (if y = 0 then nsum (fun x => emk f x 0) 16 else 0))) 10 := by
    show nsum (lE f) (16 * 10) = _
    rw [nsum_rows]
    refine nsum_c 10 (fun y y0 y1 => ?_)
    try dsimp only
    rw [nsum_c (f := fun x => lE f (16 * y + x)) (g := fun x => ieg f x y + ((if x = 0 then emk f 0 y else 0) + (if y = 0 then emk f x 0 else 0))) 16 (fun x x0 x1 => lE_e (by omega))]
    rw [nsum_add (fun x => ieg f x y) (fun x => (if x = 0 then emk f 0 y else 0) + (if y = 0 then emk f x 0 else 0)) 16, nsum_add (fun x => if x = 0 then emk f 0 y else 0) (fun x => if y = 0 then emk f x 0 else 0) 16]
    have b1 : nsum (fun x => if x = 0 then emk f 0 y else 0) 16 = emk f 0 y := by
      have e := nsum_app (fun x => if x = 0 then emk f 0 y else 0) 1 15
      rw [show (1 + 15 : Nat) = 16 from rfl] at e
      rw [e, nsum_0 (f := fun x => (fun x => if x = 0 then emk f 0 y else 0) (((1 : Nat) : Int) + x)) (n := 15) (fun j j0 j1 => by dsimp only; rw [if_neg (by omega)])]
      show 0 + (if ((0 : Nat) : Int) = 0 then emk f 0 y else 0) + 0 = _
      rw [if_pos (show ((0 : Nat) : Int) = 0 from rfl)]
      omega
    have b2 : nsum (fun x => if y = 0 then emk f x 0 else 0) 16 = if y = 0 then nsum (fun x => emk f x 0) 16 else 0 := by
      by_cases q : y = 0
      · rw [if_pos q]
        exact nsum_c 16 (fun j _ _ => if_pos q)
      · rw [if_neg q]
        exact nsum_0 (fun j _ _ => if_neg q)
    rw [b1, b2]
  have a2 : nsum (fun y => nsum (fun x => ieg f x y) 16 + (emk f 0 y + (if y = 0 then nsum (fun x => emk f x 0) 16 else 0))) 10 = nsum (fun y => nsum (fun x => ieg f x y) 16) 10 + (nsum (fun y => emk f 0 y) 10 + nsum (fun x => emk f x 0) 16) := by
    rw [nsum_add (fun y => nsum (fun x => ieg f x y) 16) (fun y => emk f 0 y + (if y = 0 then nsum (fun x => emk f x 0) 16 else 0)) 10, nsum_add (fun y => emk f 0 y) (fun y => if y = 0 then nsum (fun x => emk f x 0) 16 else 0) 10]
    have b1 : nsum (fun y => if y = 0 then nsum (fun x => emk f x 0) 16 else 0) 10 = nsum (fun x => emk f x 0) 16 := by
      have e := nsum_app (fun y => if y = 0 then nsum (fun x => emk f x 0) 16 else 0) 1 9
      rw [show (1 + 9 : Nat) = 10 from rfl] at e
      rw [e, nsum_0 (f := fun x => (fun y => if y = 0 then nsum (fun x => emk f x 0) 16 else 0) (((1 : Nat) : Int) + x)) (n := 9) (fun j j0 j1 => by dsimp only; rw [if_neg (by omega)])]
      show 0 + (if ((0 : Nat) : Int) = 0 then nsum (fun x => emk f x 0) 16 else 0) + 0 = _
      rw [if_pos (show ((0 : Nat) : Int) = 0 from rfl)]
      omega
    rw [b1]
  have b3 : isum (iegr f) 11 = nsum (fun j => (fun y => ieg f (-1) y + nsum (fun x => ieg f x y) 16) (j - 1)) (10 + 1) := by
    refine nsum_c 11 (fun j _ _ => ?_)
    show nsum (fun i => ieg f (i - 1) (j - 1)) (16 + 1) = _
    exact nsum_sh (fun i => ieg f i (j - 1)) 16
  rw [a1, a2, b3, nsum_sh (fun y => ieg f (-1) y + nsum (fun x => ieg f x y) 16) 10, nsum_add (fun y => ieg f (-1) y) (fun y => nsum (fun x => ieg f x y) 16) 10]
  have c1 : ieg f (-1) (-1) = 0 := by
    rw [ieg_eo, emk_o (f := f) (x := -1) (y := -1) (by omega), emk_o (f := f) (x := -1 + 1) (y := -1) (by omega), emk_o (f := f) (x := -1) (y := -1 + 1) (by omega)]
    rfl
  have c2 : nsum (fun x => ieg f x (-1)) 16 = nsum (fun x => emk f x 0) 16 := nsum_c 16 (fun x x0 x1 => by
    try dsimp only
    rw [ieg_eo, emk_o (f := f) (x := x) (y := -1) (by omega), emk_o (f := f) (x := x + 1) (y := -1) (by omega), show (-1 : Int) + 1 = 0 from rfl]
    have hb := emk_b2 f x 0
    unfold eo
    (repeat' split) <;> omega)
  have c3 : nsum (fun y => ieg f (-1) y) 10 = nsum (fun y => emk f 0 y) 10 := nsum_c 10 (fun y y0 y1 => by
    try dsimp only
    rw [ieg_eo, emk_o (f := f) (x := -1) (y := y) (by omega), emk_o (f := f) (x := -1) (y := y + 1) (by omega), show (-1 : Int) + 1 = 0 from rfl]
    have hb := emk_b2 f 0 y
    unfold eo
    (repeat' split) <;> omega)
  rw [c1, c2, c3]
  omega
/-! the law's own picture -/
def LA (w : WD) (χ : Nat) (g gl pr dd : Int → Int) : Prop := w (χ + 37) = some (xPA 20 g) ∧ w (χ + 38) = some (xPA 60 gl) ∧ w (χ + 41) = some (xIA 27 pr) ∧ w (χ + 43) = some (xIA 1 dd)
theorem LA.T {w w' : WD} {χ sz' : Nat} {g gl pr dd : Int → Int} (h : LA w χ g gl pr dd) (t : TF w w' sz' χ) : LA w' χ g gl pr dd := ⟨(t.2 _ (by omega) (nn h.1)).trans h.1, (t.2 _ (by omega) (nn h.2.1)).trans h.2.1, (t.2 _ (by omega) (nn h.2.2.1)).trans h.2.2.1, (t.2 _ (by omega) (nn h.2.2.2)).trans h.2.2.2⟩
theorem LA.hs {w : WD} {χ sz : Nat} {g gl pr dd : Int → Int} (h : LA w χ g gl pr dd) (hN : WN w sz) : χ + 44 ≤ sz := hN.lt (nn h.2.2.2)
/-- it stands for what the class holds -/
def LQ (z g gl pr : Int → Int) (n : Int) : Prop := B7 g ∧ B7 gl ∧ (∀ k, 0 ≤ k → k < 160 → g k = z k) ∧ z 160 = n ∧ (0 ≤ n ∧ n ≤ 3) ∧ (∀ p i, 0 ≤ p → p < n → 0 ≤ i → i < 9 → pr (9 * p + i) = z (161 + 169 * p + i)) ∧ ∀ p c, 0 ≤ p → p < n → 0 ≤ c → c < 160 → gl (160 * p + c) = z (161 + 169 * p + (9 + c))
theorem imsk_0 {z : Int → Int} {c : Int} : imsk z 0 c = 0 := rfl
set_option maxRecDepth 100000 in
set_option maxHeartbeats 4000000 in
theorem l_mask {w : WD} {sz le pr dr : Nat} {z g gl prf dd : Int → Int} {n x y : Int} (hl : w le = some (xPA 60 gl)) (hpr : w pr = some (xIA 27 prf)) (hd : w dr = some (xIA 1 dd)) (hdn : dd 0 = n) (hLP : LQ z g gl prf n) (hV : VZ z) (hc : iCell x y) : CT iL_mask 0 0 [xI x, xI y, .ref le, .ref pr, .ref dr] w sz (pR (some (xI (imS z (16 * y + x)))) w sz) := by
  refine CT.ofZ (by decide) rfl (Nat.le_of_ble_eq_true rfl) (fun Z hE => ?_)
  have hn3 := hLP.2.2.2.2.1
  have hzn := hLP.2.2.2.1
  refine V_iconst dL_mask_0 ?_
  refine V_istore dL_mask_1 (by decide) ?_
  refine V_iconst dL_mask_3 ?_
  refine V_istore dL_mask_4 (by decide) ?_
  have L6 : ∀ k : Int, 0 ≤ k → k ≤ n → V iL_mask Z 0 0 w sz 6 [some (xI x), some (xI y), some (.ref le), some (.ref pr), some (.ref dr), some (xI (imsk z k (16 * y + x))), some (xI k), none, none, none] [] := by
    refine up_ind ?_
    intro k hk0 hk1 ih
    have hJ : k < n → V iL_mask Z 0 0 w sz 6 [some (xI x), some (xI y), some (.ref le), some (.ref pr), some (.ref dr), some (xI (imsk z (k + 1) (16 * y + x))), some (xI (k + 1)), none, none, none] [] := fun h => ih h
    refine V_iload dL_mask_6 rfl ?_
    refine V_aload dL_mask_8 rfl ?_
    refine V_iconst dL_mask_10 ?_
    refine V_iald dL_mask_11 hd (by omega) ?_
    rw [hdn]
    have hm0 := imsk_b hV (c := 16 * y + x) (by omega) k hk0 (by omega)
    refine V_icmp_ge 128 dL_mask_12 (by decide) (by omega) (fun h12 => ?_) (fun h12 => ?_)
    · refine V_iload dL_mask_128 rfl ?_
      exact V_iret hE rfl dL_mask_130 ⟨by rw [show k = n by omega, ← hLP.2.2.2.1], rfl, rfl⟩
    · have hk7 := hLP.2.2.2.2.2.1 k 7 hk0 h12 (by omega) (by omega)
      have hk5 := hLP.2.2.2.2.2.1 k 5 hk0 h12 (by omega) (by omega)
      have hkp := hLP.2.2.2.2.2.2 k (16 * y + x) hk0 h12 (by omega) (by omega)
      obtain ⟨-, -, -, -, -, v5, -, v7, -, vp⟩ := hV.2.2 k hk0 (by omega)
      have vp := vp (16 * y + x) (by omega) (by omega)
      have hnx := imsk_s (z := z) (c := (16 * y + x)) hk0
      rw [← hk7, ← hk5, ← hkp] at hnx
      rw [← hk7] at v7
      rw [← hk5] at v5
      rw [← hkp] at vp
      refine V_aload_n dL_mask_15 3 rfl rfl ?_
      refine V_bipush dL_mask_16 (by decide) ?_
      refine V_iload dL_mask_18 rfl ?_
      refine V_imul dL_mask_20 ?_
      refine V_bipush dL_mask_21 (by decide) ?_
      refine V_iadd dL_mask_23 ?_
      refine V_iald dL_mask_24 hpr (by omega) ?_
      refine V_if_ne 31 dL_mask_25 (by decide) (by omega) (fun h25 => ?_) (fun h25 => ?_)
      · refine V_aload_n dL_mask_31 2 rfl rfl ?_
        refine V_bipush dL_mask_32 (by decide) ?_
        refine V_iload dL_mask_34 rfl ?_
        refine V_imul dL_mask_36 ?_
        refine V_iload_n dL_mask_37 0 rfl rfl ?_
        refine V_iload_n dL_mask_38 1 rfl rfl ?_
        refine V_c_L_12 rfl (by decide) (l_of (n := 60) hl hLP.2.1 (by omega) (by omega) (by omega) hc) dL_mask_39 rfl rfl (Nat.le_of_ble_eq_true rfl) (Nat.le_of_eq (Nat.zero_add _)) (Nat.le_of_eq (Nat.zero_add _)) (fun v w sz q => ?_)
        obtain ⟨rfl, hw9, hs9⟩ := q
        obtain rfl := hw9.symm
        obtain rfl := hs9.symm
        rw [show 8 * (20 * k) + 16 * y + x = 160 * k + (16 * y + x) by omega]
        refine V_istore dL_mask_42 (by decide) ?_
        refine V_aload_n dL_mask_44 3 rfl rfl ?_
        refine V_bipush dL_mask_45 (by decide) ?_
        refine V_iload dL_mask_47 rfl ?_
        refine V_imul dL_mask_49 ?_
        refine V_iconst dL_mask_50 ?_
        refine V_iadd dL_mask_51 ?_
        refine V_iald dL_mask_52 hpr (by omega) ?_
        refine V_istore dL_mask_53 (by decide) ?_
        have J71 : ∀ b : Int, (prf (9 * k + 5) = 2 → b = 100 - gl (160 * k + (16 * y + x))) → (prf (9 * k + 5) ≠ 2 → b = gl (160 * k + (16 * y + x))) → V iL_mask Z 0 0 w sz 71 [some (xI x), some (xI y), some (.ref le), some (.ref pr), some (.ref dr), some (xI (imsk z k (16 * y + x))), some (xI k), some (xI (gl (160 * k + (16 * y + x)))), some (xI (prf (9 * k + 5))), none] [xI b] := by
          intro b hb1 hb2
          refine V_istore dL_mask_71 (by decide) ?_
          have J120 : ∀ m : Int, m = imst (prf (9 * k + 5)) (gl (160 * k + (16 * y + x))) (imsk z k (16 * y + x)) → V iL_mask Z 0 0 w sz 120 [some (xI x), some (xI y), some (.ref le), some (.ref pr), some (.ref dr), some (xI (imsk z k (16 * y + x))), some (xI k), some (xI (gl (160 * k + (16 * y + x)))), some (xI (prf (9 * k + 5))), some (xI b)] [xI m] := by
            intro m hm
            have hnx2 : imsk z (k + 1) (16 * y + x) = m := (hnx.trans (if_pos (by omega))).trans hm.symm
            rw [← hnx2]
            refine V_istore dL_mask_120 (by decide) ?_
            refine V_iinc dL_mask_122 rfl (by decide) ?_
            refine V_goto 6 dL_mask_125 (by decide) ?_
            refine V_fg [true, true, true, true, true, true, true, false, false, false] ?_
            exact hJ (by omega)
          refine V_iload dL_mask_73 rfl ?_
          refine V_if_ne 83 dL_mask_75 (by decide) (by omega) (fun h75 => ?_) (fun h75 => ?_)
          · refine V_iload dL_mask_83 rfl ?_
            refine V_iconst dL_mask_85 ?_
            refine V_icmp_ne 106 dL_mask_86 (by decide) (by omega) (fun h86 => ?_) (fun h86 => ?_)
            · refine V_iload dL_mask_106 rfl ?_
              refine V_iload dL_mask_108 rfl ?_
              refine V_icmp_ge 118 dL_mask_110 (by decide) (by omega) (fun h110 => ?_) (fun h110 => ?_)
              · refine V_iload dL_mask_118 rfl ?_
                exact J120 _ (by unfold imst; have hk2 := hk5; by_cases q2 : prf (9 * k + 5) = 2; (have h9 := hb1 q2; (repeat' split) <;> omega); (have h9 := hb2 q2; (repeat' split) <;> omega))
              · refine V_iload dL_mask_113 rfl ?_
                refine V_goto 120 dL_mask_115 (by decide) ?_
                exact J120 _ (by unfold imst; have hk2 := hk5; by_cases q2 : prf (9 * k + 5) = 2; (have h9 := hb1 q2; (repeat' split) <;> omega); (have h9 := hb2 q2; (repeat' split) <;> omega))
            · refine V_iload dL_mask_89 rfl ?_
              refine V_iload dL_mask_91 rfl ?_
              refine V_icmp_le 101 dL_mask_93 (by decide) (by omega) (fun h93 => ?_) (fun h93 => ?_)
              · refine V_iload dL_mask_101 rfl ?_
                refine V_goto 120 dL_mask_103 (by decide) ?_
                exact J120 _ (by unfold imst; have hk2 := hk5; by_cases q2 : prf (9 * k + 5) = 2; (have h9 := hb1 q2; (repeat' split) <;> omega); (have h9 := hb2 q2; (repeat' split) <;> omega))
              · refine V_iload dL_mask_96 rfl ?_
                refine V_goto 120 dL_mask_98 (by decide) ?_
                exact J120 _ (by unfold imst; have hk2 := hk5; by_cases q2 : prf (9 * k + 5) = 2; (have h9 := hb1 q2; (repeat' split) <;> omega); (have h9 := hb2 q2; (repeat' split) <;> omega))
          · refine V_iload dL_mask_78 rfl ?_
            refine V_goto 120 dL_mask_80 (by decide) ?_
            exact J120 _ (by unfold imst; have hk2 := hk5; by_cases q2 : prf (9 * k + 5) = 2; (have h9 := hb1 q2; (repeat' split) <;> omega); (have h9 := hb2 q2; (repeat' split) <;> omega))
        refine V_iload dL_mask_55 rfl ?_
        refine V_iconst dL_mask_57 ?_
        refine V_icmp_ne 69 dL_mask_58 (by decide) (by omega) (fun h58 => ?_) (fun h58 => ?_)
        · refine V_iload dL_mask_69 rfl ?_
          exact J71 _ (fun q => absurd q h58) (fun _ => rfl)
        · refine V_bipush dL_mask_61 (by decide) ?_
          refine V_iload dL_mask_63 rfl ?_
          refine V_isub dL_mask_65 ?_
          refine V_goto 71 dL_mask_66 (by decide) ?_
          exact J71 _ (fun _ => rfl) (fun q => absurd h58 q)
      · have hnx2 : imsk z (k + 1) (16 * y + x) = imsk z k (16 * y + x) := hnx.trans (if_neg (by omega))
        rw [← hnx2]
        refine V_goto 122 dL_mask_28 (by decide) ?_
        refine V_iinc dL_mask_122 rfl (by decide) ?_
        refine V_goto 6 dL_mask_125 (by decide) ?_
        refine V_fg [true, true, true, true, true, true, true, false, false, false] ?_
        exact hJ (by omega)
  refine V_fg [true, true, true, true, true, true, true, false, false, false] ?_
  exact L6 (0) (by omega) (by omega)
