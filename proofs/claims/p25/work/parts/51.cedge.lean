/-! the class: the edge of a mask -/
theorem nsum_add (f g : Int → Int) : ∀ n : Nat, nsum (fun j => f j + g j) n = nsum f n + nsum g n
  | 0 => rfl
  | n + 1 => by
    show nsum (fun j => f j + g j) n + (f n + g n) = nsum f n + f n + (nsum g n + g n)
    rw [nsum_add f g n]
    omega
theorem nsum_app (F : Int → Int) (a : Nat) : ∀ b : Nat, nsum F (a + b) = nsum F a + nsum (fun x => F (a + x)) b
  | 0 => (Int.add_zero _).symm
  | b + 1 => by
    show nsum F (a + b) + F ((a + b : Nat) : Int) = nsum F a + (nsum (fun x => F (a + x)) b + F ((a : Int) + (b : Int)))
    rw [nsum_app F a b, show ((a + b : Nat) : Int) = (a : Int) + (b : Int) by omega]
    omega
/-- cells row by row -/
theorem nsum_rows (F : Int → Int) : ∀ n : Nat, nsum F (16 * n) = nsum (fun y => nsum (fun x => F (16 * y + x)) 16) n
  | 0 => rfl
  | n + 1 => by
    rw [show 16 * (n + 1) = 16 * n + 16 by omega, nsum_app, nsum_rows F n]
    show _ = nsum (fun y => nsum (fun x => F (16 * y + x)) 16) n + nsum (fun x => F (16 * (n : Int) + x)) 16
    rw [nsum_c (f := fun x => F (((16 * n : Nat) : Int) + x)) (g := fun x => F (16 * (n : Int) + x)) 16 (fun j _ _ => by rw [show ((16 * n : Nat) : Int) = 16 * (n : Int) by omega])]
theorem nsum_sh (G : Int → Int) : ∀ n : Nat, nsum (fun i => G (i - 1)) (n + 1) = G (-1) + nsum G n
  | 0 => by
    show 0 + G (0 - 1) = G (-1) + 0
    rw [Int.zero_add, Int.add_zero]
    rfl
  | n + 1 => by
    show nsum (fun i => G (i - 1)) (n + 1) + G (((n + 1 : Nat) : Int) - 1) = G (-1) + (nsum G n + G n)
    rw [nsum_sh G n, show ((n + 1 : Nat) : Int) - 1 = (n : Int) by omega]
    omega
theorem nsum_0 {f : Int → Int} {n : Nat} (h : ∀ j : Int, 0 ≤ j → j < n → f j = 0) : nsum f n = 0 := by
  have := nsum_b (f := f) (lo := 0) (hi := 0) n (fun j h1 h2 => by rw [h j h1 h2]; omega)
  omega
/-- a level of 50 or more, in the picture -/
def emk (f : Int → Int) (x y : Int) : Int := b2i (imk f x y)
theorem emk_o {f : Int → Int} {x y : Int} (h : ¬ iCell x y) : emk f x y = 0 := by
  unfold emk imk
  rw [decide_eq_false (fun q => h q.1)]
  rfl
theorem emk_i {f : Int → Int} {x y : Int} (h : iCell x y) : emk f x y = if 50 ≤ f (16 * y + x) then 1 else 0 := by
  unfold emk imk
  by_cases q : 50 ≤ f (16 * y + x)
  · rw [decide_eq_true ⟨h, q⟩, if_pos q]; rfl
  · rw [decide_eq_false (fun g => q g.2), if_neg q]; rfl
/-- one side open: the first one is over, the second one isn't -/
def eo (a b : Int) : Int := if a = 1 ∧ b = 0 then 1 else 0
theorem ieg_eo (f : Int → Int) (x y : Int) : ieg f x y = (eo (emk f x y) (emk f (x + 1) y) + eo (emk f (x + 1) y) (emk f x y)) + (eo (emk f x y) (emk f x (y + 1)) + eo (emk f x (y + 1)) (emk f x y)) := by
  unfold ieg emk
  cases imk f x y <;> cases imk f (x + 1) y <;> cases imk f x (y + 1) <;> rfl
/-- the open sides of a cell -/
def iop (f : Int → Int) (c : Int) : Int := isum (fun s => if inb c s < 0 ∨ f (inb c s) < 50 then 1 else 0) 4
theorem iop_e {f : Int → Int} {x y : Int} (h : iCell x y) : (if 50 ≤ f (16 * y + x) then iop f (16 * y + x) else 0) = (eo (emk f x y) (emk f (x + 1) y) + eo (emk f x y) (emk f (x - 1) y)) + (eo (emk f x y) (emk f x (y + 1)) + eo (emk f x y) (emk f x (y - 1))) := by
  have e1 : (16 * y + x) % 16 = x := by omega
  have e2 : (16 * y + x) / 16 = y := by omega
  by_cases q : 50 ≤ f (16 * y + x)
  · have em : emk f x y = 1 := by rw [emk_i h, if_pos q]
    rw [if_pos q, em]
    have side : ∀ (x' y' : Int), (if (if iCell x' y' then 16 * y' + x' else -1) < 0 ∨ f (if iCell x' y' then 16 * y' + x' else -1) < 50 then (1 : Int) else 0) = eo 1 (emk f x' y') := by
      intro x' y'
      unfold eo
      by_cases g : iCell x' y'
      · rw [if_pos g, emk_i g]
        by_cases g2 : 50 ≤ f (16 * y' + x')
        · rw [if_pos g2, if_neg (by omega), if_neg (by omega)]
        · rw [if_neg g2, if_pos (by omega), if_pos (by omega)]
      · rw [if_neg g, emk_o g, if_pos (by omega), if_pos (by omega)]
    have s0 := side (x + -1) (y + 0)
    have s1 := side (x + 1) (y + 0)
    have s2 := side (x + 0) (y + -1)
    have s3 := side (x + 0) (y + 1)
    have h0 := inb_0 (c := 16 * y + x)
    have h1 := inb_1 (c := 16 * y + x)
    have h2 := inb_2 (c := 16 * y + x)
    have h3 := inb_3 (c := 16 * y + x)
    rw [e1, e2] at h0 h1 h2 h3
    have eI : iop f (16 * y + x) = (((0 + (if inb (16 * y + x) 0 < 0 ∨ f (inb (16 * y + x) 0) < 50 then 1 else 0)) + (if inb (16 * y + x) 1 < 0 ∨ f (inb (16 * y + x) 1) < 50 then 1 else 0)) + (if inb (16 * y + x) 2 < 0 ∨ f (inb (16 * y + x) 2) < 50 then 1 else 0)) + (if inb (16 * y + x) 3 < 0 ∨ f (inb (16 * y + x) 3) < 50 then 1 else 0) := rfl
    rw [eI, h0, h1, h2, h3, s0, s1, s2, s3, Int.add_zero, Int.add_zero, show x + -1 = x - 1 by omega, show y + -1 = y - 1 by omega]
    omega
  · have em : emk f x y = 0 := by rw [emk_i h, if_neg q]
    rw [if_neg q, em]
    rfl
theorem nsum_sh2 {G : Int → Int} {n : Nat} (h : G (-1) = 0) : nsum (fun i => G (i - 1)) (n + 1) = nsum G n := by
  rw [nsum_sh, h, Int.zero_add]
theorem edge_e (f : Int → Int) : isum (fun c => if 50 ≤ f c then iop f c else 0) 160 = isum (iegr f) 11 := by
  have hL : isum (fun c => if 50 ≤ f c then iop f c else 0) 160 = nsum (fun y => nsum (fun x => (eo (emk f x y) (emk f (x + 1) y) + eo (emk f x y) (emk f (x - 1) y)) + (eo (emk f x y) (emk f x (y + 1)) + eo (emk f x y) (emk f x (y - 1)))) 16) 10 := by
    show nsum (fun c => if 50 ≤ f c then iop f c else 0) (16 * 10) = _
    rw [nsum_rows]
    exact nsum_c 10 (fun y y0 y1 => nsum_c 16 (fun x x0 x1 => iop_e (by omega)))
  rw [hL]
  have rowA : ∀ y, nsum (fun i => eo (emk f (i - 1) y) (emk f (i - 1 + 1) y)) 17 = nsum (fun x => eo (emk f x y) (emk f (x + 1) y)) 16 := fun y => nsum_sh2 (G := fun x => eo (emk f x y) (emk f (x + 1) y)) (n := 16) (by show eo (emk f (-1) y) _ = 0; rw [emk_o (by omega)]; rfl)
  have rowB : ∀ y, nsum (fun i => eo (emk f (i - 1 + 1) y) (emk f (i - 1) y)) 17 = nsum (fun x => eo (emk f x y) (emk f (x - 1) y)) 16 := fun y => by
    have e : nsum (fun i => eo (emk f (i - 1 + 1) y) (emk f (i - 1) y)) 17 = nsum (fun x => eo (emk f x y) (emk f (x - 1) y)) 17 := nsum_c 17 (fun j _ _ => by rw [show j - 1 + 1 = j by omega])
    rw [e]
    show nsum (fun x => eo (emk f x y) (emk f (x - 1) y)) 16 + eo (emk f 16 y) (emk f (16 - 1) y) = _
    rw [emk_o (show ¬ iCell 16 y by omega)]
    exact Int.add_zero _
  have rowC : ∀ y y', nsum (fun i => eo (emk f (i - 1) y) (emk f (i - 1) y')) 17 = nsum (fun x => eo (emk f x y) (emk f x y')) 16 := fun y y' => nsum_sh2 (G := fun x => eo (emk f x y) (emk f x y')) (n := 16) (by show eo (emk f (-1) y) _ = 0; rw [emk_o (by omega)]; rfl)
  have hrow : ∀ j, iegr f j = (nsum (fun x => eo (emk f x (j - 1)) (emk f (x + 1) (j - 1))) 16 + nsum (fun x => eo (emk f x (j - 1)) (emk f (x - 1) (j - 1))) 16) + (nsum (fun x => eo (emk f x (j - 1)) (emk f x (j - 1 + 1))) 16 + nsum (fun x => eo (emk f x (j - 1 + 1)) (emk f x (j - 1))) 16) := by
    intro j
    have e : iegr f j = nsum (fun i => (eo (emk f (i - 1) (j - 1)) (emk f (i - 1 + 1) (j - 1)) + eo (emk f (i - 1 + 1) (j - 1)) (emk f (i - 1) (j - 1))) + (eo (emk f (i - 1) (j - 1)) (emk f (i - 1) (j - 1 + 1)) + eo (emk f (i - 1) (j - 1 + 1)) (emk f (i - 1) (j - 1)))) 17 := nsum_c 17 (fun i _ _ => ieg_eo f (i - 1) (j - 1))
    rw [e, nsum_add, nsum_add, nsum_add, rowA, rowB, rowC, rowC]
  have hR : isum (iegr f) 11 = nsum (fun j => (nsum (fun x => eo (emk f x (j - 1)) (emk f (x + 1) (j - 1))) 16 + nsum (fun x => eo (emk f x (j - 1)) (emk f (x - 1) (j - 1))) 16) + (nsum (fun x => eo (emk f x (j - 1)) (emk f x (j - 1 + 1))) 16 + nsum (fun x => eo (emk f x (j - 1 + 1)) (emk f x (j - 1))) 16)) 11 := nsum_c 11 (fun j _ _ => hrow j)
  rw [hR, nsum_add, nsum_add, nsum_add]
  have out : ∀ (g : Int → Int), (nsum (fun x => eo (emk f x (-1)) (g x)) 16) = 0 := fun g => nsum_0 (fun x _ _ => by rw [emk_o (by omega)]; rfl)
  have colA := nsum_sh2 (G := fun y => nsum (fun x => eo (emk f x y) (emk f (x + 1) y)) 16) (n := 10) (out _)
  have colB := nsum_sh2 (G := fun y => nsum (fun x => eo (emk f x y) (emk f (x - 1) y)) 16) (n := 10) (out _)
  have colC := nsum_sh2 (G := fun y => nsum (fun x => eo (emk f x y) (emk f x (y + 1))) 16) (n := 10) (out _)
  have colD : nsum (fun j => nsum (fun x => eo (emk f x (j - 1 + 1)) (emk f x (j - 1))) 16) 11 = nsum (fun y => nsum (fun x => eo (emk f x y) (emk f x (y - 1))) 16) 10 := by
    have e : nsum (fun j => nsum (fun x => eo (emk f x (j - 1 + 1)) (emk f x (j - 1))) 16) 11 = nsum (fun y => nsum (fun x => eo (emk f x y) (emk f x (y - 1))) 16) 11 := nsum_c 11 (fun j _ _ => by rw [show j - 1 + 1 = j by omega])
    rw [e]
    show nsum (fun y => nsum (fun x => eo (emk f x y) (emk f x (y - 1))) 16) 10 + nsum (fun x => eo (emk f x 10) (emk f x (10 - 1))) 16 = _
    rw [nsum_0 (f := fun x => eo (emk f x 10) (emk f x (10 - 1))) (n := 16) (fun x _ _ => by rw [emk_o (by omega)]; rfl), Int.add_zero]
  rw [colA, colB, colC, colD, ← nsum_add, ← nsum_add, ← nsum_add]
  refine nsum_c 10 (fun y _ _ => ?_)
  rw [← nsum_add, ← nsum_add, ← nsum_add]
set_option maxRecDepth 100000 in
set_option maxHeartbeats 4000000 in
theorem c_openSides {w : WD} {sz a : Nat} {f : Int → Int} (hw : w a = some (xIA 160 f)) (hf : ∀ k, 0 ≤ k → k < 160 → 0 ≤ f k ∧ f k ≤ 100) {c : Int} (hc : 0 ≤ c ∧ c < 160) : CT iX6_openSides 0 0 [.ref a, xI c] w sz (pR (some (xI (iop f c))) w sz) := by
  refine CT.ofZ (by decide) rfl (Nat.le_of_ble_eq_true rfl) (fun Z hE => ?_)
  refine V_iconst dX6_openSides_0 ?_
  refine V_istore_n dX6_openSides_1 2 rfl (by decide) ?_
  refine V_iconst dX6_openSides_2 ?_
  refine V_istore_n dX6_openSides_3 3 rfl (by decide) ?_
  have L4 : ∀ k : Int, 0 ≤ k → k ≤ 4 → V iX6_openSides Z 0 0 w sz 4 [some (.ref a), some (xI c), some (xI (isum (fun s => if inb c s < 0 ∨ f (inb c s) < 50 then 1 else 0) k)), some (xI k), none] [] := by
    refine up_ind ?_
    intro k hk0 hk1 ih
    refine V_iload_n dX6_openSides_4 3 rfl rfl ?_
    refine V_iconst dX6_openSides_5 ?_
    refine V_icmp_ge 39 dX6_openSides_6 (by decide) (by omega) (fun h6 => ?_) (fun h6 => ?_)
    · refine V_iload_n dX6_openSides_39 2 rfl rfl ?_
      exact V_iret hE rfl dX6_openSides_40 ⟨bE (by unfold iop; rw [show (4 : Int) = k by omega]), rfl, rfl⟩
    · refine V_iload_n dX6_openSides_9 1 rfl rfl ?_
      refine V_iload_n dX6_openSides_10 3 rfl rfl ?_
      refine V_c_X6_265 rfl (by decide) (c_neighbor hc ⟨hk0, by omega⟩) dX6_openSides_11 rfl rfl (Nat.le_of_ble_eq_true rfl) (Nat.le_of_eq (Nat.zero_add _)) (Nat.le_of_eq (Nat.zero_add _)) (fun v w sz q => ?_)
      obtain ⟨rfl, rfl, rfl⟩ := q
      have hib := inb_b (s := k) hc ⟨hk0, by omega⟩
      refine V_istore dX6_openSides_14 (by decide) ?_
      refine V_iload dX6_openSides_16 rfl ?_
      refine V_if_lt 30 dX6_openSides_18 (by decide) (by omega) (fun h18 => ?_) (fun h18 => ?_)
      · refine V_iinc dX6_openSides_30 rfl (by decide) ?_
        refine V_iinc dX6_openSides_33 rfl (by decide) ?_
        refine V_goto 4 dX6_openSides_36 (by decide) ?_
        refine V_fg [true, true, true, true, false] ?_
        rw [isum_s hk0, if_pos (by omega)] at ih
        exact ih (by omega)
      · refine V_aload_n dX6_openSides_21 0 rfl rfl ?_
        refine V_iload dX6_openSides_22 rfl ?_
        have hfb := hf (inb c k) (by omega) hib.2
        refine V_iald dX6_openSides_24 hw ⟨by omega, hib.2⟩ ?_
        refine V_bipush dX6_openSides_25 (by decide) ?_
        refine V_icmp_ge 33 dX6_openSides_27 (by decide) (by omega) (fun h27 => ?_) (fun h27 => ?_)
        · refine V_iinc dX6_openSides_33 rfl (by decide) ?_
          refine V_goto 4 dX6_openSides_36 (by decide) ?_
          refine V_fg [true, true, true, true, false] ?_
          rw [isum_s hk0, if_neg (by omega), Int.add_zero] at ih
          exact ih (by omega)
        · refine V_iinc dX6_openSides_30 rfl (by decide) ?_
          refine V_iinc dX6_openSides_33 rfl (by decide) ?_
          refine V_goto 4 dX6_openSides_36 (by decide) ?_
          refine V_fg [true, true, true, true, false] ?_
          rw [isum_s hk0, if_pos (by omega)] at ih
          exact ih (by omega)
  refine V_fg [true, true, true, true, false] ?_
  exact L4 (0) (by omega) (by omega)
set_option maxRecDepth 100000 in
set_option maxHeartbeats 4000000 in
theorem c_edgeLength {w : WD} {sz a : Nat} {f : Int → Int} (hw : w a = some (xIA 160 f)) (hf : ∀ k, 0 ≤ k → k < 160 → 0 ≤ f k ∧ f k ≤ 100) : CT iX6_edgeLength 0 0 [.ref a] w sz (pR (some (xI (isum (iegr f) 11))) w sz) := by
  refine CT.ofZ (by decide) rfl (Nat.le_of_ble_eq_true rfl) (fun Z hE => ?_)
  refine V_iconst dX6_edgeLength_0 ?_
  refine V_istore_n dX6_edgeLength_1 1 rfl (by decide) ?_
  refine V_iconst dX6_edgeLength_2 ?_
  refine V_istore_n dX6_edgeLength_3 2 rfl (by decide) ?_
  have L4 : ∀ k : Int, 0 ≤ k → k ≤ 160 → V iX6_edgeLength Z 0 0 w sz 4 [some (.ref a), some (xI (isum (fun c => if 50 ≤ f c then iop f c else 0) k)), some (xI k)] [] := by
    refine up_ind ?_
    intro k hk0 hk1 ih
    refine V_iload_n dX6_edgeLength_4 2 rfl rfl ?_
    refine V_sipush dX6_edgeLength_5 (by decide) ?_
    refine V_icmp_ge 33 dX6_edgeLength_8 (by decide) (by omega) (fun h8 => ?_) (fun h8 => ?_)
    · refine V_iload_n dX6_edgeLength_33 1 rfl rfl ?_
      exact V_iret hE rfl dX6_edgeLength_34 ⟨bE (by rw [← edge_e, show k = 160 by omega]), rfl, rfl⟩
    · refine V_aload_n dX6_edgeLength_11 0 rfl rfl ?_
      refine V_iload_n dX6_edgeLength_12 2 rfl rfl ?_
      have hfb := hf k hk0 (by omega)
      refine V_iald dX6_edgeLength_13 hw ⟨hk0, by omega⟩ ?_
      refine V_bipush dX6_edgeLength_14 (by decide) ?_
      refine V_icmp_lt 27 dX6_edgeLength_16 (by decide) (by omega) (fun h16 => ?_) (fun h16 => ?_)
      · refine V_iinc dX6_edgeLength_27 rfl (by decide) ?_
        refine V_goto 4 dX6_edgeLength_30 (by decide) ?_
        rw [isum_s hk0, if_neg (by omega), Int.add_zero] at ih
        exact ih (by omega)
      · refine V_iload_n dX6_edgeLength_19 1 rfl rfl ?_
        refine V_aload_n dX6_edgeLength_20 0 rfl rfl ?_
        refine V_iload_n dX6_edgeLength_21 2 rfl rfl ?_
        refine V_c_X6_262 rfl (by decide) (c_openSides hw hf ⟨hk0, by omega⟩) dX6_edgeLength_22 rfl rfl (Nat.le_of_ble_eq_true rfl) (Nat.le_of_eq (Nat.zero_add _)) (Nat.le_of_eq (Nat.zero_add _)) (fun v w sz q => ?_)
        obtain ⟨rfl, rfl, rfl⟩ := q
        refine V_iadd dX6_edgeLength_25 ?_
        refine V_istore_n dX6_edgeLength_26 1 rfl (by decide) ?_
        refine V_iinc dX6_edgeLength_27 rfl (by decide) ?_
        refine V_goto 4 dX6_edgeLength_30 (by decide) ?_
        rw [isum_s hk0, if_pos (by omega)] at ih
        exact ih (by omega)
  exact L4 (0) (by omega) (by omega)
