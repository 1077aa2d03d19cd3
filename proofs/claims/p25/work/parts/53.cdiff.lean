/-! the class: how many shades there are -/
theorem pop_u {A : Nat → Bool} {a : Nat} {F : Int → Int} (h : ∀ s : Nat, a.testBit s = A s) (h50 : ∀ s : Nat, 50 ≤ s → A s = false) (hF : ∀ s : Int, 0 ≤ s → s < 50 → b2i (A s.toNat) = F s) : a < 2 ^ 50 ∧ pop a = nsum F 50 := by
  refine ⟨Nat.lt_pow_two_of_testBit a (fun i hi => by rw [h]; exact h50 i hi), ?_⟩
  unfold pop
  rw [show (64 : Nat) = 50 + 14 from rfl, nsum_app, nsum_0 (f := fun x => b2i (a.testBit (((50 : Nat) : Int) + x).toNat)) (n := 14) (fun j j0 j1 => by rw [h, h50 _ (by omega)]; rfl), Int.add_zero]
  exact nsum_c 50 (fun j j0 j1 => by rw [h]; exact hF j j0 j1)
/-- the bits of the shades of the cells below k, from d on -/
def ShB (z : Int → Int) (d k : Int) (a : Nat) : Prop := ∀ s : Nat, a.testBit s = (decide (s < 50) && iex (fun j => decide (z j = (s : Int) + d)) k)
theorem ShB.set {z : Int → Int} {d k : Int} {a : Nat} (h : ShB z d k a) (hk : 0 ≤ k) (h0 : d ≤ z k) (h1 : z k < d + 50) : ShB z d (k + 1) (a ||| 2 ^ (z k - d).toNat) := by
  intro s
  rw [fb_bit_set, h s, iex_s hk]
  by_cases e : s = (z k - d).toNat
  · rw [decide_eq_true e, decide_eq_true (show z k = (s : Int) + d by omega), decide_eq_true (show s < 50 by omega), Bool.or_true, Bool.or_true]
    rfl
  · rw [decide_eq_false e, decide_eq_false (show ¬ z k = (s : Int) + d by omega), Bool.or_false, Bool.or_false]
theorem ShB.no {z : Int → Int} {d k : Int} {a : Nat} (h : ShB z d k a) (hk : 0 ≤ k) (h0 : z k < d ∨ d + 50 ≤ z k) : ShB z d (k + 1) a := by
  intro s
  rw [h s, iex_s hk]
  by_cases e : s < 50
  · rw [decide_eq_false (show ¬ z k = (s : Int) + d by omega), Bool.or_false]
  · rw [decide_eq_false e, Bool.false_and, Bool.false_and]
theorem ShB.fin {z : Int → Int} {a b : Nat} (ha : ShB z 0 160 a) (hb : ShB z 50 160 b) : (a < 2 ^ 50 ∧ b < 2 ^ 50) ∧ pop a + pop b = idif z := by
  have h50 : ∀ d : Int, ∀ s : Nat, 50 ≤ s → (decide (s < 50) && iex (fun j => decide (z j = (s : Int) + d)) 160) = false := fun d s q => by rw [decide_eq_false (by omega)]; rfl
  have hF : ∀ d s : Int, 0 ≤ s → s < 50 → b2i (decide (s.toNat < 50) && iex (fun j => decide (z j = (s.toNat : Int) + d)) 160) = b2i (iex (fun j => decide (z j = s + d)) 160) := fun d s q q2 => by
    rw [decide_eq_true (by omega), show (s.toNat : Int) = s by omega, Bool.true_and]
  have h1 := pop_u ha (h50 0) (F := fun s => b2i (iex (fun j => decide (z j = s + 0)) 160)) (hF 0)
  have h2 := pop_u hb (h50 50) (F := fun s => b2i (iex (fun j => decide (z j = s + 50)) 160)) (hF 50)
  refine ⟨⟨h1.1, h2.1⟩, ?_⟩
  rw [h1.2, h2.2]
  show _ = nsum (fun s => b2i (iex (fun j => decide (z j = s)) 160)) (50 + 50)
  rw [nsum_app]
  rw [nsum_c (f := fun s => b2i (iex (fun j => decide (z j = s + 0)) 160)) (g := fun s => b2i (iex (fun j => decide (z j = s)) 160)) 50 (fun s _ _ => by rw [Int.add_zero]), nsum_c (f := fun s => b2i (iex (fun j => decide (z j = s + 50)) 160)) (g := fun s => b2i (iex (fun j => decide (z j = ((50 : Nat) : Int) + s)) 160)) 50 (fun s _ _ => by rw [show ((50 : Nat) : Int) + s = s + 50 by omega])]
set_option maxRecDepth 100000 in
set_option maxHeartbeats 4000000 in
theorem c_bitCount {w : WD} {sz n : Nat} (hn : n < 2 ^ 63) : CT iJ13_bitCount_95d88 0 0 [.long (lN n)] w sz (pR (some (xI (pop n))) w sz) := by
  refine CT.ofZ (by decide) rfl (Nat.le_of_ble_eq_true rfl) (fun Z hE => ?_)
  have hb := sw_bd hn
  have hp := swr_pop (n := n) (by omega)
  refine V_lload_n dJ13_bitCount_95d88_0 0 rfl rfl ?_
  refine V_lload_n dJ13_bitCount_95d88_1 0 rfl rfl ?_
  refine V_iconst dJ13_bitCount_95d88_2 ?_
  refine V_lushrN (n := n) (k := 1) dJ13_bitCount_95d88_3 (by omega) (by decide) (by decide) ?_
  refine V_ldcN (k := 6148914691236517205) dJ13_bitCount_95d88_4 (xG_at 326 (by decide +kernel) rfl) ?_
  refine V_landN dJ13_bitCount_95d88_7 ?_
  refine V_lsubN hb.1 dJ13_bitCount_95d88_8 ?_
  rw [show n - (n / 2 ^ 1 &&& 6148914691236517205) = sw1 8 n from rfl]
  refine V_lstore_n dJ13_bitCount_95d88_9 0 rfl (by decide) ?_
  refine V_lload_n dJ13_bitCount_95d88_10 0 rfl rfl ?_
  refine V_ldcN (k := 3689348814741910323) dJ13_bitCount_95d88_11 (xG_at 327 (by decide +kernel) rfl) ?_
  refine V_landN dJ13_bitCount_95d88_14 ?_
  refine V_lload_n dJ13_bitCount_95d88_15 0 rfl rfl ?_
  refine V_iconst dJ13_bitCount_95d88_16 ?_
  refine V_lushrN (n := (sw1 8 n)) (k := 2) dJ13_bitCount_95d88_17 (by omega) (by decide) (by decide) ?_
  refine V_ldcN (k := 3689348814741910323) dJ13_bitCount_95d88_18 (xG_at 327 (by decide +kernel) rfl) ?_
  refine V_landN dJ13_bitCount_95d88_21 ?_
  refine V_laddN dJ13_bitCount_95d88_22 ?_
  rw [show ((sw1 8 n) &&& 3689348814741910323) + ((sw1 8 n) / 2 ^ 2 &&& 3689348814741910323) = sw2 8 (sw1 8 n) from rfl]
  refine V_lstore_n dJ13_bitCount_95d88_23 0 rfl (by decide) ?_
  refine V_lload_n dJ13_bitCount_95d88_24 0 rfl rfl ?_
  refine V_lload_n dJ13_bitCount_95d88_25 0 rfl rfl ?_
  refine V_iconst dJ13_bitCount_95d88_26 ?_
  refine V_lushrN (n := (sw2 8 (sw1 8 n))) (k := 4) dJ13_bitCount_95d88_27 (by omega) (by decide) (by decide) ?_
  refine V_laddN dJ13_bitCount_95d88_28 ?_
  refine V_ldcN (k := 1085102592571150095) dJ13_bitCount_95d88_29 (xG_at 328 (by decide +kernel) rfl) ?_
  refine V_landN dJ13_bitCount_95d88_32 ?_
  rw [show ((sw2 8 (sw1 8 n)) + (sw2 8 (sw1 8 n)) / 2 ^ 4) &&& 1085102592571150095 = swr 8 n from rfl]
  refine V_lstore_n dJ13_bitCount_95d88_33 0 rfl (by decide) ?_
  refine V_lload_n dJ13_bitCount_95d88_34 0 rfl rfl ?_
  refine V_lload_n dJ13_bitCount_95d88_35 0 rfl rfl ?_
  refine V_bipush dJ13_bitCount_95d88_36 (by decide) ?_
  refine V_lushrN (n := (swr 8 n)) (k := 8) dJ13_bitCount_95d88_38 (by omega) (by decide) (by decide) ?_
  refine V_laddN dJ13_bitCount_95d88_39 ?_
  refine V_lstore_n dJ13_bitCount_95d88_40 0 rfl (by decide) ?_
  refine V_lload_n dJ13_bitCount_95d88_41 0 rfl rfl ?_
  refine V_lload_n dJ13_bitCount_95d88_42 0 rfl rfl ?_
  refine V_bipush dJ13_bitCount_95d88_43 (by decide) ?_
  refine V_lushrN (n := ((swr 8 n) + (swr 8 n) / 2 ^ 8)) (k := 16) dJ13_bitCount_95d88_45 (by omega) (by decide) (by decide) ?_
  refine V_laddN dJ13_bitCount_95d88_46 ?_
  refine V_lstore_n dJ13_bitCount_95d88_47 0 rfl (by decide) ?_
  refine V_lload_n dJ13_bitCount_95d88_48 0 rfl rfl ?_
  refine V_lload_n dJ13_bitCount_95d88_49 0 rfl rfl ?_
  refine V_bipush dJ13_bitCount_95d88_50 (by decide) ?_
  refine V_lushrN (n := ((swr 8 n) + (swr 8 n) / 2 ^ 8 + ((swr 8 n) + (swr 8 n) / 2 ^ 8) / 2 ^ 16)) (k := 32) dJ13_bitCount_95d88_52 (by omega) (by decide) (by decide) ?_
  refine V_laddN dJ13_bitCount_95d88_53 ?_
  refine V_lstore_n dJ13_bitCount_95d88_54 0 rfl (by decide) ?_
  refine V_lload_n dJ13_bitCount_95d88_55 0 rfl rfl ?_
  refine V_l2iN dJ13_bitCount_95d88_56 ?_
  refine V_bipush dJ13_bitCount_95d88_57 (by decide) ?_
  refine V_iand127 dJ13_bitCount_95d88_59 ?_
  exact V_iret hE rfl dJ13_bitCount_95d88_60 ⟨by rw [← hp]; rfl, rfl, rfl⟩
set_option maxRecDepth 100000 in
set_option maxHeartbeats 4000000 in
theorem c_differentShades {w : WD} {sz a9 : Nat} {z : Int → Int} (hw : w a9 = some (xIA 160 z)) (hz : ∀ k, 0 ≤ k → k < 160 → 0 ≤ z k ∧ z k ≤ 99) : CT iX6_differentShades 0 0 [.ref a9] w sz (pR (some (xI (idif z))) w sz) := by
  refine CT.ofZ (by decide) rfl (Nat.le_of_ble_eq_true rfl) (fun Z hE => ?_)
  refine V_lconst (z := 0) dX6_differentShades_0 (by decide) ?_
  refine V_lstore_n dX6_differentShades_1 1 rfl (by decide) ?_
  refine V_lconst (z := 0) dX6_differentShades_2 (by decide) ?_
  refine V_lstore_n dX6_differentShades_3 3 rfl (by decide) ?_
  refine V_iconst dX6_differentShades_4 ?_
  refine V_istore dX6_differentShades_5 (by decide) ?_
  have L7 : ∀ k : Int, 0 ≤ k → k ≤ 160 → ∀ (x y : Int64) (a b : Nat), x = lN a → y = lN b → ShB z 0 k a → ShB z 50 k b → V iX6_differentShades Z 0 0 w sz 7 [some (.ref a9), some (.long x), none, some (.long y), none, some (xI k), none] [] := by
    refine up_ind ?_
    intro k hk0 hk1 ih x y a b hx hy ha hb
    subst hx
    subst hy
    refine V_iload dX6_differentShades_7 rfl ?_
    refine V_sipush dX6_differentShades_9 (by decide) ?_
    refine V_icmp_ge 54 dX6_differentShades_12 (by decide) (by omega) (fun h12 => ?_) (fun h12 => ?_)
    · rw [show k = 160 by omega] at ha hb
      have hf9 := ShB.fin ha hb
      refine V_lload_n dX6_differentShades_54 1 rfl rfl ?_
      refine V_c_X6_268 rfl (by decide) (c_bitCount (by omega)) dX6_differentShades_55 rfl rfl (Nat.le_of_ble_eq_true rfl) (Nat.le_of_eq (Nat.zero_add _)) (Nat.le_of_eq (Nat.zero_add _)) (fun v w sz q => ?_)
      obtain ⟨rfl, rfl, rfl⟩ := q
      refine V_lload_n dX6_differentShades_58 3 rfl rfl ?_
      refine V_c_X6_268 rfl (by decide) (c_bitCount (by omega)) dX6_differentShades_59 rfl rfl (Nat.le_of_ble_eq_true rfl) (Nat.le_of_eq (Nat.zero_add _)) (Nat.le_of_eq (Nat.zero_add _)) (fun v w sz q => ?_)
      obtain ⟨rfl, rfl, rfl⟩ := q
      refine V_iadd dX6_differentShades_62 ?_
      exact V_iret hE rfl dX6_differentShades_63 ⟨bE hf9.2, rfl, rfl⟩
    · refine V_aload_n dX6_differentShades_15 0 rfl rfl ?_
      refine V_iload dX6_differentShades_16 rfl ?_
      have hz9 := hz k hk0 (by omega)
      refine V_iald dX6_differentShades_18 hw ⟨hk0, by omega⟩ ?_
      refine V_istore dX6_differentShades_19 (by decide) ?_
      refine V_iload dX6_differentShades_21 rfl ?_
      refine V_bipush dX6_differentShades_23 (by decide) ?_
      refine V_icmp_ge 38 dX6_differentShades_25 (by decide) (by omega) (fun h25 => ?_) (fun h25 => ?_)
      · refine V_lload_n dX6_differentShades_38 3 rfl rfl ?_
        refine V_lconst (z := 1) dX6_differentShades_39 (by decide) ?_
        refine V_iload dX6_differentShades_40 rfl ?_
        refine V_bipush dX6_differentShades_42 (by decide) ?_
        refine V_isub dX6_differentShades_44 ?_
        refine V_lshl1 (n := (z k - 50).toNat) dX6_differentShades_45 (by omega) (by omega) ?_
        refine V_lorN dX6_differentShades_46 ?_
        refine V_lstore_n dX6_differentShades_47 3 rfl (by decide) ?_
        refine V_iinc dX6_differentShades_48 rfl (by decide) ?_
        refine V_goto 7 dX6_differentShades_51 (by decide) ?_
        refine V_fg [true, true, false, true, false, true, false] ?_
        exact ih (by omega) _ _ _ _ rfl rfl (ha.no hk0 (by omega)) (hb.set hk0 (by omega) (by omega))
      · refine V_lload_n dX6_differentShades_28 1 rfl rfl ?_
        refine V_lconst (z := 1) dX6_differentShades_29 (by decide) ?_
        refine V_iload dX6_differentShades_30 rfl ?_
        refine V_lshl1 (n := (z k).toNat) dX6_differentShades_32 (by omega) (by omega) ?_
        refine V_lorN dX6_differentShades_33 ?_
        refine V_lstore_n dX6_differentShades_34 1 rfl (by decide) ?_
        refine V_goto 48 dX6_differentShades_35 (by decide) ?_
        refine V_iinc dX6_differentShades_48 rfl (by decide) ?_
        refine V_goto 7 dX6_differentShades_51 (by decide) ?_
        refine V_fg [true, true, false, true, false, true, false] ?_
        refine ih (by omega) _ _ _ _ rfl rfl (by have := ha.set hk0 (by omega) (by omega); rw [Int.sub_zero] at this; exact this) (hb.no hk0 (by omega))
  refine V_fg [true, true, false, true, false, true, false] ?_
  exact L7 (0) (by omega) (by omega) _ _ 0 0 rfl rfl (fun s => by rw [Nat.zero_testBit, iex_0, Bool.and_false]) (fun s => by rw [Nat.zero_testBit, iex_0, Bool.and_false])
