/-! p25's law: its small methods -/
section LROWS2
variable {I : XI} {Z : XZ} {kc ks : Nat} {w : WD} {sz pc : Nat} {lv : List (Option Value)} {st : List Value}
theorem V_ldcI {n : Nat} {z : Int} (hd : decode I.cc pc = .ok (.ldc n, 2)) (h : Cond.constant I.y.cls n (Int32.ofInt z) ∈ xG) (k : V I Z kc ks w sz (pc + 2) lv (xI z :: st)) : V I Z kc ks w sz pc lv st :=
  V_st (fun Γ p l e R s m args below meth c H locs cells slots ls Q C N L _ _ kk => lv_ldc C.1 C.2.1 C.2.2.2.2.2.2.2.1 (C.2.2.2.2.2.2.2.2.1 _ h) hd kk) k
/-- the script, wherever the method stands -/
def ZSx (Z : XZ) (L : Nat) (xs : Nat → Int32) : XZ := (fun Γ s => Z.1 Γ s ∧ L ≤ 260 ∧ va_X Γ.2.2.1 L xs s s.heap ∧ Γ.2.2.1 < s.heap.size ∧ ¬ Γ.2.2.2 < Γ.2.2.1, Z.2)
theorem ZSx.end_ {Z : XZ} {L : Nat} {xs : Nat → Int32} {Q : XQ} (h : xEnd Z Q) : xEnd (ZSx Z L xs) Q := h
theorem V_script (k : ∀ L xs, L ≤ 260 → V I (ZSx Z L xs) kc ks w sz pc lv st) : V I Z kc ks w sz pc lv st := by
  intro Γ p l e R s m args below meth c H locs cells slots ls C N L9 h1 h2
  obtain ⟨c1, c2, c3, c4, c5, c6, c7, c8, c9, c10, c11, c12, c13, c14⟩ := C
  obtain ⟨hle, L, xs, hL, hx⟩ := c10.2.2.2.2.2.2
  have hlt : Γ.2.2.1 < s.heap.size := (Array.getElem?_eq_some_iff.mp hx.choose_spec.1).1
  exact k L xs hL Γ p l e R s m args below meth c H locs cells slots ls ⟨c1, c2, c3, c4, c5, c6, c7, c8, c9, c10, c11, c12, c13, c14, hL, hx, hlt, by omega⟩ N L9 h1 h2
theorem V_sald {L : Nat} {xs : Nat → Int32} {z : Int} (hd : decode I.cc pc = .ok (.iaload, 1)) (r : 0 ≤ z ∧ z < (L : Int)) (hn : L ≤ 260) (kk : ∀ v : Int32, V I (ZSx Z L xs) kc ks w sz (pc + 1) lv (.int v :: st)) : V I (ZSx Z L xs) kc ks w sz pc lv (xI z :: .ref 0 :: st) := by
  intro Γ p l e R s m args below meth c H locs cells slots ls C N L9 h1 h2
  obtain ⟨-, -, g1, g2, g3⟩ := C.2.2.2.2.2.2.2.2.2.2.2.2.2
  refine va_sld C.1 C.2.1 g1 g2 g3 N.2.2.2 (xof_in r.1 r.2 (by omega)) hd ?_
  exact kk _ Γ p l e R s m args below meth c H locs cells slots ls C N L9 h1 h2
theorem V_slen {L : Nat} {xs : Nat → Int32} (hd : decode I.cc pc = .ok (.arraylength, 1)) (kk : V I (ZSx Z L xs) kc ks w sz (pc + 1) lv (xI (L : Int) :: st)) : V I (ZSx Z L xs) kc ks w sz pc lv (.ref 0 :: st) := by
  intro Γ p l e R s m args below meth c H locs cells slots ls C N L9 h1 h2
  obtain ⟨-, -, g1, g2, g3⟩ := C.2.2.2.2.2.2.2.2.2.2.2.2.2
  refine va_slen C.1 C.2.1 g1 g2 g3 N.2.2.2 hd ?_
  exact kk Γ p l e R s m args below meth c H locs cells slots ls C N L9 h1 h2
end LROWS2
set_option maxRecDepth 100000 in
set_option maxHeartbeats 4000000 in
theorem l_of {w : WD} {sz a n : Nat} {g : Int → Int} {f x y : Int} (hw : w a = some (xPA n g)) (hg : B7 g) (hf : 0 ≤ f) (hn : f + 20 ≤ (n : Int)) (hN : n ≤ 60) (hc : iCell x y) : CT iL_of 0 0 [.ref a, xI f, xI x, xI y] w sz (pR (some (xI (g (8 * f + 16 * y + x)))) w sz) := by
  refine CT.ofZ (by decide) rfl (Nat.le_of_ble_eq_true rfl) (fun Z hE => ?_)
  have e9 : ((pn g (f + 2 * y + x / 8) / 2 ^ (8 * (x % 8)).toNat &&& 127 : Nat) : Int) = g (8 * f + 16 * y + x) := by
    have e := pn_at hg (f + 2 * y + x / 8) (x % 8) (by omega)
    rw [show (127 : Nat) = 2 ^ 7 - 1 from rfl, Nat.and_two_pow_sub_one_eq_mod, show (2 ^ 7 : Nat) = 128 from rfl, e, show 8 * (f + 2 * y + x / 8) + x % 8 = 8 * f + 16 * y + x by omega]
    have := hg (8 * f + 16 * y + x)
    omega
  refine V_aload_n dL_of_0 0 rfl rfl ?_
  refine V_iload_n dL_of_1 1 rfl rfl ?_
  refine V_iconst dL_of_2 ?_
  refine V_iload_n dL_of_3 3 rfl rfl ?_
  refine V_imul dL_of_4 ?_
  refine V_iadd dL_of_5 ?_
  refine V_iload_n dL_of_6 2 rfl rfl ?_
  refine V_bipush dL_of_7 (by decide) ?_
  refine V_idivN dL_of_9 (by first | omega | (dsimp only; omega) | exact iAnd_0 | exact iOr_0 | exact iShl_0 | exact iShr_0) ?_
  refine V_iadd dL_of_10 ?_
  refine V_lald dL_of_11 hw (by omega) ?_ (hn := by omega)
  rw [show xJ (pk g (f + 2 * y + x / 8)) = Value.long (lN (pn g (f + 2 * y + x / 8))) from congrArg Value.long (pk_lN _ _)]
  refine V_bipush dL_of_12 (by decide) ?_
  refine V_iload_n dL_of_14 2 rfl rfl ?_
  refine V_bipush dL_of_15 (by decide) ?_
  refine V_iremN dL_of_17 (by first | omega | (dsimp only; omega) | exact iAnd_0 | exact iOr_0 | exact iShl_0 | exact iShr_0) ?_
  refine V_imul dL_of_18 ?_
  refine V_lshrR dL_of_19 ?_
  rw [of_nI (a := 8 * (x % 8)) (by omega), pl_shr (by omega) (pn_lt hg _)]
  refine V_ldcN (k := 127) dL_of_20 (xG_at 379 (by decide +kernel) rfl) ?_
  refine V_landN dL_of_23 ?_
  refine V_l2iN dL_of_24 ?_
  exact V_iret hE rfl dL_of_25 ⟨congrArg (fun z => some (xI z)) e9, rfl, rfl⟩
set_option maxRecDepth 100000 in
set_option maxHeartbeats 4000000 in
theorem l_put {w : WD} {sz a n : Nat} {g : Int → Int} {f x y v : Int} (hw : w a = some (xPA n g)) (hg : B7 g) (hf : 0 ≤ f) (hn : f + 20 ≤ (n : Int)) (hN : n ≤ 60) (hc : iCell x y) (hv : 0 ≤ v ∧ v ≤ 127) : CT iL_put 0 0 [.ref a, xI f, xI x, xI y, xI v] w sz (fun o9 w' sz' => o9 = none ∧ w' = xU w a (xPA n (iu g (8 * f + 16 * y + x) v)) ∧ sz' = sz) := by
  refine CT.ofZ (by decide) rfl (Nat.le_of_ble_eq_true rfl) (fun Z hE => ?_)
  have e9 := pk_set hg (f + 2 * y + x / 8) (x % 8) v (by omega) hv
  rw [show 8 * (f + 2 * y + x / 8) + x % 8 = 8 * f + 16 * y + x by omega] at e9
  refine V_iload_n dL_put_0 1 rfl rfl ?_
  refine V_iconst dL_put_1 ?_
  refine V_iload_n dL_put_2 3 rfl rfl ?_
  refine V_imul dL_put_3 ?_
  refine V_iadd dL_put_4 ?_
  refine V_iload_n dL_put_5 2 rfl rfl ?_
  refine V_bipush dL_put_6 (by decide) ?_
  refine V_idivN dL_put_8 (by first | omega | (dsimp only; omega) | exact iAnd_0 | exact iOr_0 | exact iShl_0 | exact iShr_0) ?_
  refine V_iadd dL_put_9 ?_
  refine V_istore dL_put_10 (by decide) ?_
  refine V_aload_n dL_put_12 0 rfl rfl ?_
  refine V_iload dL_put_13 rfl ?_
  refine V_aload_n dL_put_15 0 rfl rfl ?_
  refine V_iload dL_put_16 rfl ?_
  refine V_lald dL_put_18 hw (by omega) ?_ (hn := by omega)
  refine V_ldc2 (z := 127) dL_put_19 (xG_at 379 (by decide +kernel) rfl) ?_
  refine V_bipush dL_put_22 (by decide) ?_
  refine V_iload_n dL_put_24 2 rfl rfl ?_
  refine V_bipush dL_put_25 (by decide) ?_
  refine V_iremN dL_put_27 (by first | omega | (dsimp only; omega) | exact iAnd_0 | exact iOr_0 | exact iShl_0 | exact iShr_0) ?_
  refine V_imul dL_put_28 ?_
  refine V_lshl dL_put_29 ?_
  refine V_ldc2 (z := -1) dL_put_30 (xG_at 380 (by decide +kernel) rfl) ?_
  refine V_lxorR dL_put_33 ?_
  refine V_landR dL_put_34 ?_
  refine V_iload dL_put_35 rfl ?_
  refine V_i2l dL_put_37 (by omega) ?_
  refine V_bipush dL_put_38 (by decide) ?_
  refine V_iload_n dL_put_40 2 rfl rfl ?_
  refine V_bipush dL_put_41 (by decide) ?_
  refine V_iremN dL_put_43 (by first | omega | (dsimp only; omega) | exact iAnd_0 | exact iOr_0 | exact iShl_0 | exact iShr_0) ?_
  refine V_imul dL_put_44 ?_
  refine V_lshl dL_put_45 ?_
  refine V_lor dL_put_46 ?_
  rw [e9]
  refine V_last dL_put_47 hw (by omega) ?_ (hn := by omega)
  rw [pk_iu (by omega)]
  exact V_vret hE rfl dL_put_48 ⟨rfl, rfl, rfl⟩
set_option maxRecDepth 100000 in
set_option maxHeartbeats 4000000 in
theorem l_abs {w : WD} {sz : Nat} {v : Int} (hv : -1000 ≤ v ∧ v ≤ 1000) : CT iL_abs 0 0 [xI v] w sz (pR (some (xI (iabs v))) w sz) := by
  refine CT.ofZ (by decide) rfl (Nat.le_of_ble_eq_true rfl) (fun Z hE => ?_)
  refine V_iload_n dL_abs_0 0 rfl rfl ?_
  refine V_if_ge 9 dL_abs_1 (by decide) (by omega) (fun h1 => ?_) (fun h1 => ?_)
  · refine V_iload_n dL_abs_9 0 rfl rfl ?_
    exact V_iret hE rfl dL_abs_10 ⟨by first | rw [show iabs v = v from if_neg (by omega)] | rw [show iabs v = -v from if_pos (by omega)], rfl, rfl⟩
  · refine V_iload_n dL_abs_4 0 rfl rfl ?_
    refine V_ineg dL_abs_5 ?_
    refine V_goto 10 dL_abs_6 (by decide) ?_
    exact V_iret hE rfl dL_abs_10 ⟨by first | rw [show iabs v = v from if_neg (by omega)] | rw [show iabs v = -v from if_pos (by omega)], rfl, rfl⟩
def iat (x n : Int) : Int := x / 2 % n
theorem iat_r {x n : Int} (hn : 0 < n) : 0 ≤ iat x n ∧ iat x n < n := ⟨Int.emod_nonneg _ (by omega), Int.emod_lt_of_pos _ hn⟩
set_option maxRecDepth 100000 in
set_option maxHeartbeats 4000000 in
theorem l_at {w : WD} {sz : Nat} {x n : Int} (hx : 0 ≤ x ∧ x < 2147483648) (hn : 0 < n ∧ n < 2147483648) : CT iL_at 0 0 [xI x, xI n] w sz (pR (some (xI (iat x n))) w sz) := by
  refine CT.ofZ (by decide) rfl (Nat.le_of_ble_eq_true rfl) (fun Z hE => ?_)
  refine V_iload_n dL_at_0 0 rfl rfl ?_
  refine V_iconst dL_at_1 ?_
  refine V_iushrZ dL_at_2 (by first | omega | (dsimp only; omega) | exact iAnd_0 | exact iOr_0 | exact iShl_0 | exact iShr_0) (by first | omega | (dsimp only; omega) | exact iAnd_0 | exact iOr_0 | exact iShl_0 | exact iShr_0) ?_
  refine V_iload_n dL_at_3 1 rfl rfl ?_
  rw [iShr_d hx.1, show ((2 ^ (1 : Int).toNat : Nat) : Int) = 2 from rfl]
  refine V_iremN dL_at_4 (by first | omega | (dsimp only; omega) | exact iAnd_0 | exact iOr_0 | exact iShl_0 | exact iShr_0) ?_
  exact V_iret hE rfl dL_at_5 ⟨rfl, rfl, rfl⟩
theorem b2i_1 {b : Bool} (h : b2i b = 1) : b = true := by cases b; exact absurd h (by decide); rfl
set_option maxRecDepth 100000 in
set_option maxHeartbeats 4000000 in
theorem l_is {w : WD} {sz a : Nat} {R : Int → Int} {x y : Int} (hw : w a = some (xIA 10 R)) (hr : rr R) (hx : -1000 ≤ x ∧ x ≤ 1000 ∧ -1000 ≤ y ∧ y ≤ 1000) : CT iL_is 0 0 [.ref a, xI x, xI y] w sz (pR (some (xB (isb R x y))) w sz) := by
  refine CT.ofZ (by decide) rfl (Nat.le_of_ble_eq_true rfl) (fun Z hE => ?_)
  have eT : iCell x y ∧ tb (R y) x = true → true = isb R x y := fun q => by
    unfold isb
    rw [decide_eq_true q.1, q.2]
    rfl
  have eF : ¬ iCell x y ∨ tb (R y) x = false → false = isb R x y := fun q => by
    unfold isb
    rcases q with q | q
    · rw [decide_eq_false q, Bool.false_and]
    · rw [q, Bool.and_false]
  refine V_iload_n dL_is_0 1 rfl rfl ?_
  refine V_if_lt 35 dL_is_1 (by decide) (by omega) (fun h1 => ?_) (fun h1 => ?_)
  · refine V_iconst dL_is_35 ?_
    exact V_zret (b := false) hE rfl dL_is_36 ⟨congrArg (fun b => some (xB b)) (eF (by first | exact Or.inl (by omega) | exact Or.inr (Bool.not_eq_true _ |>.mp (fun q => h28 (by rw [q]; rfl))))), rfl, rfl⟩
  · refine V_iload_n dL_is_4 2 rfl rfl ?_
    refine V_if_lt 35 dL_is_5 (by decide) (by omega) (fun h5 => ?_) (fun h5 => ?_)
    · refine V_iconst dL_is_35 ?_
      exact V_zret (b := false) hE rfl dL_is_36 ⟨congrArg (fun b => some (xB b)) (eF (by first | exact Or.inl (by omega) | exact Or.inr (Bool.not_eq_true _ |>.mp (fun q => h28 (by rw [q]; rfl))))), rfl, rfl⟩
    · refine V_iload_n dL_is_8 1 rfl rfl ?_
      refine V_bipush dL_is_9 (by decide) ?_
      refine V_icmp_ge 35 dL_is_11 (by decide) (by omega) (fun h11 => ?_) (fun h11 => ?_)
      · refine V_iconst dL_is_35 ?_
        exact V_zret (b := false) hE rfl dL_is_36 ⟨congrArg (fun b => some (xB b)) (eF (by first | exact Or.inl (by omega) | exact Or.inr (Bool.not_eq_true _ |>.mp (fun q => h28 (by rw [q]; rfl))))), rfl, rfl⟩
      · refine V_iload_n dL_is_14 2 rfl rfl ?_
        refine V_bipush dL_is_15 (by decide) ?_
        refine V_icmp_ge 35 dL_is_17 (by decide) (by omega) (fun h17 => ?_) (fun h17 => ?_)
        · refine V_iconst dL_is_35 ?_
          exact V_zret (b := false) hE rfl dL_is_36 ⟨congrArg (fun b => some (xB b)) (eF (by first | exact Or.inl (by omega) | exact Or.inr (Bool.not_eq_true _ |>.mp (fun q => h28 (by rw [q]; rfl))))), rfl, rfl⟩
        · refine V_aload_n dL_is_20 0 rfl rfl ?_
          refine V_iload_n dL_is_21 2 rfl rfl ?_
          have h8 := hr y (by omega) (by omega)
          refine V_iald dL_is_22 hw (by omega) ?_
          refine V_iload_n dL_is_23 1 rfl rfl ?_
          refine V_ishrZ dL_is_24 (by omega) (by omega) ?_
          refine V_iconst dL_is_25 ?_
          refine V_iandZ dL_is_26 iShr_0 (by omega) ?_
          rw [iAnd_1 (by omega)]
          refine V_iconst dL_is_27 ?_
          have h9 := b2i_r (tb (R y) x)
          refine V_icmp_ne 35 dL_is_28 (by decide) (by omega) (fun h28 => ?_) (fun h28 => ?_)
          · refine V_iconst dL_is_35 ?_
            exact V_zret (b := false) hE rfl dL_is_36 ⟨congrArg (fun b => some (xB b)) (eF (by first | exact Or.inl (by omega) | exact Or.inr (Bool.not_eq_true _ |>.mp (fun q => h28 (by rw [q]; rfl))))), rfl, rfl⟩
          · refine V_iconst dL_is_31 ?_
            refine V_goto 36 dL_is_32 (by decide) ?_
            exact V_zret (b := true) hE rfl dL_is_36 ⟨congrArg (fun b => some (xB b)) (eT ⟨by omega, b2i_1 h28⟩), rfl, rfl⟩
theorem V_iretR {I : XI} {Z : XZ} {kc ks : Nat} {w : WD} {sz pc : Nat} {lv : List (Option Value)} {Q : XQ} {a : Int32} (hE : xEnd Z Q) (hr : I.rt = some .int) (hd : decode I.cc pc = .ok (.ireturn, 1)) (q : Q (some (.int a)) w sz) : V I Z kc ks w sz pc lv [.int a] := by
  have e : Value.int a = xI a.toInt := by rw [show xI a.toInt = Value.int (Int32.ofInt a.toInt) from rfl, Int32.ofInt_toInt]
  rw [e] at q ⊢
  exact V_iret hE hr hd q
set_option maxRecDepth 100000 in
set_option maxHeartbeats 4000000 in
theorem l_cell {w : WD} {sz : Nat} {k : Int} (hk : 0 ≤ k ∧ k ≤ 1000) : CT iL_cell 0 0 [.ref 0, xI k] w sz (fun o9 w' sz' => (∃ v : Int32, o9 = some (.int v)) ∧ w' = w ∧ sz' = sz) := by
  refine CT.ofZ (by decide) rfl (Nat.le_of_ble_eq_true rfl) (fun Z hE => ?_)
  refine V_script (fun L xs hL => ?_)
  refine V_iload_n dL_cell_0 1 rfl rfl ?_
  refine V_aload_n dL_cell_1 0 rfl rfl ?_
  refine V_slen dL_cell_2 ?_
  refine V_icmp_ge 12 dL_cell_3 (by decide) (by omega) (fun h3 => ?_) (fun h3 => ?_)
  · refine V_ldcI (z := 1640531527) dL_cell_12 (xG_at 372 (by decide +kernel) rfl) ?_
    refine V_iload_n dL_cell_14 1 rfl rfl ?_
    refine V_iconst dL_cell_15 ?_
    refine V_iadd dL_cell_16 ?_
    refine V_imul dL_cell_17 ?_
    exact V_iretR (ZSx.end_ hE) rfl dL_cell_18 ⟨⟨_, rfl⟩, rfl, rfl⟩
  · refine V_aload_n dL_cell_6 0 rfl rfl ?_
    refine V_iload_n dL_cell_7 1 rfl rfl ?_
    refine V_sald dL_cell_8 (by omega) hL (fun v => ?_)
    refine V_goto 18 dL_cell_9 (by decide) ?_
    exact V_iretR (ZSx.end_ hE) rfl dL_cell_18 ⟨⟨_, rfl⟩, rfl, rfl⟩
