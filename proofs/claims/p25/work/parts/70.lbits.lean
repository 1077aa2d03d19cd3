/-! p25's law: bits of ints and longs (bt to b_sshr, wb_tb to wb_shl begin as the kit's families to paste) -/
def bt (x : Int32) (i : Nat) : Bool := x.toBitVec.getLsbD i
theorem b_ext {x y : Int32} (h : ∀ i, i < 32 → bt x i = bt y i) : x = y := Int32.toBitVec_inj.mp (BitVec.eq_of_getLsbD_eq (fun i hi => h i hi))
theorem b_or (x y : Int32) (i : Nat) : bt (x ||| y) i = (bt x i || bt y i) := by unfold bt; rw [Int32.toBitVec_or, BitVec.getLsbD_or]
theorem b_and (x y : Int32) (i : Nat) : bt (x &&& y) i = (bt x i && bt y i) := by unfold bt; rw [Int32.toBitVec_and, BitVec.getLsbD_and]
theorem b_big {x : Int32} {i : Nat} (h : 32 ≤ i) : bt x i = false := BitVec.getLsbD_of_ge _ _ h
theorem s_l : ∀ n, n < 32 → ((nI n &&& 31).toBitVec.smod 32).toNat = n := by decide +kernel
theorem s_u : ∀ n, n < 32 → (((nI n).toUInt32 &&& Int32.toUInt32 31).toBitVec % 32).toNat = n := by decide +kernel
theorem b_shl (n : Nat) (hn : n < 32) (x : Int32) {i : Nat} (hi : i < 32) : bt (x <<< (nI n &&& 31)) i = (decide (n ≤ i) && bt x (i - n)) := by
  unfold bt
  rw [Int32.toBitVec_shiftLeft]
  show (x.toBitVec <<< ((nI n &&& 31).toBitVec.smod 32).toNat).getLsbD i = _
  rw [s_l n hn, BitVec.getLsbD_shiftLeft]
  rcases Nat.lt_or_ge i n with h | h
  · simp [h, Nat.not_le.mpr h]
  · simp [hi, h, Nat.not_lt.mpr h]
theorem b_ushr (n : Nat) (hn : n < 32) (x : Int32) (i : Nat) : bt ((x.toUInt32 >>> ((nI n).toUInt32 &&& Int32.toUInt32 31)).toInt32) i = bt x (n + i) := by
  show (x.toUInt32 >>> ((nI n).toUInt32 &&& Int32.toUInt32 31)).toBitVec.getLsbD i = x.toUInt32.toBitVec.getLsbD (n + i)
  rw [UInt32.toBitVec_shiftRight]
  show (x.toUInt32.toBitVec >>> (((nI n).toUInt32 &&& Int32.toUInt32 31).toBitVec % 32).toNat).getLsbD i = _
  rw [s_u n hn, BitVec.getLsbD_ushiftRight]
theorem b_sshr (n : Nat) (hn : n < 32) (x : Int32) {i : Nat} (hi : i < 32) : bt (x >>> (nI n &&& 31)) i = if n + i < 32 then bt x (n + i) else bt x 31 := by
  unfold bt
  rw [Int32.toBitVec_shiftRight]
  show (x.toBitVec.sshiftRight ((nI n &&& 31).toBitVec.smod 32).toNat).getLsbD i = _
  rw [s_l n hn, BitVec.getLsbD_sshiftRight, BitVec.msb_eq_getLsbD_last]
  simp [hi]
theorem wb_tb (n : Nat) : (lN n).toBitVec = BitVec.ofNat 64 n := rfl
theorem wb_inj {a b : Int64} (h : a.toBitVec = b.toBitVec) : a = b := Int64.toBitVec_inj.mp h
theorem wb_c : ∀ k, k < 64 → ((nI k).toInt64 &&& 63) = lN k := by decide +kernel
theorem wb_sm : ∀ k, k < 64 → (BitVec.ofNat 64 k).smod 64 = BitVec.ofNat 64 k := by decide +kernel
theorem wb_shl (n : Nat) {k : Nat} (hk : k < 64) : lN n <<< ((nI k).toInt64 &&& 63) = lN (n * 2 ^ k) := by
  rw [wb_c k hk]
  apply wb_inj
  rw [Int64.toBitVec_shiftLeft, wb_tb, wb_tb, wb_tb, wb_sm k hk]
  apply BitVec.eq_of_toNat_eq
  rw [BitVec.shiftLeft_eq', BitVec.toNat_shiftLeft, BitVec.toNat_ofNat, BitVec.toNat_ofNat, BitVec.toNat_ofNat, Nat.mod_eq_of_lt (show k < 2 ^ 64 by omega), Nat.shiftLeft_eq, Nat.mul_mod, Nat.mod_mod, ← Nat.mul_mod]
theorem bt_nI {n i : Nat} (hi : i < 32) : bt (nI n) i = n.testBit i := by
  unfold bt
  show (BitVec.ofNat 32 n).getLsbD i = _
  rw [BitVec.getLsbD_ofNat]
  simp [hi]
theorem of_nI {a : Int} (h : 0 ≤ a) : Int32.ofInt a = nI a.toNat := by
  unfold nI
  rw [← Int32.ofInt_eq_ofNat, Int.toNat_of_nonneg h]
theorem of_lN {a : Int} (h : 0 ≤ a) : Int64.ofInt a = lN a.toNat := by
  unfold lN
  rw [← Int64.ofInt_eq_ofNat, Int.toNat_of_nonneg h]
/-- bits of whole numbers -/
def tb (v x : Int) : Bool := v.toNat.testBit x.toNat
def iAnd (a b : Int) : Int := ((a.toNat &&& b.toNat : Nat) : Int)
def iOr (a b : Int) : Int := ((a.toNat ||| b.toNat : Nat) : Int)
def iShl (a s : Int) : Int := ((a.toNat <<< s.toNat : Nat) : Int)
def iShr (a s : Int) : Int := ((a.toNat >>> s.toNat : Nat) : Int)
theorem tb_and (a b x : Int) : tb (iAnd a b) x = (tb a x && tb b x) := by
  unfold tb iAnd
  rw [Int.toNat_natCast, Nat.testBit_and]
theorem tb_or (a b x : Int) : tb (iOr a b) x = (tb a x || tb b x) := by
  unfold tb iOr
  rw [Int.toNat_natCast, Nat.testBit_or]
theorem tb_shl {a s x : Int} (hs : 0 ≤ s) (hx : 0 ≤ x) : tb (iShl a s) x = (decide (s ≤ x) && tb a (x - s)) := by
  unfold tb iShl
  rw [Int.toNat_natCast, Nat.testBit_shiftLeft, show (x - s).toNat = x.toNat - s.toNat by omega]
  congr 1
  exact decide_eq_decide.mpr (by omega)
theorem tb_shr {a s x : Int} (hs : 0 ≤ s) (hx : 0 ≤ x) : tb (iShr a s) x = tb a (x + s) := by
  unfold tb iShr
  rw [Int.toNat_natCast, Nat.testBit_shiftRight, show (x + s).toNat = s.toNat + x.toNat by omega]
theorem tb_0 (x : Int) : tb 0 x = false := Nat.zero_testBit _
theorem tb_1 {x : Int} (hx : 0 ≤ x) : tb 1 x = decide (x = 0) := by
  show (2 ^ 0).testBit x.toNat = _
  rw [Nat.testBit_two_pow]
  exact decide_eq_decide.mpr (by omega)
theorem tb_bit {s x : Int} (hs : 0 ≤ s) (hx : 0 ≤ x) : tb (iShl 1 s) x = decide (x = s) := by
  rw [tb_shl hs hx]
  by_cases h : s ≤ x
  · rw [tb_1 (by omega), decide_eq_true h, Bool.true_and]
    exact decide_eq_decide.mpr (by omega)
  · rw [decide_eq_false h, Bool.false_and, eq_comm]
    exact decide_eq_false (by omega)
theorem tb_hi {a x : Int} (h1 : a < 65536) (hx : 16 ≤ x) : tb a x = false := by
  refine Nat.testBit_lt_two_pow ?_
  have : 2 ^ 16 ≤ 2 ^ x.toNat := Nat.pow_le_pow_right (by decide) (by omega)
  omega
theorem tb_ext {a b : Int} (ha : 0 ≤ a ∧ a < 65536) (hb : 0 ≤ b ∧ b < 65536) (h : ∀ x, 0 ≤ x → x < 16 → tb a x = tb b x) : a = b := by
  have e : a.toNat = b.toNat := by
    refine Nat.eq_of_testBit_eq (fun i => ?_)
    by_cases q : i < 16
    · have := h i (by omega) (by omega)
      unfold tb at this
      rwa [Int.toNat_natCast] at this
    · have e1 := tb_hi (x := i) ha.2 (by omega)
      have e2 := tb_hi (x := i) hb.2 (by omega)
      unfold tb at e1 e2
      rw [Int.toNat_natCast] at e1 e2
      rw [e1, e2]
  omega
theorem tb_n0 {a : Int} (ha : 0 ≤ a ∧ a < 65536) : a ≠ 0 ↔ ∃ x, 0 ≤ x ∧ x < 16 ∧ tb a x = true := by
  constructor
  · intro h
    refine Classical.byContradiction (fun q => h (tb_ext ha (by omega) (fun x h0 h1 => ?_)))
    rw [tb_0]
    cases e : tb a x with
    | false => rfl
    | true => exact absurd ⟨x, h0, h1, e⟩ q
  · rintro ⟨x, h0, h1, e⟩ h
    rw [h, tb_0] at e
    cases e
theorem tb_lt {a : Int} (h0 : 0 ≤ a) (h : ∀ x, 16 ≤ x → tb a x = false) : a < 65536 := by
  have e : a.toNat < 2 ^ 16 := by
    refine Nat.lt_pow_two_of_testBit _ (fun i hi => ?_)
    have := h i (by omega)
    unfold tb at this
    rwa [Int.toNat_natCast] at this
  omega
theorem iAnd_0 {a b : Int} : 0 ≤ iAnd a b := Int.natCast_nonneg _
theorem iOr_0 {a b : Int} : 0 ≤ iOr a b := Int.natCast_nonneg _
theorem iShl_0 {a b : Int} : 0 ≤ iShl a b := Int.natCast_nonneg _
theorem iShr_0 {a b : Int} : 0 ≤ iShr a b := Int.natCast_nonneg _
theorem iAnd_l {a b : Int} (h : 0 ≤ a) : iAnd a b ≤ a := by
  have : a.toNat &&& b.toNat ≤ a.toNat := Nat.and_le_left
  unfold iAnd
  omega
theorem iAnd_r {a b : Int} (h : 0 ≤ b) : iAnd a b ≤ b := by
  have : a.toNat &&& b.toNat ≤ b.toNat := Nat.and_le_right
  unfold iAnd
  omega
theorem iOr_16 {a b : Int} (ha : a < 65536) (hb : b < 65536) : iOr a b < 65536 := by
  have : a.toNat ||| b.toNat < 2 ^ 16 := Nat.or_lt_two_pow (by omega) (by omega)
  unfold iOr
  omega
theorem iOr_22 {a b : Int} (ha : a < 4194304) (hb : b < 4194304) : iOr a b < 4194304 := by
  have : a.toNat ||| b.toNat < 2 ^ 22 := Nat.or_lt_two_pow (by omega) (by omega)
  unfold iOr
  omega
theorem iShr_l {a s : Int} (h : 0 ≤ a) : iShr a s ≤ a := by
  have : a.toNat >>> s.toNat ≤ a.toNat := by
    rw [Nat.shiftRight_eq_div_pow]
    exact Nat.div_le_self _ _
  unfold iShr
  omega
theorem iShl_5 {a s : Int} (h1 : a < 65536) (hs : s ≤ 5) : iShl a s < 4194304 := by
  have e1 : 2 ^ s.toNat ≤ 2 ^ 5 := Nat.pow_le_pow_right (by decide) (by omega)
  have e2 : a.toNat * 2 ^ s.toNat ≤ 65535 * 2 ^ 5 := Nat.mul_le_mul (by omega) e1
  unfold iShl
  rw [Nat.shiftLeft_eq]
  omega
theorem iShl_1 {s : Int} (hs : s ≤ 15) : iShl 1 s < 65536 := by
  have e1 : 2 ^ s.toNat ≤ 2 ^ 15 := Nat.pow_le_pow_right (by decide) (by omega)
  unfold iShl
  rw [Nat.shiftLeft_eq]
  show ((1 * 2 ^ s.toNat : Nat) : Int) < 65536
  omega
theorem iShl_16 {s : Int} (hs : s ≤ 16) : 1 ≤ iShl 1 s ∧ iShl 1 s ≤ 65536 := by
  have e1 : 2 ^ s.toNat ≤ 2 ^ 16 := Nat.pow_le_pow_right (by decide) (by omega)
  have e2 : 0 < 2 ^ s.toNat := Nat.two_pow_pos _
  unfold iShl
  rw [Nat.shiftLeft_eq]
  show 1 ≤ ((1 * 2 ^ s.toNat : Nat) : Int) ∧ ((1 * 2 ^ s.toNat : Nat) : Int) ≤ 65536
  omega
theorem tb_low {n x : Int} (hx : 0 ≤ x) : tb (iShl 1 n - 1) x = decide (x < n) := by
  unfold tb iShl
  rw [Nat.shiftLeft_eq]
  have e2 : 0 < 2 ^ n.toNat := Nat.two_pow_pos _
  rw [show (((1 : Int).toNat * 2 ^ n.toNat : Nat) : Int) - 1 = ((2 ^ n.toNat - 1 : Nat) : Int) by show ((1 * 2 ^ n.toNat : Nat) : Int) - 1 = _; omega, Int.toNat_natCast, Nat.testBit_two_pow_sub_one]
  exact decide_eq_decide.mpr (by omega)
theorem iShr_d {a s : Int} (h : 0 ≤ a) : iShr a s = a / (2 ^ s.toNat : Nat) := by
  unfold iShr
  rw [Nat.shiftRight_eq_div_pow, Int.natCast_ediv, Int.toNat_of_nonneg h]
theorem iAnd_1 {a x : Int} (hx : 0 ≤ x) : iAnd (iShr a x) 1 = b2i (tb a x) := by
  unfold iAnd iShr tb
  rw [Int.toNat_natCast, show (1 : Int).toNat = 1 from rfl, Nat.and_one_is_mod, Nat.testBit_eq_decide_div_mod_eq, Nat.shiftRight_eq_div_pow]
  rcases Nat.mod_two_eq_zero_or_one (a.toNat / 2 ^ x.toNat) with h | h <;> rw [h] <;> rfl
theorem xof_and {a b : Int} (ha : 0 ≤ a) (hb : 0 ≤ b) : Int32.ofInt a &&& Int32.ofInt b = Int32.ofInt (iAnd a b) := by
  rw [of_nI ha, of_nI hb, of_nI iAnd_0]
  refine b_ext (fun i hi => ?_)
  rw [b_and, bt_nI hi, bt_nI hi, bt_nI hi]
  unfold iAnd
  rw [Int.toNat_natCast, Nat.testBit_and]
theorem xof_or {a b : Int} (ha : 0 ≤ a) (hb : 0 ≤ b) : Int32.ofInt a ||| Int32.ofInt b = Int32.ofInt (iOr a b) := by
  rw [of_nI ha, of_nI hb, of_nI iOr_0]
  refine b_ext (fun i hi => ?_)
  rw [b_or, bt_nI hi, bt_nI hi, bt_nI hi]
  unfold iOr
  rw [Int.toNat_natCast, Nat.testBit_or]
theorem xof_shl {a s : Int} (ha : 0 ≤ a) (hs : 0 ≤ s ∧ s < 32) : Int32.ofInt a <<< (Int32.ofInt s &&& 31) = Int32.ofInt (iShl a s) := by
  rw [of_nI ha, of_nI hs.1, of_nI iShl_0]
  refine b_ext (fun i hi => ?_)
  rw [b_shl s.toNat (by omega) _ hi, bt_nI (by omega), bt_nI hi]
  unfold iShl
  rw [Int.toNat_natCast, Nat.testBit_shiftLeft]
theorem xof_shr {a s : Int} (ha : 0 ≤ a ∧ a < 2147483648) (hs : 0 ≤ s ∧ s < 32) : Int32.ofInt a >>> (Int32.ofInt s &&& 31) = Int32.ofInt (iShr a s) := by
  rw [of_nI ha.1, of_nI hs.1, of_nI iShr_0]
  refine b_ext (fun i hi => ?_)
  rw [b_sshr s.toNat (by omega) _ hi, bt_nI hi, bt_nI (n := a.toNat) (i := 31) (by omega)]
  unfold iShr
  rw [Int.toNat_natCast, Nat.testBit_shiftRight]
  have h31 : ∀ j, 31 ≤ j → a.toNat.testBit j = false := fun j hj => Nat.testBit_lt_two_pow (by
    have : 2 ^ 31 ≤ 2 ^ j := Nat.pow_le_pow_right (by decide) hj
    omega)
  by_cases q : s.toNat + i < 32
  · rw [if_pos q, bt_nI q]
  · rw [if_neg q, h31 31 (by omega), h31 _ (by omega)]
theorem xof_ushr {a s : Int} (ha : 0 ≤ a ∧ a < 2147483648) (hs : 0 ≤ s ∧ s < 32) : ((Int32.ofInt a).toUInt32 >>> ((Int32.ofInt s).toUInt32 &&& Int32.toUInt32 31)).toInt32 = Int32.ofInt (iShr a s) := by
  rw [of_nI ha.1, of_nI hs.1, of_nI iShr_0]
  refine b_ext (fun i hi => ?_)
  rw [b_ushr s.toNat (by omega), bt_nI hi]
  unfold iShr
  rw [Int.toNat_natCast, Nat.testBit_shiftRight]
  have h31 : ∀ j, 31 ≤ j → a.toNat.testBit j = false := fun j hj => Nat.testBit_lt_two_pow (by
    have : 2 ^ 31 ≤ 2 ^ j := Nat.pow_le_pow_right (by decide) hj
    omega)
  by_cases q : s.toNat + i < 32
  · rw [bt_nI q]
  · rw [b_big (by omega), h31 _ (by omega)]
section LROWS
variable {I : XI} {Z : XZ} {kc ks : Nat} {w : WD} {sz pc : Nat} {lv : List (Option Value)} {st : List Value}
theorem V_iandZ {a b : Int} (hd : decode I.cc pc = .ok (.iand, 1)) (ha : 0 ≤ a) (hb : 0 ≤ b) (k : V I Z kc ks w sz (pc + 1) lv (xI (iAnd a b) :: st)) : V I Z kc ks w sz pc lv (xI b :: xI a :: st) :=
  V_st (fun Γ p l e R s m args below meth c H locs cells slots ls Q C N L _ _ kk => lv_iand C.1 C.2.1 hd (by rw [xof_and ha hb]; exact kk)) k
theorem V_iorZ {a b : Int} (hd : decode I.cc pc = .ok (.ior, 1)) (ha : 0 ≤ a) (hb : 0 ≤ b) (k : V I Z kc ks w sz (pc + 1) lv (xI (iOr a b) :: st)) : V I Z kc ks w sz pc lv (xI b :: xI a :: st) :=
  V_st (fun Γ p l e R s m args below meth c H locs cells slots ls Q C N L _ _ kk => lv_ior C.1 C.2.1 hd (by rw [xof_or ha hb]; exact kk)) k
theorem V_ishlZ {a b : Int} (hd : decode I.cc pc = .ok (.ishl, 1)) (ha : 0 ≤ a) (hb : 0 ≤ b ∧ b < 32) (k : V I Z kc ks w sz (pc + 1) lv (xI (iShl a b) :: st)) : V I Z kc ks w sz pc lv (xI b :: xI a :: st) :=
  V_st (fun Γ p l e R s m args below meth c H locs cells slots ls Q C N L _ _ kk => lv_ishl C.1 C.2.1 hd (by rw [xof_shl ha hb]; exact kk)) k
theorem V_ishrZ {a b : Int} (hd : decode I.cc pc = .ok (.ishr, 1)) (ha : 0 ≤ a ∧ a < 2147483648) (hb : 0 ≤ b ∧ b < 32) (k : V I Z kc ks w sz (pc + 1) lv (xI (iShr a b) :: st)) : V I Z kc ks w sz pc lv (xI b :: xI a :: st) :=
  V_st (fun Γ p l e R s m args below meth c H locs cells slots ls Q C N L _ _ kk => lv_ishr C.1 C.2.1 hd (by rw [xof_shr ha hb]; exact kk)) k
theorem V_iushrZ {a b : Int} (hd : decode I.cc pc = .ok (.iushr, 1)) (ha : 0 ≤ a ∧ a < 2147483648) (hb : 0 ≤ b ∧ b < 32) (k : V I Z kc ks w sz (pc + 1) lv (xI (iShr a b) :: st)) : V I Z kc ks w sz pc lv (xI b :: xI a :: st) :=
  V_st (fun Γ p l e R s m args below meth c H locs cells slots ls Q C N L _ _ kk => lv_iushr C.1 C.2.1 hd (xof_ushr ha hb) kk) k
theorem V_landR {x y : Int64} (hd : decode I.cc pc = .ok (.land, 1)) (k : V I Z kc ks w sz (pc + 1) lv (.long (x &&& y) :: st)) : V I Z kc ks w sz pc lv (.long y :: .long x :: st) :=
  V_st (fun Γ p l e R s m args below meth c H locs cells slots ls Q C N L _ _ kk => lv_land C.1 C.2.1 hd kk) k
theorem V_lxorR {x y : Int64} (hd : decode I.cc pc = .ok (.lxor, 1)) (k : V I Z kc ks w sz (pc + 1) lv (.long (x ^^^ y) :: st)) : V I Z kc ks w sz pc lv (.long y :: .long x :: st) :=
  V_st (fun Γ p l e R s m args below meth c H locs cells slots ls Q C N L _ _ kk => lv_lxor C.1 C.2.1 hd kk) k
theorem V_lshrR {x : Int64} {y : Int32} (hd : decode I.cc pc = .ok (.lshr, 1)) (k : V I Z kc ks w sz (pc + 1) lv (.long (x >>> (y.toInt64 &&& 63)) :: st)) : V I Z kc ks w sz pc lv (.int y :: .long x :: st) :=
  V_st (fun Γ p l e R s m args below meth c H locs cells slots ls Q C N L _ _ kk => lv_lshr C.1 C.2.1 hd rfl kk) k
theorem V_l2iR {x : Int64} (hd : decode I.cc pc = .ok (.l2i, 1)) (k : V I Z kc ks w sz (pc + 1) lv (.int x.toInt32 :: st)) : V I Z kc ks w sz pc lv (.long x :: st) :=
  V_st (fun Γ p l e R s m args below meth c H locs cells slots ls Q C N L _ _ kk => lv_l2i C.1 C.2.1 hd rfl kk) k
end LROWS
/-- eight numbers in a long -/
def hn : (Nat → Nat) → Nat → Nat
  | _, 0 => 0
  | f, n + 1 => f 0 + 256 * hn (fun k => f (k + 1)) n
theorem hn_2 : ∀ (n : Nat) (f : Nat → Nat), (∀ k, f k ≤ 127) → 2 * hn f n < 256 ^ n
  | 0, _, _ => by show 2 * 0 < 1; omega
  | n + 1, f, h => by
    have h1 := hn_2 n (fun k => f (k + 1)) (fun k => h (k + 1))
    have h2 := h 0
    rw [Nat.pow_succ]
    show 2 * (f 0 + 256 * hn (fun k => f (k + 1)) n) < 256 ^ n * 256
    omega
theorem hn_c : ∀ (n : Nat) (f f' : Nat → Nat), (∀ k, k < n → f k = f' k) → hn f n = hn f' n
  | 0, _, _, _ => rfl
  | n + 1, f, f', h => by
    show f 0 + 256 * hn (fun k => f (k + 1)) n = f' 0 + 256 * hn (fun k => f' (k + 1)) n
    rw [h 0 (by omega), hn_c n (fun k => f (k + 1)) (fun k => f' (k + 1)) (fun k hk => h (k + 1) (by omega))]
theorem hn_split : ∀ (b n : Nat) (f : Nat → Nat), b < n → (∀ k, f k ≤ 127) → ∃ hi lo : Nat, lo < 2 ^ (8 * b) ∧ ∀ f' : Nat → Nat, (∀ k, k ≠ b → f' k = f k) → hn f' n = 2 ^ (8 * b) * (2 ^ 8 * hi + f' b) + lo
  | _, 0, _, hb, _ => by omega
  | 0, n + 1, f, _, _ => by
    refine ⟨hn (fun k => f (k + 1)) n, 0, by decide, fun f' h' => ?_⟩
    show f' 0 + 256 * hn (fun k => f' (k + 1)) n = _
    rw [show (fun k => f' (k + 1)) = (fun k => f (k + 1)) from funext (fun k => h' (k + 1) (by omega))]
    show _ = 1 * (256 * hn (fun k => f (k + 1)) n + f' 0) + 0
    omega
  | b + 1, n + 1, f, hb, h => by
    obtain ⟨hi, lo, h1, h2⟩ := hn_split b n (fun k => f (k + 1)) (by omega) (fun k => h (k + 1))
    have h0 := h 0
    have hp : 2 ^ (8 * (b + 1)) = 256 * 2 ^ (8 * b) := by rw [show 8 * (b + 1) = 8 * b + 8 by omega, Nat.pow_add, Nat.mul_comm]
    refine ⟨hi, f 0 + 256 * lo, by rw [hp]; omega, fun f' h' => ?_⟩
    have e := h2 (fun k => f' (k + 1)) (fun k hk => h' (k + 1) (by omega))
    show f' 0 + 256 * hn (fun k => f' (k + 1)) n = _
    rw [e, h' 0 (by omega), hp, Nat.mul_assoc]
    generalize 2 ^ (8 * b) * (2 ^ 8 * hi + f' (b + 1)) = T
    omega
def pn (g : Int → Int) (i : Int) : Nat := hn (fun k => (g (8 * i + (k : Int))).toNat) 8
def pk (g : Int → Int) (i : Int) : Int := (pn g i : Int)
abbrev xPA (n : Nat) (g : Int → Int) : va_E := xLA n (pk g)
def B7 (g : Int → Int) : Prop := ∀ j, 0 ≤ g j ∧ g j ≤ 127
theorem B7.u {g : Int → Int} {k v : Int} (h : B7 g) (hv : 0 ≤ v ∧ v ≤ 127) : B7 (iu g k v) := by
  intro j
  unfold iu
  by_cases q : j = k
  · rw [if_pos q]; exact hv
  · rw [if_neg q]; exact h j
theorem pn_lt {g : Int → Int} (h : B7 g) (i : Int) : pn g i < 2 ^ 63 := by
  have e := hn_2 8 (fun k => (g (8 * i + (k : Int))).toNat) (fun k => by have := h (8 * i + (k : Int)); show (g (8 * i + (k : Int))).toNat ≤ 127; omega)
  have e2 : (256 : Nat) ^ 8 = 2 * 2 ^ 63 := by decide
  rw [e2] at e
  unfold pn
  omega
theorem pk_lN (g : Int → Int) (i : Int) : Int64.ofInt (pk g i) = lN (pn g i) := by
  show Int64.ofInt ((pn g i : Nat) : Int) = _
  rw [of_lN (Int.natCast_nonneg _), Int.toNat_natCast]
theorem pk_0 : pk (fun _ => 0) = fun _ => 0 := rfl
theorem pl_shr {a d : Nat} (hd : d < 64) (h : a < 2 ^ 63) : lN a >>> ((nI d).toInt64 &&& 63) = lN (a / 2 ^ d) := by
  have hD : (((nI d).toInt64 &&& 63).toBitVec.smod 64).toNat = d := by
    rw [wb_c d hd, wb_tb, wb_sm d hd, BitVec.toNat_ofNat, Nat.mod_eq_of_lt (by omega)]
  have hd2 : a / 2 ^ d ≤ a := Nat.div_le_self _ _
  apply Int64.toInt_inj.mp
  have e : (lN a >>> ((nI d).toInt64 &&& 63)).toInt = (lN a).toInt >>> (((nI d).toInt64 &&& 63).toBitVec.smod 64).toNat := BitVec.toInt_sshiftRight ..
  rw [e, hD, Int.shiftRight_eq_div_pow]
  show (Int64.ofNat a).toInt / ↑(2 ^ d) = (Int64.ofNat (a / 2 ^ d)).toInt
  rw [lg_ofNat_toInt h, lg_ofNat_toInt (by omega)]
  rfl
theorem pn_set {g : Int → Int} (h : B7 g) (i b v : Int) (hb : 0 ≤ b ∧ b < 8) : ∃ hi lo : Nat, lo < 2 ^ (8 * b).toNat ∧ pn g i = 2 ^ (8 * b).toNat * (2 ^ 8 * hi + (g (8 * i + b)).toNat) + lo ∧ pn (iu g (8 * i + b) v) i = 2 ^ (8 * b).toNat * (2 ^ 8 * hi + v.toNat) + lo := by
  obtain ⟨n, rfl⟩ := Int.eq_ofNat_of_zero_le hb.1
  rw [show (8 * (n : Int)).toNat = 8 * n by omega]
  obtain ⟨hi, lo, h1, h2⟩ := hn_split n 8 (fun k => (g (8 * i + (k : Int))).toNat) (by omega) (fun k => by have := h (8 * i + (k : Int)); show (g (8 * i + (k : Int))).toNat ≤ 127; omega)
  refine ⟨hi, lo, h1, h2 _ (fun k hk => rfl), ?_⟩
  have e := h2 (fun k => (iu g (8 * i + (n : Int)) v (8 * i + (k : Int))).toNat) (fun k hk => by show (iu g (8 * i + (n : Int)) v (8 * i + (k : Int))).toNat = _; rw [iu_n (by omega)])
  have e3 : (iu g (8 * i + (n : Int)) v (8 * i + (n : Int))).toNat = v.toNat := by rw [iu_s]
  unfold pn
  rw [e, e3]
theorem pn_at {g : Int → Int} (h : B7 g) (i b : Int) (hb : 0 ≤ b ∧ b < 8) : pn g i / 2 ^ (8 * b).toNat % 128 = (g (8 * i + b)).toNat := by
  obtain ⟨hi, lo, h1, h2, -⟩ := pn_set h i b 0 hb
  have h3 := h (8 * i + b)
  rw [h2, Nat.mul_add_div (Nat.two_pow_pos _), Nat.div_eq_of_lt h1]
  omega
theorem put_j (hi old new j : Nat) (ho : old < 128) (hn : new < 128) : (((2 ^ 8 * hi + old).testBit j && !(Nat.testBit 127 j)) || new.testBit j) = (2 ^ 8 * hi + new).testBit j := by
  rw [Nat.testBit_two_pow_mul_add _ (by omega), Nat.testBit_two_pow_mul_add _ (by omega), show (127 : Nat) = 2 ^ 7 - 1 from rfl, Nat.testBit_two_pow_sub_one]
  by_cases h : j < 8
  · rw [if_pos h, if_pos h]
    by_cases q : j < 7
    · simp [q]
    · rw [Nat.testBit_lt_two_pow (x := old) (i := j) (by rw [show j = 7 by omega]; omega)]
      simp
  · rw [if_neg h, if_neg h, Nat.testBit_lt_two_pow (x := new) (i := j) (Nat.lt_of_lt_of_le (show new < 2 ^ 8 by omega) (Nat.pow_le_pow_right (by decide) (by omega))), decide_eq_false (show ¬ j < 7 by omega)]
    simp
theorem put_n {p X Y old new hi lo : Nat} (hp : p ≤ 56) (hX : X = 2 ^ p * (2 ^ 8 * hi + old) + lo) (hlo : lo < 2 ^ p) (hY : Y = 2 ^ p * (2 ^ 8 * hi + new) + lo) (ho : old < 128) (hn : new < 128) : (lN X &&& ((lN 127 <<< ((nI p).toInt64 &&& 63)) ^^^ lN (2 ^ 64 - 1))) ||| (lN new <<< ((nI p).toInt64 &&& 63)) = lN Y := by
  rw [wb_shl 127 (by omega), wb_shl new (by omega)]
  apply wb_inj
  rw [Int64.toBitVec_or, Int64.toBitVec_and, Int64.toBitVec_xor, wb_tb, wb_tb, wb_tb, wb_tb, wb_tb]
  apply BitVec.eq_of_getLsbD_eq
  intro i hi9
  rw [BitVec.getLsbD_or, BitVec.getLsbD_and, BitVec.getLsbD_xor, BitVec.getLsbD_ofNat, BitVec.getLsbD_ofNat, BitVec.getLsbD_ofNat, BitVec.getLsbD_ofNat, BitVec.getLsbD_ofNat]
  simp only [hi9, decide_true, Bool.true_and]
  rw [Nat.testBit_mul_two_pow, Nat.testBit_mul_two_pow, Nat.testBit_two_pow_sub_one, hX, hY, Nat.testBit_two_pow_mul_add _ hlo, Nat.testBit_two_pow_mul_add _ hlo]
  by_cases q : i < p
  · rw [if_pos q, if_pos q, decide_eq_false (show ¬ p ≤ i by omega), decide_eq_true hi9]
    simp
  · rw [if_neg q, if_neg q, decide_eq_true (show p ≤ i by omega), decide_eq_true hi9]
    simp only [Bool.true_and, Bool.xor_true]
    exact put_j hi old new (i - p) ho hn
theorem pk_set {g : Int → Int} (h : B7 g) (i b v : Int) (hb : 0 ≤ b ∧ b < 8) (hv : 0 ≤ v ∧ v ≤ 127) : (Int64.ofInt (pk g i) &&& ((Int64.ofInt 127 <<< ((Int32.ofInt (8 * b)).toInt64 &&& 63)) ^^^ Int64.ofInt (-1))) ||| (Int64.ofInt v <<< ((Int32.ofInt (8 * b)).toInt64 &&& 63)) = Int64.ofInt (pk (iu g (8 * i + b) v) i) := by
  obtain ⟨hi, lo, h1, h2, h3⟩ := pn_set h i b v hb
  rw [pk_lN, pk_lN, of_nI (by omega), of_lN hv.1, show Int64.ofInt 127 = lN 127 by decide +kernel, show Int64.ofInt (-1) = lN (2 ^ 64 - 1) by decide +kernel]
  exact put_n (by omega) h2 h1 h3 (by have := h (8 * i + b); omega) (by omega)
theorem pk_iu {g : Int → Int} {i j v : Int} (hj : j / 8 = i) : iu (pk g) i (pk (iu g j v) i) = pk (iu g j v) := by
  funext k
  by_cases q : k = i
  · rw [q, iu_s]
  · rw [iu_n q]
    have e : pn (iu g j v) k = pn g k := hn_c 8 _ _ (fun m hm => by show (iu g j v (8 * k + (m : Int))).toNat = (g (8 * k + (m : Int))).toNat; rw [iu_n (by omega)])
    unfold pk
    rw [e]
/-! rows of cells as bits -/
def cb (R : Int → Int) (c : Int) : Bool := tb (R (c / 16)) (c % 16)
def rr (R : Int → Int) : Prop := ∀ k, 0 ≤ k → k < 10 → 0 ≤ R k ∧ R k < 65536
theorem cb_at {R : Int → Int} {x y : Int} (hx : 0 ≤ x ∧ x < 16) : cb R (16 * y + x) = tb (R y) x := by
  unfold cb
  rw [show (16 * y + x) / 16 = y by omega, show (16 * y + x) % 16 = x by omega]
theorem rr.u {R : Int → Int} {k v : Int} (h : rr R) (hv : 0 ≤ v ∧ v < 65536) : rr (iu R k v) := by
  intro j h0 h1
  unfold iu
  by_cases q : j = k
  · rw [if_pos q]; exact hv
  · rw [if_neg q]; exact h j h0 h1
/-- a bit set -/
theorem rr.set {R : Int → Int} {c : Int} (h : rr R) (hc : 0 ≤ c ∧ c < 160) : rr (iu R (c / 16) (iOr (R (c / 16)) (iShl 1 (c % 16)))) := h.u ⟨iOr_0, iOr_16 (h _ (by omega) (by omega)).2 (iShl_1 (by omega))⟩
theorem cb_set {R : Int → Int} {c j : Int} : cb (iu R (c / 16) (iOr (R (c / 16)) (iShl 1 (c % 16)))) j = (cb R j || decide (j = c)) := by
  unfold cb
  by_cases q : j / 16 = c / 16
  · rw [q, iu_s, tb_or, tb_bit (by omega) (by omega)]
    congr 1
    exact decide_eq_decide.mpr (by omega)
  · rw [iu_n q, decide_eq_false (by omega), Bool.or_false]
def isb (R : Int → Int) (x y : Int) : Bool := decide (iCell x y) && tb (R y) x
theorem isb_t {R : Int → Int} {x y : Int} : isb R x y = true ↔ iCell x y ∧ cb R (16 * y + x) = true := by
  unfold isb
  rw [Bool.and_eq_true, decide_eq_true_eq]
  constructor
  · rintro ⟨h1, h2⟩
    exact ⟨h1, by rw [cb_at (by omega)]; exact h2⟩
  · rintro ⟨h1, h2⟩
    rw [cb_at (by omega)] at h2
    exact ⟨h1, h2⟩
