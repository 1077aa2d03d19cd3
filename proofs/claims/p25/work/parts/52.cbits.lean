/-! bits of longs; how many are set (the first rows are the kit's page of counts) -/
theorem fb_andL (a b : Nat) : lN a &&& lN b = lN (a &&& b) := by
  apply Int64.toBitVec_inj.1
  show BitVec.ofNat 64 a &&& BitVec.ofNat 64 b = BitVec.ofNat 64 (a &&& b)
  apply BitVec.eq_of_getLsbD_eq
  intro i hi
  simp [hi]
theorem fb_orL (a b : Nat) : lN a ||| lN b = lN (a ||| b) := by
  apply Int64.toBitVec_inj.1
  show BitVec.ofNat 64 a ||| BitVec.ofNat 64 b = BitVec.ofNat 64 (a ||| b)
  apply BitVec.eq_of_getLsbD_eq
  intro i hi
  simp [hi]
theorem fb_bit_set (n j i : Nat) : (n ||| 2 ^ j).testBit i = (n.testBit i || decide (i = j)) := by
  rw [Nat.testBit_or]
  by_cases h : j = i
  · subst h; simp
  · have h2 : ¬ i = j := fun e => h e.symm
    first | (simp [Nat.testBit_two_pow, h, h2]; done) | (simp [Nat.testBit_two_pow_of_ne h, h2]; done)
theorem lN_shr {n k : Nat} {u : UInt64} (hu : u.toNat = k) (hk : k < 64) (hn : n < 2 ^ 64) : ((lN n).toUInt64 >>> u).toInt64 = lN (n / 2 ^ k) := by
  apply Int64.toBitVec_inj.1
  apply BitVec.eq_of_toNat_eq
  show ((lN n).toUInt64 >>> u).toNat = (BitVec.ofNat 64 (n / 2 ^ k)).toNat
  rw [UInt64.toNat_shiftRight, hu, Nat.mod_eq_of_lt hk, BitVec.toNat_ofNat]
  show (BitVec.ofNat 64 n).toNat >>> k = _
  rw [BitVec.toNat_ofNat, Nat.mod_eq_of_lt hn, Nat.shiftRight_eq_div_pow, Nat.mod_eq_of_lt (Nat.lt_of_le_of_lt (Nat.div_le_self _ _) hn)]
section VBITS
variable {I : XI} {Z : XZ} {kc ks : Nat} {w : WD} {sz pc : Nat} {lv : List (Option Value)} {st : List Value}
theorem V_lushrN {n k : Nat} {z : Int} (hd : decode I.cc pc = .ok (.lushr, 1)) (hn : n < 2 ^ 64) (hz : ((Int32.ofInt z).toInt64.toUInt64 &&& Int64.toUInt64 63).toNat = k) (hk : k < 64) (kk : V I Z kc ks w sz (pc + 1) lv (.long (lN (n / 2 ^ k)) :: st)) : V I Z kc ks w sz pc lv (xI z :: .long (lN n) :: st) :=
  V_st (fun Γ p l e R s m args below meth c H locs cells slots ls Q C N L _ _ kk => lv_lushr C.1 C.2.1 hd (lN_shr hz hk hn) kk) kk
theorem V_landN {a b : Nat} (hd : decode I.cc pc = .ok (.land, 1)) (kk : V I Z kc ks w sz (pc + 1) lv (.long (lN (a &&& b)) :: st)) : V I Z kc ks w sz pc lv (.long (lN b) :: .long (lN a) :: st) :=
  V_st (fun Γ p l e R s m args below meth c H locs cells slots ls Q C N L _ _ kk => lv_land C.1 C.2.1 hd (by rw [fb_andL]; exact kk)) kk
theorem V_lorN {a b : Nat} (hd : decode I.cc pc = .ok (.lor, 1)) (kk : V I Z kc ks w sz (pc + 1) lv (.long (lN (a ||| b)) :: st)) : V I Z kc ks w sz pc lv (.long (lN b) :: .long (lN a) :: st) :=
  V_st (fun Γ p l e R s m args below meth c H locs cells slots ls Q C N L _ _ kk => lv_lor C.1 C.2.1 hd (by rw [fb_orL]; exact kk)) kk
theorem V_lsubN {a b : Nat} (h : b ≤ a) (hd : decode I.cc pc = .ok (.lsub, 1)) (kk : V I Z kc ks w sz (pc + 1) lv (.long (lN (a - b)) :: st)) : V I Z kc ks w sz pc lv (.long (lN b) :: .long (lN a) :: st) :=
  V_st (fun Γ p l e R s m args below meth c H locs cells slots ls Q C N L _ _ kk => lv_lsub C.1 C.2.1 hd (by rw [show lN a - lN b = lN (a - b) from (Int64.ofNat_sub a b h).symm]; exact kk)) kk
theorem V_laddN {a b : Nat} (hd : decode I.cc pc = .ok (.ladd, 1)) (kk : V I Z kc ks w sz (pc + 1) lv (.long (lN (a + b)) :: st)) : V I Z kc ks w sz pc lv (.long (lN b) :: .long (lN a) :: st) :=
  V_st (fun Γ p l e R s m args below meth c H locs cells slots ls Q C N L _ _ kk => lv_ladd C.1 C.2.1 hd (by rw [show lN a + lN b = lN (a + b) from (Int64.ofNat_add a b).symm]; exact kk)) kk
theorem V_ldcN {n k : Nat} (hd : decode I.cc pc = .ok (.ldc2_w n, 3)) (h : Cond.constantLong I.y.cls n (lN k) ∈ xG) (kk : V I Z kc ks w sz (pc + 3) lv (.long (lN k) :: st)) : V I Z kc ks w sz pc lv st :=
  V_st (fun Γ p l e R s m args below meth c H locs cells slots ls Q C N L _ _ kk => lv_ldc2 C.1 C.2.1 C.2.2.2.2.2.2.2.1 (C.2.2.2.2.2.2.2.2.1 _ h) hd kk) kk
theorem V_l2iN {n : Nat} (hd : decode I.cc pc = .ok (.l2i, 1)) (kk : V I Z kc ks w sz (pc + 1) lv (xI (n : Int) :: st)) : V I Z kc ks w sz pc lv (.long (lN n) :: st) :=
  V_st (fun Γ p l e R s m args below meth c H locs cells slots ls Q C N L _ _ kk => lv_l2i C.1 C.2.1 hd (show (lN n).toInt32 = Int32.ofInt (n : Int) by rw [Int32.ofInt_eq_ofNat]; exact Int64.toInt32_ofNat') kk) kk
theorem V_iand127 {a : Int} (hd : decode I.cc pc = .ok (.iand, 1)) (k : V I Z kc ks w sz (pc + 1) lv (xI (a % 128) :: st)) : V I Z kc ks w sz pc lv (xI 127 :: xI a :: st) :=
  V_st (fun Γ p l e R s m args below meth c H locs cells slots ls Q C N L _ _ kk => lv_iand C.1 C.2.1 hd (by
    have e9 : Int32.ofInt a &&& Int32.ofInt 127 = Int32.ofInt (a % 128) := by
      rw [pk_and (Int32.ofInt a) (m := Int32.ofInt 127) 7 (by decide)]
      rw [show ((Int32.ofInt a).toBitVec.toNat % 2 ^ 7 : Nat) = (a % 128).toNat from ?_]
      · unfold nI
        rw [← Int32.ofInt_eq_ofNat, Int.toNat_of_nonneg (by omega)]
      · rw [Int32.toBitVec_ofInt, BitVec.toNat_ofInt]
        omega
    rw [e9]; exact kk)) k
/-- 1L << z -/
theorem V_lshl1 {n : Nat} {z : Int} (hd : decode I.cc pc = .ok (.lshl, 1)) (hz : z = n) (hn : n < 63) (kk : V I Z kc ks w sz (pc + 1) lv (.long (lN (2 ^ n)) :: st)) : V I Z kc ks w sz pc lv (xI z :: xJ 1 :: st) := by
  refine V_lshl hd ?_
  rw [show Int64.ofInt 1 <<< ((Int32.ofInt z).toInt64 &&& 63) = lN (2 ^ n) from ?_]
  · exact kk
  · subst hz
    have key : ∀ n : Fin 63, Int64.ofInt 1 <<< ((Int32.ofInt ((n : Nat) : Int)).toInt64 &&& 63) = lN (2 ^ (n : Nat)) := by decide +kernel
    exact key ⟨n, hn⟩
end VBITS
/-! the count by lanes -/
theorem and_256 {a c b d : Nat} (hb : b < 256) (hd : d < 256) : (256 * a + b) &&& (256 * c + d) = 256 * (a &&& c) + (b &&& d) := by
  have hbd : b &&& d < 2 ^ 8 := Nat.and_lt_two_pow b hd
  apply Nat.eq_of_testBit_eq
  intro i
  rw [Nat.testBit_and, show (256 : Nat) = 2 ^ 8 from rfl, Nat.testBit_two_pow_mul_add a hb, Nat.testBit_two_pow_mul_add c hd, Nat.testBit_two_pow_mul_add (a &&& c) hbd]
  by_cases q : i < 8
  · rw [if_pos q, if_pos q, if_pos q, Nat.testBit_and]
  · rw [if_neg q, if_neg q, if_neg q, Nat.testBit_and]
def mk8 (m : Nat) : Nat → Nat
  | 0 => 0
  | k + 1 => 256 * mk8 m k + m
def sw1 (k n : Nat) : Nat := n - ((n / 2) &&& mk8 85 k)
def sw2 (k n : Nat) : Nat := (n &&& mk8 51 k) + ((n / 4) &&& mk8 51 k)
def sw3 (k n : Nat) : Nat := (n + n / 16) &&& mk8 15 k
def sb1 (b : Nat) : Nat := b - ((b / 2) &&& 85)
def sb2 (b : Nat) : Nat := (b &&& 51) + ((b / 4) &&& 51)
def sb3 (b : Nat) : Nat := (b + b / 16) % 16
def sbc (b : Nat) : Nat := sb3 (sb2 (sb1 b))
theorem sw1_s (k a b : Nat) (hb : b < 256) : sw1 (k + 1) (256 * a + b) = 256 * sw1 k a + sb1 b := by
  have h1 : (256 * a + b) / 2 = 256 * (a / 2) + (128 * (a % 2) + b / 2) := by omega
  have h2 : ((128 * (a % 2) + b / 2) &&& 85) = (b / 2) &&& 85 := by
    have key : ∀ (t : Fin 2) (b : Fin 256), ((128 * (t : Nat) + (b : Nat) / 2) &&& 85) = ((b : Nat) / 2) &&& 85 := by decide +kernel
    exact key ⟨a % 2, by omega⟩ ⟨b, hb⟩
  have h3 : (a / 2) &&& mk8 85 k ≤ a / 2 := Nat.and_le_left
  have h4 : (b / 2) &&& 85 ≤ b / 2 := Nat.and_le_left
  unfold sw1 sb1
  rw [show mk8 85 (k + 1) = 256 * mk8 85 k + 85 from rfl, h1, and_256 (by omega) (by omega), h2]
  omega
theorem sw2_s (k a b : Nat) (hb : b < 256) : sw2 (k + 1) (256 * a + b) = 256 * sw2 k a + sb2 b := by
  have h1 : (256 * a + b) / 4 = 256 * (a / 4) + (64 * (a % 4) + b / 4) := by omega
  have h2 : ((64 * (a % 4) + b / 4) &&& 51) = (b / 4) &&& 51 := by
    have key : ∀ (t : Fin 4) (b : Fin 256), ((64 * (t : Nat) + (b : Nat) / 4) &&& 51) = ((b : Nat) / 4) &&& 51 := by decide +kernel
    exact key ⟨a % 4, by omega⟩ ⟨b, hb⟩
  unfold sw2 sb2
  rw [show mk8 51 (k + 1) = 256 * mk8 51 k + 51 from rfl, h1, and_256 hb (by omega), and_256 (by omega) (by omega), h2]
  omega
theorem sw3_s (k a b : Nat) (hb : b ≤ 102) (ha : a % 16 ≤ 6) : sw3 (k + 1) (256 * a + b) = 256 * sw3 k a + sb3 b := by
  have h1 : (256 * a + b) + (256 * a + b) / 16 = 256 * (a + a / 16) + (16 * (a % 16) + (b + b / 16)) := by omega
  unfold sw3 sb3
  rw [show mk8 15 (k + 1) = 256 * mk8 15 k + 15 from rfl, h1, and_256 (by omega) (by omega), show (15 : Nat) = 2 ^ 4 - 1 from rfl, Nat.and_two_pow_sub_one_eq_mod]
  omega
theorem sb1_b {b : Nat} (hb : b < 256) : sb1 b < 256 := by unfold sb1; omega
theorem sb2_b {b : Nat} (hb : b < 256) : sb2 b ≤ 102 ∧ sb2 b % 16 ≤ 6 := by
  have key : ∀ b : Fin 256, sb2 (b : Nat) ≤ 102 ∧ sb2 (b : Nat) % 16 ≤ 6 := by decide +kernel
  exact key ⟨b, hb⟩
theorem sw2_m (k n : Nat) : sw2 k n % 16 ≤ 6 := by
  cases k with
  | zero =>
    unfold sw2
    show ((n &&& 0) + (n / 4 &&& 0)) % 16 ≤ 6
    rw [Nat.and_zero, Nat.and_zero]
    decide
  | succ k =>
    have e : n = 256 * (n / 256) + n % 256 := by omega
    have hb := sb2_b (b := n % 256) (by omega)
    rw [e, sw2_s k _ _ (by omega)]
    omega
def swr (k n : Nat) : Nat := sw3 k (sw2 k (sw1 k n))
theorem swr_s (k n : Nat) : swr (k + 1) n = 256 * swr k (n / 256) + sbc (n % 256) := by
  have e : n = 256 * (n / 256) + n % 256 := by omega
  have h1 := sb1_b (b := n % 256) (by omega)
  have h2 := sb2_b h1
  unfold swr sbc
  have e1 := sw1_s k (n / 256) (n % 256) (by omega)
  rw [← e] at e1
  rw [e1, sw2_s k _ _ h1, sw3_s k _ _ h2.1 (sw2_m k _)]
theorem swr_0 (n : Nat) : swr 0 n = 0 := by
  unfold swr sw3
  exact Nat.and_zero _
theorem sbc_b {b : Nat} (hb : b < 256) : sbc b ≤ 8 ∧ (sbc b : Int) = nsum (fun s => b2i (b.testBit s.toNat)) 8 := by
  have key : ∀ b : Fin 256, sbc (b : Nat) ≤ 8 ∧ (sbc (b : Nat) : Int) = nsum (fun s => b2i ((b : Nat).testBit s.toNat)) 8 := by decide +kernel
  exact key ⟨b, hb⟩
/-- how many bits of a number below 2^64 are set -/
def pop (n : Nat) : Int := nsum (fun s => b2i (n.testBit s.toNat)) 64
theorem pop_8 (n i : Nat) : nsum (fun s => b2i (n.testBit ((8 * (i : Int) + s)).toNat)) 8 = (sbc (n / 2 ^ (8 * i) % 256) : Int) := by
  rw [(sbc_b (b := n / 2 ^ (8 * i) % 256) (by omega)).2]
  refine nsum_c 8 (fun s s0 s1 => ?_)
  have e : (n / 2 ^ (8 * i) % 256).testBit s.toNat = n.testBit ((8 * (i : Int) + s)).toNat := by
    rw [show (256 : Nat) = 2 ^ 8 from rfl, Nat.testBit_mod_two_pow, Nat.testBit_div_two_pow, show s.toNat + 8 * i = ((8 * (i : Int) + s)).toNat by omega, decide_eq_true (by omega)]
    rfl
  rw [e]
theorem pop_sum (n : Nat) : pop n = (sbc (n % 256) + sbc (n / 2 ^ 8 % 256) + sbc (n / 2 ^ 16 % 256) + sbc (n / 2 ^ 24 % 256) + sbc (n / 2 ^ 32 % 256) + sbc (n / 2 ^ 40 % 256) + sbc (n / 2 ^ 48 % 256) + sbc (n / 2 ^ 56 % 256) : Nat) := by
  have e : ∀ k : Nat, nsum (fun s => b2i (n.testBit s.toNat)) (8 * (k + 1)) = nsum (fun s => b2i (n.testBit s.toNat)) (8 * k) + (sbc (n / 2 ^ (8 * k) % 256) : Int) := by
    intro k
    rw [show 8 * (k + 1) = 8 * k + 8 by omega, nsum_app, ← pop_8 n k]
    rw [nsum_c (f := fun x => b2i (n.testBit (((8 * k : Nat) : Int) + x).toNat)) (g := fun s => b2i (n.testBit ((8 * (k : Int) + s)).toNat)) 8 (fun j _ _ => by rw [show ((8 * k : Nat) : Int) = 8 * (k : Int) by omega])]
  have h0 : nsum (fun s => b2i (n.testBit s.toNat)) 8 = 0 + (sbc (n / 2 ^ 0 % 256) : Int) := e 0
  have h1 : nsum (fun s => b2i (n.testBit s.toNat)) 16 = nsum (fun s => b2i (n.testBit s.toNat)) 8 + (sbc (n / 2 ^ 8 % 256) : Int) := e 1
  have h2 : nsum (fun s => b2i (n.testBit s.toNat)) 24 = nsum (fun s => b2i (n.testBit s.toNat)) 16 + (sbc (n / 2 ^ 16 % 256) : Int) := e 2
  have h3 : nsum (fun s => b2i (n.testBit s.toNat)) 32 = nsum (fun s => b2i (n.testBit s.toNat)) 24 + (sbc (n / 2 ^ 24 % 256) : Int) := e 3
  have h4 : nsum (fun s => b2i (n.testBit s.toNat)) 40 = nsum (fun s => b2i (n.testBit s.toNat)) 32 + (sbc (n / 2 ^ 32 % 256) : Int) := e 4
  have h5 : nsum (fun s => b2i (n.testBit s.toNat)) 48 = nsum (fun s => b2i (n.testBit s.toNat)) 40 + (sbc (n / 2 ^ 40 % 256) : Int) := e 5
  have h6 : nsum (fun s => b2i (n.testBit s.toNat)) 56 = nsum (fun s => b2i (n.testBit s.toNat)) 48 + (sbc (n / 2 ^ 48 % 256) : Int) := e 6
  have h7 : nsum (fun s => b2i (n.testBit s.toNat)) 64 = nsum (fun s => b2i (n.testBit s.toNat)) 56 + (sbc (n / 2 ^ 56 % 256) : Int) := e 7
  rw [show (2 : Nat) ^ 0 = 1 from rfl, Nat.div_one] at h0
  unfold pop
  rw [h7, h6, h5, h4, h3, h2, h1, h0]
  omega
theorem swr_8 {n : Nat} (hn : n < 2 ^ 64) : swr 8 n = sbc (n % 256) + 2 ^ 8 * (sbc (n / 2 ^ 8 % 256) + 256 * (sbc (n / 2 ^ 16 % 256) + 256 * (sbc (n / 2 ^ 24 % 256) + 256 * (sbc (n / 2 ^ 32 % 256) + 256 * (sbc (n / 2 ^ 40 % 256) + 256 * (sbc (n / 2 ^ 48 % 256) + 256 * sbc (n / 2 ^ 56 % 256))))))) := by
  rw [swr_s, swr_s, swr_s, swr_s, swr_s, swr_s, swr_s, swr_s, swr_0]
  rw [show n / 256 / 256 / 256 / 256 / 256 / 256 / 256 = n / 2 ^ 56 by omega, show n / 256 / 256 / 256 / 256 / 256 / 256 = n / 2 ^ 48 by omega, show n / 256 / 256 / 256 / 256 / 256 = n / 2 ^ 40 by omega, show n / 256 / 256 / 256 / 256 = n / 2 ^ 32 by omega, show n / 256 / 256 / 256 = n / 2 ^ 24 by omega, show n / 256 / 256 = n / 2 ^ 16 by omega, show n / 256 = n / 2 ^ 8 by omega]
  omega
theorem div_lo {r q m : Nat} (h : r < m) : (r + m * q) / m = q := by
  rw [Nat.add_mul_div_left _ _ (by omega), Nat.div_eq_of_lt h, Nat.zero_add]
/-- the last steps of the count -/
def sw6 (a : Nat) : Nat := ((a + a / 2 ^ 8) + (a + a / 2 ^ 8) / 2 ^ 16) + ((a + a / 2 ^ 8) + (a + a / 2 ^ 8) / 2 ^ 16) / 2 ^ 32
theorem sg2 (d0 d1 d2 d3 d4 d5 d6 d7 : Nat) : (d0 + 2 ^ 8 * (d1 + 256 * (d2 + 256 * (d3 + 256 * (d4 + 256 * (d5 + 256 * (d6 + 256 * d7))))))) + (d1 + 256 * (d2 + 256 * (d3 + 256 * (d4 + 256 * (d5 + 256 * (d6 + 256 * d7)))))) = ((d0 + d1) + 256 * (d1 + d2)) + 2 ^ 16 * ((d2 + d3) + 256 * ((d3 + d4) + 256 * ((d4 + d5) + 256 * ((d5 + d6) + 256 * ((d6 + d7) + 256 * d7))))) := by omega
theorem sg4 (d0 d1 d2 d3 d4 d5 d6 d7 : Nat) : ((d0 + 256 * d1) + 2 ^ 16 * (d2 + 256 * (d3 + 256 * (d4 + 256 * (d5 + 256 * (d6 + 256 * d7)))))) + (d2 + 256 * (d3 + 256 * (d4 + 256 * (d5 + 256 * (d6 + 256 * d7))))) = ((d0 + d2) + 256 * ((d1 + d3) + 256 * ((d2 + d4) + 256 * (d3 + d5)))) + 2 ^ 32 * ((d4 + d6) + 256 * ((d5 + d7) + 256 * (d6 + 256 * d7))) := by omega
theorem sg6 (d0 d1 d2 d3 d4 d5 d6 d7 : Nat) : ((d0 + 256 * (d1 + 256 * (d2 + 256 * d3))) + 2 ^ 32 * (d4 + 256 * (d5 + 256 * (d6 + 256 * d7)))) + (d4 + 256 * (d5 + 256 * (d6 + 256 * d7))) = (d0 + d4) + 128 * (2 * ((d1 + d5) + 256 * ((d2 + d6) + 256 * ((d3 + d7) + 256 * (d4 + 256 * (d5 + 256 * (d6 + 256 * d7))))))) := by omega
theorem sw6_e {d0 d1 d2 d3 d4 d5 d6 d7 : Nat} (h0 : d0 ≤ 8) (h1 : d1 ≤ 8) (h2 : d2 ≤ 8) (h3 : d3 ≤ 8) (h4 : d4 ≤ 8) (h5 : d5 ≤ 8) (h6 : d6 ≤ 8) (h7 : d7 ≤ 8) : sw6 (d0 + 2 ^ 8 * (d1 + 256 * (d2 + 256 * (d3 + 256 * (d4 + 256 * (d5 + 256 * (d6 + 256 * d7))))))) % 128 = d0 + d1 + d2 + d3 + d4 + d5 + d6 + d7 := by
  unfold sw6
  rw [div_lo (r := d0) (by omega), sg2, div_lo (r := (d0 + d1) + 256 * (d1 + d2)) (by omega), sg4, div_lo (r := ((d0 + d1) + (d2 + d3)) + 256 * (((d1 + d2) + (d3 + d4)) + 256 * (((d2 + d3) + (d4 + d5)) + 256 * ((d3 + d4) + (d5 + d6))))) (by omega), sg6, Nat.add_mul_mod_self_left, Nat.mod_eq_of_lt (by omega)]
  omega
theorem swr_pop {n : Nat} (hn : n < 2 ^ 64) : ((sw6 (swr 8 n) : Nat) : Int) % 128 = pop n := by
  have b := fun m : Nat => (sbc_b (b := m % 256) (by omega)).1
  rw [pop_sum, swr_8 hn, ← sw6_e (b n) (b _) (b _) (b _) (b _) (b _) (b _) (b _)]
  omega
theorem sw_bd {n : Nat} (hn : n < 2 ^ 63) : (n / 2 ^ 1 &&& 6148914691236517205) ≤ n ∧ sw1 8 n < 2 ^ 63 ∧ sw2 8 (sw1 8 n) + sw2 8 (sw1 8 n) / 2 ^ 4 < 2 ^ 64 ∧ swr 8 n + swr 8 n / 2 ^ 8 < 2 ^ 63 ∧ sw2 8 (sw1 8 n) < 2 ^ 64 ∧ swr 8 n < 2 ^ 60 := by
  have h1 : (n / 2 ^ 1 &&& 6148914691236517205) ≤ n / 2 ^ 1 := Nat.and_le_left
  have h2 : sw1 8 n ≤ n := Nat.sub_le _ _
  have h3 : sw2 8 (sw1 8 n) ≤ 3689348814741910323 + 3689348814741910323 := Nat.add_le_add Nat.and_le_right Nat.and_le_right
  have h4 : swr 8 n ≤ 1085102592571150095 := Nat.and_le_right
  omega
