/-! a number's bits: it equals itself -/
theorem cmp_self (x : Int) : (compare x x : Ordering) = .eq := by
  show compareOfLessAndEq x x = .eq
  unfold compareOfLessAndEq
  rw [if_neg (by omega), if_pos rfl]
theorem order_self : ∀ d : FP.Core.Datum, d ≠ .nan → FP.Core.order d d = some .eq
  | .nan, h => absurd rfl h
  | .inf _, _ => congrArg some (cmp_self _)
  | .fin _ _ _, _ => congrArg some (cmp_self _)
theorem n64_dec {b : UInt64} (h : vf_n64 b) : FP.Core.decode FP.Core.b64 b.toNat ≠ .nan := by
  intro hn
  unfold FP.Core.decode at hn
  split at hn
  · rename_i h1
    split at hn
    · cases hn
    · rename_i h2
      have e1 : b.toNat / 4503599627370496 % 2048 = 2047 := h1
      have e2 : ¬ b.toNat % 4503599627370496 = 0 := h2
      have e3 := UInt64.le_iff_toNat_le.mp h
      rw [UInt64.toNat_and] at e3
      have e4 : b.toNat &&& 9223372036854775807 ≤ 9218868437227405312 := e3
      rw [show (9223372036854775807 : Nat) = 2 ^ 63 - 1 by rfl, Nat.and_two_pow_sub_one_eq_mod] at e4
      omega
  · split at hn <;> cases hn
theorem n64_cmp {b : UInt64} (h : vf_n64 b) : Op.cmpValue (FP.dcmp b b) .l = 0 := by
  have e : FP.dcmp b b = some .eq := order_self _ (n64_dec h)
  rw [e]
  rfl
theorem cov_n {z : Int → Int} (h : VZ z) : vf_n64 (covD z) := shD_n (imS_sum h)
