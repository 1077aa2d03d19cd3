/-! the reference: coverage, mix -/
def rall (p : Nat → Bool) : Nat → Nat → Bool
  | 0, lo => p lo
  | k + 1, lo => rall p k lo && rall p k (lo + 2 ^ k)
theorem rall_t {p : Nat → Bool} : ∀ (k lo : Nat), rall p k lo = true → ∀ n, lo ≤ n → n < lo + 2 ^ k → p n = true
  | 0, lo, h, n, h1, h2 => by
    rw [show n = lo by rw [Nat.pow_zero] at h2; omega]
    exact h
  | k + 1, lo, h, n, h1, h2 => by
    have h' : (rall p k lo && rall p k (lo + 2 ^ k)) = true := h
    rw [Bool.and_eq_true] at h'
    rw [Nat.pow_succ] at h2
    by_cases q : n < lo + 2 ^ k
    · exact rall_t k lo h'.1 n h1 q
    · exact rall_t k (lo + 2 ^ k) h'.2 n (by omega) (by omega)
def shD (n : Nat) : UInt64 := FP.ddiv (FP.i2d (Int32.ofInt n)) 4670021707350671360
def shC (n : Nat) : Bool := decide (shD n &&& 0x7fffffffffffffff ≤ 0x7ff0000000000000)
theorem shC_0 : rall shC 10 0 = true := by decide +kernel
theorem shC_1 : rall shC 10 1024 = true := by decide +kernel
theorem shC_2 : rall shC 10 2048 = true := by decide +kernel
theorem shC_3 : rall shC 10 3072 = true := by decide +kernel
theorem shC_4 : rall shC 10 4096 = true := by decide +kernel
theorem shC_5 : rall shC 10 5120 = true := by decide +kernel
theorem shC_6 : rall shC 10 6144 = true := by decide +kernel
theorem shC_7 : rall shC 10 7168 = true := by decide +kernel
theorem shC_8 : rall shC 10 8192 = true := by decide +kernel
theorem shC_9 : rall shC 10 9216 = true := by decide +kernel
theorem shC_10 : rall shC 10 10240 = true := by decide +kernel
theorem shC_11 : rall shC 10 11264 = true := by decide +kernel
theorem shC_12 : rall shC 10 12288 = true := by decide +kernel
theorem shC_13 : rall shC 10 13312 = true := by decide +kernel
theorem shC_14 : rall shC 10 14336 = true := by decide +kernel
theorem shC_15 : rall shC 10 15360 = true := by decide +kernel
theorem shC_all {n : Nat} (h : n < 16384) : shC n = true := by
  by_cases q0 : n < 1024
  · exact rall_t 10 0 shC_0 n (by omega) (by rw [show 0 + 2 ^ 10 = 1024 by rfl]; omega)
  by_cases q1 : n < 2048
  · exact rall_t 10 1024 shC_1 n (by omega) (by rw [show 1024 + 2 ^ 10 = 2048 by rfl]; omega)
  by_cases q2 : n < 3072
  · exact rall_t 10 2048 shC_2 n (by omega) (by rw [show 2048 + 2 ^ 10 = 3072 by rfl]; omega)
  by_cases q3 : n < 4096
  · exact rall_t 10 3072 shC_3 n (by omega) (by rw [show 3072 + 2 ^ 10 = 4096 by rfl]; omega)
  by_cases q4 : n < 5120
  · exact rall_t 10 4096 shC_4 n (by omega) (by rw [show 4096 + 2 ^ 10 = 5120 by rfl]; omega)
  by_cases q5 : n < 6144
  · exact rall_t 10 5120 shC_5 n (by omega) (by rw [show 5120 + 2 ^ 10 = 6144 by rfl]; omega)
  by_cases q6 : n < 7168
  · exact rall_t 10 6144 shC_6 n (by omega) (by rw [show 6144 + 2 ^ 10 = 7168 by rfl]; omega)
  by_cases q7 : n < 8192
  · exact rall_t 10 7168 shC_7 n (by omega) (by rw [show 7168 + 2 ^ 10 = 8192 by rfl]; omega)
  by_cases q8 : n < 9216
  · exact rall_t 10 8192 shC_8 n (by omega) (by rw [show 8192 + 2 ^ 10 = 9216 by rfl]; omega)
  by_cases q9 : n < 10240
  · exact rall_t 10 9216 shC_9 n (by omega) (by rw [show 9216 + 2 ^ 10 = 10240 by rfl]; omega)
  by_cases q10 : n < 11264
  · exact rall_t 10 10240 shC_10 n (by omega) (by rw [show 10240 + 2 ^ 10 = 11264 by rfl]; omega)
  by_cases q11 : n < 12288
  · exact rall_t 10 11264 shC_11 n (by omega) (by rw [show 11264 + 2 ^ 10 = 12288 by rfl]; omega)
  by_cases q12 : n < 13312
  · exact rall_t 10 12288 shC_12 n (by omega) (by rw [show 12288 + 2 ^ 10 = 13312 by rfl]; omega)
  by_cases q13 : n < 14336
  · exact rall_t 10 13312 shC_13 n (by omega) (by rw [show 13312 + 2 ^ 10 = 14336 by rfl]; omega)
  by_cases q14 : n < 15360
  · exact rall_t 10 14336 shC_14 n (by omega) (by rw [show 14336 + 2 ^ 10 = 15360 by rfl]; omega)
  by_cases q15 : n < 16384
  · exact rall_t 10 15360 shC_15 n (by omega) (by rw [show 15360 + 2 ^ 10 = 16384 by rfl]; omega)
  omega
theorem shD_n {x : Int} (h : 0 ≤ x ∧ x ≤ 16000) : vf_n64 (FP.ddiv (FP.i2d (Int32.ofInt x)) 4670021707350671360) := by
  have := shC_all (n := x.toNat) (by omega)
  have := of_decide_eq_true this
  unfold shD at this
  rw [show ((x.toNat : Nat) : Int) = x by omega] at this
  exact this
