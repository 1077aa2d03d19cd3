/-! the shares, doubled -/
def bkA (n : Nat) : Bool := decide (Op.cmpValue (FP.dcmp (shD n) 0) .g = 1) && (decide (Op.cmpValue (FP.dcmp (shD n) 4607182418800017408) .g = -1) && (decide (FP.dmul (shD n) 4611686018427387904 = shD (2 * n)) && decide (shD (2 * n) = shD n + 4503599627370496)))
def bkM (n : Nat) : UInt64 := FP.dmul (shD n) 4611686018427387904
def bkS (f : UInt64) : UInt64 := FP.dmul (FP.dsub f 4607182418800017408) 4841369599423283200
def bkN (x : UInt64) : Bool := decide (x &&& 0x7fffffffffffffff ≤ 0x7ff0000000000000)
def bkB (n : Nat) : Bool := decide (Op.cmpValue (FP.dcmp (shD n) 0) .g = 1) && (decide (Op.cmpValue (FP.dcmp (shD n) 4607182418800017408) .g = -1) && (bkN (bkM n) && (decide (Op.cmpValue (FP.dcmp (bkM n) 4607182418800017408) .g = 1) && (bkN (FP.dsub (bkM n) 4607182418800017408) && (bkN (bkS (bkM n)) && decide ((1022 : Int64) <<< 52 + FP.d2l (bkS (bkM n)) = (shD n).toInt64))))))
def bk (n : Nat) : Bool := if n = 0 then true else if n ≤ 8000 then bkA n else if n < 16000 then bkB n else true
theorem bk_0 : rall bk 9 0 = true := by decide +kernel
theorem bk_1 : rall bk 9 512 = true := by decide +kernel
theorem bk_2 : rall bk 9 1024 = true := by decide +kernel
theorem bk_3 : rall bk 9 1536 = true := by decide +kernel
theorem bk_4 : rall bk 9 2048 = true := by decide +kernel
theorem bk_5 : rall bk 9 2560 = true := by decide +kernel
theorem bk_6 : rall bk 9 3072 = true := by decide +kernel
theorem bk_7 : rall bk 9 3584 = true := by decide +kernel
theorem bk_8 : rall bk 9 4096 = true := by decide +kernel
theorem bk_9 : rall bk 9 4608 = true := by decide +kernel
theorem bk_10 : rall bk 9 5120 = true := by decide +kernel
theorem bk_11 : rall bk 9 5632 = true := by decide +kernel
theorem bk_12 : rall bk 9 6144 = true := by decide +kernel
theorem bk_13 : rall bk 9 6656 = true := by decide +kernel
theorem bk_14 : rall bk 9 7168 = true := by decide +kernel
theorem bk_15 : rall bk 9 7680 = true := by decide +kernel
theorem bk_16 : rall bk 9 8192 = true := by decide +kernel
theorem bk_17 : rall bk 9 8704 = true := by decide +kernel
theorem bk_18 : rall bk 9 9216 = true := by decide +kernel
theorem bk_19 : rall bk 9 9728 = true := by decide +kernel
theorem bk_20 : rall bk 9 10240 = true := by decide +kernel
theorem bk_21 : rall bk 9 10752 = true := by decide +kernel
theorem bk_22 : rall bk 9 11264 = true := by decide +kernel
theorem bk_23 : rall bk 9 11776 = true := by decide +kernel
theorem bk_24 : rall bk 9 12288 = true := by decide +kernel
theorem bk_25 : rall bk 9 12800 = true := by decide +kernel
theorem bk_26 : rall bk 9 13312 = true := by decide +kernel
theorem bk_27 : rall bk 9 13824 = true := by decide +kernel
theorem bk_28 : rall bk 9 14336 = true := by decide +kernel
theorem bk_29 : rall bk 9 14848 = true := by decide +kernel
theorem bk_30 : rall bk 9 15360 = true := by decide +kernel
theorem bk_31 : rall bk 9 15872 = true := by decide +kernel
theorem bk_all {n : Nat} (h : n < 16384) : bk n = true := by
  rcases (show (0 ≤ n ∧ n < 512) ∨ (512 ≤ n ∧ n < 1024) ∨ (1024 ≤ n ∧ n < 1536) ∨ (1536 ≤ n ∧ n < 2048) ∨ (2048 ≤ n ∧ n < 2560) ∨ (2560 ≤ n ∧ n < 3072) ∨ (3072 ≤ n ∧ n < 3584) ∨ (3584 ≤ n ∧ n < 4096) ∨ (4096 ≤ n ∧ n < 4608) ∨ (4608 ≤ n ∧ n < 5120) ∨ (5120 ≤ n ∧ n < 5632) ∨ (5632 ≤ n ∧ n < 6144) ∨ (6144 ≤ n ∧ n < 6656) ∨ (6656 ≤ n ∧ n < 7168) ∨ (7168 ≤ n ∧ n < 7680) ∨ (7680 ≤ n ∧ n < 8192) ∨ (8192 ≤ n ∧ n < 8704) ∨ (8704 ≤ n ∧ n < 9216) ∨ (9216 ≤ n ∧ n < 9728) ∨ (9728 ≤ n ∧ n < 10240) ∨ (10240 ≤ n ∧ n < 10752) ∨ (10752 ≤ n ∧ n < 11264) ∨ (11264 ≤ n ∧ n < 11776) ∨ (11776 ≤ n ∧ n < 12288) ∨ (12288 ≤ n ∧ n < 12800) ∨ (12800 ≤ n ∧ n < 13312) ∨ (13312 ≤ n ∧ n < 13824) ∨ (13824 ≤ n ∧ n < 14336) ∨ (14336 ≤ n ∧ n < 14848) ∨ (14848 ≤ n ∧ n < 15360) ∨ (15360 ≤ n ∧ n < 15872) ∨ (15872 ≤ n ∧ n < 16384) by omega) with q | q | q | q | q | q | q | q | q | q | q | q | q | q | q | q | q | q | q | q | q | q | q | q | q | q | q | q | q | q | q | q
  · exact rall_t 9 0 bk_0 n q.1 (by omega)
  · exact rall_t 9 512 bk_1 n q.1 (by omega)
  · exact rall_t 9 1024 bk_2 n q.1 (by omega)
  · exact rall_t 9 1536 bk_3 n q.1 (by omega)
  · exact rall_t 9 2048 bk_4 n q.1 (by omega)
  · exact rall_t 9 2560 bk_5 n q.1 (by omega)
  · exact rall_t 9 3072 bk_6 n q.1 (by omega)
  · exact rall_t 9 3584 bk_7 n q.1 (by omega)
  · exact rall_t 9 4096 bk_8 n q.1 (by omega)
  · exact rall_t 9 4608 bk_9 n q.1 (by omega)
  · exact rall_t 9 5120 bk_10 n q.1 (by omega)
  · exact rall_t 9 5632 bk_11 n q.1 (by omega)
  · exact rall_t 9 6144 bk_12 n q.1 (by omega)
  · exact rall_t 9 6656 bk_13 n q.1 (by omega)
  · exact rall_t 9 7168 bk_14 n q.1 (by omega)
  · exact rall_t 9 7680 bk_15 n q.1 (by omega)
  · exact rall_t 9 8192 bk_16 n q.1 (by omega)
  · exact rall_t 9 8704 bk_17 n q.1 (by omega)
  · exact rall_t 9 9216 bk_18 n q.1 (by omega)
  · exact rall_t 9 9728 bk_19 n q.1 (by omega)
  · exact rall_t 9 10240 bk_20 n q.1 (by omega)
  · exact rall_t 9 10752 bk_21 n q.1 (by omega)
  · exact rall_t 9 11264 bk_22 n q.1 (by omega)
  · exact rall_t 9 11776 bk_23 n q.1 (by omega)
  · exact rall_t 9 12288 bk_24 n q.1 (by omega)
  · exact rall_t 9 12800 bk_25 n q.1 (by omega)
  · exact rall_t 9 13312 bk_26 n q.1 (by omega)
  · exact rall_t 9 13824 bk_27 n q.1 (by omega)
  · exact rall_t 9 14336 bk_28 n q.1 (by omega)
  · exact rall_t 9 14848 bk_29 n q.1 (by omega)
  · exact rall_t 9 15360 bk_30 n q.1 (by omega)
  · exact rall_t 9 15872 bk_31 n q.1 (by omega)
