/-! more rows; sums -/
theorem up_ind {P : Int → Prop} {lo hi : Int} (h : ∀ k, lo ≤ k → k ≤ hi → (k < hi → P (k + 1)) → P k) : ∀ k, lo ≤ k → k ≤ hi → P k := by
  have key : ∀ (n : Nat) (k : Int), lo ≤ k → k ≤ hi → (hi - k).toNat = n → P k := by
    intro n
    induction n with
    | zero => exact fun k h1 h2 h3 => h k h1 h2 (fun h4 => by omega)
    | succ n ih => exact fun k h1 h2 h3 => h k h1 h2 (fun h4 => ih (k + 1) (by omega) (by omega) (by omega))
  exact fun k h1 h2 => key _ k h1 h2 rfl
theorem down_ind {P : Int → Prop} {lo hi : Int} (h : ∀ k, lo ≤ k → k ≤ hi → (lo < k → P (k - 1)) → P k) : ∀ k, lo ≤ k → k ≤ hi → P k := by
  have key : ∀ (n : Nat) (k : Int), lo ≤ k → k ≤ hi → (k - lo).toNat = n → P k := by
    intro n
    induction n with
    | zero => exact fun k h1 h2 h3 => h k h1 h2 (fun h4 => by omega)
    | succ n ih => exact fun k h1 h2 h3 => h k h1 h2 (fun h4 => ih (k - 1) (by omega) (by omega) (by omega))
  exact fun k h1 h2 => key _ k h1 h2 rfl
/-- the sum of f over the numbers from 0 on, below k -/
def nsum (f : Int → Int) : Nat → Int
  | 0 => 0
  | n + 1 => nsum f n + f n
def isum (f : Int → Int) (k : Int) : Int := nsum f k.toNat
theorem isum_0 {f : Int → Int} : isum f 0 = 0 := rfl
theorem isum_s {f : Int → Int} {k : Int} (h : 0 ≤ k) : isum f (k + 1) = isum f k + f k := by
  unfold isum
  rw [show (k + 1).toNat = k.toNat + 1 by omega]
  show nsum f k.toNat + f (k.toNat : Nat) = _
  rw [show ((k.toNat : Nat) : Int) = k by omega]
theorem nsum_c {f g : Int → Int} : ∀ n : Nat, (∀ j : Int, 0 ≤ j → j < n → f j = g j) → nsum f n = nsum g n
  | 0, _ => rfl
  | n + 1, h => by
    show nsum f n + f n = nsum g n + g n
    rw [nsum_c n (fun j h1 h2 => h j h1 (by omega)), h n (by omega) (by omega)]
theorem isum_c {f g : Int → Int} {k : Int} (h : ∀ j, 0 ≤ j → j < k → f j = g j) : isum f k = isum g k := nsum_c _ (fun j h1 h2 => h j h1 (by omega))
theorem nsum_b {f : Int → Int} {lo hi : Int} : ∀ n : Nat, (∀ j : Int, 0 ≤ j → j < n → lo ≤ f j ∧ f j ≤ hi) → lo * n ≤ nsum f n ∧ nsum f n ≤ hi * n
  | 0, _ => by simp [nsum]
  | n + 1, h => by
    have h1 := nsum_b n (fun j h1 h2 => h j h1 (by omega))
    have h2 := h n (by omega) (by omega)
    have e1 : lo * ((n + 1 : Nat) : Int) = lo * n + lo := by rw [Int.natCast_succ, Int.mul_add, Int.mul_one]
    have e2 : hi * ((n + 1 : Nat) : Int) = hi * n + hi := by rw [Int.natCast_succ, Int.mul_add, Int.mul_one]
    rw [e1, e2]
    show _ ≤ nsum f n + f n ∧ nsum f n + f n ≤ _
    omega
/-- a sum's bounds -/
theorem isum_b {f : Int → Int} {lo hi k : Int} (hk : 0 ≤ k) (h : ∀ j, 0 ≤ j → j < k → lo ≤ f j ∧ f j ≤ hi) : lo * k ≤ isum f k ∧ isum f k ≤ hi * k := by
  have h1 := nsum_b (f := f) (lo := lo) (hi := hi) k.toNat (fun j h1 h2 => h j h1 (by omega))
  rw [show ((k.toNat : Nat) : Int) = k by omega] at h1
  exact h1
theorem isum_add {f g : Int → Int} {k : Int} : isum (fun j => f j + g j) k = isum f k + isum g k := by
  unfold isum
  induction k.toNat with
  | zero => rfl
  | succ n ih =>
    show nsum (fun j => f j + g j) n + (f n + g n) = nsum f n + f n + (nsum g n + g n)
    rw [ih]
    omega
theorem CT.ofZ {J : XI} {mc ms : Nat} {as : List Value} {w : WD} {sz : Nat} {Q : XQ} (hy : plainName J.y.cls = true) (hh : J.hh = []) (hlen : xlen as ≤ J.nL) (k : ∀ Z, xEnd Z Q → V J Z mc ms w sz 0 (xent as J.nL) []) : CT J mc ms as w sz Q := CT.ofV hy hh hlen (k _ xEnd_N)
theorem CX.ofZ {J : XI} {mc ms : Nat} {as : List Value} {w : WD} {sz : Nat} {Q : XQ} {QE : XE} (hy : plainName J.y.cls = true) (hh : J.hh = []) (hlen : xlen as ≤ J.nL) (k : ∀ Z, Z = zX Q QE → xEnd Z Q → V J Z mc ms w sz 0 (xent as J.nL) []) : CX J mc ms as w sz Q QE := CX.ofV hy hh hlen (k _ rfl xEnd_X)
theorem CH.ofZ {J : XI} {mc ms : Nat} {as : List Value} {w : WD} {sz : Nat} {Q : XQ} {QE : XE} (hy : plainName J.y.cls = true) (hlen : xlen as ≤ J.nL) (k : ∀ Z, Z = zX Q QE → xEnd Z Q → V J Z mc ms w sz 0 (xent as J.nL) []) : CH J mc ms as w sz Q QE := CH.ofV hy hlen (k _ rfl xEnd_X)
theorem CT.imp {J : XI} {mc ms : Nat} {as : List Value} {w : WD} {sz : Nat} {Q Q' : XQ} (k : CT J mc ms as w sz Q) (h : ∀ v w' sz', Q v w' sz' → Q' v w' sz') : CT J mc ms as w sz Q' := by
  intro Γ l hl p e ha hc hk s m args below hf hap hpc ht
  obtain ⟨n, o, h1, h2, h3, h4, h5⟩ := k Γ l hl p e ha hc hk s m args below hf hap hpc ht
  exact ⟨n, o, h1, h2, h3, xQc.imp h h4, h5⟩
section VMORE
variable {I : XI} {Z : XZ} {kc ks : Nat} {w : WD} {sz pc : Nat} {lv : List (Option Value)} {st : List Value}
theorem V_ifeqB {b : Bool} {off : Int} (tgt : Nat) (hd : decode I.cc pc = .ok (.ifCond .eq off, 3)) (ht : (pc : Int) + off = (tgt : Int)) (kt : b = false → V I Z kc ks w sz tgt lv st) (kf : b = true → V I Z kc ks w sz (pc + 3) lv st) : V I Z kc ks w sz pc lv (xB b :: st) :=
  V_if_eq tgt hd ht (by have := b2i_r b; omega) (fun h => kt (b2i_0.mp h)) (fun h => kf (b2i_n0.mp h))
theorem V_ifneB {b : Bool} {off : Int} (tgt : Nat) (hd : decode I.cc pc = .ok (.ifCond .ne off, 3)) (ht : (pc : Int) + off = (tgt : Int)) (kt : b = true → V I Z kc ks w sz tgt lv st) (kf : b = false → V I Z kc ks w sz (pc + 3) lv st) : V I Z kc ks w sz pc lv (xB b :: st) :=
  V_if_ne tgt hd ht (by have := b2i_r b; omega) (fun h => kt (b2i_n0.mp h)) (fun h => kf (b2i_0.mp h))
theorem V_ldc2 {n : Nat} {z : Int} (hd : decode I.cc pc = .ok (.ldc2_w n, 3)) (h : Cond.constantLong I.y.cls n (Int64.ofInt z) ∈ xG) (k : V I Z kc ks w sz (pc + 3) lv (xJ z :: st)) : V I Z kc ks w sz pc lv st :=
  V_st (fun Γ p l e R s m args below meth c H locs cells slots ls Q C N L _ _ kk => lv_ldc2 C.1 C.2.1 C.2.2.2.2.2.2.2.1 (C.2.2.2.2.2.2.2.2.1 _ h) hd kk) k
theorem V_ldc2d {n : Nat} {v : UInt64} (hd : decode I.cc pc = .ok (.ldc2_w n, 3)) (h : Cond.constantDouble I.y.cls n v ∈ xG) (k : V I Z kc ks w sz (pc + 3) lv (.double v :: st)) : V I Z kc ks w sz pc lv st :=
  V_st (fun Γ p l e R s m args below meth c H locs cells slots ls Q C N L _ _ kk => lv_ldc2d C.1 C.2.1 C.2.2.2.2.2.2.2.1 (C.2.2.2.2.2.2.2.2.1 _ h) hd kk) k
theorem V_dconst0 (hd : decode I.cc pc = .ok (.dconst 0, 1)) (k : V I Z kc ks w sz (pc + 1) lv (.double 0 :: st)) : V I Z kc ks w sz pc lv st :=
  V_st (fun Γ p l e R s m args below meth c H locs cells slots ls Q C N L _ _ kk => lv_dconst0 C.1 C.2.1 hd kk) k
theorem V_dconst1 (hd : decode I.cc pc = .ok (.dconst 1, 1)) (k : V I Z kc ks w sz (pc + 1) lv (.double 4607182418800017408 :: st)) : V I Z kc ks w sz pc lv st :=
  V_st (fun Γ p l e R s m args below meth c H locs cells slots ls Q C N L _ _ kk => lv_dconst1 C.1 C.2.1 hd kk) k
theorem V_ddiv {x y : UInt64} (hd : decode I.cc pc = .ok (.ddiv, 1)) (hn : vf_n64 (FP.ddiv x y)) (k : V I Z kc ks w sz (pc + 1) lv (.double (FP.ddiv x y) :: st)) : V I Z kc ks w sz pc lv (.double y :: .double x :: st) :=
  V_st (fun Γ p l e R s m args below meth c H locs cells slots ls Q C N L _ _ kk => lv_ddiv C.1 C.2.1 hd hn kk) k
theorem V_dmul {x y : UInt64} (hd : decode I.cc pc = .ok (.dmul, 1)) (hn : vf_n64 (FP.dmul x y)) (k : V I Z kc ks w sz (pc + 1) lv (.double (FP.dmul x y) :: st)) : V I Z kc ks w sz pc lv (.double y :: .double x :: st) :=
  V_st (fun Γ p l e R s m args below meth c H locs cells slots ls Q C N L _ _ kk => lv_dmul C.1 C.2.1 hd hn kk) k
theorem V_dsub {x y : UInt64} (hd : decode I.cc pc = .ok (.dsub, 1)) (hn : vf_n64 (FP.dsub x y)) (k : V I Z kc ks w sz (pc + 1) lv (.double (FP.dsub x y) :: st)) : V I Z kc ks w sz pc lv (.double y :: .double x :: st) :=
  V_st (fun Γ p l e R s m args below meth c H locs cells slots ls Q C N L _ _ kk => lv_dsub C.1 C.2.1 hd hn kk) k
theorem V_dcmp {x y : UInt64} {op : CmpOp} (hd : decode I.cc pc = .ok (.dcmp op, 1)) (k : V I Z kc ks w sz (pc + 1) lv (.int (Op.cmpValue (FP.dcmp x y) op) :: st)) : V I Z kc ks w sz pc lv (.double y :: .double x :: st) :=
  V_st (fun Γ p l e R s m args below meth c H locs cells slots ls Q C N L _ _ kk => lv_dcmp C.1 C.2.1 hd kk) k
theorem V_i2d {x : Int32} (hd : decode I.cc pc = .ok (.i2d, 1)) (k : V I Z kc ks w sz (pc + 1) lv (.double (FP.i2d x) :: st)) : V I Z kc ks w sz pc lv (.int x :: st) :=
  V_st (fun Γ p l e R s m args below meth c H locs cells slots ls Q C N L _ _ kk => lv_i2d C.1 C.2.1 hd kk) k
theorem V_d2l {x : UInt64} (hd : decode I.cc pc = .ok (.d2l, 1)) (k : V I Z kc ks w sz (pc + 1) lv (.long (FP.d2l x) :: st)) : V I Z kc ks w sz pc lv (.double x :: st) :=
  V_st (fun Γ p l e R s m args below meth c H locs cells slots ls Q C N L _ _ kk => lv_d2l C.1 C.2.1 hd kk) k
end VMORE
theorem b2i_inj {a b : Bool} : b2i a = b2i b ↔ a = b := by cases a <;> cases b <;> simp [b2i]
section VMORE2
variable {I : XI} {Z : XZ} {kc ks : Nat} {w : WD} {sz pc : Nat} {lv : List (Option Value)} {st : List Value}
theorem V_icmp_eqB {a b : Bool} {off : Int} (tgt : Nat) (hd : decode I.cc pc = .ok (.if_icmp .eq off, 3)) (ht : (pc : Int) + off = (tgt : Int)) (kt : a = b → V I Z kc ks w sz tgt lv st) (kf : a ≠ b → V I Z kc ks w sz (pc + 3) lv st) : V I Z kc ks w sz pc lv (xB b :: xB a :: st) :=
  V_icmp_eq tgt hd ht (by have := b2i_r a; have := b2i_r b; omega) (fun h => kt (b2i_inj.mp h)) (fun h => kf (fun q => h (b2i_inj.mpr q)))
end VMORE2
/-- whether f holds of a number from 0 on, below k -/
def nex (f : Int → Bool) : Nat → Bool
  | 0 => false
  | n + 1 => nex f n || f n
def iex (f : Int → Bool) (k : Int) : Bool := nex f k.toNat
theorem iex_0 {f : Int → Bool} : iex f 0 = false := rfl
theorem iex_s {f : Int → Bool} {k : Int} (h : 0 ≤ k) : iex f (k + 1) = (iex f k || f k) := by
  unfold iex
  rw [show (k + 1).toNat = k.toNat + 1 by omega]
  show (nex f k.toNat || f (k.toNat : Nat)) = _
  rw [show ((k.toNat : Nat) : Int) = k by omega]
theorem nex_iff {f : Int → Bool} : ∀ n : Nat, nex f n = true ↔ ∃ j : Int, 0 ≤ j ∧ j < n ∧ f j = true
  | 0 => by
    constructor
    · intro h; cases h
    · rintro ⟨j, h1, h2, -⟩; omega
  | n + 1 => by
    show (nex f n || f n) = true ↔ _
    rw [Bool.or_eq_true, nex_iff n]
    constructor
    · rintro (⟨j, h1, h2, h3⟩ | h)
      · exact ⟨j, h1, by omega, h3⟩
      · exact ⟨n, by omega, by omega, h⟩
    · rintro ⟨j, h1, h2, h3⟩
      by_cases h : j = n
      · right; rw [← h]; exact h3
      · left; exact ⟨j, h1, by omega, h3⟩
theorem iex_iff {f : Int → Bool} {k : Int} (hk : 0 ≤ k) : iex f k = true ↔ ∃ j : Int, 0 ≤ j ∧ j < k ∧ f j = true := by
  unfold iex
  rw [nex_iff, show ((k.toNat : Nat) : Int) = k by omega]
/-- the locals that are kept -/
def xfg : List (Option Value) → List Bool → List (Option Value)
  | a :: t, true :: m => a :: xfg t m
  | _ :: t, false :: m => none :: xfg t m
  | _, _ => []
theorem xfg_s : ∀ (lv : List (Option Value)) (m : List Bool) (i : Nat) (v : Value), (xfg lv m)[i]? = some (some v) → lv[i]? = some (some v)
  | [], _, i, v, h => by simp [xfg] at h
  | a :: t, [], i, v, h => by simp [xfg] at h
  | a :: t, true :: m, i, v, h => by
    cases i with
    | zero => simpa [xfg] using h
    | succ i => simpa using xfg_s t m i v (by simpa [xfg] using h)
  | a :: t, false :: m, i, v, h => by
    cases i with
    | zero => simp [xfg] at h
    | succ i => simpa using xfg_s t m i v (by simpa [xfg] using h)
theorem V_fg {I : XI} {Z : XZ} {kc ks : Nat} {w : WD} {sz pc : Nat} {lv : List (Option Value)} {st : List Value} (m : List Bool) (k : V I Z kc ks w sz pc (xfg lv m) st) : V I Z kc ks w sz pc lv st := V_lv (xfg_s lv m) k
