/-! rows: branches, locals, ends -/
section VROWS2
variable {I : XI} {Z : XZ} {kc ks : Nat} {w : WD} {sz pc : Nat} {lv : List (Option Value)} {st : List Value}
theorem V_if_eq {a : Int} {off : Int} (tgt : Nat) (hd : decode I.cc pc = .ok (.ifCond .eq off, 3)) (ht : (pc : Int) + off = (tgt : Int)) (r : -2147483648 ≤ a ∧ a < 2147483648) (kt : a = 0 → V I Z kc ks w sz tgt lv st) (kf : a ≠ 0 → V I Z kc ks w sz (pc + 3) lv st) : V I Z kc ks w sz pc lv (xI a :: st) := by
  intro Γ p l e R s m args below meth c H locs cells slots ls C N L hc hs
  have k1 := fun h => kt h Γ p l e R s m args below meth c H locs cells slots ls C N L hc hs
  have k2 := fun h => kf h Γ p l e R s m args below meth c H locs cells slots ls C N L hc hs
  have X := (xof_eq (a := a) (b := 0) ⟨r.1, r.2, by omega, by omega⟩)
  exact lv_if_eq C.1 C.2.1 hd ht (fun h => k1 (X.mp h)) (fun h => k2 (fun q => h (X.mpr q)))
theorem V_icmp_eq {a b : Int} {off : Int} (tgt : Nat) (hd : decode I.cc pc = .ok (.if_icmp .eq off, 3)) (ht : (pc : Int) + off = (tgt : Int)) (r : -2147483648 ≤ a ∧ a < 2147483648 ∧ -2147483648 ≤ b ∧ b < 2147483648) (kt : a = b → V I Z kc ks w sz tgt lv st) (kf : a ≠ b → V I Z kc ks w sz (pc + 3) lv st) : V I Z kc ks w sz pc lv (xI b :: xI a :: st) := by
  intro Γ p l e R s m args below meth c H locs cells slots ls C N L hc hs
  have k1 := fun h => kt h Γ p l e R s m args below meth c H locs cells slots ls C N L hc hs
  have k2 := fun h => kf h Γ p l e R s m args below meth c H locs cells slots ls C N L hc hs
  have X := (xof_eq (a := a) (b := b) r)
  exact lv_icmp_eq C.1 C.2.1 hd ht (fun h => k1 (X.mp h)) (fun h => k2 (fun q => h (X.mpr q)))
theorem V_if_ne {a : Int} {off : Int} (tgt : Nat) (hd : decode I.cc pc = .ok (.ifCond .ne off, 3)) (ht : (pc : Int) + off = (tgt : Int)) (r : -2147483648 ≤ a ∧ a < 2147483648) (kt : a ≠ 0 → V I Z kc ks w sz tgt lv st) (kf : a = 0 → V I Z kc ks w sz (pc + 3) lv st) : V I Z kc ks w sz pc lv (xI a :: st) := by
  intro Γ p l e R s m args below meth c H locs cells slots ls C N L hc hs
  have k1 := fun h => kt h Γ p l e R s m args below meth c H locs cells slots ls C N L hc hs
  have k2 := fun h => kf h Γ p l e R s m args below meth c H locs cells slots ls C N L hc hs
  have X := (xof_eq (a := a) (b := 0) ⟨r.1, r.2, by omega, by omega⟩)
  exact lv_if_ne C.1 C.2.1 hd ht (fun h => k1 (fun q => h (X.mpr q))) (fun h => k2 (X.mp h))
theorem V_icmp_ne {a b : Int} {off : Int} (tgt : Nat) (hd : decode I.cc pc = .ok (.if_icmp .ne off, 3)) (ht : (pc : Int) + off = (tgt : Int)) (r : -2147483648 ≤ a ∧ a < 2147483648 ∧ -2147483648 ≤ b ∧ b < 2147483648) (kt : a ≠ b → V I Z kc ks w sz tgt lv st) (kf : a = b → V I Z kc ks w sz (pc + 3) lv st) : V I Z kc ks w sz pc lv (xI b :: xI a :: st) := by
  intro Γ p l e R s m args below meth c H locs cells slots ls C N L hc hs
  have k1 := fun h => kt h Γ p l e R s m args below meth c H locs cells slots ls C N L hc hs
  have k2 := fun h => kf h Γ p l e R s m args below meth c H locs cells slots ls C N L hc hs
  have X := (xof_eq (a := a) (b := b) r)
  exact lv_icmp_ne C.1 C.2.1 hd ht (fun h => k1 (fun q => h (X.mpr q))) (fun h => k2 (X.mp h))
theorem V_if_lt {a : Int} {off : Int} (tgt : Nat) (hd : decode I.cc pc = .ok (.ifCond .lt off, 3)) (ht : (pc : Int) + off = (tgt : Int)) (r : -2147483648 ≤ a ∧ a < 2147483648) (kt : a < 0 → V I Z kc ks w sz tgt lv st) (kf : 0 ≤ a → V I Z kc ks w sz (pc + 3) lv st) : V I Z kc ks w sz pc lv (xI a :: st) := by
  intro Γ p l e R s m args below meth c H locs cells slots ls C N L hc hs
  have k1 := fun h => kt h Γ p l e R s m args below meth c H locs cells slots ls C N L hc hs
  have k2 := fun h => kf h Γ p l e R s m args below meth c H locs cells slots ls C N L hc hs
  have X := (xof_lt (a := a) (b := 0) ⟨r.1, r.2, by omega, by omega⟩)
  exact lv_if_lt C.1 C.2.1 hd ht (fun h => k1 (X.mp h)) (fun h => k2 (Int.not_lt.mp (fun q => h (X.mpr q))))
theorem V_icmp_lt {a b : Int} {off : Int} (tgt : Nat) (hd : decode I.cc pc = .ok (.if_icmp .lt off, 3)) (ht : (pc : Int) + off = (tgt : Int)) (r : -2147483648 ≤ a ∧ a < 2147483648 ∧ -2147483648 ≤ b ∧ b < 2147483648) (kt : a < b → V I Z kc ks w sz tgt lv st) (kf : b ≤ a → V I Z kc ks w sz (pc + 3) lv st) : V I Z kc ks w sz pc lv (xI b :: xI a :: st) := by
  intro Γ p l e R s m args below meth c H locs cells slots ls C N L hc hs
  have k1 := fun h => kt h Γ p l e R s m args below meth c H locs cells slots ls C N L hc hs
  have k2 := fun h => kf h Γ p l e R s m args below meth c H locs cells slots ls C N L hc hs
  have X := (xof_lt (a := a) (b := b) r)
  exact lv_icmp_lt C.1 C.2.1 hd ht (fun h => k1 (X.mp h)) (fun h => k2 (Int.not_lt.mp (fun q => h (X.mpr q))))
theorem V_if_ge {a : Int} {off : Int} (tgt : Nat) (hd : decode I.cc pc = .ok (.ifCond .ge off, 3)) (ht : (pc : Int) + off = (tgt : Int)) (r : -2147483648 ≤ a ∧ a < 2147483648) (kt : 0 ≤ a → V I Z kc ks w sz tgt lv st) (kf : a < 0 → V I Z kc ks w sz (pc + 3) lv st) : V I Z kc ks w sz pc lv (xI a :: st) := by
  intro Γ p l e R s m args below meth c H locs cells slots ls C N L hc hs
  have k1 := fun h => kt h Γ p l e R s m args below meth c H locs cells slots ls C N L hc hs
  have k2 := fun h => kf h Γ p l e R s m args below meth c H locs cells slots ls C N L hc hs
  have X := (xof_le (a := 0) (b := a) ⟨by omega, by omega, r.1, r.2⟩)
  exact lv_if_ge C.1 C.2.1 hd ht (fun h => k1 (X.mp h)) (fun h => k2 (Int.not_le.mp (fun q => h (X.mpr q))))
theorem V_icmp_ge {a b : Int} {off : Int} (tgt : Nat) (hd : decode I.cc pc = .ok (.if_icmp .ge off, 3)) (ht : (pc : Int) + off = (tgt : Int)) (r : -2147483648 ≤ a ∧ a < 2147483648 ∧ -2147483648 ≤ b ∧ b < 2147483648) (kt : b ≤ a → V I Z kc ks w sz tgt lv st) (kf : a < b → V I Z kc ks w sz (pc + 3) lv st) : V I Z kc ks w sz pc lv (xI b :: xI a :: st) := by
  intro Γ p l e R s m args below meth c H locs cells slots ls C N L hc hs
  have k1 := fun h => kt h Γ p l e R s m args below meth c H locs cells slots ls C N L hc hs
  have k2 := fun h => kf h Γ p l e R s m args below meth c H locs cells slots ls C N L hc hs
  have X := (xof_le (a := b) (b := a) ⟨r.2.2.1, r.2.2.2, r.1, r.2.1⟩)
  exact lv_icmp_ge C.1 C.2.1 hd ht (fun h => k1 (X.mp h)) (fun h => k2 (Int.not_le.mp (fun q => h (X.mpr q))))
theorem V_if_gt {a : Int} {off : Int} (tgt : Nat) (hd : decode I.cc pc = .ok (.ifCond .gt off, 3)) (ht : (pc : Int) + off = (tgt : Int)) (r : -2147483648 ≤ a ∧ a < 2147483648) (kt : 0 < a → V I Z kc ks w sz tgt lv st) (kf : a ≤ 0 → V I Z kc ks w sz (pc + 3) lv st) : V I Z kc ks w sz pc lv (xI a :: st) := by
  intro Γ p l e R s m args below meth c H locs cells slots ls C N L hc hs
  have k1 := fun h => kt h Γ p l e R s m args below meth c H locs cells slots ls C N L hc hs
  have k2 := fun h => kf h Γ p l e R s m args below meth c H locs cells slots ls C N L hc hs
  have X := (xof_lt (a := 0) (b := a) ⟨by omega, by omega, r.1, r.2⟩)
  exact lv_if_gt C.1 C.2.1 hd ht (fun h => k1 (X.mp h)) (fun h => k2 (Int.not_lt.mp (fun q => h (X.mpr q))))
theorem V_icmp_gt {a b : Int} {off : Int} (tgt : Nat) (hd : decode I.cc pc = .ok (.if_icmp .gt off, 3)) (ht : (pc : Int) + off = (tgt : Int)) (r : -2147483648 ≤ a ∧ a < 2147483648 ∧ -2147483648 ≤ b ∧ b < 2147483648) (kt : b < a → V I Z kc ks w sz tgt lv st) (kf : a ≤ b → V I Z kc ks w sz (pc + 3) lv st) : V I Z kc ks w sz pc lv (xI b :: xI a :: st) := by
  intro Γ p l e R s m args below meth c H locs cells slots ls C N L hc hs
  have k1 := fun h => kt h Γ p l e R s m args below meth c H locs cells slots ls C N L hc hs
  have k2 := fun h => kf h Γ p l e R s m args below meth c H locs cells slots ls C N L hc hs
  have X := (xof_lt (a := b) (b := a) ⟨r.2.2.1, r.2.2.2, r.1, r.2.1⟩)
  exact lv_icmp_gt C.1 C.2.1 hd ht (fun h => k1 (X.mp h)) (fun h => k2 (Int.not_lt.mp (fun q => h (X.mpr q))))
theorem V_if_le {a : Int} {off : Int} (tgt : Nat) (hd : decode I.cc pc = .ok (.ifCond .le off, 3)) (ht : (pc : Int) + off = (tgt : Int)) (r : -2147483648 ≤ a ∧ a < 2147483648) (kt : a ≤ 0 → V I Z kc ks w sz tgt lv st) (kf : 0 < a → V I Z kc ks w sz (pc + 3) lv st) : V I Z kc ks w sz pc lv (xI a :: st) := by
  intro Γ p l e R s m args below meth c H locs cells slots ls C N L hc hs
  have k1 := fun h => kt h Γ p l e R s m args below meth c H locs cells slots ls C N L hc hs
  have k2 := fun h => kf h Γ p l e R s m args below meth c H locs cells slots ls C N L hc hs
  have X := (xof_le (a := a) (b := 0) ⟨r.1, r.2, by omega, by omega⟩)
  exact lv_if_le C.1 C.2.1 hd ht (fun h => k1 (X.mp h)) (fun h => k2 (Int.not_le.mp (fun q => h (X.mpr q))))
theorem V_icmp_le {a b : Int} {off : Int} (tgt : Nat) (hd : decode I.cc pc = .ok (.if_icmp .le off, 3)) (ht : (pc : Int) + off = (tgt : Int)) (r : -2147483648 ≤ a ∧ a < 2147483648 ∧ -2147483648 ≤ b ∧ b < 2147483648) (kt : a ≤ b → V I Z kc ks w sz tgt lv st) (kf : b < a → V I Z kc ks w sz (pc + 3) lv st) : V I Z kc ks w sz pc lv (xI b :: xI a :: st) := by
  intro Γ p l e R s m args below meth c H locs cells slots ls C N L hc hs
  have k1 := fun h => kt h Γ p l e R s m args below meth c H locs cells slots ls C N L hc hs
  have k2 := fun h => kf h Γ p l e R s m args below meth c H locs cells slots ls C N L hc hs
  have X := (xof_le (a := a) (b := b) r)
  exact lv_icmp_le C.1 C.2.1 hd ht (fun h => k1 (X.mp h)) (fun h => k2 (Int.not_le.mp (fun q => h (X.mpr q))))
theorem V_tab {a : Int} {dflt lo hi : Int} {offs : Array Int} {len : Nat} (hd : decode I.cc pc = .ok (.tableswitch dflt lo hi offs, len)) (r : -2147483648 ≤ a ∧ a < 2147483648) (tgt : Nat)
    (hout : (a < lo ∨ hi < a) → (pc : Int) + dflt = (tgt : Int) ∧ V I Z kc ks w sz tgt lv st) (hin : lo ≤ a → a ≤ hi → ∃ (off : Int) (t : Nat), offs[(a - lo).toNat]? = some off ∧ (pc : Int) + off = (t : Int) ∧ V I Z kc ks w sz t lv st) : V I Z kc ks w sz pc lv (xI a :: st) := by
  intro Γ p l e R s m args below meth c H locs cells slots ls C N L hc hs
  have ha := xof_toInt r.1 r.2
  by_cases h : a < lo ∨ hi < a
  · obtain ⟨h1, h2⟩ := hout h
    exact lv_tableOut C.1 C.2.1 hd (by rw [ha]; exact h) h1 (h2 Γ p l e R s m args below meth c H locs cells slots ls C N L hc hs)
  · obtain ⟨off, t, h1, h2, h3⟩ := hin (by omega) (by omega)
    exact lv_tableIn C.1 C.2.1 hd (by rw [ha]; omega) (by rw [ha]; omega) (by rw [ha]; exact h1) h2 (h3 Γ p l e R s m args below meth c H locs cells slots ls C N L hc hs)
theorem V_lcmp {a b : Int} (hd : decode I.cc pc = .ok (.lcmp, 1)) (r : -9223372036854775808 ≤ a ∧ a < 9223372036854775808 ∧ -9223372036854775808 ≤ b ∧ b < 9223372036854775808) (k : V I Z kc ks w sz (pc + 1) lv (xI (if b < a then 1 else if a = b then 0 else -1) :: st)) : V I Z kc ks w sz pc lv (xJ b :: xJ a :: st) :=
  V_st (fun Γ p l e R s m args below meth c H locs cells slots ls Q C N L _ _ kk => W.lcmp C.1 C.2.1 hd (by
    have ea := Int64.toInt_ofInt_of_le (n := a) r.1 r.2.1
    have eb := Int64.toInt_ofInt_of_le (n := b) r.2.2.1 r.2.2.2
    have e9 : lg_cmp (Int64.ofInt a) (Int64.ofInt b) = Int32.ofInt (if b < a then 1 else if a = b then 0 else -1) := by
      unfold lg_cmp
      simp only [gt_iff_lt, Int64.lt_iff_toInt_lt, ← Int64.toInt_inj, ea, eb]
      split
      · rfl
      · split <;> rfl
    rw [e9]; exact kk)) k
/-- a long compared: alike or not -/
theorem V_lcmpZ {x y : Int64} (hd : decode I.cc pc = .ok (.lcmp, 1)) (k1 : x = y → V I Z kc ks w sz (pc + 1) lv (xI 0 :: st)) (k2 : x ≠ y → ∀ z : Int, z ≠ 0 → -2 < z → z < 2 → V I Z kc ks w sz (pc + 1) lv (xI z :: st)) : V I Z kc ks w sz pc lv (.long y :: .long x :: st) := by
  by_cases h : x = y
  · exact V_st (fun Γ p l e R s m args below meth c H locs cells slots ls Q C N L _ _ kk => W.lcmp C.1 C.2.1 hd (by rw [show lg_cmp x y = Int32.ofInt 0 by unfold lg_cmp; subst h; simp [Int64.lt_irrefl]]; exact kk)) (k1 h)
  · by_cases h2 : x > y
    · exact V_st (fun Γ p l e R s m args below meth c H locs cells slots ls Q C N L _ _ kk => W.lcmp C.1 C.2.1 hd (by rw [show lg_cmp x y = Int32.ofInt 1 by unfold lg_cmp; rw [if_pos h2]; rfl]; exact kk)) (k2 h 1 (by omega) (by omega) (by omega))
    · exact V_st (fun Γ p l e R s m args below meth c H locs cells slots ls Q C N L _ _ kk => W.lcmp C.1 C.2.1 hd (by rw [show lg_cmp x y = Int32.ofInt (-1) by unfold lg_cmp; rw [if_neg h2, if_neg h]; rfl]; exact kk)) (k2 h (-1) (by omega) (by omega) (by omega))
/-! locals -/
def xk2 : Option Value → Option Value
  | some (.long _) => none
  | some (.double _) => none
  | a => a
def xst1 : List (Option Value) → Nat → Option Value → List (Option Value)
  | [], _, _ => []
  | _ :: t, 0, v => v :: t
  | a :: t, 1, v => xk2 a :: xst1 t 0 v
  | a :: t, n + 2, v => a :: xst1 t (n + 1) v
def xst2 : List (Option Value) → Nat → Option Value → List (Option Value)
  | [], _, _ => []
  | [_], 0, v => [v]
  | _ :: _ :: t, 0, v => v :: none :: t
  | a :: t, 1, v => xk2 a :: xst2 t 0 v
  | a :: t, n + 2, v => a :: xst2 t (n + 1) v
theorem xk2_s {a : Option Value} {u : Value} (h : xk2 a = some u) : a = some u ∧ ¬ u.category = 2 := by
  cases a with
  | none => cases h
  | some v => cases v <;> first | (cases h; exact ⟨rfl, by simp [Value.category]⟩) | cases h
theorem xst1_s : ∀ (lv : List (Option Value)) (i : Nat) (v : Option Value) (j : Nat) (u : Value), (xst1 lv i v)[j]? = some (some u) → (j = i ∧ v = some u) ∨ (j ≠ i ∧ lv[j]? = some (some u) ∧ ¬ (j + 1 = i ∧ u.category = 2))
  | [], _, _, j, u, h => by simp [xst1] at h
  | a :: t, 0, v, j, u, h => by
    cases j with
    | zero => simp [xst1] at h; exact Or.inl ⟨rfl, h⟩
    | succ j => simp [xst1] at h; exact Or.inr ⟨by omega, by simpa using h, by omega⟩
  | a :: t, 1, v, j, u, h => by
    cases j with
    | zero =>
      simp [xst1] at h
      obtain ⟨h1, h2⟩ := xk2_s h
      exact Or.inr ⟨by omega, by simp [h1], fun q => h2 q.2⟩
    | succ j =>
      have h' : (xst1 t 0 v)[j]? = some (some u) := by simpa [xst1] using h
      rcases xst1_s t 0 v j u h' with ⟨h1, h2⟩ | ⟨h1, h2, h3⟩
      · exact Or.inl ⟨by omega, h2⟩
      · exact Or.inr ⟨by omega, by simpa using h2, by omega⟩
  | a :: t, n + 2, v, j, u, h => by
    cases j with
    | zero => simp [xst1] at h; exact Or.inr ⟨by omega, by simp [h], by omega⟩
    | succ j =>
      have h' : (xst1 t (n + 1) v)[j]? = some (some u) := by simpa [xst1] using h
      rcases xst1_s t (n + 1) v j u h' with ⟨h1, h2⟩ | ⟨h1, h2, h3⟩
      · exact Or.inl ⟨by omega, h2⟩
      · exact Or.inr ⟨by omega, by simpa using h2, fun q => h3 ⟨by omega, q.2⟩⟩
theorem xst2_s : ∀ (lv : List (Option Value)) (i : Nat) (v : Option Value) (j : Nat) (u : Value), (xst2 lv i v)[j]? = some (some u) → (j = i ∧ v = some u) ∨ (j ≠ i ∧ j ≠ i + 1 ∧ lv[j]? = some (some u) ∧ ¬ (j + 1 = i ∧ u.category = 2))
  | [], _, _, j, u, h => by simp [xst2] at h
  | [a], 0, v, j, u, h => by
    cases j with
    | zero => simp [xst2] at h; exact Or.inl ⟨rfl, h⟩
    | succ j => simp [xst2] at h
  | a :: b :: t, 0, v, j, u, h => by
    match j, h with
    | 0, h => simp [xst2] at h; exact Or.inl ⟨rfl, h⟩
    | 1, h => simp [xst2] at h
    | j + 2, h => simp [xst2] at h; exact Or.inr ⟨by omega, by omega, by simpa using h, by omega⟩
  | a :: t, 1, v, j, u, h => by
    cases j with
    | zero =>
      simp [xst2] at h
      obtain ⟨h1, h2⟩ := xk2_s h
      exact Or.inr ⟨by omega, by omega, by simp [h1], fun q => h2 q.2⟩
    | succ j =>
      have h' : (xst2 t 0 v)[j]? = some (some u) := by simpa [xst2] using h
      rcases xst2_s t 0 v j u h' with ⟨h1, h2⟩ | ⟨h1, h2, h3, h4⟩
      · exact Or.inl ⟨by omega, h2⟩
      · exact Or.inr ⟨by omega, by omega, by simpa using h3, by omega⟩
  | a :: t, n + 2, v, j, u, h => by
    cases j with
    | zero => simp [xst2] at h; exact Or.inr ⟨by omega, by omega, by simp [h], by omega⟩
    | succ j =>
      have h' : (xst2 t (n + 1) v)[j]? = some (some u) := by simpa [xst2] using h
      rcases xst2_s t (n + 1) v j u h' with ⟨h1, h2⟩ | ⟨h1, h2, h3, h4⟩
      · exact Or.inl ⟨by omega, h2⟩
      · exact Or.inr ⟨by omega, by omega, by simpa using h3, fun q => h4 ⟨by omega, q.2⟩⟩
/-- the listed locals, as the kit lists them -/
def xas (Γ : XG) (lv : List (Option Value)) : List (Nat × Value) := (List.range lv.length).filterMap (fun j => match lv[j]? with | some (some u) => some (j, xv Γ u) | _ => none)
theorem xas_in {Γ : XG} {lv : List (Option Value)} {j : Nat} {u : Value} (h : lv[j]? = some (some u)) : (j, xv Γ u) ∈ xas Γ lv := by
  unfold xas
  refine List.mem_filterMap.mpr ⟨j, List.mem_range.mpr (List.getElem?_eq_some_iff.mp h).1, ?_⟩
  rw [h]
theorem xas_out {Γ : XG} {lv : List (Option Value)} {q : Nat × Value} (h : q ∈ xas Γ lv) : ∃ u, lv[q.1]? = some (some u) ∧ q.2 = xv Γ u := by
  unfold xas at h
  obtain ⟨j, -, hj⟩ := List.mem_filterMap.mp h
  split at hj
  · rename_i u hu
    cases hj
    exact ⟨u, hu, rfl⟩
  · cases hj
theorem xL.has {Γ : XG} {nL : Nat} {ls : Array Slot} {lv : List (Option Value)} (h : xL Γ nL ls lv) : lv_has ls nL (xas Γ lv) := by
  refine ⟨h.1, h.2.1, fun q hq => ?_⟩
  obtain ⟨u, h1, h2⟩ := xas_out hq
  rw [h2]
  exact h.2.2 _ _ h1
theorem xL.st1 {Γ : XG} {nL : Nat} {ls' : Array Slot} {lv : List (Option Value)} {i : Nat} {v : Value} {x : Value} (hx : x = xv Γ v) (h : lv_has ls' nL ((i, x) :: (xas Γ lv).filter (fun q => !(q.1 == i) && !(q.1 + 1 == i && q.2.category == 2)))) : xL Γ nL ls' (xst1 lv i (some v)) := by
  refine ⟨h.1, h.2.1, fun j u hj => ?_⟩
  rcases xst1_s lv i (some v) j u hj with ⟨h1, h2⟩ | ⟨h1, h2, h3⟩
  · cases h2
    subst h1
    rw [← hx]
    exact h.2.2 (j, x) List.mem_cons_self
  · refine h.2.2 (j, xv Γ u) (List.mem_cons_of_mem _ (List.mem_filter.mpr ⟨xas_in h2, ?_⟩))
    simp only [Bool.and_eq_true, Bool.not_eq_true', beq_eq_false_iff_ne, ne_eq, Bool.and_eq_false_iff, xv_cat]
    refine ⟨h1, ?_⟩
    by_cases hj1 : j + 1 = i
    · right
      exact fun q => h3 ⟨hj1, q⟩
    · left
      exact hj1
theorem xL.st2 {Γ : XG} {nL : Nat} {ls' : Array Slot} {lv : List (Option Value)} {i : Nat} {v : Value} {x : Value} (hx : x = xv Γ v) (h : lv_has ls' nL ((i, x) :: (xas Γ lv).filter (fun q => !(q.1 == i) && (!(q.1 == i + 1) && !(q.1 + 1 == i && q.2.category == 2))))) : xL Γ nL ls' (xst2 lv i (some v)) := by
  refine ⟨h.1, h.2.1, fun j u hj => ?_⟩
  rcases xst2_s lv i (some v) j u hj with ⟨h1, h2⟩ | ⟨h1, h2, h3, h4⟩
  · cases h2
    subst h1
    rw [← hx]
    exact h.2.2 (j, x) List.mem_cons_self
  · refine h.2.2 (j, xv Γ u) (List.mem_cons_of_mem _ (List.mem_filter.mpr ⟨xas_in h3, ?_⟩))
    simp only [Bool.and_eq_true, Bool.not_eq_true', beq_eq_false_iff_ne, ne_eq, Bool.and_eq_false_iff, xv_cat]
    refine ⟨h1, h2, ?_⟩
    by_cases hj1 : j + 1 = i
    · right
      exact fun q => h4 ⟨hj1, q⟩
    · left
      exact hj1
theorem V_istore_n {q : Fin 4} {x : Int32} (hd : decode I.cc pc = .ok (.istore_n q, 1)) (i : Nat) (hi : (q : Nat) = i) (hn : i < I.nL) (k : V I Z kc ks w sz (pc + 1) (xst1 lv i (some (.int x))) st) : V I Z kc ks w sz pc lv (.int x :: st) :=
  fun Γ p l e R s m args below meth c H locs cells slots ls C N L hc hs => lv_istore_n C.1 C.2.1 hd hi L.has hn rfl (fun ls' h => k Γ p l e R s m args below meth c H locs cells slots ls' C N (xL.st1 rfl h) hc hs)
theorem V_istore {i : Nat} {x : Int32} (hd : decode I.cc pc = .ok (.istore i, 2)) (hn : i < I.nL) (k : V I Z kc ks w sz (pc + 2) (xst1 lv i (some (.int x))) st) : V I Z kc ks w sz pc lv (.int x :: st) :=
  fun Γ p l e R s m args below meth c H locs cells slots ls C N L hc hs => lv_istore C.1 C.2.1 hd L.has hn rfl (fun ls' h => k Γ p l e R s m args below meth c H locs cells slots ls' C N (xL.st1 rfl h) hc hs)
theorem V_astore_n {q : Fin 4} {x : Nat} (hd : decode I.cc pc = .ok (.astore_n q, 1)) (i : Nat) (hi : (q : Nat) = i) (hn : i < I.nL) (k : V I Z kc ks w sz (pc + 1) (xst1 lv i (some (.ref x))) st) : V I Z kc ks w sz pc lv (.ref x :: st) :=
  fun Γ p l e R s m args below meth c H locs cells slots ls C N L hc hs => lv_astore_n C.1 C.2.1 hd hi L.has hn rfl (fun ls' h => k Γ p l e R s m args below meth c H locs cells slots ls' C N (xL.st1 rfl h) hc hs)
theorem V_astore {i : Nat} {x : Nat} (hd : decode I.cc pc = .ok (.astore i, 2)) (hn : i < I.nL) (k : V I Z kc ks w sz (pc + 2) (xst1 lv i (some (.ref x))) st) : V I Z kc ks w sz pc lv (.ref x :: st) :=
  fun Γ p l e R s m args below meth c H locs cells slots ls C N L hc hs => lv_astore C.1 C.2.1 hd L.has hn rfl (fun ls' h => k Γ p l e R s m args below meth c H locs cells slots ls' C N (xL.st1 rfl h) hc hs)
theorem V_lstore_n {q : Fin 4} {x : Int64} (hd : decode I.cc pc = .ok (.lstore_n q, 1)) (i : Nat) (hi : (q : Nat) = i) (hn : i + 1 < I.nL) (k : V I Z kc ks w sz (pc + 1) (xst2 lv i (some (.long x))) st) : V I Z kc ks w sz pc lv (.long x :: st) :=
  fun Γ p l e R s m args below meth c H locs cells slots ls C N L hc hs => lv_lstore_n C.1 C.2.1 hd hi L.has hn rfl (fun ls' h => k Γ p l e R s m args below meth c H locs cells slots ls' C N (xL.st2 rfl h) hc hs)
theorem V_lstore {i : Nat} {x : Int64} (hd : decode I.cc pc = .ok (.lstore i, 2)) (hn : i + 1 < I.nL) (k : V I Z kc ks w sz (pc + 2) (xst2 lv i (some (.long x))) st) : V I Z kc ks w sz pc lv (.long x :: st) :=
  fun Γ p l e R s m args below meth c H locs cells slots ls C N L hc hs => lv_lstore C.1 C.2.1 hd L.has hn rfl (fun ls' h => k Γ p l e R s m args below meth c H locs cells slots ls' C N (xL.st2 rfl h) hc hs)
theorem V_dstore_n {q : Fin 4} {x : UInt64} (hd : decode I.cc pc = .ok (.dstore_n q, 1)) (i : Nat) (hi : (q : Nat) = i) (hn : i + 1 < I.nL) (k : V I Z kc ks w sz (pc + 1) (xst2 lv i (some (.double x))) st) : V I Z kc ks w sz pc lv (.double x :: st) :=
  fun Γ p l e R s m args below meth c H locs cells slots ls C N L hc hs => lv_dstore_n C.1 C.2.1 hd hi L.has hn rfl (fun ls' h => k Γ p l e R s m args below meth c H locs cells slots ls' C N (xL.st2 rfl h) hc hs)
theorem V_dstore {i : Nat} {x : UInt64} (hd : decode I.cc pc = .ok (.dstore i, 2)) (hn : i + 1 < I.nL) (k : V I Z kc ks w sz (pc + 2) (xst2 lv i (some (.double x))) st) : V I Z kc ks w sz pc lv (.double x :: st) :=
  fun Γ p l e R s m args below meth c H locs cells slots ls C N L hc hs => lv_dstore C.1 C.2.1 hd L.has hn rfl (fun ls' h => k Γ p l e R s m args below meth c H locs cells slots ls' C N (xL.st2 rfl h) hc hs)
theorem V_iinc {i : Nat} {n a : Int} (hd : decode I.cc pc = .ok (.iinc i n, 3)) (hl : lv[i]? = some (some (xI a))) (hn : i < I.nL) (k : V I Z kc ks w sz (pc + 3) (xst1 lv i (some (xI (a + n)))) st) : V I Z kc ks w sz pc lv st := by
  intro Γ p l e R s m args below meth c H locs cells slots ls C N L hc hs
  obtain ⟨j, hj⟩ := List.getElem?_of_mem (xas_in (Γ := Γ) hl)
  exact lv_iinc (x := Int32.ofInt a) C.1 C.2.1 hd L.has hj (xof_add a n) hn rfl (fun ls' h => k Γ p l e R s m args below meth c H locs cells slots ls' C N (xL.st1 rfl h) hc hs)
/-! ends -/
abbrev XQ : Type := Option Value → WD → Nat → Prop
abbrev XE : Type := String → WD → Nat → Prop
def xOk (Γ : XG) (w : WD) (sz : Nat) (t : State) : Prop := xH Γ w t.heap ∧ t.heap.size = Γ.2.2.2 + sz ∧ 1 ≤ sz
def xQc (Γ : XG) (Q : XQ) : Array Value → State → Outcome → State → Prop := fun _ s o t => (∃ v w sz, o = .returned (Option.map (xv Γ) v) ∧ Q v w sz ∧ xOk Γ w sz t) ∧ va_F (fun q => Γ.2.2.2 < q) s t
def xXc (Γ : XG) (QE : XE) : String → State → State → Prop := fun E s t => (∃ w sz, QE E w sz ∧ xOk Γ w sz t) ∧ va_F (fun q => Γ.2.2.2 < q) s t
/-- how a method ends that returns; that returns or throws -/
def zN (Q : XQ) : XZ := (fun _ _ => True, fun Γ below args s R => MQ below (xQc Γ Q) args s R.cells R.slots (fun q => Γ.2.2.2 < q))
def zX (Q : XQ) (QE : XE) : XZ := (fun _ _ => True, fun Γ below args s R => vx_MQ below (xQc Γ Q) (xXc Γ QE) args s R.cells R.slots (fun q => Γ.2.2.2 < q))
def xEnd (Z : XZ) (Q : XQ) : Prop := ∀ (Γ : XG) (p : Program) (l : Launch) (e : Env) (R : Room) (s : State) (m : MethodId) (args : Array Value) (below : List Frame) (meth : Method) (c : Code) (H : Heap) (locs : List Loc) (cells slots : Nat) (g : JFrame),
  W p l e R s m args below meth c H locs cells slots (MQ below (xQc Γ Q) args s R.cells R.slots (fun q => Γ.2.2.2 < q)) g → W p l e R s m args below meth c H locs cells slots (Z.2 Γ below args s R) g
theorem xEnd_N {Q : XQ} : xEnd (zN Q) Q := fun _ _ _ _ _ _ _ _ _ _ _ _ _ _ _ _ k => k
theorem xEnd_X {Q : XQ} {QE : XE} : xEnd (zX Q QE) Q := fun _ _ _ _ _ _ _ _ _ _ _ _ _ _ _ _ k => vx_ret k
theorem xfin {Γ : XG} {Q : XQ} {v : Option Value} {H : Heap} {locs : List Loc} {s : State} (N : xN Γ w sz s H locs) (q : Q v w sz) (args : Array Value) (t : State) (ht : t.heap = H) : xQc Γ Q args s (.returned (Option.map (xv Γ) v)) t :=
  ⟨⟨v, w, sz, rfl, q, by rw [ht]; exact N.1, by rw [ht]; exact N.2.1, N.2.2.1⟩, N.2.2.2.F ht⟩
theorem V_iret {Q : XQ} {a : Int} (hE : xEnd Z Q) (hr : I.rt = some .int) (hd : decode I.cc pc = .ok (.ireturn, 1)) (q : Q (some (xI a)) w sz) : V I Z kc ks w sz pc lv [xI a] := by
  intro Γ p l e R s m args below meth c H locs cells slots ls C N L hc hs
  refine hE Γ p l e R s m args below meth c H locs cells slots _ (W.widen (k := R.cells) (n := R.slots) (by omega) (by omega) ?_)
  exact W.iret C.1 C.2.1 (C.2.2.2.2.1.trans hr) (fun t ht _ => xfin N q args t ht) (fun z hz => N.2.2.2.2.2 z hz) hd C.2.2.2.2.2.2.1
theorem V_zret {Q : XQ} {b : Bool} (hE : xEnd Z Q) (hr : I.rt = some .boolean) (hd : decode I.cc pc = .ok (.ireturn, 1)) (q : Q (some (xB b)) w sz) : V I Z kc ks w sz pc lv [xB b] := by
  intro Γ p l e R s m args below meth c H locs cells slots ls C N L hc hs
  refine hE Γ p l e R s m args below meth c H locs cells slots _ (W.widen (k := R.cells) (n := R.slots) (by omega) (by omega) ?_)
  exact W.zret C.1 C.2.1 (C.2.2.2.2.1.trans hr) (by cases b <;> rfl) (fun t ht _ => xfin N q args t ht) (fun z hz => N.2.2.2.2.2 z hz) hd C.2.2.2.2.2.2.1
theorem V_vret {Q : XQ} (hE : xEnd Z Q) (hr : I.rt = none) (hd : decode I.cc pc = .ok (.return_, 1)) (q : Q none w sz) : V I Z kc ks w sz pc lv [] := by
  intro Γ p l e R s m args below meth c H locs cells slots ls C N L hc hs
  refine hE Γ p l e R s m args below meth c H locs cells slots _ (W.widen (k := R.cells) (n := R.slots) (by omega) (by omega) ?_)
  exact W.vret C.1 C.2.1 (C.2.2.2.2.1.trans hr) (fun t ht _ => xfin N q args t ht) (fun z hz => N.2.2.2.2.2 z hz) hd C.2.2.2.2.2.2.1
theorem V_lret {Q : XQ} {a : Int64} (hE : xEnd Z Q) (hr : I.rt = some .long) (hd : decode I.cc pc = .ok (.lreturn, 1)) (q : Q (some (.long a)) w sz) : V I Z kc ks w sz pc lv [.long a] := by
  intro Γ p l e R s m args below meth c H locs cells slots ls C N L hc hs
  refine hE Γ p l e R s m args below meth c H locs cells slots _ (W.widen (k := R.cells) (n := R.slots) (by omega) (by omega) ?_)
  exact W.lret C.1 C.2.1 (C.2.2.2.2.1.trans hr) (fun t ht _ => xfin N q args t ht) (fun z hz => N.2.2.2.2.2 z hz) hd C.2.2.2.2.2.2.1
theorem V_dret {Q : XQ} {a : UInt64} (hE : xEnd Z Q) (hr : I.rt = some .double) (hd : decode I.cc pc = .ok (.dreturn, 1)) (q : Q (some (.double a)) w sz) : V I Z kc ks w sz pc lv [.double a] := by
  intro Γ p l e R s m args below meth c H locs cells slots ls C N L hc hs
  refine hE Γ p l e R s m args below meth c H locs cells slots _ (W.widen (k := R.cells) (n := R.slots) (by omega) (by omega) ?_)
  exact W.dret C.1 C.2.1 (C.2.2.2.2.1.trans hr) (fun t ht _ => xfin N q args t ht) (fun z hz => N.2.2.2.2.2 z hz) hd C.2.2.2.2.2.2.1
theorem V_aret {Q : XQ} {a : Nat} {t : FieldType} (hE : xEnd Z Q) (hr : I.rt = some (.array t)) (hd : decode I.cc pc = .ok (.areturn, 1)) (q : Q (some (.ref a)) w sz) : V I Z kc ks w sz pc lv [.ref a] := by
  intro Γ p l e R s m args below meth c H locs cells slots ls C N L hc hs
  refine hE Γ p l e R s m args below meth c H locs cells slots _ (W.widen (k := R.cells) (n := R.slots) (by omega) (by omega) ?_)
  exact W.aret C.1 C.2.1 (C.2.2.2.2.1.trans hr) (Or.inr ⟨t, rfl⟩) (Or.inr ⟨xr Γ a, rfl⟩) (fun t ht _ => xfin N q args t ht) (fun z hz => N.2.2.2.2.2 z hz) hd C.2.2.2.2.2.2.1
end VROWS2
