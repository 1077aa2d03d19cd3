/-! THE LAYER V: a method's walk over an abstract world (cells by numbers, ints as whole numbers), over the kit's rows -/
theorem xof_add (a b : Int) : Int32.ofInt a + Int32.ofInt b = Int32.ofInt (a + b) := (Int32.ofInt_add a b).symm
theorem xof_sub (a b : Int) : Int32.ofInt a - Int32.ofInt b = Int32.ofInt (a - b) := (Int32.ofInt_sub a b).symm
theorem xof_mul (a b : Int) : Int32.ofInt a * Int32.ofInt b = Int32.ofInt (a * b) := (Int32.ofInt_mul a b).symm
theorem xof_neg (a : Int) : -Int32.ofInt a = Int32.ofInt (-a) := (Int32.ofInt_neg a).symm
theorem xof_lt {a b : Int} (h : -2147483648 ≤ a ∧ a < 2147483648 ∧ -2147483648 ≤ b ∧ b < 2147483648) : Int32.ofInt a < Int32.ofInt b ↔ a < b :=
  Int32.ofInt_lt_iff_lt h.1 (Int.le_of_lt_add_one h.2.1) h.2.2.1 (Int.le_of_lt_add_one h.2.2.2)
theorem xof_le {a b : Int} (h : -2147483648 ≤ a ∧ a < 2147483648 ∧ -2147483648 ≤ b ∧ b < 2147483648) : Int32.ofInt a ≤ Int32.ofInt b ↔ a ≤ b :=
  Int32.ofInt_le_iff_le h.1 (Int.le_of_lt_add_one h.2.1) h.2.2.1 (Int.le_of_lt_add_one h.2.2.2)
theorem xof_toInt {a : Int} (h : -2147483648 ≤ a) (h2 : a < 2147483648) : (Int32.ofInt a).toInt = a := Int32.toInt_ofInt_of_le h h2
theorem xof_eq {a b : Int} (h : -2147483648 ≤ a ∧ a < 2147483648 ∧ -2147483648 ≤ b ∧ b < 2147483648) : Int32.ofInt a = Int32.ofInt b ↔ a = b := by
  refine ⟨fun e => ?_, fun e => by rw [e]⟩
  have := congrArg Int32.toInt e
  rwa [xof_toInt h.1 h.2.1, xof_toInt h.2.2.1 h.2.2.2] at this
theorem xof_div {a b : Int} (h : -2147483648 ≤ a ∧ a < 2147483648 ∧ -2147483648 ≤ b ∧ b < 2147483648) : Int32.ofInt a / Int32.ofInt b = Int32.ofInt (a.tdiv b) :=
  (Int32.ofInt_tdiv h.1 (Int.le_of_lt_add_one h.2.1) h.2.2.1 (Int.le_of_lt_add_one h.2.2.2)).symm
theorem xof_clamp {a : Int} (h : 0 ≤ a) (h2 : a < 2147483648) : (Int32.ofInt a).toNatClampNeg = a.toNat := by
  show (Int32.ofInt a).toInt.toNat = a.toNat
  rw [xof_toInt (by omega) h2]
theorem xof_in {a : Int} {n : Nat} (h : 0 ≤ a) (h2 : a < n) (hn : n < 2147483648) : vp_in (Int32.ofInt a) n := by
  intro q
  rcases q with q | q
  · have := (xof_lt (a := a) (b := 0) ⟨by omega, by omega, by omega, by omega⟩).mp q
    omega
  · rw [xof_clamp h (by omega)] at q
    omega
/-- an int, a long, a truth value on the stack -/
abbrev xI (z : Int) : Value := .int (Int32.ofInt z)
abbrev xJ (z : Int) : Value := .long (Int64.ofInt z)
def b2i (b : Bool) : Int := if b then 1 else 0
abbrev xB (b : Bool) : Value := xI (b2i b)
theorem b2i_t : b2i true = 1 := rfl
theorem b2i_f : b2i false = 0 := rfl
theorem b2i_0 {b : Bool} : b2i b = 0 ↔ b = false := by cases b <;> simp [b2i]
theorem b2i_n0 {b : Bool} : ¬ b2i b = 0 ↔ b = true := by cases b <;> simp [b2i]
theorem b2i_r (b : Bool) : 0 ≤ b2i b ∧ b2i b ≤ 1 := by cases b <;> simp [b2i]
/-- functions of whole numbers, changed in a place -/
def iu {α : Type} (f : Int → α) (z : Int) (v : α) : Int → α := fun j => if j = z then v else f j
theorem iu_s {α : Type} {f : Int → α} {z : Int} {v : α} : iu f z v z = v := by simp [iu]
theorem iu_n {α : Type} {f : Int → α} {z j : Int} {v : α} (h : j ≠ z) : iu f z v j = f j := by simp [iu, h]
/-- the abstract world -/
abbrev WD : Type := Nat → Option va_E
def xU (w : WD) (k : Nat) (e : va_E) : WD := fun j => if j = k then some e else w j
theorem xU_s {w : WD} {k : Nat} {e : va_E} : xU w k e k = some e := by simp [xU]
theorem xU_n {w : WD} {k j : Nat} {e : va_E} (h : j ≠ k) : xU w k e j = w j := by simp [xU, h]
theorem xU_self {w : WD} {k : Nat} {e : va_E} (h : w k = some e) : xU w k e = w := by
  funext j
  by_cases hj : j = k
  · rw [hj, xU_s, h]
  · rw [xU_n hj]
theorem xU_xU {w : WD} {k : Nat} {e e' : va_E} : xU (xU w k e) k e' = xU w k e' := by
  funext j
  by_cases hj : j = k
  · rw [hj, xU_s, xU_s]
  · rw [xU_n hj, xU_n hj, xU_n hj]
theorem xU_comm {w : WD} {k j : Nat} {e e' : va_E} (h : k ≠ j) : xU (xU w k e) j e' = xU (xU w j e') k e := by
  funext i
  by_cases hi : i = j
  · subst hi
    rw [xU_s, xU_n (Ne.symm h), xU_s]
  · by_cases hk : i = k
    · subst hk
      rw [xU_n hi, xU_s, xU_s]
    · rw [xU_n hi, xU_n hk, xU_n hk, xU_n hi]
abbrev xIA (n : Nat) (f : Int → Int) : va_E := .inl (0, n, .inl (fun k => Int32.ofInt (f (k : Int))))
abbrev xBA (n : Nat) (f : Int → Bool) : va_E := .inl (1, n, .inl (fun k => Int32.ofInt (b2i (f (k : Int)))))
abbrev xLA (n : Nat) (f : Int → Int) : va_E := .inl (2, n, .inr (.inl (fun k => Int64.ofInt (f (k : Int)))))
abbrev xRA (t n : Nat) (f : Nat → Option Nat) : va_E := .inl (t, n, .inr (.inr (.inr (.inr f))))
abbrev xOb (ci : Nat) (fs : List Value) : va_E := .inr (ci, fs)
/-- where it lies: the tables' numbers, the array classes, the script's address, the address ahead of the first own cell -/
abbrev XG : Type := va_G × (Nat → ClassId) × Nat × Nat
def xr (Γ : XG) (i : Nat) : Nat := if i = 0 then Γ.2.2.1 else Γ.2.2.2 + i
def xv (Γ : XG) : Value → Value
  | .ref i => .ref (xr Γ i)
  | v => v
def xa (Γ : XG) : vp_A → vp_A
  | (n, .inr (.inr (.inr (.inr f)))) => (n, .inr (.inr (.inr (.inr (fun k => (f k).map (xr Γ))))))
  | a => a
def xe (Γ : XG) : va_E → va_E
  | .inl (t, a) => .inl (Γ.2.1 t, xa Γ a)
  | .inr (ci, fs) => .inr (ci, fs.map (xv Γ))
theorem xr_pos {Γ : XG} {i : Nat} (h : 0 < i) : xr Γ i = Γ.2.2.2 + i := by
  unfold xr
  rw [if_neg (by omega)]
theorem xv_cat (Γ : XG) (v : Value) : (xv Γ v).category = v.category := by cases v <;> rfl
theorem xv_cats (Γ : XG) (st : List Value) : ((st.map (xv Γ)).map fun v => v.category) = st.map fun v => v.category := by
  induction st with
  | nil => rfl
  | cons a l ih => simp only [List.map_cons, ih, xv_cat]
def xH (Γ : XG) (w : WD) (H : Heap) : Prop := ∀ (i : Nat) (e : va_E), w i = some e → 0 < i ∧ va_at Γ.1 vwCl (Γ.2.2.2 + i, xe Γ e) H
theorem xH.set {Γ : XG} {w : WD} {H H1 : Heap} {k : Nat} {e0 e : va_E} (h : xH Γ w H) (hk : w k = some e0) (he : va_at Γ.1 vwCl (Γ.2.2.2 + k, xe Γ e) H1) (oq : ∀ q : Nat, q ≠ Γ.2.2.2 + k → H1[q]? = H[q]?) : xH Γ (xU w k e) H1 := by
  intro i x hi
  by_cases hik : i = k
  · subst hik
    rw [xU_s] at hi
    cases hi
    exact ⟨(h i e0 hk).1, he⟩
  · rw [xU_n hik] at hi
    exact ⟨(h i x hi).1, (h i x hi).2.kept (oq _ (by show Γ.2.2.2 + i ≠ Γ.2.2.2 + k; omega))⟩
theorem xH.kept {Γ : XG} {w : WD} {H H1 : Heap} (h : xH Γ w H) (oq : ∀ q : Nat, q < H.size → H1[q]? = H[q]?) : xH Γ w H1 := fun i x hi => ⟨(h i x hi).1, (h i x hi).2.kept (oq _ ((h i x hi).2.lt))⟩
theorem xH.push {Γ : XG} {w : WD} {H H1 : Heap} {k : Nat} {e : va_E} (h : xH Γ w H) (h1 : 0 < k) (hz : H.size = Γ.2.2.2 + k) (he : va_at Γ.1 vwCl (Γ.2.2.2 + k, xe Γ e) H1) (oq : ∀ q : Nat, q < H.size → H1[q]? = H[q]?) : xH Γ (xU w k e) H1 := by
  intro i x hi
  by_cases hik : i = k
  · subst hik
    rw [xU_s] at hi
    cases hi
    exact ⟨h1, he⟩
  · rw [xU_n hik] at hi
    exact ⟨(h i x hi).1, (h i x hi).2.kept (oq _ ((h i x hi).2.lt))⟩
def xTY (cs : Nat → ClassId) : List (ClassId × FieldType) := [(cs 0, .int), (cs 1, .boolean), (cs 2, .long), (cs 3, .object "AreaPicker$Pick"), (cs 4, .object "AreaPicker$State")]
def xG : List Cond := lw_tbl.filter goodWord
theorem xG_at {w : Cond} (i : Nat) (h : lw_tbl[i]? = some w) (hg : goodWord w = true) : w ∈ xG := List.mem_filter.mpr ⟨List.mem_of_getElem? h, hg⟩
theorem xG_good : ∀ w ∈ xG, goodWord w = true := fun w h => (List.mem_filter.mp h).2
def xNk : Cond → Bool
  | .fieldLinkNest .. => true
  | .methodLinkNest .. => true
  | .castable .. => true
  | .declares _ => true
  | _ => false
theorem xNk_warm {w : Cond} {s U : State} (hk : xNk w = true) (hW : s.WarmedH U.vm) (h : va_Nw w s) : va_Nw w U := by
  cases w <;> first | exact va_Nw.warmF hW h | exact va_Nw.warmM hW h | exact va_Nw.warmC hW h | exact va_Nw.warmD hW h | cases hk
/-- what stays said of the start: tables, Strings, statics -/
def xS (Γ : XG) (s : State) (H : Heap) : Prop :=
  va_K Γ.1 vwCl (xTY Γ.2.1) s ∧ (∀ w ∈ lw_tbl, xNk w = true → va_Nw w s) ∧ (∀ own k tx, Cond.stringRef own k tx ∈ lw_tbl → ∃ sa, vk_R own k tx sa s) ∧ (va_AO "AreaPicker$Pick" s ∧ va_AO "AreaPicker$State" s) ∧
  True ∧
  (vx_Zq Bundle.tN "UNASSIGNED_STACK" Bundle.steD (fun q => Γ.2.2.2 < q) s H ∧ vx_Zq Bundle.tN "SUPPRESSED_SENTINEL" Bundle.listD (fun q => Γ.2.2.2 < q) s H) ∧ Γ.2.2.1 ≤ Γ.2.2.2 ∧ ∃ (L : Nat) (xs : Nat → Int32), L ≤ 260 ∧ va_X Γ.2.2.1 L xs s H
theorem xS.warm {Γ : XG} {s U : State} {H : Heap} (hW : s.WarmedH U.vm) (h : xS Γ s H) : xS Γ U H := by
  obtain ⟨h1, h2, h3, h4, h5, h6, h7, L, xs, hL, h8⟩ := h
  refine ⟨va_K.moved hW.alike h1, fun w hw hk => xNk_warm hk hW (h2 w hw hk), fun own k tx hw => ?_, ⟨va_AO.moved hW.alike h4.1, va_AO.moved hW.alike h4.2⟩, trivial, ⟨vx_Zq.moved hW.alike h6.1, vx_Zq.moved hW.alike h6.2⟩, h7, L, xs, hL, va_X.moved hW.alike h8⟩
  obtain ⟨sa, h⟩ := h3 own k tx hw
  exact ⟨sa, vk_R.warm hW h⟩
theorem xS.kept {Γ : XG} {s : State} {H H1 : Heap} (hq : ∀ a : Nat, a < H.size → ¬ Γ.2.2.2 < a → H1[a]? = H[a]?) (h : xS Γ s H) : xS Γ s H1 := by
  obtain ⟨h1, h2, h3, h4, h5, h6, h7, L, xs, hL, h8⟩ := h
  exact ⟨h1, h2, h3, h4, h5, ⟨vx_Zq.kept h6.1 hq, vx_Zq.kept h6.2 hq⟩, h7, L, xs, hL, h8.kept (hq _ (Array.getElem?_eq_some_iff.mp h8.choose_spec.1).1 (by omega))⟩
/-- a method: name, bytes, locals, answer's type, frames and locals' words that it needs below it, handlers -/
abbrev XI : Type := MethodName × ByteArray × Nat × Option FieldType × Nat × Nat × List (Nat × Nat × Nat × Nat)
abbrev XI.y (I : XI) : MethodName := I.1
abbrev XI.cc (I : XI) : ByteArray := I.2.1
abbrev XI.nL (I : XI) : Nat := I.2.2.1
abbrev XI.rt (I : XI) : Option FieldType := I.2.2.2.1
abbrev XI.fr (I : XI) : Nat := I.2.2.2.2.1
abbrev XI.lo (I : XI) : Nat := I.2.2.2.2.2.1
abbrev XI.hh (I : XI) : List (Nat × Nat × Nat × Nat) := I.2.2.2.2.2.2
abbrev XZ : Type := (XG → State → Prop) × (XG → List Frame → Array Value → State → Room → State → Prop)
def xM (I : XI) (Z : XZ) (Γ : XG) (p : Program) (l : Launch) (R : Room) (s : State) (m : MethodId) (args : Array Value) (meth : Method) (c : Code) : Prop :=
  p.tables.exec = Jvm.exec ∧ c.code = I.cc ∧ l.stackTraces = false ∧ c.maxLocals = I.nL ∧ meth.sig.returnType = I.rt ∧ meth.name = I.y.name ∧ meth.locks = false ∧ s.vm.findClass I.y.cls = some m.cls ∧ (∀ w ∈ xG, w.before args s = true) ∧ xS Γ s s.heap ∧ I.fr ≤ R.frames ∧ I.lo ≤ R.locals ∧ c.exceptionTable.toList = tableOf I.hh ∧ Z.1 Γ s
def xN (Γ : XG) (w : WD) (sz : Nat) (s : State) (H : Heap) (locs : List Loc) : Prop := xH Γ w H ∧ H.size = Γ.2.2.2 + sz ∧ 1 ≤ sz ∧ va_S (fun q => Γ.2.2.2 < q) s.heap H locs
def xL (Γ : XG) (nL : Nat) (ls : Array Slot) (lv : List (Option Value)) : Prop := ls.size = nL ∧ lv_wf ls ∧ ∀ (i : Nat) (v : Value), lv[i]? = some (some v) → ls[i]? = some (.val (xv Γ v))
/-- from here with these locals, this stack and this world the method comes to an end as Z says, with at most kc cells of ks slots more -/
def V (I : XI) (Z : XZ) (kc ks : Nat) (w : WD) (sz : Nat) (pc : Nat) (lv : List (Option Value)) (st : List Value) : Prop :=
  ∀ (Γ : XG) (p : Program) (l : Launch) (e : Env) (R : Room) (s : State) (m : MethodId) (args : Array Value) (below : List Frame) (meth : Method) (c : Code) (H : Heap) (locs : List Loc) (cells slots : Nat) (ls : Array Slot),
    xM I Z Γ p l R s m args meth c → xN Γ w sz s H locs → xL Γ I.nL ls lv → cells + kc ≤ R.cells → slots + ks ≤ R.slots →
    W p l e R s m args below meth c H locs cells slots (Z.2 Γ below args s R) (F0 m pc ls (st.map (xv Γ)))
section VROWS
variable {I : XI} {Z : XZ} {kc ks : Nat} {w : WD} {sz pc : Nat} {lv : List (Option Value)} {st : List Value}
/-- a step that keeps world and locals -/
theorem V_st {pc' : Nat} {st' : List Value}
    (h : ∀ (Γ : XG) (p : Program) (l : Launch) (e : Env) (R : Room) (s : State) (m : MethodId) (args : Array Value) (below : List Frame) (meth : Method) (c : Code) (H : Heap) (locs : List Loc) (cells slots : Nat) (ls : Array Slot) (Q : State → Prop),
      xM I Z Γ p l R s m args meth c → xN Γ w sz s H locs → xL Γ I.nL ls lv → cells ≤ R.cells → slots ≤ R.slots →
      W p l e R s m args below meth c H locs cells slots Q (F0 m pc' ls (st'.map (xv Γ))) → W p l e R s m args below meth c H locs cells slots Q (F0 m pc ls (st.map (xv Γ))))
    (k : V I Z kc ks w sz pc' lv st') : V I Z kc ks w sz pc lv st := fun Γ p l e R s m args below meth c H locs cells slots ls C N L hc hs => h Γ p l e R s m args below meth c H locs cells slots ls _ C N L (by omega) (by omega) (k Γ p l e R s m args below meth c H locs cells slots ls C N L hc hs)
/-- fewer cells asked -/
theorem V_le {kc' ks' : Nat} (h1 : kc' ≤ kc) (h2 : ks' ≤ ks) (k : V I Z kc' ks' w sz pc lv st) : V I Z kc ks w sz pc lv st := fun Γ p l e R s m args below meth c H locs cells slots ls C N L hc hs => k Γ p l e R s m args below meth c H locs cells slots ls C N L (by omega) (by omega)
/-- locals forgotten -/
theorem V_lv {lv' : List (Option Value)} (h : ∀ (i : Nat) (v : Value), lv'[i]? = some (some v) → lv[i]? = some (some v)) (k : V I Z kc ks w sz pc lv' st) : V I Z kc ks w sz pc lv st := fun Γ p l e R s m args below meth c H locs cells slots ls C N L hc hs => k Γ p l e R s m args below meth c H locs cells slots ls C N ⟨L.1, L.2.1, fun i v hi => L.2.2 i v (h i v hi)⟩ hc hs
theorem V_iconst {n : Int} (hd : decode I.cc pc = .ok (.iconst n, 1)) (k : V I Z kc ks w sz (pc + 1) lv (xI n :: st)) : V I Z kc ks w sz pc lv st :=
  V_st (fun Γ p l e R s m args below meth c H locs cells slots ls Q C N L _ _ kk => lv_iconst C.1 C.2.1 hd rfl kk) k
theorem V_bipush {n : Int} (hd : decode I.cc pc = .ok (.bipush n, 2)) (h : (Int8.ofInt n).toInt32 = Int32.ofInt n) (k : V I Z kc ks w sz (pc + 2) lv (xI n :: st)) : V I Z kc ks w sz pc lv st :=
  V_st (fun Γ p l e R s m args below meth c H locs cells slots ls Q C N L _ _ kk => lv_bipush C.1 C.2.1 hd h kk) k
theorem V_sipush {n : Int} (hd : decode I.cc pc = .ok (.sipush n, 3)) (h : (Int16.ofInt n).toInt32 = Int32.ofInt n) (k : V I Z kc ks w sz (pc + 3) lv (xI n :: st)) : V I Z kc ks w sz pc lv st :=
  V_st (fun Γ p l e R s m args below meth c H locs cells slots ls Q C N L _ _ kk => lv_sipush C.1 C.2.1 hd h kk) k
theorem V_lconst {n : Fin 2} {z : Int} (hd : decode I.cc pc = .ok (.lconst n, 1)) (h : Int64.ofNat (n : Nat) = Int64.ofInt z) (k : V I Z kc ks w sz (pc + 1) lv (xJ z :: st)) : V I Z kc ks w sz pc lv st :=
  V_st (fun Γ p l e R s m args below meth c H locs cells slots ls Q C N L _ _ kk => lv_lconst C.1 C.2.1 hd h kk) k
theorem V_iload_n {q : Fin 4} {x : Int32} (hd : decode I.cc pc = .ok (.iload_n q, 1)) (i : Nat) (hi : (q : Nat) = i) (hl : lv[i]? = some (some (.int x))) (k : V I Z kc ks w sz (pc + 1) lv (.int x :: st)) : V I Z kc ks w sz pc lv st :=
  V_st (fun Γ p l e R s m args below meth c H locs cells slots ls Q C N L _ _ kk => lv_iload_n C.1 C.2.1 hd hi (L.2.2 _ _ hl) kk) k
theorem V_iload {i : Nat} {x : Int32} (hd : decode I.cc pc = .ok (.iload i, 2)) (hl : lv[i]? = some (some (.int x))) (k : V I Z kc ks w sz (pc + 2) lv (.int x :: st)) : V I Z kc ks w sz pc lv st :=
  V_st (fun Γ p l e R s m args below meth c H locs cells slots ls Q C N L _ _ kk => lv_iload C.1 C.2.1 hd (L.2.2 _ _ hl) kk) k
theorem V_lload_n {q : Fin 4} {x : Int64} (hd : decode I.cc pc = .ok (.lload_n q, 1)) (i : Nat) (hi : (q : Nat) = i) (hl : lv[i]? = some (some (.long x))) (k : V I Z kc ks w sz (pc + 1) lv (.long x :: st)) : V I Z kc ks w sz pc lv st :=
  V_st (fun Γ p l e R s m args below meth c H locs cells slots ls Q C N L _ _ kk => lv_lload_n C.1 C.2.1 hd hi (L.2.2 _ _ hl) kk) k
theorem V_lload {i : Nat} {x : Int64} (hd : decode I.cc pc = .ok (.lload i, 2)) (hl : lv[i]? = some (some (.long x))) (k : V I Z kc ks w sz (pc + 2) lv (.long x :: st)) : V I Z kc ks w sz pc lv st :=
  V_st (fun Γ p l e R s m args below meth c H locs cells slots ls Q C N L _ _ kk => lv_lload C.1 C.2.1 hd (L.2.2 _ _ hl) kk) k
theorem V_dload_n {q : Fin 4} {x : UInt64} (hd : decode I.cc pc = .ok (.dload_n q, 1)) (i : Nat) (hi : (q : Nat) = i) (hl : lv[i]? = some (some (.double x))) (k : V I Z kc ks w sz (pc + 1) lv (.double x :: st)) : V I Z kc ks w sz pc lv st :=
  V_st (fun Γ p l e R s m args below meth c H locs cells slots ls Q C N L _ _ kk => lv_dload_n C.1 C.2.1 hd hi (L.2.2 _ _ hl) kk) k
theorem V_dload {i : Nat} {x : UInt64} (hd : decode I.cc pc = .ok (.dload i, 2)) (hl : lv[i]? = some (some (.double x))) (k : V I Z kc ks w sz (pc + 2) lv (.double x :: st)) : V I Z kc ks w sz pc lv st :=
  V_st (fun Γ p l e R s m args below meth c H locs cells slots ls Q C N L _ _ kk => lv_dload C.1 C.2.1 hd (L.2.2 _ _ hl) kk) k
theorem V_aload_n {q : Fin 4} {x : Nat} (hd : decode I.cc pc = .ok (.aload_n q, 1)) (i : Nat) (hi : (q : Nat) = i) (hl : lv[i]? = some (some (.ref x))) (k : V I Z kc ks w sz (pc + 1) lv (.ref x :: st)) : V I Z kc ks w sz pc lv st :=
  V_st (fun Γ p l e R s m args below meth c H locs cells slots ls Q C N L _ _ kk => lv_aload_n C.1 C.2.1 hd hi (L.2.2 _ _ hl) kk) k
theorem V_aload {i : Nat} {x : Nat} (hd : decode I.cc pc = .ok (.aload i, 2)) (hl : lv[i]? = some (some (.ref x))) (k : V I Z kc ks w sz (pc + 2) lv (.ref x :: st)) : V I Z kc ks w sz pc lv st :=
  V_st (fun Γ p l e R s m args below meth c H locs cells slots ls Q C N L _ _ kk => lv_aload C.1 C.2.1 hd (L.2.2 _ _ hl) kk) k
theorem V_iadd {a b : Int} (hd : decode I.cc pc = .ok (.iadd, 1)) (k : V I Z kc ks w sz (pc + 1) lv (xI (a + b) :: st)) : V I Z kc ks w sz pc lv (xI b :: xI a :: st) :=
  V_st (fun Γ p l e R s m args below meth c H locs cells slots ls Q C N L _ _ kk => lv_iadd C.1 C.2.1 hd (by rw [xof_add]; exact kk)) k
theorem V_isub {a b : Int} (hd : decode I.cc pc = .ok (.isub, 1)) (k : V I Z kc ks w sz (pc + 1) lv (xI (a - b) :: st)) : V I Z kc ks w sz pc lv (xI b :: xI a :: st) :=
  V_st (fun Γ p l e R s m args below meth c H locs cells slots ls Q C N L _ _ kk => lv_isub C.1 C.2.1 hd (by rw [xof_sub]; exact kk)) k
theorem V_imul {a b : Int} (hd : decode I.cc pc = .ok (.imul, 1)) (k : V I Z kc ks w sz (pc + 1) lv (xI (a * b) :: st)) : V I Z kc ks w sz pc lv (xI b :: xI a :: st) :=
  V_st (fun Γ p l e R s m args below meth c H locs cells slots ls Q C N L _ _ kk => lv_imul C.1 C.2.1 hd (by rw [xof_mul]; exact kk)) k
theorem V_ineg {a : Int} (hd : decode I.cc pc = .ok (.ineg, 1)) (k : V I Z kc ks w sz (pc + 1) lv (xI (-a) :: st)) : V I Z kc ks w sz pc lv (xI a :: st) :=
  V_st (fun Γ p l e R s m args below meth c H locs cells slots ls Q C N L _ _ kk => lv_ineg C.1 C.2.1 hd (by rw [xof_neg]; exact kk)) k
theorem xof_ne0 {b : Int} (h0 : b ≠ 0) (h : -2147483648 ≤ b) (h2 : b < 2147483648) : ¬ Int32.ofInt b = 0 := fun q => h0 ((xof_eq (a := b) (b := 0) ⟨h, h2, by omega, by omega⟩).mp q)
theorem V_idiv {a b : Int} (hd : decode I.cc pc = .ok (.idiv, 1)) (r : -2147483648 ≤ a ∧ a < 2147483648 ∧ -2147483648 ≤ b ∧ b < 2147483648) (h0 : b ≠ 0) (k : V I Z kc ks w sz (pc + 1) lv (xI (a.tdiv b) :: st)) : V I Z kc ks w sz pc lv (xI b :: xI a :: st) :=
  V_st (fun Γ p l e R s m args below meth c H locs cells slots ls Q C N L _ _ kk => lv_idiv C.1 C.2.1 hd (xof_ne0 h0 r.2.2.1 r.2.2.2) (by rw [xof_div r]; exact kk)) k
/-- a quotient of numbers that aren't negative -/
theorem V_idivN {a b : Int} (hd : decode I.cc pc = .ok (.idiv, 1)) (r : 0 ≤ a ∧ a < 2147483648 ∧ 0 < b ∧ b < 2147483648) (k : V I Z kc ks w sz (pc + 1) lv (xI (a / b) :: st)) : V I Z kc ks w sz pc lv (xI b :: xI a :: st) := by
  refine V_idiv hd ⟨by omega, by omega, by omega, by omega⟩ (by omega) ?_
  rw [Int.tdiv_eq_ediv_of_nonneg r.1]
  exact k
theorem V_iremN {a b : Int} (hd : decode I.cc pc = .ok (.irem, 1)) (r : 0 ≤ a ∧ a < 2147483648 ∧ 0 < b ∧ b < 2147483648) (k : V I Z kc ks w sz (pc + 1) lv (xI (a % b) :: st)) : V I Z kc ks w sz pc lv (xI b :: xI a :: st) :=
  V_st (fun Γ p l e R s m args below meth c H locs cells slots ls Q C N L _ _ kk => lv_irem C.1 C.2.1 hd (xof_ne0 (by omega) (by omega) (by omega)) (by
    rw [xof_div ⟨by omega, by omega, by omega, by omega⟩, xof_mul, xof_sub, Int.tdiv_eq_ediv_of_nonneg r.1, show a - a / b * b = a % b by rw [Int.emod_def, Int.mul_comm]]
    exact kk)) k
theorem V_dup {v : Value} (hd : decode I.cc pc = .ok (.dup, 1)) (h : v.category = 1) (k : V I Z kc ks w sz (pc + 1) lv (v :: v :: st)) : V I Z kc ks w sz pc lv (v :: st) :=
  V_st (fun Γ p l e R s m args below meth c H locs cells slots ls Q C N L _ _ kk => lv_dup C.1 C.2.1 hd (by rw [xv_cat]; exact h) kk) k
theorem V_dup2 {v u : Value} (hd : decode I.cc pc = .ok (.dup2, 1)) (h : v.category = 1) (h2 : u.category = 1) (k : V I Z kc ks w sz (pc + 1) lv (v :: u :: v :: u :: st)) : V I Z kc ks w sz pc lv (v :: u :: st) :=
  V_st (fun Γ p l e R s m args below meth c H locs cells slots ls Q C N L _ _ kk => lv_dup2_11 C.1 C.2.1 hd (by rw [xv_cat]; exact h) (by rw [xv_cat]; exact h2) kk) k
theorem V_pop {v : Value} (hd : decode I.cc pc = .ok (.pop, 1)) (h : v.category = 1) (k : V I Z kc ks w sz (pc + 1) lv st) : V I Z kc ks w sz pc lv (v :: st) :=
  V_st (fun Γ p l e R s m args below meth c H locs cells slots ls Q C N L _ _ kk => lv_pop C.1 C.2.1 hd (by rw [xv_cat]; exact h) kk) k
theorem V_goto {off : Int} (tgt : Nat) (hd : decode I.cc pc = .ok (.goto off, 3)) (ht : (pc : Int) + off = (tgt : Int)) (k : V I Z kc ks w sz tgt lv st) : V I Z kc ks w sz pc lv st :=
  V_st (fun Γ p l e R s m args below meth c H locs cells slots ls Q C N L _ _ kk => lv_goto C.1 C.2.1 hd ht kk) k
theorem V_i2l {a : Int} (hd : decode I.cc pc = .ok (.i2l, 1)) (r : -2147483648 ≤ a ∧ a < 2147483648) (k : V I Z kc ks w sz (pc + 1) lv (xJ a :: st)) : V I Z kc ks w sz pc lv (xI a :: st) :=
  V_st (fun Γ p l e R s m args below meth c H locs cells slots ls Q C N L _ _ kk => lv_i2l C.1 C.2.1 hd (Int32.toInt64_ofInt r.1 (Int.le_of_lt_add_one r.2)) kk) k
theorem V_ladd {a b : Int} (hd : decode I.cc pc = .ok (.ladd, 1)) (k : V I Z kc ks w sz (pc + 1) lv (xJ (a + b) :: st)) : V I Z kc ks w sz pc lv (xJ b :: xJ a :: st) :=
  V_st (fun Γ p l e R s m args below meth c H locs cells slots ls Q C N L _ _ kk => lv_ladd C.1 C.2.1 hd (by rw [← Int64.ofInt_add]; exact kk)) k
theorem V_lsub {a b : Int} (hd : decode I.cc pc = .ok (.lsub, 1)) (k : V I Z kc ks w sz (pc + 1) lv (xJ (a - b) :: st)) : V I Z kc ks w sz pc lv (xJ b :: xJ a :: st) :=
  V_st (fun Γ p l e R s m args below meth c H locs cells slots ls Q C N L _ _ kk => lv_lsub C.1 C.2.1 hd (by rw [← Int64.ofInt_sub]; exact kk)) k
theorem V_lmul {a b : Int} (hd : decode I.cc pc = .ok (.lmul, 1)) (k : V I Z kc ks w sz (pc + 1) lv (xJ (a * b) :: st)) : V I Z kc ks w sz pc lv (xJ b :: xJ a :: st) :=
  V_st (fun Γ p l e R s m args below meth c H locs cells slots ls Q C N L _ _ kk => lv_lmul C.1 C.2.1 hd (by rw [← Int64.ofInt_mul]; exact kk)) k
theorem V_lshl {x : Int64} {y : Int32} (hd : decode I.cc pc = .ok (.lshl, 1)) (k : V I Z kc ks w sz (pc + 1) lv (.long (x <<< (y.toInt64 &&& 63)) :: st)) : V I Z kc ks w sz pc lv (.int y :: .long x :: st) :=
  V_st (fun Γ p l e R s m args below meth c H locs cells slots ls Q C N L _ _ kk => lv_lshl C.1 C.2.1 hd rfl kk) k
theorem V_lor {x y : Int64} (hd : decode I.cc pc = .ok (.lor, 1)) (k : V I Z kc ks w sz (pc + 1) lv (.long (x ||| y) :: st)) : V I Z kc ks w sz pc lv (.long y :: .long x :: st) :=
  V_st (fun Γ p l e R s m args below meth c H locs cells slots ls Q C N L _ _ kk => lv_lor C.1 C.2.1 hd kk) k
theorem V_iand31 {a : Int} (hd : decode I.cc pc = .ok (.iand, 1)) (k : V I Z kc ks w sz (pc + 1) lv (xI (a % 32) :: st)) : V I Z kc ks w sz pc lv (xI 31 :: xI a :: st) :=
  V_st (fun Γ p l e R s m args below meth c H locs cells slots ls Q C N L _ _ kk => lv_iand C.1 C.2.1 hd (by
    have e9 : Int32.ofInt a &&& Int32.ofInt 31 = Int32.ofInt (a % 32) := by
      rw [pk_and (Int32.ofInt a) (m := Int32.ofInt 31) 5 (by decide)]
      rw [show ((Int32.ofInt a).toBitVec.toNat % 2 ^ 5 : Nat) = (a % 32).toNat from ?_]
      · unfold nI
        rw [← Int32.ofInt_eq_ofNat, Int.toNat_of_nonneg (by omega)]
      · rw [Int32.toBitVec_ofInt, BitVec.toNat_ofInt]
        omega
    rw [e9]; exact kk)) k
end VROWS
