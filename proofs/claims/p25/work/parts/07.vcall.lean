/-! contracts and calls -/
def xPc (Γ : XG) (as : List Value) (w : WD) (sz : Nat) : Array Value → State → Prop := fun a U => a = (as.map (xv Γ)).toArray ∧ xOk Γ w sz U ∧ xS Γ U U.heap
/-- a method that returns -/
def CT (J : XI) (mc ms : Nat) (as : List Value) (w : WD) (sz : Nat) (Q : XQ) : Prop := ∀ (Γ : XG) (l : Launch), l.stackTraces = false →
  Met l J.y (Cond.code J.y J.cc J.nL J.rt :: xG) ({ frames := J.fr, cells := mc, slots := ms, locals := J.lo }) (xPc Γ as w sz) (xQc Γ Q) mc ms (fun q => Γ.2.2.2 < q)
/-- a method that returns or throws -/
def CX (J : XI) (mc ms : Nat) (as : List Value) (w : WD) (sz : Nat) (Q : XQ) (QE : XE) : Prop := ∀ (Γ : XG) (l : Launch), l.stackTraces = false →
  vx_Met l J.y (Cond.code J.y J.cc J.nL J.rt :: xG) ({ frames := J.fr, cells := mc, slots := ms, locals := J.lo }) (xPc Γ as w sz) (xQc Γ Q) (xXc Γ QE) mc ms (fun q => Γ.2.2.2 < q)
/-- a method with handlers of its own -/
def CH (J : XI) (mc ms : Nat) (as : List Value) (w : WD) (sz : Nat) (Q : XQ) (QE : XE) : Prop := ∀ (Γ : XG) (l : Launch), l.stackTraces = false →
  vx_Met l J.y (Cond.codeWith J.y J.cc J.nL J.rt J.hh :: xG) ({ frames := J.fr, cells := mc, slots := ms, locals := J.lo }) (xPc Γ as w sz) (xQc Γ Q) (xXc Γ QE) mc ms (fun q => Γ.2.2.2 < q)
def xent : List Value → Nat → List (Option Value)
  | [], n => List.replicate n none
  | .long x :: vs, n => some (.long x) :: none :: xent vs (n - 2)
  | .double x :: vs, n => some (.double x) :: none :: xent vs (n - 2)
  | v :: vs, n => some v :: xent vs (n - 1)
theorem xent_rep {n i : Nat} {v : Value} (h : (List.replicate n (none : Option Value))[i]? = some (some v)) : False := by
  rw [List.getElem?_replicate] at h
  split at h <;> cases h
theorem xent_in (Γ : XG) : ∀ (as : List Value) (n k i : Nat) (v : Value), (xent as n)[i]? = some (some v) → (k + i, xv Γ v) ∈ lv_args k (as.map (xv Γ))
  | [], n, k, i, v, h => (xent_rep h).elim
  | a :: vs, n, k, i, v, h => by
    have one : ∀ n', (some a :: xent vs n')[i]? = some (some v) → a.category = 1 → (k + i, xv Γ v) ∈ lv_args k ((a :: vs).map (xv Γ)) := by
      intro n' h hc
      show _ ∈ (k, xv Γ a) :: lv_args (if (xv Γ a).category = 2 then k + 2 else k + 1) (vs.map (xv Γ))
      rw [xv_cat, if_neg (by omega)]
      cases i with
      | zero =>
        cases h
        exact List.mem_cons_self
      | succ i =>
        have h2 := xent_in Γ vs n' (k + 1) i v (by simpa using h)
        rw [show k + (i + 1) = k + 1 + i by omega]
        exact List.mem_cons_of_mem _ h2
    have two : ∀ n', (some a :: none :: xent vs n')[i]? = some (some v) → a.category = 2 → (k + i, xv Γ v) ∈ lv_args k ((a :: vs).map (xv Γ)) := by
      intro n' h hc
      show _ ∈ (k, xv Γ a) :: lv_args (if (xv Γ a).category = 2 then k + 2 else k + 1) (vs.map (xv Γ))
      rw [xv_cat, if_pos hc]
      match i, h with
      | 0, h =>
        cases h
        exact List.mem_cons_self
      | 1, h => simp at h
      | i + 2, h =>
        have h2 := xent_in Γ vs n' (k + 2) i v (by simpa using h)
        rw [show k + (i + 2) = k + 2 + i by omega]
        exact List.mem_cons_of_mem _ h2
    cases a <;> first | exact two _ h rfl | exact one _ h rfl
theorem xent_L {Γ : XG} {as : List Value} {n : Nat} (h : (lg_sl (as.map (xv Γ))).length ≤ n) : xL Γ n (lg_sl (as.map (xv Γ)) ++ List.replicate (n - (lg_sl (as.map (xv Γ))).length) Slot.unset).toArray (xent as n) := by
  have hl := lv_entry (as.map (xv Γ)) h
  refine ⟨hl.1, hl.2.1, fun i v hi => ?_⟩
  have h2 := xent_in Γ as n 0 i v hi
  rw [Nat.zero_add] at h2
  exact hl.2.2 _ h2
def xlen : List Value → Nat
  | [] => 0
  | .long _ :: vs => xlen vs + 2
  | .double _ :: vs => xlen vs + 2
  | _ :: vs => xlen vs + 1
theorem xlen_eq (Γ : XG) : ∀ as : List Value, (lg_sl (as.map (xv Γ))).length = xlen as
  | [] => rfl
  | a :: vs => by
    have h := xlen_eq Γ vs
    have e1 : lg_sl ((a :: vs).map (xv Γ)) = (if a.category = 2 then [.val (xv Γ a), .second] else [.val (xv Γ a)]) ++ lg_sl (vs.map (xv Γ)) := by
      simp [lg_sl, xv_cat]
    rw [e1, List.length_append, h]
    cases a <;> simp [Value.category, xlen] <;> omega
theorem xS0 {Γ : XG} {U : State} (h : xS Γ U U.heap) : xS Γ U U.heap := h
theorem CT.ofV {J : XI} {mc ms : Nat} {as : List Value} {w : WD} {sz : Nat} {Q : XQ} (hy : plainName J.y.cls = true) (hh : J.hh = []) (hlen : xlen as ≤ J.nL) (k : V J (zN Q) mc ms w sz 0 (xent as J.nL) []) : CT J mc ms as w sz Q := by
  intro Γ l hl
  refine Met.ofW (cc := J.cc) (maxL := J.nL) (ret := J.rt) hy rfl ?_
  intro p e s m args below meth c s₁ B hml hv
  obtain ⟨rfl, hok, hs⟩ := hv
  have hts := atoms_spec (ws := Cond.code J.y J.cc J.nL J.rt :: xG) B.pre
  have ht : c.exceptionTable.toList = tableOf J.hh := by
    obtain ⟨meth9, c9, h1, h2, -, -, -, -, h7, -⟩ := Cond.code_spec B.named (hts _ List.mem_cons_self)
    cases Option.some.inj (h1.symm.trans B.method)
    cases Option.some.inj (h2.symm.trans (Stand.of_body B).code)
    rw [Array.isEmpty_iff.mp h7, hh]
    rfl
  rw [lg_entry_eq]
  exact k Γ p l e _ s m _ below meth c s.heap [] 0 0 _ ⟨B.exec, B.bytes, hl, hml, B.returns, (name_of_methodNamed B.named B.method).1, B.notSynchronized, findClass_of_methodNamed B.named, fun x hx => hts x (List.mem_cons_of_mem _ hx), hs, Nat.le_refl _, Nat.le_refl _, ht, trivial⟩ ⟨hok.1, hok.2.1, hok.2.2, va_S.rf⟩ (xent_L (by rw [xlen_eq]; exact hlen)) (by show 0 + mc ≤ mc; omega) (by show 0 + ms ≤ ms; omega)
theorem CX.ofV {J : XI} {mc ms : Nat} {as : List Value} {w : WD} {sz : Nat} {Q : XQ} {QE : XE} (hy : plainName J.y.cls = true) (hh : J.hh = []) (hlen : xlen as ≤ J.nL) (k : V J (zX Q QE) mc ms w sz 0 (xent as J.nL) []) : CX J mc ms as w sz Q QE := by
  intro Γ l hl
  refine vx_ofW (cc := J.cc) (maxL := J.nL) (ret := J.rt) hy rfl ?_
  intro p e s m args below meth c s₁ B hml htab hv
  obtain ⟨rfl, hok, hs⟩ := hv
  have hts := atoms_spec (ws := Cond.code J.y J.cc J.nL J.rt :: xG) B.pre
  have ht : c.exceptionTable.toList = tableOf J.hh := by
    rw [hh]
    cases h : c.exceptionTable.toList with
    | nil => rfl
    | cons a l9 => exact (htab a (by rw [h]; exact List.mem_cons_self)).elim
  rw [lg_entry_eq]
  exact k Γ p l e _ s m _ below meth c s.heap [] 0 0 _ ⟨B.exec, B.bytes, hl, hml, B.returns, (name_of_methodNamed B.named B.method).1, B.notSynchronized, findClass_of_methodNamed B.named, fun x hx => hts x (List.mem_cons_of_mem _ hx), hs, Nat.le_refl _, Nat.le_refl _, ht, trivial⟩ ⟨hok.1, hok.2.1, hok.2.2, va_S.rf⟩ (xent_L (by rw [xlen_eq]; exact hlen)) (by show 0 + mc ≤ mc; omega) (by show 0 + ms ≤ ms; omega)
theorem CH.ofV {J : XI} {mc ms : Nat} {as : List Value} {w : WD} {sz : Nat} {Q : XQ} {QE : XE} (hy : plainName J.y.cls = true) (hlen : xlen as ≤ J.nL) (k : V J (zX Q QE) mc ms w sz 0 (xent as J.nL) []) : CH J mc ms as w sz Q QE := by
  intro Γ l hl
  refine vx_ofWH (cc := J.cc) (maxL := J.nL) (ret := J.rt) (hh := J.hh) hy rfl ?_
  intro p e s m args below meth c s₁ B hml hv
  obtain ⟨rfl, hok, hs⟩ := hv
  have hts := atoms_spec (ws := Cond.codeWith J.y J.cc J.nL J.rt J.hh :: xG) B.pre
  have ht : c.exceptionTable.toList = tableOf J.hh := vx_table (x := J.y) B (hts _ List.mem_cons_self)
  rw [lg_entry_eq]
  exact k Γ p l e _ s m _ below meth c s.heap [] 0 0 _ ⟨B.exec, B.bytes, hl, hml, B.returns, (name_of_methodNamed B.named B.method).1, B.notSynchronized, findClass_of_methodNamed B.named, fun x hx => hts x (List.mem_cons_of_mem _ hx), hs, Nat.le_refl _, Nat.le_refl _, ht, trivial⟩ ⟨hok.1, hok.2.1, hok.2.2, va_S.rf⟩ (xent_L (by rw [xlen_eq]; exact hlen)) (by show 0 + mc ≤ mc; omega) (by show 0 + ms ≤ ms; omega)
theorem xQc.imp {Γ : XG} {Q Q' : XQ} (h : ∀ v w sz, Q v w sz → Q' v w sz) {a : Array Value} {s t : State} {o : Outcome} (q : xQc Γ Q a s o t) : xQc Γ Q' a s o t := by
  obtain ⟨⟨v, w, sz, h1, h2, h3⟩, h4⟩ := q
  exact ⟨⟨v, w, sz, h1, h _ _ _ h2, h3⟩, h4⟩
section VCALL
variable {I J : XI} {Z : XZ} {kc ks kc' ks' mc ms : Nat} {w : WD} {sz pc : Nat} {lv : List (Option Value)} {st as rest : List Value} {Q : XQ} {QE : XE}
/-- a method's exception on the way out of this instruction -/
def VX (I : XI) (Z : XZ) (kc ks : Nat) (w : WD) (sz : Nat) (pc : Nat) (lv : List (Option Value)) (E : String) : Prop :=
  ∀ (Γ : XG) (p : Program) (l : Launch) (e : Env) (R : Room) (s : State) (m : MethodId) (args : Array Value) (below : List Frame) (meth : Method) (c : Code) (H : Heap) (locs : List Loc) (cells slots : Nat) (ls : Array Slot),
    xM I Z Γ p l R s m args meth c → xN Γ w sz s H locs → xL Γ I.nL ls lv → cells + kc ≤ R.cells → slots + ks ≤ R.slots →
    ∀ (q : Addr) (ce : Cell) (rest' : List Value), H[q]? = some ce → ce.vm = .none → s.vm.findClass E = some ce.cls →
    vx_W p l e R s m args below meth c H locs cells slots (Z.2 Γ below args s R) (F0 m pc ls rest') q
theorem V_of_run
    (hr : ∀ (Γ : XG) (p : Program) (l : Launch) (e : Env) (R : Room) (s : State) (m : MethodId) (args : Array Value) (below : List Frame) (meth : Method) (c : Code) (H : Heap) (locs : List Loc) (cells slots : Nat) (ls : Array Slot),
      xM I Z Γ p l R s m args meth c → xN Γ w sz s H locs → xL Γ I.nL ls lv → cells + mc ≤ R.cells → slots + ms ≤ R.slots →
      ∃ a, va_Run p l e R s m args below meth c H locs cells slots mc ms (F0 m pc ls (st.map (xv Γ))) (rest.map (xv Γ)) (xQc Γ Q a) (fun q => Γ.2.2.2 < q))
    (h1 : mc + kc' ≤ kc) (h2 : ms + ks' ≤ ks) (kk : ∀ v w' sz', Q v w' sz' → V I Z kc' ks' w' sz' (pc + 3) lv (v.toList ++ rest)) : V I Z kc ks w sz pc lv st := by
  intro Γ p l e R s m args below meth c H locs cells slots ls C N L g1 g2 T hT X
  obtain ⟨a, hrun⟩ := hr Γ p l e R s m args below meth c H locs cells slots ls C N L (by omega) (by omega)
  obtain ⟨v, st₀, t, T', Ls, h0, X', hL, e1, e2, ⟨⟨v', w', sz', hv, hq, hok⟩, hF⟩, stp⟩ := hrun T hT X
  cases hv
  obtain ⟨-, -, k3⟩ := vx_keep h0 e1 N.2.2.2 (fun q _ h => h) (fun q h => h) hL hF
  have hk := kk v' w' sz' hq Γ p l e R s m args below meth c T'.heap (locs ++ Ls) (cells + mc) (slots + ms) ls C ⟨by rw [e1]; exact hok.1, by rw [e1]; exact hok.2.1, hok.2.2, k3⟩ L (by omega) (by omega)
  obtain ⟨t2, a1, b1⟩ := hk T' rfl X'
  refine ⟨t2, stp t2 ?_, b1⟩
  cases v' <;> exact a1
theorem V_of_runX
    (hr : ∀ (Γ : XG) (p : Program) (l : Launch) (e : Env) (R : Room) (s : State) (m : MethodId) (args : Array Value) (below : List Frame) (meth : Method) (c : Code) (H : Heap) (locs : List Loc) (cells slots : Nat) (ls : Array Slot),
      xM I Z Γ p l R s m args meth c → xN Γ w sz s H locs → xL Γ I.nL ls lv → cells + mc ≤ R.cells → slots + ms ≤ R.slots →
      ∃ a, vx_Run p l e R s m args below meth c H locs cells slots mc ms (F0 m pc ls (st.map (xv Γ))) (rest.map (xv Γ)) (xQc Γ Q a) (xXc Γ QE) (fun q => Γ.2.2.2 < q))
    (h1 : mc + kc' ≤ kc) (h2 : ms + ks' ≤ ks) (kx : ∀ E w' sz', QE E w' sz' → VX I Z kc' ks' w' sz' pc lv E) (kk : ∀ v w' sz', Q v w' sz' → V I Z kc' ks' w' sz' (pc + 3) lv (v.toList ++ rest)) : V I Z kc ks w sz pc lv st := by
  intro Γ p l e R s m args below meth c H locs cells slots ls C N L g1 g2 T hT X
  obtain ⟨a, hrun⟩ := hr Γ p l e R s m args below meth c H locs cells slots ls C N L (by omega) (by omega)
  rcases hrun T hT X with ⟨v, st₀, t, T', Ls, h0, X', hL, e1, e2, ⟨⟨v', w', sz', hv, hq, hok⟩, hF⟩, stp⟩ | ⟨q, st₀, t, T', Ls, E, ce, h0, X', hL, e1, e2, ⟨⟨w', sz', hq, hok⟩, hF⟩, hce, hcv, hcl, stp⟩
  · cases hv
    obtain ⟨-, -, k3⟩ := vx_keep h0 e1 N.2.2.2 (fun q _ h => h) (fun q h => h) hL hF
    have hk := kk v' w' sz' hq Γ p l e R s m args below meth c T'.heap (locs ++ Ls) (cells + mc) (slots + ms) ls C ⟨by rw [e1]; exact hok.1, by rw [e1]; exact hok.2.1, hok.2.2, k3⟩ L (by omega) (by omega)
    obtain ⟨t2, a1, b1⟩ := hk T' rfl X'
    refine ⟨t2, stp t2 ?_, b1⟩
    cases v' <;> exact a1
  · obtain ⟨-, -, k3⟩ := vx_keep h0 e1 N.2.2.2 (fun q _ h => h) (fun q h => h) hL hF
    have hk := kx E w' sz' hq Γ p l e R s m args below meth c T'.heap (locs ++ Ls) (cells + mc) (slots + ms) ls C ⟨by rw [e1]; exact hok.1, by rw [e1]; exact hok.2.1, hok.2.2, k3⟩ L (by omega) (by omega) q ce (rest.map (xv Γ)) (by rw [e1]; exact hce) hcv hcl
    obtain ⟨t2, a1, b1⟩ := hk T' rfl X'
    exact ⟨t2, stp.trans a1, b1⟩
/-- what is said of a method's name: n arguments -/
def xCd (J : XI) (n : Nat) : Prop := Cond.code J.y J.cc J.nL J.rt ∈ xG ∧ Cond.initialized J.y.cls ∈ xG ∧ J.y.cls ≠ "java/lang/invoke/MethodHandle" ∧ J.y.cls ≠ "java/lang/invoke/VarHandle" ∧ (parseMethodDescriptor J.y.desc).map (fun d => d.parameters.length) = some n
abbrev xrm (J : XI) (mc ms : Nat) : Room := { frames := J.fr, cells := mc, slots := ms, locals := J.lo }
theorem xwarm {ws : List Cond} (hm : ∀ x ∈ ws, x ∈ xG) {args : Array Value} {s : State} (hts : ∀ x ∈ xG, x.before args s = true) : ∀ x ∈ ws, ∀ (a' : Array Value) (U : State), s.WarmedH U.vm → x.before a' U = true :=
  pay_in hts (fun x h => ⟨hm x h, good_of_word (xG_good x (hm x h))⟩)
theorem xCallB {n index : Nat} {p : Program} {l : Launch} {R : Room} {s : State} {m : MethodId} {args : Array Value} {meth : Method} {c : Code} {Γ : XG} (C : xM I Z Γ p l R s m args meth c) (hJ : xCd J n) (hl : Cond.methodLink I.y.cls index J.y ∈ xG) (hlim : J.fr + 1 ≤ I.fr ∧ 8 + (J.nL + 11) + J.lo ≤ I.lo) :
    CallB R s args I.y.cls index J.y J.cc J.nL J.rt (Cond.code J.y J.cc J.nL J.rt :: xG) (xrm J mc ms) mc ms n := by
  have hts := C.2.2.2.2.2.2.2.2.1
  refine ⟨rfl, rfl, Nat.le_trans hlim.1 C.2.2.2.2.2.2.2.2.2.2.1, Nat.le_trans hlim.2 C.2.2.2.2.2.2.2.2.2.2.2.1, xwarm (fun x h => ?_) hts, List.mem_cons_self, hts _ hJ.1, hts _ hJ.2.1, ⟨hJ.2.2.1, hJ.2.2.2.1⟩, fun sig h => ?_, hts _ hl⟩
  · rcases List.mem_cons.mp h with rfl | h
    · exact hJ.1
    · exact h
  · have h2 := hJ.2.2.2.2
    rw [h] at h2
    exact (Option.some.inj h2).symm
theorem xCallN {n index : Nat} {host : String} {p : Program} {l : Launch} {R : Room} {s : State} {m : MethodId} {args : Array Value} {meth : Method} {c : Code} {Γ : XG} (C : xM I Z Γ p l R s m args meth c) (hJ : xCd J n) (hl : Cond.methodLinkNest I.y.cls index J.y host ∈ lw_tbl) (hlim : J.fr + 1 ≤ I.fr ∧ 8 + (J.nL + 11) + J.lo ≤ I.lo) :
    va_CN R s args I.y.cls index J.y host J.cc J.nL J.rt (Cond.code J.y J.cc J.nL J.rt :: xG) (xrm J mc ms) mc ms n := by
  have hts := C.2.2.2.2.2.2.2.2.1
  refine ⟨⟨rfl, rfl, Nat.le_trans hlim.1 C.2.2.2.2.2.2.2.2.2.2.1, Nat.le_trans hlim.2 C.2.2.2.2.2.2.2.2.2.2.2.1, xwarm (fun x h => ?_) hts, List.mem_cons_self⟩, hts _ hJ.1, hts _ hJ.2.1, ⟨hJ.2.2.1, hJ.2.2.2.1⟩, fun sig h => ?_, va_Nw.use rfl (C.2.2.2.2.2.2.2.2.2.1.2.1 _ hl rfl)⟩
  · rcases List.mem_cons.mp h with rfl | h
    · exact hJ.1
    · exact h
  · have h2 := hJ.2.2.2.2
    rw [h] at h2
    exact (Option.some.inj h2).symm
theorem xblind {Γ : XG} {as : List Value} {w : WD} {sz : Nat} : FrameBlind (xPc Γ as w sz) := by
  intro a U g mk h
  exact ⟨h.1, h.2.1, xS.warm (U := U.calling g mk a) (State.WarmedH.refl U) h.2.2⟩
theorem xpre {Γ : XG} {p : Program} {l : Launch} {R : Room} {s : State} {m : MethodId} {args : Array Value} {meth : Method} {c : Code} {H : Heap} {locs : List Loc} (C : xM I Z Γ p l R s m args meth c) (N : xN Γ w sz s H locs) (U : State) (hU : U.heap = H) (hW : s.WarmedH U.vm) : xPc Γ as w sz (as.map (xv Γ)).toArray U :=
  ⟨rfl, ⟨by rw [hU]; exact N.1, by rw [hU]; exact N.2.1, N.2.2.1⟩, by rw [hU]; exact xS.warm hW (xS.kept N.2.2.2.2.1 C.2.2.2.2.2.2.2.2.2.1)⟩
theorem xfix {Γ : XG} {p : Program} {l : Launch} {R : Room} {s : State} {m : MethodId} {args : Array Value} {meth : Method} {c : Code} (C : xM I Z Γ p l R s m args meth c) : CallFix p m c I.cc I.nL s args xG I.y.cls := ⟨C.1, C.2.1, C.2.2.2.1, C.2.2.2.2.2.2.2.1, C.2.2.2.2.2.2.2.2.1⟩
theorem xstk {Γ : XG} (h : st = as.reverse ++ rest) : st.map (xv Γ) = (as.map (xv Γ)).reverse ++ rest.map (xv Γ) := by rw [h, List.map_append, List.map_reverse]
theorem xrest {Γ : XG} (h : (rest.map fun v => v.category).sum ≤ 8) {m : MethodId} {pc : Nat} {ls : Array Slot} {st9 : List Value} : 2 * (F0 m pc ls st9).monitorRoom + ((rest.map (xv Γ)).map fun v => v.category).sum ≤ 8 := by
  rw [xv_cats]
  exact lv_room h
/-- invokestatic -/
theorem V_callS {n index : Nat} (hT : CT J mc ms as w sz Q) (hJ : xCd J n) (hl : Cond.methodLink I.y.cls index J.y ∈ xG) (hs : Cond.static J.y ∈ xG) (hlim : J.fr + 1 ≤ I.fr ∧ 8 + (J.nL + 11) + J.lo ≤ I.lo) (hd : decode I.cc pc = .ok (.invokestatic index, 3)) (hst : st = as.reverse ++ rest) (hn : as.length = n) (hr : (rest.map fun v => v.category).sum ≤ 8)
    (h1 : mc + kc' ≤ kc) (h2 : ms + ks' ≤ ks) (kk : ∀ v w' sz', Q v w' sz' → V I Z kc' ks' w' sz' (pc + 3) lv (v.toList ++ rest)) : V I Z kc ks w sz pc lv st :=
  V_of_run (fun Γ p l e R s m args below meth c H locs cells slots ls C N L g1 g2 => ⟨_, va_runS (xfix C) (hT Γ l C.2.2.1) ⟨xCallB C hJ hl hlim, C.2.2.2.2.2.2.2.2.1 _ hs⟩ ⟨xblind, fun U hU hW => xpre C N U hU hW⟩ rfl (by rw [List.length_map]; exact hn) L.1 (xstk hst) (xrest hr) hd ⟨g1, g2⟩⟩) h1 h2 kk
theorem V_callSN {n index : Nat} {host : String} (hT : CT J mc ms as w sz Q) (hJ : xCd J n) (hl : Cond.methodLinkNest I.y.cls index J.y host ∈ lw_tbl) (hs : Cond.static J.y ∈ xG) (hlim : J.fr + 1 ≤ I.fr ∧ 8 + (J.nL + 11) + J.lo ≤ I.lo) (hd : decode I.cc pc = .ok (.invokestatic index, 3)) (hst : st = as.reverse ++ rest) (hn : as.length = n) (hr : (rest.map fun v => v.category).sum ≤ 8)
    (h1 : mc + kc' ≤ kc) (h2 : ms + ks' ≤ ks) (kk : ∀ v w' sz', Q v w' sz' → V I Z kc' ks' w' sz' (pc + 3) lv (v.toList ++ rest)) : V I Z kc ks w sz pc lv st :=
  V_of_run (fun Γ p l e R s m args below meth c H locs cells slots ls C N L g1 g2 => ⟨_, va_runSN (xfix C) (hT Γ l C.2.2.1) ⟨xCallN C hJ hl hlim, C.2.2.2.2.2.2.2.2.1 _ hs, trivial⟩ ⟨xblind, fun U hU hW => xpre C N U hU hW⟩ rfl (by rw [List.length_map]; exact hn) L.1 (xstk hst) (xrest hr) hd ⟨g1, g2⟩⟩) h1 h2 kk
theorem xrecv {Γ : XG} {a ci : Nat} {fs : List Value} {q : vw_C} {p : Program} {l : Launch} {R : Room} {s : State} {m : MethodId} {args : Array Value} {meth : Method} {c : Code} {H : Heap} {locs : List Loc} (C : xM I Z Γ p l R s m args meth c) (N : xN Γ w sz s H locs) (hw : w a = some (xOb ci fs)) (hc : vwCl[ci]? = some q) (hq : q.1 = J.y.cls) : ∃ cell : Cell, H[xr Γ a]? = some cell ∧ cell.vm.isStatics = false ∧ s.vm.findClass J.y.cls = some cell.cls := by
  obtain ⟨h0, hat⟩ := N.1 a _ hw
  rw [xr_pos h0, ← hq]
  exact va_recv C.2.2.2.2.2.2.2.2.2.1.1 (xP1 hat) hc (q0 := 0) rfl
/-- invokevirtual: on a, an object of the method's class -/
theorem V_callV {n index a ci : Nat} {fs : List Value} {q : vw_C} (hT : CT J mc ms (.ref a :: as) w sz Q) (hJ : xCd J n) (hl : Cond.methodLink I.y.cls index J.y ∈ xG) (hi : Cond.instanceMethod J.y ∈ xG) (hse : Cond.selects J.y.cls J.y J.y ∈ xG) (hc : vwCl[ci]? = some q) (hq : q.1 = J.y.cls) (hlim : J.fr + 1 ≤ I.fr ∧ 8 + (J.nL + 11) + J.lo ≤ I.lo) (hd : decode I.cc pc = .ok (.invokevirtual index, 3)) (hw : w a = some (xOb ci fs)) (hst : st = as.reverse ++ .ref a :: rest) (hn : as.length = n) (hr : (rest.map fun v => v.category).sum ≤ 8)
    (h1 : mc + kc' ≤ kc) (h2 : ms + ks' ≤ ks) (kk : ∀ v w' sz', Q v w' sz' → V I Z kc' ks' w' sz' (pc + 3) lv (v.toList ++ rest)) : V I Z kc ks w sz pc lv st :=
  V_of_run (rest := rest) (fun Γ p l e R s m args below meth c H locs cells slots ls C N L g1 g2 => ⟨_, va_runV (b := xr Γ a) (As := as.map (xv Γ)) (xfix C) (hT Γ l C.2.2.1) ⟨xCallB C hJ hl hlim, C.2.2.2.2.2.2.2.2.1 _ hi, C.2.2.2.2.2.2.2.2.1 _ hse⟩ ⟨xblind, xrecv C N hw hc hq, fun U hU hW => xpre (as := .ref a :: as) C N U hU hW⟩ rfl (by rw [List.length_map]; exact hn) L.1 (xstk (rest := .ref a :: rest) hst) (xrest hr) hd ⟨g1, g2⟩⟩) h1 h2 kk
/-- invokespecial: a constructor -/
theorem V_callI {n index a : Nat} (hT : CT J mc ms (.ref a :: as) w sz Q) (hJ : xCd J n) (hrt : J.rt = none) (hl : Cond.methodLink I.y.cls index J.y ∈ xG) (hi : Cond.instanceMethod J.y ∈ xG) (hy1 : J.y.name = "<init>") (hlim : J.fr + 1 ≤ I.fr ∧ 8 + (J.nL + 11) + J.lo ≤ I.lo) (hd : decode I.cc pc = .ok (.invokespecial index, 3)) (hst : st = as.reverse ++ .ref a :: rest) (hn : as.length = n) (hr : (rest.map fun v => v.category).sum ≤ 8)
    (h1 : mc + kc' ≤ kc) (h2 : ms + ks' ≤ ks) (kk : ∀ v w' sz', Q v w' sz' → V I Z kc' ks' w' sz' (pc + 3) lv (v.toList ++ rest)) : V I Z kc ks w sz pc lv st :=
  V_of_run (rest := rest) (fun Γ p l e R s m args below meth c H locs cells slots ls C N L g1 g2 => ⟨_, va_runI (b := xr Γ a) (As := as.map (xv Γ)) (xfix C) (hT Γ l C.2.2.1) (by have h9 := xCallB (mc := mc) (ms := ms) C hJ hl hlim; rw [hrt] at h9 ⊢; exact ⟨h9, hy1, C.2.2.2.2.2.2.2.2.1 _ hi⟩) ⟨xblind, fun U hU hW => xpre (as := .ref a :: as) C N U hU hW⟩ rfl (by rw [List.length_map]; exact hn) L.1 (xstk (rest := .ref a :: rest) hst) (xrest hr) hd ⟨g1, g2⟩⟩) h1 h2 kk
theorem V_callIN {n index a : Nat} {host : String} (hT : CT J mc ms (.ref a :: as) w sz Q) (hJ : xCd J n) (hrt : J.rt = none) (hl : Cond.methodLinkNest I.y.cls index J.y host ∈ lw_tbl) (hi : Cond.instanceMethod J.y ∈ xG) (hy1 : J.y.name = "<init>") (hlim : J.fr + 1 ≤ I.fr ∧ 8 + (J.nL + 11) + J.lo ≤ I.lo) (hd : decode I.cc pc = .ok (.invokespecial index, 3)) (hst : st = as.reverse ++ .ref a :: rest) (hn : as.length = n) (hr : (rest.map fun v => v.category).sum ≤ 8)
    (h1 : mc + kc' ≤ kc) (h2 : ms + ks' ≤ ks) (kk : ∀ v w' sz', Q v w' sz' → V I Z kc' ks' w' sz' (pc + 3) lv (v.toList ++ rest)) : V I Z kc ks w sz pc lv st :=
  V_of_run (rest := rest) (fun Γ p l e R s m args below meth c H locs cells slots ls C N L g1 g2 => ⟨_, va_runIN (b := xr Γ a) (As := as.map (xv Γ)) (xfix C) (hT Γ l C.2.2.1) (by have h9 := xCallN (mc := mc) (ms := ms) C hJ hl hlim; rw [hrt] at h9 ⊢; exact ⟨h9, hy1, C.2.2.2.2.2.2.2.2.1 _ hi⟩) ⟨xblind, fun U hU hW => xpre (as := .ref a :: as) C N U hU hW⟩ rfl (by rw [List.length_map]; exact hn) L.1 (xstk (rest := .ref a :: rest) hst) (xrest hr) hd ⟨g1, g2⟩⟩) h1 h2 kk
/-- calls of methods that return or throw -/
theorem V_callSX {n index : Nat} (hT : CX J mc ms as w sz Q QE) (hJ : xCd J n) (hl : Cond.methodLink I.y.cls index J.y ∈ xG) (hs : Cond.static J.y ∈ xG) (hlim : J.fr + 1 ≤ I.fr ∧ 8 + (J.nL + 11) + J.lo ≤ I.lo) (hd : decode I.cc pc = .ok (.invokestatic index, 3)) (hst : st = as.reverse ++ rest) (hn : as.length = n) (hr : (rest.map fun v => v.category).sum ≤ 8)
    (h1 : mc + kc' ≤ kc) (h2 : ms + ks' ≤ ks) (kx : ∀ E w' sz', QE E w' sz' → VX I Z kc' ks' w' sz' pc lv E) (kk : ∀ v w' sz', Q v w' sz' → V I Z kc' ks' w' sz' (pc + 3) lv (v.toList ++ rest)) : V I Z kc ks w sz pc lv st :=
  V_of_runX (fun Γ p l e R s m args below meth c H locs cells slots ls C N L g1 g2 => ⟨_, vx_runS (xfix C) (hT Γ l C.2.2.1) ⟨xCallB C hJ hl hlim, C.2.2.2.2.2.2.2.2.1 _ hs⟩ ⟨xblind, fun U hU hW => xpre C N U hU hW⟩ rfl (by rw [List.length_map]; exact hn) L.1 (xstk hst) (xrest hr) hd ⟨g1, g2⟩⟩) h1 h2 kx kk
theorem V_callVX {n index a ci : Nat} {fs : List Value} {q : vw_C} (hT : CX J mc ms (.ref a :: as) w sz Q QE) (hJ : xCd J n) (hl : Cond.methodLink I.y.cls index J.y ∈ xG) (hi : Cond.instanceMethod J.y ∈ xG) (hse : Cond.selects J.y.cls J.y J.y ∈ xG) (hc : vwCl[ci]? = some q) (hq : q.1 = J.y.cls) (hlim : J.fr + 1 ≤ I.fr ∧ 8 + (J.nL + 11) + J.lo ≤ I.lo) (hd : decode I.cc pc = .ok (.invokevirtual index, 3)) (hw : w a = some (xOb ci fs)) (hst : st = as.reverse ++ .ref a :: rest) (hn : as.length = n) (hr : (rest.map fun v => v.category).sum ≤ 8)
    (h1 : mc + kc' ≤ kc) (h2 : ms + ks' ≤ ks) (kx : ∀ E w' sz', QE E w' sz' → VX I Z kc' ks' w' sz' pc lv E) (kk : ∀ v w' sz', Q v w' sz' → V I Z kc' ks' w' sz' (pc + 3) lv (v.toList ++ rest)) : V I Z kc ks w sz pc lv st :=
  V_of_runX (rest := rest) (fun Γ p l e R s m args below meth c H locs cells slots ls C N L g1 g2 => ⟨_, vx_runV (b := xr Γ a) (As := as.map (xv Γ)) (xfix C) (hT Γ l C.2.2.1) ⟨xCallB C hJ hl hlim, C.2.2.2.2.2.2.2.2.1 _ hi, C.2.2.2.2.2.2.2.2.1 _ hse⟩ ⟨xblind, xrecv C N hw hc hq, fun U hU hW => xpre (as := .ref a :: as) C N U hU hW⟩ rfl (by rw [List.length_map]; exact hn) L.1 (xstk (rest := .ref a :: rest) hst) (xrest hr) hd ⟨g1, g2⟩⟩) h1 h2 kx kk
/-- a static method with handlers of its own -/
theorem V_callSH {n index : Nat} (hT : CH J mc ms as w sz Q QE) (hJ : Cond.codeWith J.y J.cc J.nL J.rt J.hh ∈ xG ∧ Cond.initialized J.y.cls ∈ xG ∧ J.y.cls ≠ "java/lang/invoke/MethodHandle" ∧ J.y.cls ≠ "java/lang/invoke/VarHandle" ∧ (parseMethodDescriptor J.y.desc).map (fun d => d.parameters.length) = some n) (hl : Cond.methodLink I.y.cls index J.y ∈ xG) (hs : Cond.static J.y ∈ xG) (hlim : J.fr + 1 ≤ I.fr ∧ 8 + (J.nL + 11) + J.lo ≤ I.lo) (hd : decode I.cc pc = .ok (.invokestatic index, 3)) (hst : st = as.reverse ++ rest) (hn : as.length = n) (hr : (rest.map fun v => v.category).sum ≤ 8)
    (h1 : mc + kc' ≤ kc) (h2 : ms + ks' ≤ ks) (kx : ∀ E w' sz', QE E w' sz' → VX I Z kc' ks' w' sz' pc lv E) (kk : ∀ v w' sz', Q v w' sz' → V I Z kc' ks' w' sz' (pc + 3) lv (v.toList ++ rest)) : V I Z kc ks w sz pc lv st := by
  refine V_of_runX (fun Γ p l e R s m args below meth c H locs cells slots ls C N L g1 g2 => ⟨_, vx_runSX (n := n) (hh := J.hh) (bytes := J.cc) (maxL := J.nL) (ret := J.rt) (xfix C) (hT Γ l C.2.2.1) ?_ ⟨xblind, fun U hU hW => xpre C N U hU hW⟩ rfl (by rw [List.length_map]; exact hn) L.1 (xstk hst) (xrest hr) hd ⟨g1, g2⟩⟩) h1 h2 kx kk
  have hts := C.2.2.2.2.2.2.2.2.1
  refine ⟨⟨rfl, rfl, Nat.le_trans hlim.1 C.2.2.2.2.2.2.2.2.2.2.1, Nat.le_trans hlim.2 C.2.2.2.2.2.2.2.2.2.2.2.1, xwarm (fun x h => ?_) hts, List.mem_cons_self⟩, hts _ hJ.1, hts _ hJ.2.1, ⟨hJ.2.2.1, hJ.2.2.2.1⟩, fun sig h => ?_, hts _ hl, hts _ hs⟩
  · rcases List.mem_cons.mp h with rfl | h
    · exact hJ.1
    · exact h
  · have h2 := hJ.2.2.2.2
    rw [h] at h2
    exact (Option.some.inj h2).symm
/-! exceptions: out of the method; caught; thrown -/
theorem VX_out {E : String} (hh : I.hh = []) (h : QE E w sz) : VX I (zX Q QE) kc ks w sz pc lv E := by
  intro Γ p l e R s m args below meth c H locs cells slots ls C N L g1 g2 q ce rest' hce hcv hcl
  have ht : c.exceptionTable.toList = [] := by rw [C.2.2.2.2.2.2.2.2.2.2.2.2.1, hh]; rfl
  exact vx_out (fun x hx => by rw [ht] at hx; cases hx) C.2.2.2.2.2.2.1 hce hcv hcl (fun t ht9 _ => ⟨⟨w, sz, h, by rw [ht9]; exact N.1, by rw [ht9]; exact N.2.1, N.2.2.1⟩, N.2.2.2.F ht9⟩) (fun z hz => N.2.2.2.2.2 z hz) (by omega) (by omega)
theorem xL.st1n {Γ : XG} {nL : Nat} {ls' : Array Slot} {lv : List (Option Value)} {i : Nat} {x : Value} (h : lv_has ls' nL ((i, x) :: (xas Γ lv).filter (fun q => !(q.1 == i) && !(q.1 + 1 == i && q.2.category == 2)))) : xL Γ nL ls' (xst1 lv i none) := by
  refine ⟨h.1, h.2.1, fun j u hj => ?_⟩
  rcases xst1_s lv i none j u hj with ⟨h1, h2⟩ | ⟨h1, h2, h3⟩
  · cases h2
  · refine h.2.2 (j, xv Γ u) (List.mem_cons_of_mem _ (List.mem_filter.mpr ⟨xas_in h2, ?_⟩))
    simp only [Bool.and_eq_true, Bool.not_eq_true', beq_eq_false_iff_ne, ne_eq, Bool.and_eq_false_iff, xv_cat]
    refine ⟨h1, ?_⟩
    by_cases hj1 : j + 1 = i
    · right
      exact fun q => h3 ⟨hj1, q⟩
    · left
      exact hj1
/-- what the tables say of an exception's class, and of its own constructor -/
def xTh (own : String) (ik ic : Nat) (cls : String) (names : List String) : Prop := Bundle.fit cls = true ∧ (∀ n ∈ names, Bundle.fit n = true) ∧ Cond.classLink own ik cls ∈ xG ∧ Cond.initialized cls ∈ xG ∧ (∀ x ∈ vx_atS own ic cls names, x ∈ lw_tbl ∧ (goodWord x = true ∨ xNk x = true)) ∧ (∀ x ∈ Cond.classLink own ik cls :: Cond.initialized cls :: vx_atS own ic cls names, vx_ot x = true)
theorem xNk_tab {x : Cond} (h : xNk x = true) : x.onTables = true := by
  cases x <;> first | rfl | cases h
theorem xTh_hat {own cls : String} {ik ic : Nat} {names : List String} {p : Program} {l : Launch} {R : Room} {s : State} {m : MethodId} {args : Array Value} {meth : Method} {c : Code} {Γ : XG} (C : xM I Z Γ p l R s m args meth c) (h : xTh own ik ic cls names) : ∀ x ∈ vx_atS own ic cls names, x.before args s = true := by
  intro x hx
  obtain ⟨h1, h2⟩ := h.2.2.2.2.1 x hx
  rcases h2 with h2 | h2
  · exact C.2.2.2.2.2.2.2.2.1 _ (List.mem_filter.mpr ⟨h1, h2⟩)
  · exact va_Nw.use (xNk_tab h2) (C.2.2.2.2.2.2.2.2.2.1.2.1 _ h1 h2)
theorem xthrown {E : String} {Γ : XG} {s : State} {H : Heap} {locs : List Loc} (N : xN Γ w sz s H locs) (h : ∀ sz', sz ≤ sz' → QE E w sz') (t : State) (h1 : H.size ≤ t.heap.size) (h2 : ∀ q : Nat, q < H.size → t.heap[q]? = H[q]?) : xXc Γ QE E s t := by
  have hz := N.2.1
  refine ⟨⟨w, t.heap.size - Γ.2.2.2, h _ (by omega), N.1.kept h2, by omega, by have := N.2.2.1; omega⟩, Nat.le_trans N.2.2.2.1 h1, fun q g1 g2 => ?_⟩
  rw [h2 q (Nat.lt_of_lt_of_le g1 N.2.2.2.1)]
  exact N.2.2.2.2.1 q g1 g2
theorem V_throw {text cls : String} {names : List String} {ik is ic : Nat} (hh : I.hh = []) (hT : xTh I.y.cls ik ic cls names) (hs : Cond.stringRef I.y.cls is text ∈ lw_tbl)
    (d0 : decode I.cc pc = .ok (.new ik, 3)) (d3 : decode I.cc (pc + 3) = .ok (.dup, 1)) (d4 : decode I.cc (pc + 4) = .ok (.ldc is, 2)) (d6 : decode I.cc (pc + 6) = .ok (.invokespecial ic, 3)) (d9 : decode I.cc (pc + 9) = .ok (.athrow, 1))
    (hf : names.length + 4 ≤ I.fr) (hl : (st.map fun v => v.category).sum + (13 * (names.length + 1) + 43) ≤ I.lo) (hk : 1 ≤ kc) (hks : 6 ≤ ks) (h : ∀ sz', sz ≤ sz' → QE cls w sz') : V I (zX Q QE) kc ks w sz pc lv st := by
  intro Γ p l e R s m args below meth c H locs cells slots ls C N L g1 g2
  have hts := C.2.2.2.2.2.2.2.2.1
  have hS := C.2.2.2.2.2.2.2.2.2.1
  have ht : c.exceptionTable.toList = [] := by rw [C.2.2.2.2.2.2.2.2.2.2.2.2.1, hh]; rfl
  obtain ⟨sa, hsa⟩ := hS.2.2.1 _ _ _ hs
  exact vx_throwS C.1 C.2.1 C.2.2.1 C.2.2.2.2.2.2.2.1 hT.1 hT.2.1 (hts _ hT.2.2.1) (hts _ hT.2.2.2.1) hsa (xTh_hat C hT) hT.2.2.2.2.2 hS.2.2.2.2.2.1.1 hS.2.2.2.2.2.1.2 N.2.2.2 (L.1.trans C.2.2.2.1.symm) d0 d3 d4 d6 d9 (fun x hx => by rw [ht] at hx; cases hx) (by have := C.2.2.2.2.2.2.2.2.2.2.1; omega) (by rw [xv_cats]; exact Nat.le_trans hl C.2.2.2.2.2.2.2.2.2.2.2.1) (by omega) (by omega) C.2.2.2.2.2.2.1 (fun t _ h1 h2 => xthrown N h t h1 h2) (fun z hz => N.2.2.2.2.2 z hz) (by omega) (by omega)
theorem V_throwW {text cls : String} {names : List String} {ik is ic : Nat} (hh : I.hh = []) (hT : xTh I.y.cls ik ic cls names) (hs : Cond.stringRef I.y.cls is text ∈ lw_tbl)
    (d0 : decode I.cc pc = .ok (.new ik, 3)) (d3 : decode I.cc (pc + 3) = .ok (.dup, 1)) (d4 : decode I.cc (pc + 4) = .ok (.ldc_w is, 3)) (d7 : decode I.cc (pc + 7) = .ok (.invokespecial ic, 3)) (d10 : decode I.cc (pc + 10) = .ok (.athrow, 1))
    (hf : names.length + 4 ≤ I.fr) (hl : (st.map fun v => v.category).sum + (13 * (names.length + 1) + 43) ≤ I.lo) (hk : 1 ≤ kc) (hks : 6 ≤ ks) (h : ∀ sz', sz ≤ sz' → QE cls w sz') : V I (zX Q QE) kc ks w sz pc lv st := by
  intro Γ p l e R s m args below meth c H locs cells slots ls C N L g1 g2
  have hts := C.2.2.2.2.2.2.2.2.1
  have hS := C.2.2.2.2.2.2.2.2.2.1
  have ht : c.exceptionTable.toList = [] := by rw [C.2.2.2.2.2.2.2.2.2.2.2.2.1, hh]; rfl
  obtain ⟨sa, hsa⟩ := hS.2.2.1 _ _ _ hs
  exact vx_throwSW C.1 C.2.1 C.2.2.1 C.2.2.2.2.2.2.2.1 hT.1 hT.2.1 (hts _ hT.2.2.1) (hts _ hT.2.2.2.1) hsa (xTh_hat C hT) hT.2.2.2.2.2 hS.2.2.2.2.2.1.1 hS.2.2.2.2.2.1.2 N.2.2.2 (L.1.trans C.2.2.2.1.symm) d0 d3 d4 d7 d10 (fun x hx => by rw [ht] at hx; cases hx) (by have := C.2.2.2.2.2.2.2.2.2.2.1; omega) (by rw [xv_cats]; exact Nat.le_trans hl C.2.2.2.2.2.2.2.2.2.2.2.1) (by omega) (by omega) C.2.2.2.2.2.2.1 (fun t _ h1 h2 => xthrown N h t h1 h2) (fun z hz => N.2.2.2.2.2 z hz) (by omega) (by omega)
end VCALL
