/-! rows: fields and arrays -/
theorem xP1 {D : va_G} {q : Nat × va_E} {H : Heap} (h : va_at D vwCl q H) : va_P D vwCl [q] H := by
  intro k x hx
  cases k with
  | zero => cases hx; exact h
  | succ k => cases hx
theorem xset_map {Γ : XG} {fs : List Value} {k : Nat} {v : Value} : (fs.set k v).map (xv Γ) = (fs.map (xv Γ)).set k (xv Γ v) := by rw [List.map_set]
theorem xN.put {Γ : XG} {w : WD} {sz : Nat} {s : State} {H H1 : Heap} {locs : List Loc} {a j : Nat} {e0 e : va_E} (N : xN Γ w sz s H locs) (hw : w a = some e0) (he : va_at Γ.1 vwCl (Γ.2.2.2 + a, xe Γ e) H1) (z : H1.size = H.size) (oq : ∀ q : Nat, q ≠ Γ.2.2.2 + a → H1[q]? = H[q]?) : xN Γ (xU w a e) sz s H1 (locs ++ [⟨Γ.2.2.2 + a, j⟩]) :=
  ⟨N.1.set hw he oq, z.trans N.2.1, N.2.2.1, N.2.2.2.put z oq (by have := (N.1 a _ hw).1; show Γ.2.2.2 < Γ.2.2.2 + a; omega)⟩
theorem xN.new {Γ : XG} {w : WD} {sz : Nat} {s : State} {H H1 : Heap} {locs : List Loc} {e : va_E} (N : xN Γ w sz s H locs) (he : va_at Γ.1 vwCl (Γ.2.2.2 + sz, xe Γ e) H1) (z : H1.size = H.size + 1) (oq : ∀ q : Nat, q < H.size → H1[q]? = H[q]?) : xN Γ (xU w sz e) (sz + 1) s H1 locs :=
  ⟨N.1.push N.2.2.1 N.2.1 he oq, by rw [z, N.2.1]; omega, by omega, ⟨Nat.le_trans N.2.2.2.1 (by omega), fun x h1 h2 => (oq x (Nat.lt_of_lt_of_le h1 N.2.2.2.1)).trans (N.2.2.2.2.1 x h1 h2), N.2.2.2.2.2⟩⟩
theorem xiu_upd {f : Int → Int} {z x : Int} (h : 0 ≤ z) : upd (fun k : Nat => Int32.ofInt (f (k : Int))) z.toNat (Int32.ofInt x) = fun k : Nat => Int32.ofInt (iu f z x (k : Int)) := by
  funext k
  unfold upd iu
  by_cases hk : k = z.toNat
  · rw [if_pos hk, if_pos (by omega)]
  · rw [if_neg hk, if_neg (by omega)]
theorem xiu_updB {f : Int → Bool} {z : Int} {x : Bool} (h : 0 ≤ z) : upd (fun k : Nat => Int32.ofInt (b2i (f (k : Int)))) z.toNat (Int32.ofInt (b2i x)) = fun k : Nat => Int32.ofInt (b2i (iu f z x (k : Int))) := by
  funext k
  unfold upd iu
  by_cases hk : k = z.toNat
  · rw [if_pos hk, if_pos (by omega)]
  · rw [if_neg hk, if_neg (by omega)]
theorem xiu_updL {f : Int → Int} {z x : Int} (h : 0 ≤ z) : vp_updL (fun k : Nat => Int64.ofInt (f (k : Int))) z.toNat (Int64.ofInt x) = fun k : Nat => Int64.ofInt (iu f z x (k : Int)) := by
  funext k
  unfold vp_updL iu
  by_cases hk : k = z.toNat
  · rw [if_pos hk, if_pos (by omega)]
  · rw [if_neg hk, if_neg (by omega)]
section VHEAP
variable {I : XI} {Z : XZ} {kc ks : Nat} {w : WD} {sz pc : Nat} {lv : List (Option Value)} {st : List Value}
theorem V_get {a ci k index N : Nat} {C : String} {T : u_T} {fs : List Value} {v : Value} (hc : vwCl[ci]? = some (C, T, N)) (hin : ∀ x ∈ u_ws C T N, x ∈ xG) (hk : k < N) (hlink : Cond.fieldLink I.y.cls index (T k).1 (T k).2.1 (T k).2.2.1 ∈ xG)
    (hd : decode I.cc pc = .ok (.getfield index, 3)) (hw : w a = some (xOb ci fs)) (hv : fs[k]? = some v) (kk : V I Z kc ks w sz (pc + 3) lv (v :: st)) : V I Z kc ks w sz pc lv (.ref a :: st) := by
  intro Γ p l e R s m args below meth c H locs cells slots ls C0 N0 L h1 h2
  obtain ⟨h0, hat⟩ := N0.1 a _ hw
  show W p l e R s m args below meth c H locs cells slots _ (F0 m pc ls (.ref (xr Γ a) :: st.map (xv Γ)))
  rw [xr_pos h0]
  exact va_get (v := xv Γ v) C0.1 C0.2.1 C0.2.2.2.2.2.2.2.2.1 hin C0.2.2.2.2.2.2.2.1 C0.2.2.2.2.2.2.2.2.2.1.1 (xP1 hat) 0 rfl hc k hk (C0.2.2.2.2.2.2.2.2.1 _ hlink) (fun _ h => h) (by simp [hv]) hd (kk Γ p l e R s m args below meth c H locs cells slots ls C0 N0 L h1 h2)
theorem V_getN {a ci k index N : Nat} {C host : String} {T : u_T} {fs : List Value} {v : Value} (hc : vwCl[ci]? = some (C, T, N)) (hin : ∀ x ∈ u_ws C T N, x ∈ xG) (hk : k < N) (hlink : Cond.fieldLinkNest I.y.cls index (T k).1 (T k).2.1 (T k).2.2.1 host ∈ lw_tbl)
    (hd : decode I.cc pc = .ok (.getfield index, 3)) (hw : w a = some (xOb ci fs)) (hv : fs[k]? = some v) (kk : V I Z kc ks w sz (pc + 3) lv (v :: st)) : V I Z kc ks w sz pc lv (.ref a :: st) := by
  intro Γ p l e R s m args below meth c H locs cells slots ls C0 N0 L h1 h2
  obtain ⟨h0, hat⟩ := N0.1 a _ hw
  show W p l e R s m args below meth c H locs cells slots _ (F0 m pc ls (.ref (xr Γ a) :: st.map (xv Γ)))
  rw [xr_pos h0]
  exact va_getN (v := xv Γ v) C0.1 C0.2.1 C0.2.2.2.2.2.2.2.2.1 hin C0.2.2.2.2.2.2.2.1 C0.2.2.2.2.2.2.2.2.2.1.1 (xP1 hat) 0 rfl hc k hk (va_Nw.use rfl (C0.2.2.2.2.2.2.2.2.2.1.2.1 _ hlink rfl)) (fun _ h => h) (by simp [hv]) hd (kk Γ p l e R s m args below meth c H locs cells slots ls C0 N0 L h1 h2)
theorem V_put {a ci k index N : Nat} {C : String} {T : u_T} {ty0 : Nat → FieldType} {fs : List Value} {v : Value} {ty : FieldType} (hc : vwCl[ci]? = some (C, T, N)) (hin : ∀ x ∈ u_ws C T N, x ∈ xG) (hty : ∀ k, k < N → parseFieldDescriptor (T k).2.2.1 = some (ty0 k)) (hnm : ∀ a, a < N → ∀ b, b < N → a ≠ b → (T a).2.1 ≠ (T b).2.1) (hk : k < N) (hlink : Cond.fieldLink I.y.cls index (T k).1 (T k).2.1 (T k).2.2.1 ∈ xG) (hfin : (T k).2.2.2 = false) (hdd : parseFieldDescriptor (T k).2.2.1 = some ty)
    (hd : decode I.cc pc = .ok (.putfield index, 3)) (hw : w a = some (xOb ci fs)) (hl : k < fs.length) (hn : ∀ Γ, narrow ty (xv Γ v) = xv Γ v) (hf : ∀ Γ, fits ty (xv Γ v) = true) (kk : V I Z kc ks (xU w a (xOb ci (fs.set k v))) sz (pc + 3) lv st) : V I Z kc ks w sz pc lv (v :: .ref a :: st) := by
  intro Γ p l e R s m args below meth c H locs cells slots ls C0 N0 L g1 g2
  have hts := C0.2.2.2.2.2.2.2.2.1
  have hK := C0.2.2.2.2.2.2.2.2.2.1.1
  have hown := C0.2.2.2.2.2.2.2.1
  obtain ⟨h0, hat⟩ := N0.1 a _ hw
  have hap := va_apart (own := I.y.cls) hts hin ty0 hty hnm hK hc
  obtain ⟨r, h1, cell, q1, q2, q3, q4⟩ := hat
  have hr : r = (C, T, N) := Option.some.inj (h1.symm.trans hc)
  subst hr
  obtain ⟨hS, hfc, kC, hkC, hkind⟩ := hK.1 ci _ hc
  obtain ⟨cf, kf, fi, f, hi, hsl⟩ := hS k hk
  have hlay := hts _ (hin _ (u_in_lay hk))
  unfold u_lay at hlay
  rw [if_neg (by rw [hfin]; decide)] at hlay
  have hst := (u_facts hfc hkC (u_lays hts hin hk) hi).1
  have h6 := u_store hfc hkC hkind hlay hi hdd (hn Γ) (hf Γ)
  show W p l e R s m args below meth c H locs cells slots _ (F0 m pc ls (xv Γ v :: .ref (xr Γ a) :: st.map (xv Γ)))
  rw [xr_pos h0]
  refine W.putK C0.1 C0.2.1 (f := f) ⟨hown, hts _ hlink, ⟨_, _, _, hi⟩, hst⟩ (by rw [q2]; exact h6) q1 q3 (by rw [hsl]; exact k2_hasslot (q4 k hk)) rfl rfl hd fun H' e1 e2 e3 => ?_
  rw [hsl] at e1 ⊢
  refine kk Γ p l e R s m args below meth c H' _ cells slots ls C0 (N0.put hw ?_ e2 e3) L g1 g2
  refine ⟨_, hc, ?_⟩
  show t_OB _ _ _ _ _ (vp_V ((fs.set k v).map (xv Γ)))
  rw [xset_map]
  exact t_OB.to (V := updV (vp_V (fs.map (xv Γ))) k (xv Γ v)) ⟨_, e1, q2, q3, t_set q4 hap hk _⟩ (fun j _ => vp_updV_set (by simpa using hl) _ j)
theorem V_putN {a ci k index N : Nat} {C host : String} {T : u_T} {ty0 : Nat → FieldType} {fs : List Value} {v : Value} {ty : FieldType} (hc : vwCl[ci]? = some (C, T, N)) (hin : ∀ x ∈ u_ws C T N, x ∈ xG) (hty : ∀ k, k < N → parseFieldDescriptor (T k).2.2.1 = some (ty0 k)) (hnm : ∀ a, a < N → ∀ b, b < N → a ≠ b → (T a).2.1 ≠ (T b).2.1) (hk : k < N) (hlink : Cond.fieldLinkNest I.y.cls index (T k).1 (T k).2.1 (T k).2.2.1 host ∈ lw_tbl) (hfin : (T k).2.2.2 = false) (hdd : parseFieldDescriptor (T k).2.2.1 = some ty)
    (hd : decode I.cc pc = .ok (.putfield index, 3)) (hw : w a = some (xOb ci fs)) (hl : k < fs.length) (hn : ∀ Γ, narrow ty (xv Γ v) = xv Γ v) (hf : ∀ Γ, fits ty (xv Γ v) = true) (kk : V I Z kc ks (xU w a (xOb ci (fs.set k v))) sz (pc + 3) lv st) : V I Z kc ks w sz pc lv (v :: .ref a :: st) := by
  intro Γ p l e R s m args below meth c H locs cells slots ls C0 N0 L g1 g2
  have hts := C0.2.2.2.2.2.2.2.2.1
  have hK := C0.2.2.2.2.2.2.2.2.2.1.1
  have hown := C0.2.2.2.2.2.2.2.1
  obtain ⟨h0, hat⟩ := N0.1 a _ hw
  have hap := va_apart (own := I.y.cls) hts hin ty0 hty hnm hK hc
  obtain ⟨r, h1, cell, q1, q2, q3, q4⟩ := hat
  have hr : r = (C, T, N) := Option.some.inj (h1.symm.trans hc)
  subst hr
  obtain ⟨hS, hfc, kC, hkC, hkind⟩ := hK.1 ci _ hc
  obtain ⟨cf, kf, fi, f, hi, hsl⟩ := hS k hk
  have hlay := hts _ (hin _ (u_in_lay hk))
  unfold u_lay at hlay
  rw [if_neg (by rw [hfin]; decide)] at hlay
  have hst := (u_facts hfc hkC (u_lays hts hin hk) hi).1
  have h6 := u_store hfc hkC hkind hlay hi hdd (hn Γ) (hf Γ)
  show W p l e R s m args below meth c H locs cells slots _ (F0 m pc ls (xv Γ v :: .ref (xr Γ a) :: st.map (xv Γ)))
  rw [xr_pos h0]
  refine va_WputK C0.1 C0.2.1 (f := f) hown (va_Nw.use rfl (C0.2.2.2.2.2.2.2.2.2.1.2.1 _ hlink rfl)) hi hst (by rw [q2]; exact h6) q1 q3 (by rw [hsl]; exact k2_hasslot (q4 k hk)) rfl rfl hd fun H' e1 e2 e3 => ?_
  rw [hsl] at e1 ⊢
  refine kk Γ p l e R s m args below meth c H' _ cells slots ls C0 (N0.put hw ?_ e2 e3) L g1 g2
  refine ⟨_, hc, ?_⟩
  show t_OB _ _ _ _ _ (vp_V ((fs.set k v).map (xv Γ)))
  rw [xset_map]
  exact t_OB.to (V := updV (vp_V (fs.map (xv Γ))) k (xv Γ v)) ⟨_, e1, q2, q3, t_set q4 hap hk _⟩ (fun j _ => vp_updV_set (by simpa using hl) _ j)
/-- a final field, in the constructor -/
theorem V_putF {a ci k index N : Nat} {C : String} {T : u_T} {ty0 : Nat → FieldType} {fs : List Value} {v : Value} {ty : FieldType} (hc : vwCl[ci]? = some (C, T, N)) (hin : ∀ x ∈ u_ws C T N, x ∈ xG) (hty : ∀ k, k < N → parseFieldDescriptor (T k).2.2.1 = some (ty0 k)) (hnm : ∀ a, a < N → ∀ b, b < N → a ≠ b → (T a).2.1 ≠ (T b).2.1) (hk : k < N) (hlink : Cond.fieldLink I.y.cls index (T k).1 (T k).2.1 (T k).2.2.1 ∈ xG) (hfin : (T k).2.2.2 = true) (hin2 : I.y.name = "<init>") (hdecl : (T k).1 = I.y.cls) (hdd : parseFieldDescriptor (T k).2.2.1 = some ty)
    (hd : decode I.cc pc = .ok (.putfield index, 3)) (hw : w a = some (xOb ci fs)) (hl : k < fs.length) (hn : ∀ Γ, narrow ty (xv Γ v) = xv Γ v) (hf : ∀ Γ, fits ty (xv Γ v) = true) (kk : V I Z kc ks (xU w a (xOb ci (fs.set k v))) sz (pc + 3) lv st) : V I Z kc ks w sz pc lv (v :: .ref a :: st) := by
  intro Γ p l e R s m args below meth c H locs cells slots ls C0 N0 L g1 g2
  have hts := C0.2.2.2.2.2.2.2.2.1
  have hK := C0.2.2.2.2.2.2.2.2.2.1.1
  have hown := C0.2.2.2.2.2.2.2.1
  obtain ⟨h0, hat⟩ := N0.1 a _ hw
  have hap := va_apart (own := I.y.cls) hts hin ty0 hty hnm hK hc
  obtain ⟨r, h1, cell, q1, q2, q3, q4⟩ := hat
  have hr : r = (C, T, N) := Option.some.inj (h1.symm.trans hc)
  subst hr
  obtain ⟨hS, hfc, kC, hkC, hkind⟩ := hK.1 ci _ hc
  obtain ⟨cf, kf, fi, f, hi, hsl⟩ := hS k hk
  have hlay := hts _ (hin _ (u_in_lay hk))
  unfold u_lay at hlay
  rw [if_pos hfin] at hlay
  have hst := (u_facts hfc hkC (u_lays hts hin hk) hi).1
  have hcf : m.cls = cf := by
    obtain ⟨_, _, c', _, _, _, -, -, hf', -, -, -, hown2, -⟩ := Cond.laysFinal_spec hlay
    have e1 : c' = cf := by have := hi.symm.trans hf'; simp at this; exact this.1.symm
    rw [hdecl] at hown2
    rw [← e1]; exact Option.some.inj (hown.symm.trans hown2)
  have h6 := u_fits hfc hkC hkind (Or.inr hlay) hi hdd (hn Γ) (hf Γ)
  show W p l e R s m args below meth c H locs cells slots _ (F0 m pc ls (xv Γ v :: .ref (xr Γ a) :: st.map (xv Γ)))
  rw [xr_pos h0]
  refine W.putFinK C0.1 C0.2.1 hown (hts _ hlink) hi hst hcf (C0.2.2.2.2.2.1.trans hin2) (by rw [q2]; exact h6) q1 q3 (by rw [hsl]; exact k2_hasslot (q4 k hk)) rfl rfl hd fun H' e1 e2 e3 => ?_
  rw [hsl] at e1 ⊢
  refine kk Γ p l e R s m args below meth c H' _ cells slots ls C0 (N0.put hw ?_ e2 e3) L g1 g2
  refine ⟨_, hc, ?_⟩
  show t_OB _ _ _ _ _ (vp_V ((fs.set k v).map (xv Γ)))
  rw [xset_map]
  exact t_OB.to (V := updV (vp_V (fs.map (xv Γ))) k (xv Γ v)) ⟨_, e1, q2, q3, t_set q4 hap hk _⟩ (fun j _ => vp_updV_set (by simpa using hl) _ j)
/-! arrays -/
theorem V_iald {a n : Nat} {f : Int → Int} {z : Int} (hd : decode I.cc pc = .ok (.iaload, 1)) (hw : w a = some (xIA n f)) (r : 0 ≤ z ∧ z < (n : Int)) (kk : V I Z kc ks w sz (pc + 1) lv (xI (f z) :: st)) (hn : n < 2147483648 := by decide) : V I Z kc ks w sz pc lv (xI z :: .ref a :: st) := by
  intro Γ p l e R s m args below meth c H locs cells slots ls C0 N0 L h1 h2
  obtain ⟨h0, hat⟩ := N0.1 a _ hw
  show W p l e R s m args below meth c H locs cells slots _ (F0 m pc ls (xI z :: .ref (xr Γ a) :: st.map (xv Γ)))
  rw [xr_pos h0]
  refine va_iald C0.1 C0.2.1 C0.2.2.2.2.2.2.2.2.2.1.1 (xP1 hat) 0 0 rfl rfl (xof_in r.1 r.2 hn) hd ?_
  rw [xof_clamp r.1 (by omega)]
  have e9 : ((z.toNat : Nat) : Int) = z := by omega
  simp only [e9]
  exact kk Γ p l e R s m args below meth c H locs cells slots ls C0 N0 L h1 h2
theorem V_zald {a n : Nat} {f : Int → Bool} {z : Int} (hd : decode I.cc pc = .ok (.baload, 1)) (hw : w a = some (xBA n f)) (r : 0 ≤ z ∧ z < (n : Int)) (kk : V I Z kc ks w sz (pc + 1) lv (xB (f z) :: st)) (hn : n < 2147483648 := by decide) : V I Z kc ks w sz pc lv (xI z :: .ref a :: st) := by
  intro Γ p l e R s m args below meth c H locs cells slots ls C0 N0 L h1 h2
  obtain ⟨h0, hat⟩ := N0.1 a _ hw
  show W p l e R s m args below meth c H locs cells slots _ (F0 m pc ls (xI z :: .ref (xr Γ a) :: st.map (xv Γ)))
  rw [xr_pos h0]
  refine va_zald C0.1 C0.2.1 C0.2.2.2.2.2.2.2.2.2.1.1 (xP1 hat) 0 1 rfl rfl (xof_in r.1 r.2 hn) hd ?_
  rw [xof_clamp r.1 (by omega)]
  have e9 : ((z.toNat : Nat) : Int) = z := by omega
  simp only [e9]
  exact kk Γ p l e R s m args below meth c H locs cells slots ls C0 N0 L h1 h2
theorem V_lald {a n : Nat} {f : Int → Int} {z : Int} (hd : decode I.cc pc = .ok (.laload, 1)) (hw : w a = some (xLA n f)) (r : 0 ≤ z ∧ z < (n : Int)) (kk : V I Z kc ks w sz (pc + 1) lv (xJ (f z) :: st)) (hn : n < 2147483648 := by decide) : V I Z kc ks w sz pc lv (xI z :: .ref a :: st) := by
  intro Γ p l e R s m args below meth c H locs cells slots ls C0 N0 L h1 h2
  obtain ⟨h0, hat⟩ := N0.1 a _ hw
  show W p l e R s m args below meth c H locs cells slots _ (F0 m pc ls (xI z :: .ref (xr Γ a) :: st.map (xv Γ)))
  rw [xr_pos h0]
  refine va_lald C0.1 C0.2.1 C0.2.2.2.2.2.2.2.2.2.1.1 (xP1 hat) 0 2 rfl rfl (xof_in r.1 r.2 hn) hd ?_
  rw [xof_clamp r.1 (by omega)]
  have e9 : ((z.toNat : Nat) : Int) = z := by omega
  simp only [e9]
  exact kk Γ p l e R s m args below meth c H locs cells slots ls C0 N0 L h1 h2
/-- a row of references: t the place of its class -/
theorem V_aald {a n t b : Nat} {C : String} {f : Nat → Option Nat} {z : Int} (ht : ∀ cs, (xTY cs)[t]? = some (cs t, .object C)) (hd : decode I.cc pc = .ok (.aaload, 1)) (hw : w a = some (xRA t n f)) (r : 0 ≤ z ∧ z < (n : Int)) (hf : f z.toNat = some b) (kk : V I Z kc ks w sz (pc + 1) lv (.ref b :: st)) (hn : n < 2147483648 := by decide) : V I Z kc ks w sz pc lv (xI z :: .ref a :: st) := by
  intro Γ p l e R s m args below meth c H locs cells slots ls C0 N0 L h1 h2
  obtain ⟨h0, hat⟩ := N0.1 a _ hw
  show W p l e R s m args below meth c H locs cells slots _ (F0 m pc ls (xI z :: .ref (xr Γ a) :: st.map (xv Γ)))
  rw [xr_pos h0]
  refine va_aldq C0.1 C0.2.1 C0.2.2.2.2.2.2.2.2.2.1.1 (xP1 hat) 0 t rfl (ht _) (xof_in r.1 r.2 hn) hd ?_
  rw [xof_clamp r.1 (by omega)]
  simp only [hf]
  exact kk Γ p l e R s m args below meth c H locs cells slots ls C0 N0 L h1 h2
theorem V_iast {a n : Nat} {f : Int → Int} {z x : Int} (hd : decode I.cc pc = .ok (.iastore, 1)) (hw : w a = some (xIA n f)) (r : 0 ≤ z ∧ z < (n : Int)) (kk : V I Z kc ks (xU w a (xIA n (iu f z x))) sz (pc + 1) lv st) (hn : n < 2147483648 := by decide) : V I Z kc ks w sz pc lv (xI x :: xI z :: .ref a :: st) := by
  intro Γ p l e R s m args below meth c H locs cells slots ls C0 N0 L h1 h2
  obtain ⟨h0, hat⟩ := N0.1 a _ hw
  show W p l e R s m args below meth c H locs cells slots _ (F0 m pc ls (xI x :: xI z :: .ref (xr Γ a) :: st.map (xv Γ)))
  rw [xr_pos h0]
  refine W.iast C0.1 C0.2.1 hat ((C0.2.2.2.2.2.2.2.2.2.1.1.2 0 _ rfl).1 n (fun j => .int (Int32.ofInt (f (j : Int))))) (fun q => by cases q) (by show ¬ (_ ∨ (arrV _ _ _).slots.size ≤ _); rw [arrV_size]; exact xof_in r.1 r.2 hn) rfl rfl hd fun H1 e9 z9 oq => ?_
  refine kk Γ p l e R s m args below meth c H1 _ cells slots ls C0 (N0.put hw ?_ z9 oq) L h1 h2
  show H1[_]? = some (vp_cell _ (n, .inl (fun k => Int32.ofInt (iu f z x (k : Int)))))
  rw [e9, ← xiu_upd r.1]
  show some (Cell.setSlot (arrV _ n (fun j => .int (Int32.ofInt (f (j : Int))))) _ _) = some (arrV _ n (fun j => .int (upd (fun k : Nat => Int32.ofInt (f (k : Int))) z.toNat (Int32.ofInt x) j)))
  rw [arrV_store, xof_clamp r.1 (by omega)]
  congr 2
  funext q
  by_cases hq : q = z.toNat
  · subst hq
    simp [updV, upd]
  · simp [updV, upd, hq]
theorem V_zast {a n : Nat} {f : Int → Bool} {z : Int} {x : Bool} (hd : decode I.cc pc = .ok (.bastore, 1)) (hw : w a = some (xBA n f)) (r : 0 ≤ z ∧ z < (n : Int)) (kk : V I Z kc ks (xU w a (xBA n (iu f z x))) sz (pc + 1) lv st) (hn : n < 2147483648 := by decide) : V I Z kc ks w sz pc lv (xB x :: xI z :: .ref a :: st) := by
  intro Γ p l e R s m args below meth c H locs cells slots ls C0 N0 L h1 h2
  obtain ⟨h0, hat⟩ := N0.1 a _ hw
  show W p l e R s m args below meth c H locs cells slots _ (F0 m pc ls (xB x :: xI z :: .ref (xr Γ a) :: st.map (xv Γ)))
  rw [xr_pos h0]
  refine W.zast C0.1 C0.2.1 hat ((C0.2.2.2.2.2.2.2.2.2.1.1.2 1 _ rfl).1 n (fun j => .int (Int32.ofInt (b2i (f (j : Int)))))) (fun q => by cases q) (by show ¬ (_ ∨ (arrV _ _ _).slots.size ≤ _); rw [arrV_size]; exact xof_in r.1 r.2 hn) rfl rfl hd fun H1 e9 z9 oq => ?_
  refine kk Γ p l e R s m args below meth c H1 _ cells slots ls C0 (N0.put hw ?_ z9 oq) L h1 h2
  show H1[_]? = some (vp_cell _ (n, .inl (fun k => Int32.ofInt (b2i (iu f z x (k : Int))))))
  rw [e9, ← xiu_updB r.1]
  show some (Cell.setSlot (arrV _ n (fun j => .int (Int32.ofInt (b2i (f (j : Int)))))) _ _) = some (arrV _ n (fun j => .int (upd (fun k : Nat => Int32.ofInt (b2i (f (k : Int)))) z.toNat (Int32.ofInt (b2i x)) j)))
  rw [arrV_store, xof_clamp r.1 (by omega), show narrow .boolean (.int (Int32.ofInt (b2i x))) = .int (Int32.ofInt (b2i x)) by cases x <;> rfl]
  congr 2
  funext q
  by_cases hq : q = z.toNat
  · subst hq
    simp [updV, upd]
  · simp [updV, upd, hq]
theorem V_last {a n : Nat} {f : Int → Int} {z x : Int} (hd : decode I.cc pc = .ok (.lastore, 1)) (hw : w a = some (xLA n f)) (r : 0 ≤ z ∧ z < (n : Int)) (kk : V I Z kc ks (xU w a (xLA n (iu f z x))) sz (pc + 1) lv st) (hn : n < 2147483648 := by decide) : V I Z kc ks w sz pc lv (xJ x :: xI z :: .ref a :: st) := by
  intro Γ p l e R s m args below meth c H locs cells slots ls C0 N0 L h1 h2
  obtain ⟨h0, hat⟩ := N0.1 a _ hw
  show W p l e R s m args below meth c H locs cells slots _ (F0 m pc ls (xJ x :: xI z :: .ref (xr Γ a) :: st.map (xv Γ)))
  rw [xr_pos h0]
  refine W.last C0.1 C0.2.1 hat ((C0.2.2.2.2.2.2.2.2.2.1.1.2 2 _ rfl).1 n (fun j => .long (Int64.ofInt (f (j : Int))))) (fun q => by cases q) (by show ¬ (_ ∨ (arrV _ _ _).slots.size ≤ _); rw [arrV_size]; exact xof_in r.1 r.2 hn) rfl rfl hd fun H1 e9 z9 oq => ?_
  refine kk Γ p l e R s m args below meth c H1 _ cells slots ls C0 (N0.put hw ?_ z9 oq) L h1 h2
  show H1[_]? = some (vp_cell _ (n, .inr (.inl (fun k => Int64.ofInt (iu f z x (k : Int))))))
  rw [e9, ← xiu_updL r.1]
  show some (Cell.setSlot (arrV _ n (fun j => .long (Int64.ofInt (f (j : Int))))) _ _) = some (arrV _ n (fun j => .long (vp_updL (fun k : Nat => Int64.ofInt (f (k : Int))) z.toNat (Int64.ofInt x) j)))
  rw [arrV_store, xof_clamp r.1 (by omega)]
  congr 2
  funext q
  by_cases hq : q = z.toNat
  · subst hq
    simp [updV, vp_updL]
  · simp [updV, vp_updL, hq]
theorem V_aast {a n t b ci : Nat} {r0 : vw_C} {f : Nat → Option Nat} {fs : List Value} {z : Int} (ht : ∀ cs, (xTY cs)[t]? = some (cs t, .object r0.1)) (hc : vwCl[ci]? = some r0) (hd : decode I.cc pc = .ok (.aastore, 1)) (hw : w a = some (xRA t n f)) (hb : w b = some (xOb ci fs)) (r : 0 ≤ z ∧ z < (n : Int)) (kk : V I Z kc ks (xU w a (xRA t n (va_up f z.toNat (some b)))) sz (pc + 1) lv st) (hn : n < 2147483648 := by decide) : V I Z kc ks w sz pc lv (.ref b :: xI z :: .ref a :: st) := by
  intro Γ p l e R s m args below meth c H locs cells slots ls C0 N0 L h1 h2
  have hK := C0.2.2.2.2.2.2.2.2.2.1.1
  obtain ⟨h0, hat⟩ := N0.1 a _ hw
  obtain ⟨hb0, hbt⟩ := N0.1 b _ hb
  show W p l e R s m args below meth c H locs cells slots _ (F0 m pc ls (.ref (xr Γ b) :: xI z :: .ref (xr Γ a) :: st.map (xv Γ)))
  rw [xr_pos h0, xr_pos hb0]
  have hlt : (Int32.ofInt z).toNatClampNeg < n := by rw [xof_clamp r.1 (by omega)]; omega
  have hz0 : ¬ Int32.ofInt z < 0 := fun q => xof_in (n := n) r.1 r.2 hn (Or.inl q)
  obtain ⟨r', hr', cellV, g1, g2, g3, -⟩ := hbt
  have hcls := (hK.1 ci r0 hc).2
  obtain ⟨kA, comp, k1, k2, k3, -⟩ := (hK.2 t _ (ht _)).2
  have hcomp : comp = Γ.1.1 ci := Option.some.inj (k3.symm.trans hcls.1)
  subst hcomp
  obtain ⟨kC, hkC, -⟩ := hcls.2
  refine W.aast C0.1 C0.2.1 hat (fun q h => by cases h) (fun h => by cases h) k1 k2 rfl hkC ⟨hz0, by show _ < (arrV _ _ _).slots.size; rw [arrV_size]; exact hlt⟩ g1 (fun q h => by rw [g3] at h; cases h) (by rw [g2]; exact hkC) (by rw [g2]; exact va_assign hcls) rfl rfl hd fun H1 e9 z9 oq => ?_
  refine kk Γ p l e R s m args below meth c H1 _ cells slots ls C0 (N0.put hw ?_ z9 oq) L h1 h2
  show H1[_]? = some (vp_cell _ (n, .inr (.inr (.inr (.inr (fun k => (va_up f z.toNat (some b) k).map (xr Γ)))))))
  rw [e9]
  show some (Cell.setSlot (arrV _ n (fun j => va_rf ((f j).map (xr Γ)))) _ _) = some (arrV _ n (fun j => va_rf ((va_up f z.toNat (some b) j).map (xr Γ))))
  rw [arrV_store, xof_clamp r.1 (by omega)]
  congr 2
  funext q
  by_cases hq : q = z.toNat
  · subst hq
    simp [updV, va_up, va_rf, xr_pos hb0]
  · simp [updV, va_up, hq]
/-! new cells -/
theorem V_newI {atype : ArrayType} {kc' ks' n : Nat} {z : Int} (hty : newarray.typeOf atype = .int) (hg : Cond.arrayClass .int ∈ xG) (hd : decode I.cc pc = .ok (.newarray atype, 2)) (hz : z = n) (hn : n ≤ 100000) (h1 : kc' + 1 ≤ kc) (h2 : ks' + n ≤ ks) (kk : V I Z kc' ks' (xU w sz (xIA n (fun _ => 0))) (sz + 1) (pc + 2) lv (.ref sz :: st)) : V I Z kc ks w sz pc lv (xI z :: st) := by
  intro Γ p l e R s m args below meth c H locs cells slots ls C0 N0 L g1 g2
  subst hz
  have hK := C0.2.2.2.2.2.2.2.2.2.1.1
  refine va_newaK (atype := atype) (N := n) (h := H.size) C0.1 C0.2.1 (by rw [hty]; exact C0.2.2.2.2.2.2.2.2.1 _ hg) rfl hd rfl (fun q => xof_in (a := (n : Int)) (n := n + 1) (by omega) (by omega) (by omega) (Or.inl q)) (by rw [xof_clamp (by omega) (by omega)]; omega) (by rw [hty]; show n * 4 ≤ _; omega) (by omega) (by omega) rfl fun H1 cA e1 z1 o1 hAr hNm => ?_
  rw [hty] at hNm hAr e1
  have hcs : cA = Γ.2.1 0 := by
    have h9 := (hK.2 0 (Γ.2.1 0, .int) rfl).2
    exact Option.some.inj (hNm.symm.trans h9)
  have e3 : (.ref H.size : Value) = xv Γ (.ref sz) := by show Value.ref H.size = Value.ref (xr Γ sz); rw [xr_pos N0.2.2.1, N0.2.1]
  rw [e3]
  refine kk Γ p l e R s m args below meth c H1 locs (cells + 1) (slots + n) ls C0 (N0.new ?_ z1 o1) L (by omega) (by omega)
  show H1[_]? = some (vp_cell _ _)
  rw [← N0.2.1, e1, hcs]
  rfl
theorem V_newB {atype : ArrayType} {kc' ks' n : Nat} {z : Int} (hty : newarray.typeOf atype = .boolean) (hg : Cond.arrayClass .boolean ∈ xG) (hd : decode I.cc pc = .ok (.newarray atype, 2)) (hz : z = n) (hn : n ≤ 100000) (h1 : kc' + 1 ≤ kc) (h2 : ks' + n ≤ ks) (kk : V I Z kc' ks' (xU w sz (xBA n (fun _ => false))) (sz + 1) (pc + 2) lv (.ref sz :: st)) : V I Z kc ks w sz pc lv (xI z :: st) := by
  intro Γ p l e R s m args below meth c H locs cells slots ls C0 N0 L g1 g2
  subst hz
  have hK := C0.2.2.2.2.2.2.2.2.2.1.1
  refine va_newaK (atype := atype) (N := n) (h := H.size) C0.1 C0.2.1 (by rw [hty]; exact C0.2.2.2.2.2.2.2.2.1 _ hg) rfl hd rfl (fun q => xof_in (a := (n : Int)) (n := n + 1) (by omega) (by omega) (by omega) (Or.inl q)) (by rw [xof_clamp (by omega) (by omega)]; omega) (by rw [hty]; show n * 1 ≤ _; omega) (by omega) (by omega) rfl fun H1 cA e1 z1 o1 hAr hNm => ?_
  rw [hty] at hNm hAr e1
  have hcs : cA = Γ.2.1 1 := by
    have h9 := (hK.2 1 (Γ.2.1 1, .boolean) rfl).2
    exact Option.some.inj (hNm.symm.trans h9)
  have e3 : (.ref H.size : Value) = xv Γ (.ref sz) := by show Value.ref H.size = Value.ref (xr Γ sz); rw [xr_pos N0.2.2.1, N0.2.1]
  rw [e3]
  refine kk Γ p l e R s m args below meth c H1 locs (cells + 1) (slots + n) ls C0 (N0.new ?_ z1 o1) L (by omega) (by omega)
  show H1[_]? = some (vp_cell _ _)
  rw [← N0.2.1, e1, hcs]
  rfl
theorem V_newL {atype : ArrayType} {kc' ks' n : Nat} {z : Int} (hty : newarray.typeOf atype = .long) (hg : Cond.arrayClass .long ∈ xG) (hd : decode I.cc pc = .ok (.newarray atype, 2)) (hz : z = n) (hn : n ≤ 100000) (h1 : kc' + 1 ≤ kc) (h2 : ks' + n ≤ ks) (kk : V I Z kc' ks' (xU w sz (xLA n (fun _ => 0))) (sz + 1) (pc + 2) lv (.ref sz :: st)) : V I Z kc ks w sz pc lv (xI z :: st) := by
  intro Γ p l e R s m args below meth c H locs cells slots ls C0 N0 L g1 g2
  subst hz
  have hK := C0.2.2.2.2.2.2.2.2.2.1.1
  refine va_newaK (atype := atype) (N := n) (h := H.size) C0.1 C0.2.1 (by rw [hty]; exact C0.2.2.2.2.2.2.2.2.1 _ hg) rfl hd rfl (fun q => xof_in (a := (n : Int)) (n := n + 1) (by omega) (by omega) (by omega) (Or.inl q)) (by rw [xof_clamp (by omega) (by omega)]; omega) (by rw [hty]; show n * 8 ≤ _; omega) (by omega) (by omega) rfl fun H1 cA e1 z1 o1 hAr hNm => ?_
  rw [hty] at hNm hAr e1
  have hcs : cA = Γ.2.1 2 := by
    have h9 := (hK.2 2 (Γ.2.1 2, .long) rfl).2
    exact Option.some.inj (hNm.symm.trans h9)
  have e3 : (.ref H.size : Value) = xv Γ (.ref sz) := by show Value.ref H.size = Value.ref (xr Γ sz); rw [xr_pos N0.2.2.1, N0.2.1]
  rw [e3]
  refine kk Γ p l e R s m args below meth c H1 locs (cells + 1) (slots + n) ls C0 (N0.new ?_ z1 o1) L (by omega) (by omega)
  show H1[_]? = some (vp_cell _ _)
  rw [← N0.2.1, e1, hcs]
  rfl
theorem V_newR {kc' ks' n t index : Nat} {C : String} {z : Int} (ht : ∀ cs, (xTY cs)[t]? = some (cs t, .object C)) (hcl : Cond.classLink I.y.cls index C ∈ xG) (hAO : C = "AreaPicker$Pick" ∨ C = "AreaPicker$State") (hd : decode I.cc pc = .ok (.anewarray index, 3)) (hz : z = n) (hn : n ≤ 100000) (h1 : kc' + 1 ≤ kc) (h2 : ks' + n ≤ ks) (kk : V I Z kc' ks' (xU w sz (xRA t n (fun _ => none))) (sz + 1) (pc + 3) lv (.ref sz :: st)) : V I Z kc ks w sz pc lv (xI z :: st) := by
  intro Γ p l e R s m args below meth c H locs cells slots ls C0 N0 L g1 g2
  subst hz
  have hK := C0.2.2.2.2.2.2.2.2.2.1.1
  have hAO9 : va_AO C s := by
    rcases hAO with rfl | rfl
    · exact C0.2.2.2.2.2.2.2.2.2.1.2.2.2.1.1
    · exact C0.2.2.2.2.2.2.2.2.2.1.2.2.2.1.2
  have e0 : (Int32.ofInt (n : Int)).toNatClampNeg = n := by rw [xof_clamp (by omega) (by omega)]; omega
  refine W.anew C0.1 C0.2.1 C0.2.2.2.2.2.2.2.1 (C0.2.2.2.2.2.2.2.2.1 _ hcl) (va_AO.use hAO9) rfl hd rfl (fun q => xof_in (a := (n : Int)) (n := n + 1) (by omega) (by omega) (by omega) (Or.inl q)) (by rw [e0]; omega) (by omega) (by rw [e0]; omega) fun cA kA comp f1 f2 f3 f4 => ?_
  rw [e0]
  have hcs : cA = Γ.2.1 t := by
    obtain ⟨kA', comp', k1, k2, k3, k4⟩ := (hK.2 t _ (ht _)).2
    exact Option.some.inj (f1.symm.trans k4)
  generalize hH1 : H.push ({ cls := cA, slots := Array.replicate n .null, vm := .none } : Cell) = H1
  have z1 : H1.size = H.size + 1 := by rw [← hH1, Array.size_push]
  have e1 : H1[H.size]? = some (arrV cA n (fun _ => .null)) := by rw [← hH1, Array.getElem?_push_size, ← arrV_new]
  have o1 : ∀ q, q < H.size → H1[q]? = H[q]? := fun q hq => by rw [← hH1, Array.getElem?_push, if_neg (Nat.ne_of_lt hq)]
  have e3 : (.ref H.size : Value) = xv Γ (.ref sz) := by show Value.ref H.size = Value.ref (xr Γ sz); rw [xr_pos N0.2.2.1, N0.2.1]
  rw [e3]
  refine kk Γ p l e R s m args below meth c H1 locs (cells + 1) (slots + n) ls C0 (N0.new ?_ z1 o1) L (by omega) (by omega)
  show H1[_]? = some (vp_cell _ _)
  rw [← N0.2.1, e1, hcs]
  rfl
theorem V_new {kc' ks' ci index N : Nat} {C : String} {T : u_T} {ty : Nat → FieldType} {fs : List Value} (hc : vwCl[ci]? = some (C, T, N)) (hin : ∀ x ∈ u_ws C T N, x ∈ xG) (hty : ∀ k, k < N → parseFieldDescriptor (T k).2.2.1 = some (ty k)) (hcl : Cond.classLink I.y.cls index C ∈ xG) (hins : Cond.instantiable C N ∈ xG) (hini : Cond.initialized C ∈ xG) (hfs : ∀ Γ j, j < N → defaultValue (ty j) = vp_V (fs.map (xv Γ)) j)
    (hd : decode I.cc pc = .ok (.new index, 3)) (h1 : kc' + 1 ≤ kc) (h2 : ks' + N ≤ ks) (kk : V I Z kc' ks' (xU w sz (xOb ci fs)) (sz + 1) (pc + 3) lv (.ref sz :: st)) : V I Z kc ks w sz pc lv st := by
  intro Γ p l e R s m args below meth c H locs cells slots ls C0 N0 L g1 g2
  have hts := C0.2.2.2.2.2.2.2.2.1
  have hK := C0.2.2.2.2.2.2.2.2.2.1.1
  have hKn := hK.1 ci _ hc
  refine W.newcK C0.1 C0.2.1 C0.2.2.2.2.2.2.2.1 (hts _ hcl) (hts _ hins) (hts _ hini) rfl hd (by omega) (by omega) hKn.2.1 (h := H.size) rfl fun H1 kC hkC e1 z1 o1 => ?_
  have e3 : (.ref H.size : Value) = xv Γ (.ref sz) := by show Value.ref H.size = Value.ref (xr Γ sz); rw [xr_pos N0.2.2.1, N0.2.1]
  rw [e3]
  refine kk Γ p l e R s m args below meth c H1 locs (cells + 1) (slots + N) ls C0 (N0.new ?_ z1 o1) L (by omega) (by omega)
  refine ⟨_, hc, ?_⟩
  show t_OB (Γ.2.2.2 + sz) _ _ _ _ _
  rw [← N0.2.1]
  exact (u_born ty hts hin hKn hkC e1 hty).to (hfs Γ)
/-! members of the library -/
theorem V_mmax {a b : Int} {index : Nat} (hlink : Cond.methodLink I.y.cls index Lib.Math.max.name ∈ xG) (hstat : Cond.static Lib.Math.max.name ∈ xG) (hini : Cond.initialized "java/lang/Math" ∈ xG) (hcode : Cond.code Lib.Math.max.name Lib.Math.max.code 2 (some .int) ∈ xG) (hfr : 1 ≤ I.fr) (hlo : (st.map fun v => v.category).sum + 13 ≤ I.lo)
    (hd : decode I.cc pc = .ok (.invokestatic index, 3)) (r : -2147483648 ≤ a ∧ a < 2147483648 ∧ -2147483648 ≤ b ∧ b < 2147483648) (k : V I Z kc ks w sz (pc + 3) lv (xI (if a < b then b else a) :: st)) : V I Z kc ks w sz pc lv (xI b :: xI a :: st) :=
  V_st (fun Γ p l e R s m args below meth c H locs cells slots ls Q C N L hc hs kk => va_mmax C.1 C.2.1 (C.2.2.2.1.trans L.1.symm) C.2.2.2.2.2.2.2.1 (C.2.2.2.2.2.2.2.2.1 _ hlink) (C.2.2.2.2.2.2.2.2.1 _ hstat) (C.2.2.2.2.2.2.2.2.1 _ hini) (C.2.2.2.2.2.2.2.2.1 _ hcode) (Nat.le_trans hfr C.2.2.2.2.2.2.2.2.2.2.1) (by rw [xv_cats]; exact Nat.le_trans hlo C.2.2.2.2.2.2.2.2.2.2.2.1) hc hs hd (by
    rw [show (if Int32.ofInt a < Int32.ofInt b then Int32.ofInt b else Int32.ofInt a) = Int32.ofInt (if a < b then b else a) by
      by_cases h : a < b
      · rw [if_pos ((xof_lt r).mpr h), if_pos h]
      · rw [if_neg (fun q => h ((xof_lt r).mp q)), if_neg h]]
    exact kk)) k
theorem V_mmin {a b : Int} {index : Nat} (hlink : Cond.methodLink I.y.cls index Lib.Math.min.name ∈ xG) (hstat : Cond.static Lib.Math.min.name ∈ xG) (hini : Cond.initialized "java/lang/Math" ∈ xG) (hcode : Cond.code Lib.Math.min.name Lib.Math.min.code 2 (some .int) ∈ xG) (hfr : 1 ≤ I.fr) (hlo : (st.map fun v => v.category).sum + 13 ≤ I.lo)
    (hd : decode I.cc pc = .ok (.invokestatic index, 3)) (r : -2147483648 ≤ a ∧ a < 2147483648 ∧ -2147483648 ≤ b ∧ b < 2147483648) (k : V I Z kc ks w sz (pc + 3) lv (xI (if b < a then b else a) :: st)) : V I Z kc ks w sz pc lv (xI b :: xI a :: st) :=
  V_st (fun Γ p l e R s m args below meth c H locs cells slots ls Q C N L hc hs kk => va_mmin C.1 C.2.1 (C.2.2.2.1.trans L.1.symm) C.2.2.2.2.2.2.2.1 (C.2.2.2.2.2.2.2.2.1 _ hlink) (C.2.2.2.2.2.2.2.2.1 _ hstat) (C.2.2.2.2.2.2.2.2.1 _ hini) (C.2.2.2.2.2.2.2.2.1 _ hcode) (Nat.le_trans hfr C.2.2.2.2.2.2.2.2.2.2.1) (by rw [xv_cats]; exact Nat.le_trans hlo C.2.2.2.2.2.2.2.2.2.2.2.1) hc hs hd (by
    have r' : -2147483648 ≤ b ∧ b < 2147483648 ∧ -2147483648 ≤ a ∧ a < 2147483648 := ⟨r.2.2.1, r.2.2.2, r.1, r.2.1⟩
    rw [show (if Int32.ofInt b < Int32.ofInt a then Int32.ofInt b else Int32.ofInt a) = Int32.ofInt (if b < a then b else a) by
      by_cases h : b < a
      · rw [if_pos ((xof_lt r').mpr h), if_pos h]
      · rw [if_neg (fun q => h ((xof_lt r').mp q)), if_neg h]]
    exact kk)) k
theorem V_mabs {a : Int} {index : Nat} (hlink : Cond.methodLink I.y.cls index Lib.Math.abs.name ∈ xG) (hstat : Cond.static Lib.Math.abs.name ∈ xG) (hini : Cond.initialized "java/lang/Math" ∈ xG) (hcode : Cond.code Lib.Math.abs.name Lib.Math.abs.code 1 (some .int) ∈ xG) (hfr : 1 ≤ I.fr) (hlo : (st.map fun v => v.category).sum + 13 ≤ I.lo)
    (hd : decode I.cc pc = .ok (.invokestatic index, 3)) (r : -2147483648 ≤ a ∧ a < 2147483648) (k : V I Z kc ks w sz (pc + 3) lv (xI (if 0 ≤ a then a else -a) :: st)) : V I Z kc ks w sz pc lv (xI a :: st) :=
  V_st (fun Γ p l e R s m args below meth c H locs cells slots ls Q C N L hc hs kk => va_mabs C.1 C.2.1 (C.2.2.2.1.trans L.1.symm) C.2.2.2.2.2.2.2.1 (C.2.2.2.2.2.2.2.2.1 _ hlink) (C.2.2.2.2.2.2.2.2.1 _ hstat) (C.2.2.2.2.2.2.2.2.1 _ hini) (C.2.2.2.2.2.2.2.2.1 _ hcode) (Nat.le_trans hfr C.2.2.2.2.2.2.2.2.2.2.1) (by rw [xv_cats]; exact Nat.le_trans hlo C.2.2.2.2.2.2.2.2.2.2.2.1) hc hs hd (by
    have r' : -2147483648 ≤ (0 : Int) ∧ (0 : Int) < 2147483648 ∧ -2147483648 ≤ a ∧ a < 2147483648 := ⟨by omega, by omega, r.1, r.2⟩
    rw [show (if 0 ≤ Int32.ofInt a then Int32.ofInt a else 0 - Int32.ofInt a) = Int32.ofInt (if 0 ≤ a then a else -a) by
      have X : (0 : Int32) ≤ Int32.ofInt a ↔ 0 ≤ a := xof_le r'
      have Y : (0 : Int32) - Int32.ofInt a = Int32.ofInt (0 - a) := xof_sub 0 a
      by_cases h : 0 ≤ a
      · rw [if_pos (X.mpr h), if_pos h]
      · rw [if_neg (fun q => h (X.mp q)), if_neg h, Y, Int.zero_sub]]
    exact kk)) k
theorem V_objInit {a index : Nat} (hlink : Cond.methodLink I.y.cls index objectInit ∈ xG) (hins : Cond.instanceMethod objectInit ∈ xG) (hcode : Cond.code objectInit ⟨#[0xb1]⟩ 1 none ∈ xG) (hfr : 1 ≤ I.fr) (hlo : (st.map fun v => v.category).sum + 12 ≤ I.lo) (hd : decode I.cc pc = .ok (.invokespecial index, 3)) (k : V I Z kc ks w sz (pc + 3) lv st) : V I Z kc ks w sz pc lv (.ref a :: st) :=
  V_st (fun Γ p l e R s m args below meth c H locs cells slots ls Q C N L hc hs kk => W.objInit C.1 C.2.1 C.2.2.2.2.2.2.2.1 (C.2.2.2.2.2.2.2.2.1 _ hlink) (C.2.2.2.2.2.2.2.2.1 _ hins) (C.2.2.2.2.2.2.2.2.1 _ hcode) rfl (L.1.trans C.2.2.2.1.symm) rfl hd (Nat.le_trans hfr C.2.2.2.2.2.2.2.2.2.2.1) (by rw [xv_cats]; show 2 * 0 + _ + 12 ≤ _; have := C.2.2.2.2.2.2.2.2.2.2.2.1; omega) kk) k
end VHEAP
