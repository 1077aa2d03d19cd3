/-! the class: rows copied -/
theorem copied_at (c0 : ClassId) {sp dp n : Int32} {n0 : Nat} (f g : Nat → Int32) (h : sp.toNatClampNeg + n.toNatClampNeg ≤ n0) : copied (vp_cell c0 (n0, .inl f)) (vp_cell c0 (n0, .inl g)) sp dp n = vp_cell c0 (n0, .inl (va_cpy f g sp.toNatClampNeg dp.toNatClampNeg n.toNatClampNeg)) := va_copied (fun z => .int z) c0 c0 f g h
theorem V_copy {I : XI} {Z : XZ} {kc ks : Nat} {w : WD} {sz pc : Nat} {lv : List (Option Value)} {st : List Value} {a0 a index : Nat} {f g : Int → Int} (hl : Cond.methodLink I.y.cls index arraycopyName ∈ xG) (hn : Cond.native arraycopyName ∈ xG) (hs : Cond.static arraycopyName ∈ xG) (hi : Cond.initialized "java/lang/System" ∈ xG) (hfr : 1 ≤ I.fr) (hlo : (st.map fun v => v.category).sum + (nativeFrameWords "java/lang/System" "arraycopy" 5 + 11) ≤ I.lo) (hd : decode I.cc pc = .ok (.invokestatic index, 3)) (h0 : w a0 = some (xIA 160 f)) (h1 : w a = some (xIA 160 g)) (kk : V I Z kc ks (xU w a (xIA 160 (fun j => if j < 160 then f j else g j))) sz (pc + 3) lv st) : V I Z kc ks w sz pc lv (xI 160 :: xI 0 :: .ref a :: xI 0 :: .ref a0 :: st) := by
  intro Γ p l e R s m args below meth c H locs cells slots ls C0 N0 L g1 g2
  have hK := C0.2.2.2.2.2.2.2.2.2.1.1
  have hts := C0.2.2.2.2.2.2.2.2.1
  obtain ⟨p0, hat0⟩ := N0.1 a0 _ h0
  obtain ⟨p1, hat1⟩ := N0.1 a _ h1
  show W p l e R s m args below meth c H locs cells slots _ (F0 m pc ls (xI 160 :: xI 0 :: .ref (xr Γ a) :: xI 0 :: .ref (xr Γ a0) :: st.map (xv Γ)))
  rw [xr_pos p0, xr_pos p1]
  intro T hT X
  obtain ⟨-, k0, hk0, cm0, hkk0⟩ := (hK.2 0 _ rfl).1 160 (fun j => .int (Int32.ofInt (f (j : Int))))
  obtain ⟨-, k1, hk1, cm1, hkk1⟩ := (hK.2 0 _ rfl).1 160 (fun j => .int (Int32.ofInt (g (j : Int))))
  obtain ⟨vm', X', step⟩ := X.arraycopy C0.1 C0.2.2.2.2.2.2.2.1 (hts _ hl) (hts _ hn) (hts _ hs) (hts _ hi) (src := Γ.2.2.2 + a0) (dst := Γ.2.2.2 + a) (cs := vp_cell (Γ.2.1 0) (160, .inl (fun k : Nat => Int32.ofInt (f (k : Int))))) (cd := vp_cell (Γ.2.1 0) (160, .inl (fun k : Nat => Int32.ofInt (g (k : Int))))) (srcPos := Int32.ofInt 0) (destPos := Int32.ofInt 0) (n := Int32.ofInt 160) (by rw [hT]; exact hat0) (by rw [hT]; exact hat1)
    (fun _ h => by cases h) (fun _ h => by cases h) (fun h => by cases h) (fun h => by cases h) hk0 hk1 hkk0 hkk1 (by simp [refKind]) (by decide) (by decide) (by decide)
    (by show ¬ _ > ((arrV (Γ.2.1 0) 160 (fun j => .int (Int32.ofInt (f (j : Int))))).slots.size : Int); rw [arrV_size]; decide)
    (by show ¬ _ > ((arrV (Γ.2.1 0) 160 (fun j => .int (Int32.ofInt (g (j : Int))))).slots.size : Int); rw [arrV_size]; decide)
    (fun vm₁ _ i hi => by
      have hi2 : i < 160 := hi
      have e : (vp_cell (Γ.2.1 0) (160, .inl (fun k : Nat => Int32.ofInt (f (k : Int))))).slots.getD ((Int32.ofInt 0).toNatClampNeg + i) .null = .int (Int32.ofInt (f (i : Int))) := by
        show (arrV (Γ.2.1 0) 160 (fun j => .int (Int32.ofInt (f (j : Int))))).slots.getD (0 + i) _ = _
        rw [Nat.zero_add, Array.getD_eq_getD_getElem?, arrV_read _ _ hi2]
        rfl
      refine ⟨?_, ?_⟩
      · rw [e]
        rfl
      · rw [e]
        exact trivial)
    (g := F0 m pc ls (xI 160 :: xI 0 :: .ref (Γ.2.2.2 + a) :: xI 0 :: .ref (Γ.2.2.2 + a0) :: st.map (xv Γ))) rfl (by rw [C0.2.2.2.1, L.1]) (rest := st.map (xv Γ)) rfl (by rw [C0.2.1]; exact hd) (Nat.le_trans hfr C0.2.2.2.2.2.2.2.2.2.2.1) (by rw [xv_cats]; show 2 * 0 + _ + _ ≤ _; have := C0.2.2.2.2.2.2.2.2.2.2.2.1; omega)
  have z0 : (Int32.ofInt 0).toNatClampNeg = 0 := xof_clamp (a := 0) (by omega) (by omega)
  have z160 : (Int32.ofInt 160).toNatClampNeg = 160 := xof_clamp (a := 160) (by omega) (by omega)
  have e1 : copied (vp_cell (Γ.2.1 0) (160, .inl (fun k : Nat => Int32.ofInt (f (k : Int))))) (vp_cell (Γ.2.1 0) (160, .inl (fun k : Nat => Int32.ofInt (g (k : Int))))) (Int32.ofInt 0) (Int32.ofInt 0) (Int32.ofInt 160) = vp_cell (Γ.2.1 0) (160, .inl (va_cpy (fun k : Nat => Int32.ofInt (f (k : Int))) (fun k : Nat => Int32.ofInt (g (k : Int))) (Int32.ofInt 0).toNatClampNeg (Int32.ofInt 0).toNatClampNeg (Int32.ofInt 160).toNatClampNeg)) := copied_at _ _ _ (by rw [z0, z160]; omega)
  rw [z0, z160] at e1
  have e2 : va_cpy (fun k : Nat => Int32.ofInt (f (k : Int))) (fun k : Nat => Int32.ofInt (g (k : Int))) 0 0 160 = fun k : Nat => Int32.ofInt (if (k : Int) < 160 then f (k : Int) else g (k : Int)) := by
    funext k
    unfold va_cpy
    by_cases q : k < 160
    · rw [if_pos ⟨Nat.zero_le _, by omega⟩, if_pos (by omega), Nat.zero_add, Nat.sub_zero]
    · rw [if_neg (by omega), if_neg (by omega)]
  rw [e1, e2] at X' step
  generalize hC : vp_cell (Γ.2.1 0) (160, .inl (fun k : Nat => Int32.ofInt (if (k : Int) < 160 then f (k : Int) else g (k : Int)))) = C1 at X' step
  have hl9 : Γ.2.2.2 + a < H.size := hat1.lt
  have hheap : ((T.setVm vm').setCell (Γ.2.2.2 + a) C1).heap = H.setIfInBounds (Γ.2.2.2 + a) C1 := by rw [← hT]; rfl
  have oq : ∀ q : Nat, q ≠ Γ.2.2.2 + a → (H.setIfInBounds (Γ.2.2.2 + a) C1)[q]? = H[q]? := fun q hq => by simp [Array.getElem?_setIfInBounds, Ne.symm hq]
  have he : va_at Γ.1 vwCl (Γ.2.2.2 + a, xe Γ (xIA 160 (fun j => if j < 160 then f j else g j))) (H.setIfInBounds (Γ.2.2.2 + a) C1) := by
    show (H.setIfInBounds (Γ.2.2.2 + a) C1)[Γ.2.2.2 + a]? = some (vp_cell _ _)
    rw [← hC]
    simp [Array.getElem?_setIfInBounds, hl9]
    rfl
  have hS := N0.2.2.2
  obtain ⟨t, a1, b1⟩ := kk Γ p l e R s m args below meth c (H.setIfInBounds (Γ.2.2.2 + a) C1) _ cells slots ls C0 ⟨N0.1.set h1 he oq, by rw [Array.size_setIfInBounds]; exact N0.2.1, N0.2.2.1, ⟨by simp; exact hS.1, fun q g1 g2 => by
      rw [oq q (fun e => g2 (by show Γ.2.2.2 < q; rw [e]; omega))]
      exact hS.2.1 q g1 g2, fun q hq => by
      rcases List.mem_append.mp hq with h | h
      · exact hS.2.2 q h
      · obtain ⟨z, -, hz⟩ := List.mem_map.mp h
        rw [← hz]
        show Γ.2.2.2 < Γ.2.2.2 + a
        omega⟩⟩ L g1 g2 _ hheap X'
  exact ⟨t, step t a1, b1⟩
theorem V_cp_X5 {I : XI} {Z : XZ} {kc ks : Nat} {w : WD} {sz pc : Nat} {lv : List (Option Value)} {st : List Value} {a0 a : Nat} {f g : Int → Int} (ho : I.y.cls = RX5) (hfr : 1 ≤ I.fr) (hlo : (st.map fun v => v.category).sum + (nativeFrameWords "java/lang/System" "arraycopy" 5 + 11) ≤ I.lo) (hd : decode I.cc pc = .ok (.invokestatic 25, 3)) (h0 : w a0 = some (xIA 160 f)) (h1 : w a = some (xIA 160 g)) (kk : ∀ w', UA w w' a (xIA 160 (fun j => if j < 160 then f j else g j)) → V I Z kc ks w' sz (pc + 3) lv st) : V I Z kc ks w sz pc lv (xI 160 :: xI 0 :: .ref a :: xI 0 :: .ref a0 :: st) :=
  V_copy (by rw [ho]; exact xG_at 283 (by decide +kernel) rfl) (xG_at 285 (by decide +kernel) rfl) (xG_at 284 (by decide +kernel) rfl) (xG_at 34 (by decide +kernel) rfl) hfr hlo hd h0 h1 (kk _ ⟨xU_s, fun j hj => xU_n hj⟩)
