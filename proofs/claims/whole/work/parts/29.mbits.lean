/-! the bits of a double, as the library's own method tells them -/
section VD2L
variable {I : XI} {Z : XZ} {kc ks : Nat} {w : WD} {sz pc : Nat} {lv : List (Option Value)} {st : List Value}
theorem V_d2lraw {index : Nat} {b : UInt64} (hlink : Cond.methodLink I.y.cls index ⟨"java/lang/Double", "doubleToRawLongBits", "(D)J"⟩ ∈ xG) (hnat : Cond.native ⟨"java/lang/Double", "doubleToRawLongBits", "(D)J"⟩ ∈ xG) (hstat : Cond.static ⟨"java/lang/Double", "doubleToRawLongBits", "(D)J"⟩ ∈ xG) (hini : Cond.initialized "java/lang/Double" ∈ xG) (hfr : 1 ≤ I.fr) (hlo : (st.map fun v => v.category).sum + 15 ≤ I.lo) (hd : decode I.cc pc = .ok (.invokestatic index, 3)) (k : V I Z kc ks w sz (pc + 3) lv (.long b.toInt64 :: st)) : V I Z kc ks w sz pc lv (.double b :: st) :=
  V_st (fun Γ p l e R s m args below meth c H locs cells slots ls Q C N L hc hs kk => vn_d2l C.1 C.2.1 (C.2.2.2.1.trans L.1.symm) C.2.2.2.2.2.2.2.1 (C.2.2.2.2.2.2.2.2.1 _ hlink) (C.2.2.2.2.2.2.2.2.1 _ hnat) (C.2.2.2.2.2.2.2.2.1 _ hstat) (C.2.2.2.2.2.2.2.2.1 _ hini) (Nat.le_trans hfr C.2.2.2.2.2.2.2.2.2.2.1) (by rw [xv_cats]; exact Nat.le_trans hlo C.2.2.2.2.2.2.2.2.2.2.2.1) hd kk) k
end VD2L
set_option maxRecDepth 100000 in
theorem d_isNaN {w : WD} {sz : Nat} {b : UInt64} (h : Op.cmpValue (FP.dcmp b b) .l = 0) : CT iJxe99ae_isNaN_b9ae7 0 0 [.double b] w sz (pR (some (xB false)) w sz) := by
  refine CT.ofZ (by decide) rfl (Nat.le_of_ble_eq_true rfl) (fun Z hE => ?_)
  refine V_dload_n dJxe99ae_isNaN_b9ae7_0 0 rfl rfl ?_
  refine V_dload_n dJxe99ae_isNaN_b9ae7_1 0 rfl rfl ?_
  refine V_dcmp dJxe99ae_isNaN_b9ae7_2 ?_
  rw [h]
  refine V_if_eq (a := 0) 10 dJxe99ae_isNaN_b9ae7_3 (by decide) (by omega) (fun h3 => ?_) (fun h3 => ?_)
  · refine V_iconst dJxe99ae_isNaN_b9ae7_10 ?_
    exact V_zret (b := false) hE rfl dJxe99ae_isNaN_b9ae7_11 ⟨rfl, rfl, rfl⟩
  · exact absurd h3 (by simp)
set_option maxRecDepth 100000 in
theorem d_bits {w : WD} {sz : Nat} {b : UInt64} (h : Op.cmpValue (FP.dcmp b b) .l = 0) : CT iJxe99ae_doubleToLongBits_ccdee 0 0 [.double b] w sz (pR (some (.long b.toInt64)) w sz) := by
  refine CT.ofZ (by decide) rfl (Nat.le_of_ble_eq_true rfl) (fun Z hE => ?_)
  refine V_dload_n dJxe99ae_doubleToLongBits_ccdee_0 0 rfl rfl ?_
  refine V_callS (d_isNaN h) qJxe99ae_isNaN_b9ae7 (xG_at 1054 (by decide +kernel) rfl) (xG_at 1055 (by decide +kernel) rfl) (by decide) dJxe99ae_doubleToLongBits_ccdee_1 rfl rfl (Nat.le_of_ble_eq_true rfl) (Nat.le_of_eq (Nat.zero_add _)) (Nat.le_of_eq (Nat.zero_add _)) (fun v w sz q => ?_)
  obtain ⟨rfl, rfl, rfl⟩ := q
  refine V_ifneB 12 dJxe99ae_doubleToLongBits_ccdee_4 (by decide) (fun h4 => ?_) (fun h4 => ?_)
  · cases h4
  · refine V_dload_n dJxe99ae_doubleToLongBits_ccdee_7 0 rfl rfl ?_
    refine V_d2lraw (xG_at 1057 (by decide +kernel) rfl) (xG_at 1059 (by decide +kernel) rfl) (xG_at 1058 (by decide +kernel) rfl) (xG_at 72 (by decide +kernel) rfl) (by decide) (Nat.le_of_ble_eq_true rfl) dJxe99ae_doubleToLongBits_ccdee_8 ?_
    exact V_lret hE rfl dJxe99ae_doubleToLongBits_ccdee_11 ⟨rfl, rfl, rfl⟩
